theorem dg_X12_qFact_0_0 : bqL cX12_qFact 0 [(0, [42]), (1, [42]), (2, [180, 0, 141]), (5, [182, 0, 222]), (8, [153, 0, 10]), (18, [42]), (19, [182, 1, 13]), (22, [42]), (23, [180, 0, 195]), (26, [153, 0, 4]), (30, [42]), (31, [182, 0, 207]), (34, [60]), (35, [27]), (36, [16, 60]), (38, [159, 0, 25]), (63, [42]), (64, [89]), (65, [180, 0, 201]), (68, [4]), (69, [96]), (70, [181, 0, 201]), (73, [42]), (74, [182, 1, 13]), (77, [42]), (78, [27]), (79, [16, 60]), (81, [160, 0, 8]), (84, [16, 7]), (86, [167, 0, 16]), (102, [182, 1, 242]), (105, [177]), (41, [27]), (42, [16, 62]), (44, [159, 0, 19]), (89, [27]), (90, [16, 62]), (92, [160, 0, 8]), (95, [16, 8]), (97, [167, 0, 5])] = true := by decide +kernel
theorem dX12_qFact_0 : decode cX12_qFact 0 = .ok (.aload_n 0, 1) := q_aload_n0 (bat_get dg_X12_qFact_0_0 0 rfl rfl)
theorem dX12_qFact_1 : decode cX12_qFact 1 = .ok (.aload_n 0, 1) := q_aload_n0 (bat_get dg_X12_qFact_0_0 1 rfl rfl)
theorem dX12_qFact_2 : decode cX12_qFact 2 = .ok (.getfield 141, 3) := q_getfield (bat_get dg_X12_qFact_0_0 2 rfl rfl) rfl
theorem dX12_qFact_5 : decode cX12_qFact 5 = .ok (.invokevirtual 222, 3) := q_invokevirtual (bat_get dg_X12_qFact_0_0 3 rfl rfl) rfl
theorem dX12_qFact_8 : decode cX12_qFact 8 = .ok (.ifCond .eq 10, 3) := q_ifCond_eq (bat_get dg_X12_qFact_0_0 4 rfl rfl) rfl
theorem dX12_qFact_18 : decode cX12_qFact 18 = .ok (.aload_n 0, 1) := q_aload_n0 (bat_get dg_X12_qFact_0_0 5 rfl rfl)
theorem dX12_qFact_19 : decode cX12_qFact 19 = .ok (.invokevirtual 269, 3) := q_invokevirtual (bat_get dg_X12_qFact_0_0 6 rfl rfl) rfl
theorem dX12_qFact_22 : decode cX12_qFact 22 = .ok (.aload_n 0, 1) := q_aload_n0 (bat_get dg_X12_qFact_0_0 7 rfl rfl)
theorem dX12_qFact_23 : decode cX12_qFact 23 = .ok (.getfield 195, 3) := q_getfield (bat_get dg_X12_qFact_0_0 8 rfl rfl) rfl
theorem dX12_qFact_26 : decode cX12_qFact 26 = .ok (.ifCond .eq 4, 3) := q_ifCond_eq (bat_get dg_X12_qFact_0_0 9 rfl rfl) rfl
theorem dX12_qFact_30 : decode cX12_qFact 30 = .ok (.aload_n 0, 1) := q_aload_n0 (bat_get dg_X12_qFact_0_0 10 rfl rfl)
theorem dX12_qFact_31 : decode cX12_qFact 31 = .ok (.invokevirtual 207, 3) := q_invokevirtual (bat_get dg_X12_qFact_0_0 11 rfl rfl) rfl
theorem dX12_qFact_34 : decode cX12_qFact 34 = .ok (.istore_n 1, 1) := q_istore_n1 (bat_get dg_X12_qFact_0_0 12 rfl rfl)
theorem dX12_qFact_35 : decode cX12_qFact 35 = .ok (.iload_n 1, 1) := q_iload_n1 (bat_get dg_X12_qFact_0_0 13 rfl rfl)
theorem dX12_qFact_36 : decode cX12_qFact 36 = .ok (.bipush 60, 2) := q_bipush (bat_get dg_X12_qFact_0_0 14 rfl rfl) rfl
theorem dX12_qFact_38 : decode cX12_qFact 38 = .ok (.if_icmp .eq 25, 3) := q_if_icmp_eq (bat_get dg_X12_qFact_0_0 15 rfl rfl) rfl
theorem dX12_qFact_63 : decode cX12_qFact 63 = .ok (.aload_n 0, 1) := q_aload_n0 (bat_get dg_X12_qFact_0_0 16 rfl rfl)
theorem dX12_qFact_64 : decode cX12_qFact 64 = .ok (.dup, 1) := q_dup (bat_get dg_X12_qFact_0_0 17 rfl rfl)
theorem dX12_qFact_65 : decode cX12_qFact 65 = .ok (.getfield 201, 3) := q_getfield (bat_get dg_X12_qFact_0_0 18 rfl rfl) rfl
theorem dX12_qFact_68 : decode cX12_qFact 68 = .ok (.iconst 1, 1) := q_iconst1 (bat_get dg_X12_qFact_0_0 19 rfl rfl)
theorem dX12_qFact_69 : decode cX12_qFact 69 = .ok (.iadd, 1) := q_iadd (bat_get dg_X12_qFact_0_0 20 rfl rfl)
theorem dX12_qFact_70 : decode cX12_qFact 70 = .ok (.putfield 201, 3) := q_putfield (bat_get dg_X12_qFact_0_0 21 rfl rfl) rfl
theorem dX12_qFact_73 : decode cX12_qFact 73 = .ok (.aload_n 0, 1) := q_aload_n0 (bat_get dg_X12_qFact_0_0 22 rfl rfl)
theorem dX12_qFact_74 : decode cX12_qFact 74 = .ok (.invokevirtual 269, 3) := q_invokevirtual (bat_get dg_X12_qFact_0_0 23 rfl rfl) rfl
theorem dX12_qFact_77 : decode cX12_qFact 77 = .ok (.aload_n 0, 1) := q_aload_n0 (bat_get dg_X12_qFact_0_0 24 rfl rfl)
theorem dX12_qFact_78 : decode cX12_qFact 78 = .ok (.iload_n 1, 1) := q_iload_n1 (bat_get dg_X12_qFact_0_0 25 rfl rfl)
theorem dX12_qFact_79 : decode cX12_qFact 79 = .ok (.bipush 60, 2) := q_bipush (bat_get dg_X12_qFact_0_0 26 rfl rfl) rfl
theorem dX12_qFact_81 : decode cX12_qFact 81 = .ok (.if_icmp .ne 8, 3) := q_if_icmp_ne (bat_get dg_X12_qFact_0_0 27 rfl rfl) rfl
theorem dX12_qFact_84 : decode cX12_qFact 84 = .ok (.bipush 7, 2) := q_bipush (bat_get dg_X12_qFact_0_0 28 rfl rfl) rfl
theorem dX12_qFact_86 : decode cX12_qFact 86 = .ok (.goto 16, 3) := q_goto (bat_get dg_X12_qFact_0_0 29 rfl rfl) rfl
theorem dX12_qFact_102 : decode cX12_qFact 102 = .ok (.invokevirtual 498, 3) := q_invokevirtual (bat_get dg_X12_qFact_0_0 30 rfl rfl) rfl
theorem dX12_qFact_105 : decode cX12_qFact 105 = .ok (.return_, 1) := q_return_ (bat_get dg_X12_qFact_0_0 31 rfl rfl)
theorem dX12_qFact_41 : decode cX12_qFact 41 = .ok (.iload_n 1, 1) := q_iload_n1 (bat_get dg_X12_qFact_0_0 32 rfl rfl)
theorem dX12_qFact_42 : decode cX12_qFact 42 = .ok (.bipush 62, 2) := q_bipush (bat_get dg_X12_qFact_0_0 33 rfl rfl) rfl
theorem dX12_qFact_44 : decode cX12_qFact 44 = .ok (.if_icmp .eq 19, 3) := q_if_icmp_eq (bat_get dg_X12_qFact_0_0 34 rfl rfl) rfl
theorem dX12_qFact_89 : decode cX12_qFact 89 = .ok (.iload_n 1, 1) := q_iload_n1 (bat_get dg_X12_qFact_0_0 35 rfl rfl)
theorem dX12_qFact_90 : decode cX12_qFact 90 = .ok (.bipush 62, 2) := q_bipush (bat_get dg_X12_qFact_0_0 36 rfl rfl) rfl
theorem dX12_qFact_92 : decode cX12_qFact 92 = .ok (.if_icmp .ne 8, 3) := q_if_icmp_ne (bat_get dg_X12_qFact_0_0 37 rfl rfl) rfl
theorem dX12_qFact_95 : decode cX12_qFact 95 = .ok (.bipush 8, 2) := q_bipush (bat_get dg_X12_qFact_0_0 38 rfl rfl) rfl
theorem dX12_qFact_97 : decode cX12_qFact 97 = .ok (.goto 5, 3) := q_goto (bat_get dg_X12_qFact_0_0 39 rfl rfl) rfl
theorem dg_X12_qFact_11_47 : bqL cX12_qFact 11 [(36, [27]), (37, [16, 61]), (39, [159, 0, 13]), (89, [16, 9]), (42, [42]), (43, [4]), (44, [42]), (45, [180, 0, 201]), (48, [182, 0, 225]), (51, [177]), (18, [177]), (0, [42]), (1, [16, 13]), (3, [182, 1, 242]), (6, [177])] = true := by decide +kernel
theorem dX12_qFact_47 : decode cX12_qFact 47 = .ok (.iload_n 1, 1) := q_iload_n1 (bat_get dg_X12_qFact_11_47 0 rfl rfl)
theorem dX12_qFact_48 : decode cX12_qFact 48 = .ok (.bipush 61, 2) := q_bipush (bat_get dg_X12_qFact_11_47 1 rfl rfl) rfl
theorem dX12_qFact_50 : decode cX12_qFact 50 = .ok (.if_icmp .eq 13, 3) := q_if_icmp_eq (bat_get dg_X12_qFact_11_47 2 rfl rfl) rfl
theorem dX12_qFact_100 : decode cX12_qFact 100 = .ok (.bipush 9, 2) := q_bipush (bat_get dg_X12_qFact_11_47 3 rfl rfl) rfl
theorem dX12_qFact_53 : decode cX12_qFact 53 = .ok (.aload_n 0, 1) := q_aload_n0 (bat_get dg_X12_qFact_11_47 4 rfl rfl)
theorem dX12_qFact_54 : decode cX12_qFact 54 = .ok (.iconst 1, 1) := q_iconst1 (bat_get dg_X12_qFact_11_47 5 rfl rfl)
theorem dX12_qFact_55 : decode cX12_qFact 55 = .ok (.aload_n 0, 1) := q_aload_n0 (bat_get dg_X12_qFact_11_47 6 rfl rfl)
theorem dX12_qFact_56 : decode cX12_qFact 56 = .ok (.getfield 201, 3) := q_getfield (bat_get dg_X12_qFact_11_47 7 rfl rfl) rfl
theorem dX12_qFact_59 : decode cX12_qFact 59 = .ok (.invokevirtual 225, 3) := q_invokevirtual (bat_get dg_X12_qFact_11_47 8 rfl rfl) rfl
theorem dX12_qFact_62 : decode cX12_qFact 62 = .ok (.return_, 1) := q_return_ (bat_get dg_X12_qFact_11_47 9 rfl rfl)
theorem dX12_qFact_29 : decode cX12_qFact 29 = .ok (.return_, 1) := q_return_ (bat_get dg_X12_qFact_11_47 10 rfl rfl)
theorem dX12_qFact_11 : decode cX12_qFact 11 = .ok (.aload_n 0, 1) := q_aload_n0 (bat_get dg_X12_qFact_11_47 11 rfl rfl)
theorem dX12_qFact_12 : decode cX12_qFact 12 = .ok (.bipush 13, 2) := q_bipush (bat_get dg_X12_qFact_11_47 12 rfl rfl) rfl
theorem dX12_qFact_14 : decode cX12_qFact 14 = .ok (.invokevirtual 498, 3) := q_invokevirtual (bat_get dg_X12_qFact_11_47 13 rfl rfl) rfl
theorem dX12_qFact_17 : decode cX12_qFact 17 = .ok (.return_, 1) := q_return_ (bat_get dg_X12_qFact_11_47 14 rfl rfl)
theorem w_5_222 : (Cond.fieldLink RX12 141 "SameKeeperModel" "allAsked" "[C") ∈ wsL_law := sk_mem (ck_5 _ (List.mem_of_getElem? (i := 222) rfl)) rfl
theorem w_7_27 : (Cond.methodLink RX12 269 yX12_qSums) ∈ wsL_law := sk_mem (ck_7 _ (List.mem_of_getElem? (i := 27) rfl)) rfl
theorem w_7_29 : (Cond.instanceMethod yX12_qSums) ∈ wsL_law := sk_mem (ck_7 _ (List.mem_of_getElem? (i := 29) rfl)) rfl
theorem w_0_54 : (Cond.selects RX12 yX12_qSums yX12_qSums) ∈ wsL_law := sk_mem (ck_0 _ (List.mem_of_getElem? (i := 54) rfl)) rfl
theorem w_8_178 : (Cond.code yX12_qFact cX12_qFact 2 none) ∈ wsL_law := sk_mem (ck_8 _ (List.mem_of_getElem? (i := 178) rfl)) rfl
def om_18_30001 : List Bool := true :: true :: false :: false :: false :: false :: false :: false :: false :: false :: false :: false :: false :: false :: false :: false :: false :: true :: []
def om_18_3fffe : List Bool := true :: true :: true :: true :: true :: true :: true :: true :: true :: true :: true :: true :: true :: true :: true :: true :: true :: false :: []
def om_18_30000 : List Bool := true :: true :: false :: false :: false :: false :: false :: false :: false :: false :: false :: false :: false :: false :: false :: false :: false :: false :: []
def om_18_28000 : List Bool := true :: false :: true :: false :: false :: false :: false :: false :: false :: false :: false :: false :: false :: false :: false :: false :: false :: false :: []
def om_18_20000 : List Bool := true :: false :: false :: false :: false :: false :: false :: false :: false :: false :: false :: false :: false :: false :: false :: false :: false :: false :: []
theorem hd_X12_qSums_0 : skD yX12_qSums 0 := by decide +kernel
theorem dg_X12_qHasSquare_0_0 : bqL cX12_qHasSquare 0 [(0, [3]), (1, [60]), (2, [27]), (3, [42]), (4, [180, 1, 4]), (7, [162, 0, 22]), (29, [3]), (30, [172]), (10, [42]), (11, [180, 0, 183]), (14, [27]), (15, [46]), (16, [16, 25]), (18, [160, 0, 5]), (23, [132, 1, 1]), (26, [167, 255, 232]), (21, [4]), (22, [172])] = true := by decide +kernel
theorem dX12_qHasSquare_0 : decode cX12_qHasSquare 0 = .ok (.iconst 0, 1) := q_iconst0 (bat_get dg_X12_qHasSquare_0_0 0 rfl rfl)
theorem dX12_qHasSquare_1 : decode cX12_qHasSquare 1 = .ok (.istore_n 1, 1) := q_istore_n1 (bat_get dg_X12_qHasSquare_0_0 1 rfl rfl)
theorem dX12_qHasSquare_2 : decode cX12_qHasSquare 2 = .ok (.iload_n 1, 1) := q_iload_n1 (bat_get dg_X12_qHasSquare_0_0 2 rfl rfl)
theorem dX12_qHasSquare_3 : decode cX12_qHasSquare 3 = .ok (.aload_n 0, 1) := q_aload_n0 (bat_get dg_X12_qHasSquare_0_0 3 rfl rfl)
theorem dX12_qHasSquare_4 : decode cX12_qHasSquare 4 = .ok (.getfield 260, 3) := q_getfield (bat_get dg_X12_qHasSquare_0_0 4 rfl rfl) rfl
theorem dX12_qHasSquare_7 : decode cX12_qHasSquare 7 = .ok (.if_icmp .ge 22, 3) := q_if_icmp_ge (bat_get dg_X12_qHasSquare_0_0 5 rfl rfl) rfl
theorem dX12_qHasSquare_29 : decode cX12_qHasSquare 29 = .ok (.iconst 0, 1) := q_iconst0 (bat_get dg_X12_qHasSquare_0_0 6 rfl rfl)
theorem dX12_qHasSquare_30 : decode cX12_qHasSquare 30 = .ok (.ireturn, 1) := q_ireturn (bat_get dg_X12_qHasSquare_0_0 7 rfl rfl)
theorem dX12_qHasSquare_10 : decode cX12_qHasSquare 10 = .ok (.aload_n 0, 1) := q_aload_n0 (bat_get dg_X12_qHasSquare_0_0 8 rfl rfl)
theorem dX12_qHasSquare_11 : decode cX12_qHasSquare 11 = .ok (.getfield 183, 3) := q_getfield (bat_get dg_X12_qHasSquare_0_0 9 rfl rfl) rfl
theorem dX12_qHasSquare_14 : decode cX12_qHasSquare 14 = .ok (.iload_n 1, 1) := q_iload_n1 (bat_get dg_X12_qHasSquare_0_0 10 rfl rfl)
theorem dX12_qHasSquare_15 : decode cX12_qHasSquare 15 = .ok (.iaload, 1) := q_iaload (bat_get dg_X12_qHasSquare_0_0 11 rfl rfl)
theorem dX12_qHasSquare_16 : decode cX12_qHasSquare 16 = .ok (.bipush 25, 2) := q_bipush (bat_get dg_X12_qHasSquare_0_0 12 rfl rfl) rfl
theorem dX12_qHasSquare_18 : decode cX12_qHasSquare 18 = .ok (.if_icmp .ne 5, 3) := q_if_icmp_ne (bat_get dg_X12_qHasSquare_0_0 13 rfl rfl) rfl
theorem dX12_qHasSquare_23 : decode cX12_qHasSquare 23 = .ok (.iinc 1 1, 3) := q_iinc (bat_get dg_X12_qHasSquare_0_0 14 rfl rfl) rfl
theorem dX12_qHasSquare_26 : decode cX12_qHasSquare 26 = .ok (.goto (-24), 3) := q_goto (bat_get dg_X12_qHasSquare_0_0 15 rfl rfl) rfl
theorem dX12_qHasSquare_21 : decode cX12_qHasSquare 21 = .ok (.iconst 1, 1) := q_iconst1 (bat_get dg_X12_qHasSquare_0_0 16 rfl rfl)
theorem dX12_qHasSquare_22 : decode cX12_qHasSquare 22 = .ok (.ireturn, 1) := q_ireturn (bat_get dg_X12_qHasSquare_0_0 17 rfl rfl)
theorem w_8_190 : (Cond.code yX12_qHasSquare cX12_qHasSquare 2 (some .boolean)) ∈ wsL_law := sk_mem (ck_8 _ (List.mem_of_getElem? (i := 190) rfl)) rfl
set_option maxHeartbeats 4000000 in
set_option maxRecDepth 100000 in
theorem c_m_qHasSquare (l : Launch) (D : va_G) (cI cJ cC cZ cS : ClassId) (mm : Nat) (g : Nat → Nat) (ta : Nat) (pa : Nat) (pe : Nat) (pd : Int32) (pb : Nat) (pp : Int32) (pf : Int32) (pg : Int32) (pn : Int32) (rt : Int32) (rn : Int32) (cd : Nat) (sn : Int32) (il : Nat) (tk : Int32) (am : Int32) (at_ : Int32) (aa : Int32) (wt : Int32) (wy : Int64) (rm : Nat) (ud : Nat) (nu : Nat) (sd : Int64) (qn : Nat) (qw : Nat) (qo : Int32) (qb : Nat) (qp : Nat) (qa : Int64) (qi : Nat) (oc : Nat) (qt : Nat → Nat) (hqw : qw ≤ 1700) (hqt : ∀ j, qt j ≤ 100) : skM l yX12_qHasSquare cX12_qHasSquare 2 (some .boolean) 0 0 0 0 D (skT cI cJ cC cZ cS) [.ref mm] [ro_ mm 12 (mo g (nI ta) (nI pa) (nI pe) pd (nI pb) pp pf pg pn rt rn (nI cd) sn (nI il) tk am at_ aa 0 0 (-1) wt wy 0 (nI rm) (nI ud) (nI nu) sd (nI qn) (nI qw) qo (nI qb) (nI qp) qa (nI qi) (nI oc)), ra_N (g 82) cI 1700 qt] (skI D (skT cI cJ cC cZ cS) (fun (r : Int32) (u : va_W) => ∃ (b : Nat), ((b = 0 ∧ noQ qt qw) ∨ (b = 1 ∧ hasQ qt qw)) ∧ r = nI b ∧ u = [ro_ mm 12 (mo g (nI ta) (nI pa) (nI pe) pd (nI pb) pp pf pg pn rt rn (nI cd) sn (nI il) tk am at_ aa 0 0 (-1) wt wy 0 (nI rm) (nI ud) (nI nu) sd (nI qn) (nI qw) qo (nI qb) (nI qp) qa (nI qi) (nI oc)), ra_N (g 82) cI 1700 qt])) := by
  refine skM_of pf_X12_qHasSquare (Nat.le_of_ble_eq_true rfl) ?_
  intro p e s m below meth c A ls E hP hD hl
  refine skE_el E (fun hx hb hr hml hlocks hin hown hts hK hA => ?_)
  have hown : s.vm.findClass RX12 = some m.cls := hown
  have hS : va_S A s.heap s.heap [] := va_S.rf
  have hl : lv_has ls 2 [(0, .ref mm)] := hl
  refine lv_iconst (v := 0) hx hb dX12_qHasSquare_0 ic_0 ?_
  refine lv_istore_n (lv' := [(1, .int 0), (0, .ref mm)]) hx hb dX12_qHasSquare_1 rfl hl (by decide) rfl (fun ls hl => ?_)
  have lp_1 : ∀ (n_2 : Nat) (i : Nat) (H : Heap) (locs : List Loc) (ls : Array Slot), qw - i < n_2 → (i ≤ qw) → (noQ qt i) → va_P D vwCl [ro_ mm 12 (mo g (nI ta) (nI pa) (nI pe) pd (nI pb) pp pf pg pn rt rn (nI cd) sn (nI il) tk am at_ aa 0 0 (-1) wt wy 0 (nI rm) (nI ud) (nI nu) sd (nI qn) (nI qw) qo (nI qb) (nI qp) qa (nI qi) (nI oc)), ra_N (g 82) cI 1700 qt] H → va_D A [ro_ mm 12 (mo g (nI ta) (nI pa) (nI pe) pd (nI pb) pp pf pg pn rt rn (nI cd) sn (nI il) tk am at_ aa 0 0 (-1) wt wy 0 (nI rm) (nI ud) (nI nu) sd (nI qn) (nI qw) qo (nI qb) (nI qp) qa (nI qi) (nI oc)), ra_N (g 82) cI 1700 qt] → va_S A s.heap H locs → lv_has ls 2 [(1, .int (nI i)), (0, .ref mm)] → W p l e { frames := 0, cells := 0, slots := 0, locals := 0 } s m ([.ref mm] : List Value).toArray below meth c H locs 0 0 (MQ below (skI D (skT cI cJ cC cZ cS) (fun (r : Int32) (u : va_W) => ∃ (b : Nat), ((b = 0 ∧ noQ qt qw) ∨ (b = 1 ∧ hasQ qt qw)) ∧ r = nI b ∧ u = [ro_ mm 12 (mo g (nI ta) (nI pa) (nI pe) pd (nI pb) pp pf pg pn rt rn (nI cd) sn (nI il) tk am at_ aa 0 0 (-1) wt wy 0 (nI rm) (nI ud) (nI nu) sd (nI qn) (nI qw) qo (nI qb) (nI qp) qa (nI qi) (nI oc)), ra_N (g 82) cI 1700 qt]) A) ([.ref mm] : List Value).toArray s 0 0 A) (F0 m 2 ls []) := by
    intro n_2
    induction n_2 with
    | zero => intro i H locs ls hm; exact absurd hm (Nat.not_lt_zero _)
    | succ n_2 ih_lp_1 =>
      intro i H locs ls hm hi hnq hP hD hS hl
      refine lv_iload_n hx hb dX12_qHasSquare_2 rfl (lv_at hl 0 rfl) ?_
      refine lv_aload_n hx hb dX12_qHasSquare_3 rfl (lv_at hl 1 rfl) ?_
      refine sk_get (v := .int (nI qw)) (C := RX12) (T := TX12) (N := 92) hx hb hts inlX12 hown hK hP 0 rfl rfl 83 (Nat.le_of_ble_eq_true rfl) w_5_238 rfl dX12_qHasSquare_4 ?_
      refine lv_icmp_ge (tgt := 29) hx hb dX12_qHasSquare_7 (by decide) (fun c_3 => ?_) (fun c_3 => ?_)
      · have c_3 : qw ≤ i := (nle qw i (by omega) (by omega)).mp c_3
        refine lv_iconst (v := 0) hx hb dX12_qHasSquare_29 ic_0 ?_
        exact sk_iret hx hb hr rfl hlocks hK hP hD hS (⟨0, (Or.inl ⟨rfl, noQ_le hnq (by omega)⟩), rfl, rfl⟩) (Nat.le_of_ble_eq_true rfl) (Nat.le_of_ble_eq_true rfl) dX12_qHasSquare_30
      · have c_3 : ¬ (qw ≤ i) := fun h => c_3 ((nle qw i (by omega) (by omega)).mpr h)
        refine lv_aload_n hx hb dX12_qHasSquare_10 rfl (lv_at hl 1 rfl) ?_
        refine sk_get (v := .ref (g 82)) (C := RX12) (T := TX12) (N := 92) hx hb hts inlX12 hown hK hP 0 rfl rfl 82 (Nat.le_of_ble_eq_true rfl) w_5_237 rfl dX12_qHasSquare_11 ?_
        refine lv_iload_n hx hb dX12_qHasSquare_14 rfl (lv_at hl 0 rfl) ?_
        refine va_iald hx hb hK.1 hP 1 0 rfl rfl (vin i 1700 (by omega) (Nat.le_of_ble_eq_true rfl)) dX12_qHasSquare_15 ?_
        refine sk_top (nI (qt i)) (nrd qt i (by omega)) ?_
        have hb_4 := hqt i
        refine lv_bipush (v := 25) hx hb dX12_qHasSquare_16 (by decide) ?_
        refine lv_icmp_ne (tgt := 23) hx hb dX12_qHasSquare_18 (by decide) (fun c_5 => ?_) (fun c_5 => ?_)
        · have c_5 : ¬ (qt i = 25) := fun h => c_5 ((neq (qt i) 25 (by omega) (Nat.le_of_ble_eq_true rfl)).mpr h)
          refine lv_iinc (v := nI (i + 1)) (lv' := [(1, .int (nI (i + 1))), (0, .ref mm)]) hx hb dX12_qHasSquare_23 hl (k := 0) rfl (ninc i 1 (by decide)) (by decide) rfl (fun ls hl => ?_)
          refine lv_goto (tgt := 2) hx hb dX12_qHasSquare_26 (by decide) ?_
          exact ih_lp_1 (i + 1) _ _ _ (by omega) (by omega) (noQ_s hnq (by omega)) hP hD hS (lv_sub hl [0, 1] rfl)
        · have c_5 : qt i = 25 := (neq (qt i) 25 (by omega) (Nat.le_of_ble_eq_true rfl)).mp c_5
          refine lv_iconst (v := 1) hx hb dX12_qHasSquare_21 ic_1 ?_
          exact sk_iret hx hb hr rfl hlocks hK hP hD hS (⟨1, (Or.inr ⟨rfl, hasQ_i (by omega) c_5⟩), rfl, rfl⟩) (Nat.le_of_ble_eq_true rfl) (Nat.le_of_ble_eq_true rfl) dX12_qHasSquare_22
  exact lp_1 (qw - 0 + 1) 0 _ _ _ (Nat.lt_succ_self _) (by omega) noQ_0 hP hD hS (lv_sub hl [0, 1] rfl)
theorem dg_X12_qDropsNots_0_0 : bqL cX12_qDropsNots 0 [(0, [42]), (1, [180, 0, 195]), (4, [154, 0, 29]), (33, [177]), (7, [42]), (8, [16, 12]), (10, [182, 2, 19]), (13, [153, 0, 20]), (16, [42]), (17, [89]), (18, [180, 1, 7]), (21, [4]), (22, [100]), (23, [181, 1, 7]), (26, [42]), (27, [182, 1, 248]), (30, [167, 255, 226])] = true := by decide +kernel
theorem dX12_qDropsNots_0 : decode cX12_qDropsNots 0 = .ok (.aload_n 0, 1) := q_aload_n0 (bat_get dg_X12_qDropsNots_0_0 0 rfl rfl)
theorem dX12_qDropsNots_1 : decode cX12_qDropsNots 1 = .ok (.getfield 195, 3) := q_getfield (bat_get dg_X12_qDropsNots_0_0 1 rfl rfl) rfl
theorem dX12_qDropsNots_4 : decode cX12_qDropsNots 4 = .ok (.ifCond .ne 29, 3) := q_ifCond_ne (bat_get dg_X12_qDropsNots_0_0 2 rfl rfl) rfl
theorem dX12_qDropsNots_33 : decode cX12_qDropsNots 33 = .ok (.return_, 1) := q_return_ (bat_get dg_X12_qDropsNots_0_0 3 rfl rfl)
theorem dX12_qDropsNots_7 : decode cX12_qDropsNots 7 = .ok (.aload_n 0, 1) := q_aload_n0 (bat_get dg_X12_qDropsNots_0_0 4 rfl rfl)
theorem dX12_qDropsNots_8 : decode cX12_qDropsNots 8 = .ok (.bipush 12, 2) := q_bipush (bat_get dg_X12_qDropsNots_0_0 5 rfl rfl) rfl
theorem dX12_qDropsNots_10 : decode cX12_qDropsNots 10 = .ok (.invokevirtual 531, 3) := q_invokevirtual (bat_get dg_X12_qDropsNots_0_0 6 rfl rfl) rfl
theorem dX12_qDropsNots_13 : decode cX12_qDropsNots 13 = .ok (.ifCond .eq 20, 3) := q_ifCond_eq (bat_get dg_X12_qDropsNots_0_0 7 rfl rfl) rfl
theorem dX12_qDropsNots_16 : decode cX12_qDropsNots 16 = .ok (.aload_n 0, 1) := q_aload_n0 (bat_get dg_X12_qDropsNots_0_0 8 rfl rfl)
theorem dX12_qDropsNots_17 : decode cX12_qDropsNots 17 = .ok (.dup, 1) := q_dup (bat_get dg_X12_qDropsNots_0_0 9 rfl rfl)
theorem dX12_qDropsNots_18 : decode cX12_qDropsNots 18 = .ok (.getfield 263, 3) := q_getfield (bat_get dg_X12_qDropsNots_0_0 10 rfl rfl) rfl
theorem dX12_qDropsNots_21 : decode cX12_qDropsNots 21 = .ok (.iconst 1, 1) := q_iconst1 (bat_get dg_X12_qDropsNots_0_0 11 rfl rfl)
theorem dX12_qDropsNots_22 : decode cX12_qDropsNots 22 = .ok (.isub, 1) := q_isub (bat_get dg_X12_qDropsNots_0_0 12 rfl rfl)
theorem dX12_qDropsNots_23 : decode cX12_qDropsNots 23 = .ok (.putfield 263, 3) := q_putfield (bat_get dg_X12_qDropsNots_0_0 13 rfl rfl) rfl
theorem dX12_qDropsNots_26 : decode cX12_qDropsNots 26 = .ok (.aload_n 0, 1) := q_aload_n0 (bat_get dg_X12_qDropsNots_0_0 14 rfl rfl)
theorem dX12_qDropsNots_27 : decode cX12_qDropsNots 27 = .ok (.invokevirtual 504, 3) := q_invokevirtual (bat_get dg_X12_qDropsNots_0_0 15 rfl rfl) rfl
theorem dX12_qDropsNots_30 : decode cX12_qDropsNots 30 = .ok (.goto (-30), 3) := q_goto (bat_get dg_X12_qDropsNots_0_0 16 rfl rfl) rfl
theorem w_8_182 : (Cond.code yX12_qDropsNots cX12_qDropsNots 1 none) ∈ wsL_law := sk_mem (ck_8 _ (List.mem_of_getElem? (i := 182) rfl)) rfl
theorem dg_X12_qGoesOnTest_0_0 : bqL cX12_qGoesOnTest 0 [(0, [42]), (1, [180, 0, 195]), (4, [154, 0, 72]), (76, [42]), (77, [42]), (78, [180, 0, 135]), (81, [182, 0, 222]), (84, [153, 0, 42]), (126, [42]), (127, [42]), (128, [180, 0, 138]), (131, [182, 0, 222]), (134, [153, 0, 51]), (185, [42]), (186, [180, 0, 195]), (189, [154, 0, 19]), (208, [3]), (209, [172]), (192, [42]), (193, [182, 2, 37]), (196, [153, 0, 12]), (199, [42]), (200, [4]), (201, [42]), (202, [180, 0, 201]), (205, [182, 0, 225]), (137, [42]), (138, [16, 10]), (140, [182, 2, 19]), (143, [154, 0, 12]), (155, [42]), (156, [182, 1, 248]), (159, [167, 255, 234]), (146, [42]), (147, [16, 11]), (149, [182, 2, 19]), (152, [153, 0, 10]), (162, [42]), (163, [180, 0, 183]), (166, [42])] = true := by decide +kernel
theorem dX12_qGoesOnTest_0 : decode cX12_qGoesOnTest 0 = .ok (.aload_n 0, 1) := q_aload_n0 (bat_get dg_X12_qGoesOnTest_0_0 0 rfl rfl)
theorem dX12_qGoesOnTest_1 : decode cX12_qGoesOnTest 1 = .ok (.getfield 195, 3) := q_getfield (bat_get dg_X12_qGoesOnTest_0_0 1 rfl rfl) rfl
theorem dX12_qGoesOnTest_4 : decode cX12_qGoesOnTest 4 = .ok (.ifCond .ne 72, 3) := q_ifCond_ne (bat_get dg_X12_qGoesOnTest_0_0 2 rfl rfl) rfl
theorem dX12_qGoesOnTest_76 : decode cX12_qGoesOnTest 76 = .ok (.aload_n 0, 1) := q_aload_n0 (bat_get dg_X12_qGoesOnTest_0_0 3 rfl rfl)
theorem dX12_qGoesOnTest_77 : decode cX12_qGoesOnTest 77 = .ok (.aload_n 0, 1) := q_aload_n0 (bat_get dg_X12_qGoesOnTest_0_0 4 rfl rfl)
theorem dX12_qGoesOnTest_78 : decode cX12_qGoesOnTest 78 = .ok (.getfield 135, 3) := q_getfield (bat_get dg_X12_qGoesOnTest_0_0 5 rfl rfl) rfl
theorem dX12_qGoesOnTest_81 : decode cX12_qGoesOnTest 81 = .ok (.invokevirtual 222, 3) := q_invokevirtual (bat_get dg_X12_qGoesOnTest_0_0 6 rfl rfl) rfl
theorem dX12_qGoesOnTest_84 : decode cX12_qGoesOnTest 84 = .ok (.ifCond .eq 42, 3) := q_ifCond_eq (bat_get dg_X12_qGoesOnTest_0_0 7 rfl rfl) rfl
theorem dX12_qGoesOnTest_126 : decode cX12_qGoesOnTest 126 = .ok (.aload_n 0, 1) := q_aload_n0 (bat_get dg_X12_qGoesOnTest_0_0 8 rfl rfl)
theorem dX12_qGoesOnTest_127 : decode cX12_qGoesOnTest 127 = .ok (.aload_n 0, 1) := q_aload_n0 (bat_get dg_X12_qGoesOnTest_0_0 9 rfl rfl)
theorem dX12_qGoesOnTest_128 : decode cX12_qGoesOnTest 128 = .ok (.getfield 138, 3) := q_getfield (bat_get dg_X12_qGoesOnTest_0_0 10 rfl rfl) rfl
theorem dX12_qGoesOnTest_131 : decode cX12_qGoesOnTest 131 = .ok (.invokevirtual 222, 3) := q_invokevirtual (bat_get dg_X12_qGoesOnTest_0_0 11 rfl rfl) rfl
theorem dX12_qGoesOnTest_134 : decode cX12_qGoesOnTest 134 = .ok (.ifCond .eq 51, 3) := q_ifCond_eq (bat_get dg_X12_qGoesOnTest_0_0 12 rfl rfl) rfl
theorem dX12_qGoesOnTest_185 : decode cX12_qGoesOnTest 185 = .ok (.aload_n 0, 1) := q_aload_n0 (bat_get dg_X12_qGoesOnTest_0_0 13 rfl rfl)
theorem dX12_qGoesOnTest_186 : decode cX12_qGoesOnTest 186 = .ok (.getfield 195, 3) := q_getfield (bat_get dg_X12_qGoesOnTest_0_0 14 rfl rfl) rfl
theorem dX12_qGoesOnTest_189 : decode cX12_qGoesOnTest 189 = .ok (.ifCond .ne 19, 3) := q_ifCond_ne (bat_get dg_X12_qGoesOnTest_0_0 15 rfl rfl) rfl
theorem dX12_qGoesOnTest_208 : decode cX12_qGoesOnTest 208 = .ok (.iconst 0, 1) := q_iconst0 (bat_get dg_X12_qGoesOnTest_0_0 16 rfl rfl)
theorem dX12_qGoesOnTest_209 : decode cX12_qGoesOnTest 209 = .ok (.ireturn, 1) := q_ireturn (bat_get dg_X12_qGoesOnTest_0_0 17 rfl rfl)
theorem dX12_qGoesOnTest_192 : decode cX12_qGoesOnTest 192 = .ok (.aload_n 0, 1) := q_aload_n0 (bat_get dg_X12_qGoesOnTest_0_0 18 rfl rfl)
theorem dX12_qGoesOnTest_193 : decode cX12_qGoesOnTest 193 = .ok (.invokevirtual 549, 3) := q_invokevirtual (bat_get dg_X12_qGoesOnTest_0_0 19 rfl rfl) rfl
theorem dX12_qGoesOnTest_196 : decode cX12_qGoesOnTest 196 = .ok (.ifCond .eq 12, 3) := q_ifCond_eq (bat_get dg_X12_qGoesOnTest_0_0 20 rfl rfl) rfl
theorem dX12_qGoesOnTest_199 : decode cX12_qGoesOnTest 199 = .ok (.aload_n 0, 1) := q_aload_n0 (bat_get dg_X12_qGoesOnTest_0_0 21 rfl rfl)
theorem dX12_qGoesOnTest_200 : decode cX12_qGoesOnTest 200 = .ok (.iconst 1, 1) := q_iconst1 (bat_get dg_X12_qGoesOnTest_0_0 22 rfl rfl)
theorem dX12_qGoesOnTest_201 : decode cX12_qGoesOnTest 201 = .ok (.aload_n 0, 1) := q_aload_n0 (bat_get dg_X12_qGoesOnTest_0_0 23 rfl rfl)
theorem dX12_qGoesOnTest_202 : decode cX12_qGoesOnTest 202 = .ok (.getfield 201, 3) := q_getfield (bat_get dg_X12_qGoesOnTest_0_0 24 rfl rfl) rfl
theorem dX12_qGoesOnTest_205 : decode cX12_qGoesOnTest 205 = .ok (.invokevirtual 225, 3) := q_invokevirtual (bat_get dg_X12_qGoesOnTest_0_0 25 rfl rfl) rfl
theorem dX12_qGoesOnTest_137 : decode cX12_qGoesOnTest 137 = .ok (.aload_n 0, 1) := q_aload_n0 (bat_get dg_X12_qGoesOnTest_0_0 26 rfl rfl)
theorem dX12_qGoesOnTest_138 : decode cX12_qGoesOnTest 138 = .ok (.bipush 10, 2) := q_bipush (bat_get dg_X12_qGoesOnTest_0_0 27 rfl rfl) rfl
theorem dX12_qGoesOnTest_140 : decode cX12_qGoesOnTest 140 = .ok (.invokevirtual 531, 3) := q_invokevirtual (bat_get dg_X12_qGoesOnTest_0_0 28 rfl rfl) rfl
theorem dX12_qGoesOnTest_143 : decode cX12_qGoesOnTest 143 = .ok (.ifCond .ne 12, 3) := q_ifCond_ne (bat_get dg_X12_qGoesOnTest_0_0 29 rfl rfl) rfl
theorem dX12_qGoesOnTest_155 : decode cX12_qGoesOnTest 155 = .ok (.aload_n 0, 1) := q_aload_n0 (bat_get dg_X12_qGoesOnTest_0_0 30 rfl rfl)
theorem dX12_qGoesOnTest_156 : decode cX12_qGoesOnTest 156 = .ok (.invokevirtual 504, 3) := q_invokevirtual (bat_get dg_X12_qGoesOnTest_0_0 31 rfl rfl) rfl
theorem dX12_qGoesOnTest_159 : decode cX12_qGoesOnTest 159 = .ok (.goto (-22), 3) := q_goto (bat_get dg_X12_qGoesOnTest_0_0 32 rfl rfl) rfl
theorem dX12_qGoesOnTest_146 : decode cX12_qGoesOnTest 146 = .ok (.aload_n 0, 1) := q_aload_n0 (bat_get dg_X12_qGoesOnTest_0_0 33 rfl rfl)
theorem dX12_qGoesOnTest_147 : decode cX12_qGoesOnTest 147 = .ok (.bipush 11, 2) := q_bipush (bat_get dg_X12_qGoesOnTest_0_0 34 rfl rfl) rfl
theorem dX12_qGoesOnTest_149 : decode cX12_qGoesOnTest 149 = .ok (.invokevirtual 531, 3) := q_invokevirtual (bat_get dg_X12_qGoesOnTest_0_0 35 rfl rfl) rfl
theorem dX12_qGoesOnTest_152 : decode cX12_qGoesOnTest 152 = .ok (.ifCond .eq 10, 3) := q_ifCond_eq (bat_get dg_X12_qGoesOnTest_0_0 36 rfl rfl) rfl
theorem dX12_qGoesOnTest_162 : decode cX12_qGoesOnTest 162 = .ok (.aload_n 0, 1) := q_aload_n0 (bat_get dg_X12_qGoesOnTest_0_0 37 rfl rfl)
theorem dX12_qGoesOnTest_163 : decode cX12_qGoesOnTest 163 = .ok (.getfield 183, 3) := q_getfield (bat_get dg_X12_qGoesOnTest_0_0 38 rfl rfl) rfl
theorem dX12_qGoesOnTest_166 : decode cX12_qGoesOnTest 166 = .ok (.aload_n 0, 1) := q_aload_n0 (bat_get dg_X12_qGoesOnTest_0_0 39 rfl rfl)
theorem dg_X12_qGoesOnTest_7_167 : bqL cX12_qGoesOnTest 7 [(160, [180, 1, 4]), (163, [16, 11]), (165, [79]), (166, [42]), (167, [89]), (168, [180, 1, 4]), (171, [4]), (172, [96]), (173, [181, 1, 4]), (176, [4]), (177, [172]), (80, [42]), (81, [16, 10]), (83, [182, 2, 19]), (86, [153, 0, 10]), (96, [42]), (97, [180, 0, 183]), (100, [42]), (101, [180, 1, 4]), (104, [16, 10]), (106, [79]), (107, [42]), (108, [89]), (109, [180, 1, 4]), (112, [4]), (113, [96]), (114, [181, 1, 4]), (117, [4]), (118, [172]), (89, [42]), (90, [182, 1, 248]), (93, [167, 255, 243]), (0, [42]), (1, [182, 0, 207]), (4, [16, 93]), (6, [160, 0, 63]), (9, [42]), (10, [182, 2, 37]), (13, [153, 0, 56]), (16, [42])] = true := by decide +kernel
theorem dX12_qGoesOnTest_167 : decode cX12_qGoesOnTest 167 = .ok (.getfield 260, 3) := q_getfield (bat_get dg_X12_qGoesOnTest_7_167 0 rfl rfl) rfl
theorem dX12_qGoesOnTest_170 : decode cX12_qGoesOnTest 170 = .ok (.bipush 11, 2) := q_bipush (bat_get dg_X12_qGoesOnTest_7_167 1 rfl rfl) rfl
theorem dX12_qGoesOnTest_172 : decode cX12_qGoesOnTest 172 = .ok (.iastore, 1) := q_iastore (bat_get dg_X12_qGoesOnTest_7_167 2 rfl rfl)
theorem dX12_qGoesOnTest_173 : decode cX12_qGoesOnTest 173 = .ok (.aload_n 0, 1) := q_aload_n0 (bat_get dg_X12_qGoesOnTest_7_167 3 rfl rfl)
theorem dX12_qGoesOnTest_174 : decode cX12_qGoesOnTest 174 = .ok (.dup, 1) := q_dup (bat_get dg_X12_qGoesOnTest_7_167 4 rfl rfl)
theorem dX12_qGoesOnTest_175 : decode cX12_qGoesOnTest 175 = .ok (.getfield 260, 3) := q_getfield (bat_get dg_X12_qGoesOnTest_7_167 5 rfl rfl) rfl
theorem dX12_qGoesOnTest_178 : decode cX12_qGoesOnTest 178 = .ok (.iconst 1, 1) := q_iconst1 (bat_get dg_X12_qGoesOnTest_7_167 6 rfl rfl)
theorem dX12_qGoesOnTest_179 : decode cX12_qGoesOnTest 179 = .ok (.iadd, 1) := q_iadd (bat_get dg_X12_qGoesOnTest_7_167 7 rfl rfl)
theorem dX12_qGoesOnTest_180 : decode cX12_qGoesOnTest 180 = .ok (.putfield 260, 3) := q_putfield (bat_get dg_X12_qGoesOnTest_7_167 8 rfl rfl) rfl
theorem dX12_qGoesOnTest_183 : decode cX12_qGoesOnTest 183 = .ok (.iconst 1, 1) := q_iconst1 (bat_get dg_X12_qGoesOnTest_7_167 9 rfl rfl)
theorem dX12_qGoesOnTest_184 : decode cX12_qGoesOnTest 184 = .ok (.ireturn, 1) := q_ireturn (bat_get dg_X12_qGoesOnTest_7_167 10 rfl rfl)
theorem dX12_qGoesOnTest_87 : decode cX12_qGoesOnTest 87 = .ok (.aload_n 0, 1) := q_aload_n0 (bat_get dg_X12_qGoesOnTest_7_167 11 rfl rfl)
theorem dX12_qGoesOnTest_88 : decode cX12_qGoesOnTest 88 = .ok (.bipush 10, 2) := q_bipush (bat_get dg_X12_qGoesOnTest_7_167 12 rfl rfl) rfl
theorem dX12_qGoesOnTest_90 : decode cX12_qGoesOnTest 90 = .ok (.invokevirtual 531, 3) := q_invokevirtual (bat_get dg_X12_qGoesOnTest_7_167 13 rfl rfl) rfl
theorem dX12_qGoesOnTest_93 : decode cX12_qGoesOnTest 93 = .ok (.ifCond .eq 10, 3) := q_ifCond_eq (bat_get dg_X12_qGoesOnTest_7_167 14 rfl rfl) rfl
theorem dX12_qGoesOnTest_103 : decode cX12_qGoesOnTest 103 = .ok (.aload_n 0, 1) := q_aload_n0 (bat_get dg_X12_qGoesOnTest_7_167 15 rfl rfl)
theorem dX12_qGoesOnTest_104 : decode cX12_qGoesOnTest 104 = .ok (.getfield 183, 3) := q_getfield (bat_get dg_X12_qGoesOnTest_7_167 16 rfl rfl) rfl
theorem dX12_qGoesOnTest_107 : decode cX12_qGoesOnTest 107 = .ok (.aload_n 0, 1) := q_aload_n0 (bat_get dg_X12_qGoesOnTest_7_167 17 rfl rfl)
theorem dX12_qGoesOnTest_108 : decode cX12_qGoesOnTest 108 = .ok (.getfield 260, 3) := q_getfield (bat_get dg_X12_qGoesOnTest_7_167 18 rfl rfl) rfl
theorem dX12_qGoesOnTest_111 : decode cX12_qGoesOnTest 111 = .ok (.bipush 10, 2) := q_bipush (bat_get dg_X12_qGoesOnTest_7_167 19 rfl rfl) rfl
theorem dX12_qGoesOnTest_113 : decode cX12_qGoesOnTest 113 = .ok (.iastore, 1) := q_iastore (bat_get dg_X12_qGoesOnTest_7_167 20 rfl rfl)
theorem dX12_qGoesOnTest_114 : decode cX12_qGoesOnTest 114 = .ok (.aload_n 0, 1) := q_aload_n0 (bat_get dg_X12_qGoesOnTest_7_167 21 rfl rfl)
theorem dX12_qGoesOnTest_115 : decode cX12_qGoesOnTest 115 = .ok (.dup, 1) := q_dup (bat_get dg_X12_qGoesOnTest_7_167 22 rfl rfl)
theorem dX12_qGoesOnTest_116 : decode cX12_qGoesOnTest 116 = .ok (.getfield 260, 3) := q_getfield (bat_get dg_X12_qGoesOnTest_7_167 23 rfl rfl) rfl
theorem dX12_qGoesOnTest_119 : decode cX12_qGoesOnTest 119 = .ok (.iconst 1, 1) := q_iconst1 (bat_get dg_X12_qGoesOnTest_7_167 24 rfl rfl)
theorem dX12_qGoesOnTest_120 : decode cX12_qGoesOnTest 120 = .ok (.iadd, 1) := q_iadd (bat_get dg_X12_qGoesOnTest_7_167 25 rfl rfl)
theorem dX12_qGoesOnTest_121 : decode cX12_qGoesOnTest 121 = .ok (.putfield 260, 3) := q_putfield (bat_get dg_X12_qGoesOnTest_7_167 26 rfl rfl) rfl
theorem dX12_qGoesOnTest_124 : decode cX12_qGoesOnTest 124 = .ok (.iconst 1, 1) := q_iconst1 (bat_get dg_X12_qGoesOnTest_7_167 27 rfl rfl)
theorem dX12_qGoesOnTest_125 : decode cX12_qGoesOnTest 125 = .ok (.ireturn, 1) := q_ireturn (bat_get dg_X12_qGoesOnTest_7_167 28 rfl rfl)
theorem dX12_qGoesOnTest_96 : decode cX12_qGoesOnTest 96 = .ok (.aload_n 0, 1) := q_aload_n0 (bat_get dg_X12_qGoesOnTest_7_167 29 rfl rfl)
theorem dX12_qGoesOnTest_97 : decode cX12_qGoesOnTest 97 = .ok (.invokevirtual 504, 3) := q_invokevirtual (bat_get dg_X12_qGoesOnTest_7_167 30 rfl rfl) rfl
theorem dX12_qGoesOnTest_100 : decode cX12_qGoesOnTest 100 = .ok (.goto (-13), 3) := q_goto (bat_get dg_X12_qGoesOnTest_7_167 31 rfl rfl) rfl
theorem dX12_qGoesOnTest_7 : decode cX12_qGoesOnTest 7 = .ok (.aload_n 0, 1) := q_aload_n0 (bat_get dg_X12_qGoesOnTest_7_167 32 rfl rfl)
theorem dX12_qGoesOnTest_8 : decode cX12_qGoesOnTest 8 = .ok (.invokevirtual 207, 3) := q_invokevirtual (bat_get dg_X12_qGoesOnTest_7_167 33 rfl rfl) rfl
theorem dX12_qGoesOnTest_11 : decode cX12_qGoesOnTest 11 = .ok (.bipush 93, 2) := q_bipush (bat_get dg_X12_qGoesOnTest_7_167 34 rfl rfl) rfl
theorem dX12_qGoesOnTest_13 : decode cX12_qGoesOnTest 13 = .ok (.if_icmp .ne 63, 3) := q_if_icmp_ne (bat_get dg_X12_qGoesOnTest_7_167 35 rfl rfl) rfl
theorem dX12_qGoesOnTest_16 : decode cX12_qGoesOnTest 16 = .ok (.aload_n 0, 1) := q_aload_n0 (bat_get dg_X12_qGoesOnTest_7_167 36 rfl rfl)
theorem dX12_qGoesOnTest_17 : decode cX12_qGoesOnTest 17 = .ok (.invokevirtual 549, 3) := q_invokevirtual (bat_get dg_X12_qGoesOnTest_7_167 37 rfl rfl) rfl
theorem dX12_qGoesOnTest_20 : decode cX12_qGoesOnTest 20 = .ok (.ifCond .eq 56, 3) := q_ifCond_eq (bat_get dg_X12_qGoesOnTest_7_167 38 rfl rfl) rfl
theorem dX12_qGoesOnTest_23 : decode cX12_qGoesOnTest 23 = .ok (.aload_n 0, 1) := q_aload_n0 (bat_get dg_X12_qGoesOnTest_7_167 39 rfl rfl)
theorem dg_X12_qGoesOnTest_24_24 : bqL cX12_qGoesOnTest 24 [(0, [89]), (1, [180, 0, 201]), (4, [4]), (5, [96]), (6, [181, 0, 201]), (9, [42]), (10, [16, 25]), (12, [182, 2, 19]), (15, [154, 0, 10]), (25, [42]), (26, [89]), (27, [180, 1, 4]), (30, [4]), (31, [100]), (32, [181, 1, 4]), (35, [42]), (36, [89]), (37, [180, 1, 7]), (40, [4]), (41, [100]), (42, [181, 1, 7]), (45, [42]), (46, [182, 2, 31]), (49, [167, 255, 183]), (18, [42]), (19, [182, 1, 248]), (22, [167, 255, 243])] = true := by decide +kernel
theorem dX12_qGoesOnTest_24 : decode cX12_qGoesOnTest 24 = .ok (.dup, 1) := q_dup (bat_get dg_X12_qGoesOnTest_24_24 0 rfl rfl)
theorem dX12_qGoesOnTest_25 : decode cX12_qGoesOnTest 25 = .ok (.getfield 201, 3) := q_getfield (bat_get dg_X12_qGoesOnTest_24_24 1 rfl rfl) rfl
theorem dX12_qGoesOnTest_28 : decode cX12_qGoesOnTest 28 = .ok (.iconst 1, 1) := q_iconst1 (bat_get dg_X12_qGoesOnTest_24_24 2 rfl rfl)
theorem dX12_qGoesOnTest_29 : decode cX12_qGoesOnTest 29 = .ok (.iadd, 1) := q_iadd (bat_get dg_X12_qGoesOnTest_24_24 3 rfl rfl)
theorem dX12_qGoesOnTest_30 : decode cX12_qGoesOnTest 30 = .ok (.putfield 201, 3) := q_putfield (bat_get dg_X12_qGoesOnTest_24_24 4 rfl rfl) rfl
theorem dX12_qGoesOnTest_33 : decode cX12_qGoesOnTest 33 = .ok (.aload_n 0, 1) := q_aload_n0 (bat_get dg_X12_qGoesOnTest_24_24 5 rfl rfl)
theorem dX12_qGoesOnTest_34 : decode cX12_qGoesOnTest 34 = .ok (.bipush 25, 2) := q_bipush (bat_get dg_X12_qGoesOnTest_24_24 6 rfl rfl) rfl
theorem dX12_qGoesOnTest_36 : decode cX12_qGoesOnTest 36 = .ok (.invokevirtual 531, 3) := q_invokevirtual (bat_get dg_X12_qGoesOnTest_24_24 7 rfl rfl) rfl
theorem dX12_qGoesOnTest_39 : decode cX12_qGoesOnTest 39 = .ok (.ifCond .ne 10, 3) := q_ifCond_ne (bat_get dg_X12_qGoesOnTest_24_24 8 rfl rfl) rfl
theorem dX12_qGoesOnTest_49 : decode cX12_qGoesOnTest 49 = .ok (.aload_n 0, 1) := q_aload_n0 (bat_get dg_X12_qGoesOnTest_24_24 9 rfl rfl)
theorem dX12_qGoesOnTest_50 : decode cX12_qGoesOnTest 50 = .ok (.dup, 1) := q_dup (bat_get dg_X12_qGoesOnTest_24_24 10 rfl rfl)
theorem dX12_qGoesOnTest_51 : decode cX12_qGoesOnTest 51 = .ok (.getfield 260, 3) := q_getfield (bat_get dg_X12_qGoesOnTest_24_24 11 rfl rfl) rfl
theorem dX12_qGoesOnTest_54 : decode cX12_qGoesOnTest 54 = .ok (.iconst 1, 1) := q_iconst1 (bat_get dg_X12_qGoesOnTest_24_24 12 rfl rfl)
theorem dX12_qGoesOnTest_55 : decode cX12_qGoesOnTest 55 = .ok (.isub, 1) := q_isub (bat_get dg_X12_qGoesOnTest_24_24 13 rfl rfl)
theorem dX12_qGoesOnTest_56 : decode cX12_qGoesOnTest 56 = .ok (.putfield 260, 3) := q_putfield (bat_get dg_X12_qGoesOnTest_24_24 14 rfl rfl) rfl
theorem dX12_qGoesOnTest_59 : decode cX12_qGoesOnTest 59 = .ok (.aload_n 0, 1) := q_aload_n0 (bat_get dg_X12_qGoesOnTest_24_24 15 rfl rfl)
theorem dX12_qGoesOnTest_60 : decode cX12_qGoesOnTest 60 = .ok (.dup, 1) := q_dup (bat_get dg_X12_qGoesOnTest_24_24 16 rfl rfl)
theorem dX12_qGoesOnTest_61 : decode cX12_qGoesOnTest 61 = .ok (.getfield 263, 3) := q_getfield (bat_get dg_X12_qGoesOnTest_24_24 17 rfl rfl) rfl
theorem dX12_qGoesOnTest_64 : decode cX12_qGoesOnTest 64 = .ok (.iconst 1, 1) := q_iconst1 (bat_get dg_X12_qGoesOnTest_24_24 18 rfl rfl)
theorem dX12_qGoesOnTest_65 : decode cX12_qGoesOnTest 65 = .ok (.isub, 1) := q_isub (bat_get dg_X12_qGoesOnTest_24_24 19 rfl rfl)
theorem dX12_qGoesOnTest_66 : decode cX12_qGoesOnTest 66 = .ok (.putfield 263, 3) := q_putfield (bat_get dg_X12_qGoesOnTest_24_24 20 rfl rfl) rfl
theorem dX12_qGoesOnTest_69 : decode cX12_qGoesOnTest 69 = .ok (.aload_n 0, 1) := q_aload_n0 (bat_get dg_X12_qGoesOnTest_24_24 21 rfl rfl)
theorem dX12_qGoesOnTest_70 : decode cX12_qGoesOnTest 70 = .ok (.invokevirtual 543, 3) := q_invokevirtual (bat_get dg_X12_qGoesOnTest_24_24 22 rfl rfl) rfl
theorem dX12_qGoesOnTest_73 : decode cX12_qGoesOnTest 73 = .ok (.goto (-73), 3) := q_goto (bat_get dg_X12_qGoesOnTest_24_24 23 rfl rfl) rfl
theorem dX12_qGoesOnTest_42 : decode cX12_qGoesOnTest 42 = .ok (.aload_n 0, 1) := q_aload_n0 (bat_get dg_X12_qGoesOnTest_24_24 24 rfl rfl)
theorem dX12_qGoesOnTest_43 : decode cX12_qGoesOnTest 43 = .ok (.invokevirtual 504, 3) := q_invokevirtual (bat_get dg_X12_qGoesOnTest_24_24 25 rfl rfl) rfl
theorem dX12_qGoesOnTest_46 : decode cX12_qGoesOnTest 46 = .ok (.goto (-13), 3) := q_goto (bat_get dg_X12_qGoesOnTest_24_24 26 rfl rfl) rfl
theorem w_5_220 : (Cond.fieldLink RX12 135 "SameKeeperModel" "andAsked" "[C") ∈ wsL_law := sk_mem (ck_5 _ (List.mem_of_getElem? (i := 220) rfl)) rfl
theorem w_5_221 : (Cond.fieldLink RX12 138 "SameKeeperModel" "orAsked" "[C") ∈ wsL_law := sk_mem (ck_5 _ (List.mem_of_getElem? (i := 221) rfl)) rfl
theorem w_8_187 : (Cond.methodLink RX12 549 yX12_qHasSquare) ∈ wsL_law := sk_mem (ck_8 _ (List.mem_of_getElem? (i := 187) rfl)) rfl
theorem w_8_189 : (Cond.instanceMethod yX12_qHasSquare) ∈ wsL_law := sk_mem (ck_8 _ (List.mem_of_getElem? (i := 189) rfl)) rfl
theorem w_0_115 : (Cond.selects RX12 yX12_qHasSquare yX12_qHasSquare) ∈ wsL_law := sk_mem (ck_0 _ (List.mem_of_getElem? (i := 115) rfl)) rfl
theorem w_8_179 : (Cond.methodLink RX12 543 yX12_qDropsNots) ∈ wsL_law := sk_mem (ck_8 _ (List.mem_of_getElem? (i := 179) rfl)) rfl
theorem w_8_181 : (Cond.instanceMethod yX12_qDropsNots) ∈ wsL_law := sk_mem (ck_8 _ (List.mem_of_getElem? (i := 181) rfl)) rfl
theorem w_0_113 : (Cond.selects RX12 yX12_qDropsNots yX12_qDropsNots) ∈ wsL_law := sk_mem (ck_0 _ (List.mem_of_getElem? (i := 113) rfl)) rfl
theorem w_8_186 : (Cond.code yX12_qGoesOnTest cX12_qGoesOnTest 1 (some .boolean)) ∈ wsL_law := sk_mem (ck_8 _ (List.mem_of_getElem? (i := 186) rfl)) rfl
def om_6_32 : List Bool := true :: true :: false :: false :: true :: false :: []
def om_6_31 : List Bool := true :: true :: false :: false :: false :: true :: []
def om_6_2c : List Bool := true :: false :: true :: true :: false :: false :: []
theorem hd_X12_qHasSquare_0 : skD yX12_qHasSquare 0 := by decide +kernel
theorem hd_X12_qDropsNots_0 : skD yX12_qDropsNots 0 := by decide +kernel
theorem dg_X12_qTest_0_0 : bqL cX12_qTest 0 [(0, [4]), (1, [60]), (2, [27]), (3, [153, 0, 107]), (110, [42]), (111, [180, 0, 195]), (114, [154, 0, 17]), (131, [177]), (117, [42]), (118, [180, 1, 4]), (121, [158, 0, 10]), (124, [42]), (125, [182, 1, 248]), (128, [167, 255, 238]), (6, [42]), (7, [180, 0, 195]), (10, [154, 0, 100]), (13, [42]), (14, [182, 0, 207]), (17, [61]), (18, [28]), (19, [16, 91]), (21, [160, 0, 26]), (47, [42]), (48, [42]), (49, [180, 0, 132]), (52, [182, 0, 218]), (55, [153, 0, 24]), (79, [42]), (80, [182, 2, 28]), (83, [42]), (84, [182, 2, 31]), (87, [42]), (88, [180, 0, 195]), (91, [154, 0, 14]), (105, [3]), (106, [60]), (107, [167, 255, 151]), (94, [42]), (95, [182, 2, 34])] = true := by decide +kernel
theorem dX12_qTest_0 : decode cX12_qTest 0 = .ok (.iconst 1, 1) := q_iconst1 (bat_get dg_X12_qTest_0_0 0 rfl rfl)
theorem dX12_qTest_1 : decode cX12_qTest 1 = .ok (.istore_n 1, 1) := q_istore_n1 (bat_get dg_X12_qTest_0_0 1 rfl rfl)
theorem dX12_qTest_2 : decode cX12_qTest 2 = .ok (.iload_n 1, 1) := q_iload_n1 (bat_get dg_X12_qTest_0_0 2 rfl rfl)
theorem dX12_qTest_3 : decode cX12_qTest 3 = .ok (.ifCond .eq 107, 3) := q_ifCond_eq (bat_get dg_X12_qTest_0_0 3 rfl rfl) rfl
theorem dX12_qTest_110 : decode cX12_qTest 110 = .ok (.aload_n 0, 1) := q_aload_n0 (bat_get dg_X12_qTest_0_0 4 rfl rfl)
theorem dX12_qTest_111 : decode cX12_qTest 111 = .ok (.getfield 195, 3) := q_getfield (bat_get dg_X12_qTest_0_0 5 rfl rfl) rfl
theorem dX12_qTest_114 : decode cX12_qTest 114 = .ok (.ifCond .ne 17, 3) := q_ifCond_ne (bat_get dg_X12_qTest_0_0 6 rfl rfl) rfl
theorem dX12_qTest_131 : decode cX12_qTest 131 = .ok (.return_, 1) := q_return_ (bat_get dg_X12_qTest_0_0 7 rfl rfl)
theorem dX12_qTest_117 : decode cX12_qTest 117 = .ok (.aload_n 0, 1) := q_aload_n0 (bat_get dg_X12_qTest_0_0 8 rfl rfl)
theorem dX12_qTest_118 : decode cX12_qTest 118 = .ok (.getfield 260, 3) := q_getfield (bat_get dg_X12_qTest_0_0 9 rfl rfl) rfl
theorem dX12_qTest_121 : decode cX12_qTest 121 = .ok (.ifCond .le 10, 3) := q_ifCond_le (bat_get dg_X12_qTest_0_0 10 rfl rfl) rfl
theorem dX12_qTest_124 : decode cX12_qTest 124 = .ok (.aload_n 0, 1) := q_aload_n0 (bat_get dg_X12_qTest_0_0 11 rfl rfl)
theorem dX12_qTest_125 : decode cX12_qTest 125 = .ok (.invokevirtual 504, 3) := q_invokevirtual (bat_get dg_X12_qTest_0_0 12 rfl rfl) rfl
theorem dX12_qTest_128 : decode cX12_qTest 128 = .ok (.goto (-18), 3) := q_goto (bat_get dg_X12_qTest_0_0 13 rfl rfl) rfl
theorem dX12_qTest_6 : decode cX12_qTest 6 = .ok (.aload_n 0, 1) := q_aload_n0 (bat_get dg_X12_qTest_0_0 14 rfl rfl)
theorem dX12_qTest_7 : decode cX12_qTest 7 = .ok (.getfield 195, 3) := q_getfield (bat_get dg_X12_qTest_0_0 15 rfl rfl) rfl
theorem dX12_qTest_10 : decode cX12_qTest 10 = .ok (.ifCond .ne 100, 3) := q_ifCond_ne (bat_get dg_X12_qTest_0_0 16 rfl rfl) rfl
theorem dX12_qTest_13 : decode cX12_qTest 13 = .ok (.aload_n 0, 1) := q_aload_n0 (bat_get dg_X12_qTest_0_0 17 rfl rfl)
theorem dX12_qTest_14 : decode cX12_qTest 14 = .ok (.invokevirtual 207, 3) := q_invokevirtual (bat_get dg_X12_qTest_0_0 18 rfl rfl) rfl
theorem dX12_qTest_17 : decode cX12_qTest 17 = .ok (.istore_n 2, 1) := q_istore_n2 (bat_get dg_X12_qTest_0_0 19 rfl rfl)
theorem dX12_qTest_18 : decode cX12_qTest 18 = .ok (.iload_n 2, 1) := q_iload_n2 (bat_get dg_X12_qTest_0_0 20 rfl rfl)
theorem dX12_qTest_19 : decode cX12_qTest 19 = .ok (.bipush 91, 2) := q_bipush (bat_get dg_X12_qTest_0_0 21 rfl rfl) rfl
theorem dX12_qTest_21 : decode cX12_qTest 21 = .ok (.if_icmp .ne 26, 3) := q_if_icmp_ne (bat_get dg_X12_qTest_0_0 22 rfl rfl) rfl
theorem dX12_qTest_47 : decode cX12_qTest 47 = .ok (.aload_n 0, 1) := q_aload_n0 (bat_get dg_X12_qTest_0_0 23 rfl rfl)
theorem dX12_qTest_48 : decode cX12_qTest 48 = .ok (.aload_n 0, 1) := q_aload_n0 (bat_get dg_X12_qTest_0_0 24 rfl rfl)
theorem dX12_qTest_49 : decode cX12_qTest 49 = .ok (.getfield 132, 3) := q_getfield (bat_get dg_X12_qTest_0_0 25 rfl rfl) rfl
theorem dX12_qTest_52 : decode cX12_qTest 52 = .ok (.invokevirtual 218, 3) := q_invokevirtual (bat_get dg_X12_qTest_0_0 26 rfl rfl) rfl
theorem dX12_qTest_55 : decode cX12_qTest 55 = .ok (.ifCond .eq 24, 3) := q_ifCond_eq (bat_get dg_X12_qTest_0_0 27 rfl rfl) rfl
theorem dX12_qTest_79 : decode cX12_qTest 79 = .ok (.aload_n 0, 1) := q_aload_n0 (bat_get dg_X12_qTest_0_0 28 rfl rfl)
theorem dX12_qTest_80 : decode cX12_qTest 80 = .ok (.invokevirtual 540, 3) := q_invokevirtual (bat_get dg_X12_qTest_0_0 29 rfl rfl) rfl
theorem dX12_qTest_83 : decode cX12_qTest 83 = .ok (.aload_n 0, 1) := q_aload_n0 (bat_get dg_X12_qTest_0_0 30 rfl rfl)
theorem dX12_qTest_84 : decode cX12_qTest 84 = .ok (.invokevirtual 543, 3) := q_invokevirtual (bat_get dg_X12_qTest_0_0 31 rfl rfl) rfl
theorem dX12_qTest_87 : decode cX12_qTest 87 = .ok (.aload_n 0, 1) := q_aload_n0 (bat_get dg_X12_qTest_0_0 32 rfl rfl)
theorem dX12_qTest_88 : decode cX12_qTest 88 = .ok (.getfield 195, 3) := q_getfield (bat_get dg_X12_qTest_0_0 33 rfl rfl) rfl
theorem dX12_qTest_91 : decode cX12_qTest 91 = .ok (.ifCond .ne 14, 3) := q_ifCond_ne (bat_get dg_X12_qTest_0_0 34 rfl rfl) rfl
theorem dX12_qTest_105 : decode cX12_qTest 105 = .ok (.iconst 0, 1) := q_iconst0 (bat_get dg_X12_qTest_0_0 35 rfl rfl)
theorem dX12_qTest_106 : decode cX12_qTest 106 = .ok (.istore_n 1, 1) := q_istore_n1 (bat_get dg_X12_qTest_0_0 36 rfl rfl)
theorem dX12_qTest_107 : decode cX12_qTest 107 = .ok (.goto (-105), 3) := q_goto (bat_get dg_X12_qTest_0_0 37 rfl rfl) rfl
theorem dX12_qTest_94 : decode cX12_qTest 94 = .ok (.aload_n 0, 1) := q_aload_n0 (bat_get dg_X12_qTest_0_0 38 rfl rfl)
theorem dX12_qTest_95 : decode cX12_qTest 95 = .ok (.invokevirtual 546, 3) := q_invokevirtual (bat_get dg_X12_qTest_0_0 39 rfl rfl) rfl
theorem dg_X12_qTest_24_98 : bqL cX12_qTest 24 [(74, [153, 0, 7]), (77, [4]), (78, [167, 0, 4]), (34, [42]), (35, [16, 12]), (37, [42]), (38, [180, 0, 201]), (41, [182, 2, 4]), (44, [42]), (45, [42]), (46, [180, 0, 132]), (49, [182, 0, 245]), (52, [167, 255, 182]), (0, [42]), (1, [16, 25]), (3, [42]), (4, [180, 0, 201]), (7, [182, 2, 4]), (10, [42]), (11, [89]), (12, [180, 0, 201]), (15, [4]), (16, [96]), (17, [181, 0, 201]), (20, [167, 255, 214])] = true := by decide +kernel
theorem dX12_qTest_98 : decode cX12_qTest 98 = .ok (.ifCond .eq 7, 3) := q_ifCond_eq (bat_get dg_X12_qTest_24_98 0 rfl rfl) rfl
theorem dX12_qTest_101 : decode cX12_qTest 101 = .ok (.iconst 1, 1) := q_iconst1 (bat_get dg_X12_qTest_24_98 1 rfl rfl)
theorem dX12_qTest_102 : decode cX12_qTest 102 = .ok (.goto 4, 3) := q_goto (bat_get dg_X12_qTest_24_98 2 rfl rfl) rfl
theorem dX12_qTest_58 : decode cX12_qTest 58 = .ok (.aload_n 0, 1) := q_aload_n0 (bat_get dg_X12_qTest_24_98 3 rfl rfl)
theorem dX12_qTest_59 : decode cX12_qTest 59 = .ok (.bipush 12, 2) := q_bipush (bat_get dg_X12_qTest_24_98 4 rfl rfl) rfl
theorem dX12_qTest_61 : decode cX12_qTest 61 = .ok (.aload_n 0, 1) := q_aload_n0 (bat_get dg_X12_qTest_24_98 5 rfl rfl)
theorem dX12_qTest_62 : decode cX12_qTest 62 = .ok (.getfield 201, 3) := q_getfield (bat_get dg_X12_qTest_24_98 6 rfl rfl) rfl
theorem dX12_qTest_65 : decode cX12_qTest 65 = .ok (.invokevirtual 516, 3) := q_invokevirtual (bat_get dg_X12_qTest_24_98 7 rfl rfl) rfl
theorem dX12_qTest_68 : decode cX12_qTest 68 = .ok (.aload_n 0, 1) := q_aload_n0 (bat_get dg_X12_qTest_24_98 8 rfl rfl)
theorem dX12_qTest_69 : decode cX12_qTest 69 = .ok (.aload_n 0, 1) := q_aload_n0 (bat_get dg_X12_qTest_24_98 9 rfl rfl)
theorem dX12_qTest_70 : decode cX12_qTest 70 = .ok (.getfield 132, 3) := q_getfield (bat_get dg_X12_qTest_24_98 10 rfl rfl) rfl
theorem dX12_qTest_73 : decode cX12_qTest 73 = .ok (.invokevirtual 245, 3) := q_invokevirtual (bat_get dg_X12_qTest_24_98 11 rfl rfl) rfl
theorem dX12_qTest_76 : decode cX12_qTest 76 = .ok (.goto (-74), 3) := q_goto (bat_get dg_X12_qTest_24_98 12 rfl rfl) rfl
theorem dX12_qTest_24 : decode cX12_qTest 24 = .ok (.aload_n 0, 1) := q_aload_n0 (bat_get dg_X12_qTest_24_98 13 rfl rfl)
theorem dX12_qTest_25 : decode cX12_qTest 25 = .ok (.bipush 25, 2) := q_bipush (bat_get dg_X12_qTest_24_98 14 rfl rfl) rfl
theorem dX12_qTest_27 : decode cX12_qTest 27 = .ok (.aload_n 0, 1) := q_aload_n0 (bat_get dg_X12_qTest_24_98 15 rfl rfl)
theorem dX12_qTest_28 : decode cX12_qTest 28 = .ok (.getfield 201, 3) := q_getfield (bat_get dg_X12_qTest_24_98 16 rfl rfl) rfl
theorem dX12_qTest_31 : decode cX12_qTest 31 = .ok (.invokevirtual 516, 3) := q_invokevirtual (bat_get dg_X12_qTest_24_98 17 rfl rfl) rfl
theorem dX12_qTest_34 : decode cX12_qTest 34 = .ok (.aload_n 0, 1) := q_aload_n0 (bat_get dg_X12_qTest_24_98 18 rfl rfl)
theorem dX12_qTest_35 : decode cX12_qTest 35 = .ok (.dup, 1) := q_dup (bat_get dg_X12_qTest_24_98 19 rfl rfl)
theorem dX12_qTest_36 : decode cX12_qTest 36 = .ok (.getfield 201, 3) := q_getfield (bat_get dg_X12_qTest_24_98 20 rfl rfl) rfl
theorem dX12_qTest_39 : decode cX12_qTest 39 = .ok (.iconst 1, 1) := q_iconst1 (bat_get dg_X12_qTest_24_98 21 rfl rfl)
theorem dX12_qTest_40 : decode cX12_qTest 40 = .ok (.iadd, 1) := q_iadd (bat_get dg_X12_qTest_24_98 22 rfl rfl)
theorem dX12_qTest_41 : decode cX12_qTest 41 = .ok (.putfield 201, 3) := q_putfield (bat_get dg_X12_qTest_24_98 23 rfl rfl) rfl
theorem dX12_qTest_44 : decode cX12_qTest 44 = .ok (.goto (-42), 3) := q_goto (bat_get dg_X12_qTest_24_98 24 rfl rfl) rfl
theorem w_5_219 : (Cond.fieldLink RX12 132 "SameKeeperModel" "notAsked" "[C") ∈ wsL_law := sk_mem (ck_5 _ (List.mem_of_getElem? (i := 219) rfl)) rfl
theorem w_8_175 : (Cond.methodLink RX12 540 yX12_qFact) ∈ wsL_law := sk_mem (ck_8 _ (List.mem_of_getElem? (i := 175) rfl)) rfl
theorem w_8_177 : (Cond.instanceMethod yX12_qFact) ∈ wsL_law := sk_mem (ck_8 _ (List.mem_of_getElem? (i := 177) rfl)) rfl
theorem w_0_112 : (Cond.selects RX12 yX12_qFact yX12_qFact) ∈ wsL_law := sk_mem (ck_0 _ (List.mem_of_getElem? (i := 112) rfl)) rfl
theorem w_8_183 : (Cond.methodLink RX12 546 yX12_qGoesOnTest) ∈ wsL_law := sk_mem (ck_8 _ (List.mem_of_getElem? (i := 183) rfl)) rfl
theorem w_8_185 : (Cond.instanceMethod yX12_qGoesOnTest) ∈ wsL_law := sk_mem (ck_8 _ (List.mem_of_getElem? (i := 185) rfl)) rfl
theorem w_0_114 : (Cond.selects RX12 yX12_qGoesOnTest yX12_qGoesOnTest) ∈ wsL_law := sk_mem (ck_0 _ (List.mem_of_getElem? (i := 114) rfl)) rfl
theorem w_8_174 : (Cond.code yX12_qTest cX12_qTest 3 none) ∈ wsL_law := sk_mem (ck_8 _ (List.mem_of_getElem? (i := 174) rfl)) rfl
def om_21_160000 : List Bool := true :: false :: true :: true :: false :: false :: false :: false :: false :: false :: false :: false :: false :: false :: false :: false :: false :: false :: false :: false :: false :: []
def om_21_180000 : List Bool := true :: true :: false :: false :: false :: false :: false :: false :: false :: false :: false :: false :: false :: false :: false :: false :: false :: false :: false :: false :: false :: []
def om_21_180004 : List Bool := true :: true :: false :: false :: false :: false :: false :: false :: false :: false :: false :: false :: false :: false :: false :: false :: false :: false :: true :: false :: false :: []
def om_21_1ffff8 : List Bool := true :: true :: true :: true :: true :: true :: true :: true :: true :: true :: true :: true :: true :: true :: true :: true :: true :: true :: false :: false :: false :: []
def om_21_1e0003 : List Bool := true :: true :: true :: true :: false :: false :: false :: false :: false :: false :: false :: false :: false :: false :: false :: false :: false :: false :: false :: true :: true :: []
def om_21_120000 : List Bool := true :: false :: false :: true :: false :: false :: false :: false :: false :: false :: false :: false :: false :: false :: false :: false :: false :: false :: false :: false :: false :: []
theorem hd_X12_qFact_0 : skD yX12_qFact 0 := by decide +kernel
theorem hd_X12_qGoesOnTest_0 : skD yX12_qGoesOnTest 0 := by decide +kernel
theorem dk_congr {f g : Nat → Nat} {n : Nat} (h : ∀ j, j < n → f j = g j) : dk f n = dk g n := by
  induction n with
  | zero => rfl
  | succ n ih => rw [dk, dk, ih (fun j hj => h j (by omega)), h n (by omega)]
theorem de_dk {f : Nat → Nat} {n : Nat} (h : nnc f 0 n) : de f n ≤ dk f n := by
  induction n with
  | zero => exact Nat.le_refl _
  | succ n ih =>
    have h1 := ih (fun j q1 q2 => h j q1 (by omega))
    have h2 := h n (by omega) (by omega)
    rw [dk, de]
    split
    · rw [if_neg (by omega)]; omega
    · split
      · rw [if_neg (by omega)]; omega
      · rw [if_pos (by omega)]; omega
def cpy (cs qs : Nat → Nat) (c i : Nat) (zs : Nat → Nat) : Prop := ∀ j, zs j = if c ≤ j ∧ j < c + i then qs (j - c) else cs j
theorem cpy_0 {cs qs : Nat → Nat} {c : Nat} : cpy cs qs c 0 cs := fun j => by rw [if_neg (by omega)]
theorem cpy_s {cs qs zs zs2 : Nat → Nat} {c i k v : Nat} (h : cpy cs qs c i zs) (hk : k = c + i) (e : zs2 = updN zs k v) (hv : v = qs i) : cpy cs qs c (i + 1) zs2 := by
  subst e; subst hk; subst hv
  intro j
  by_cases q : j = c + i
  · subst q; rw [updN_at, if_pos (by omega), show c + i - c = i by omega]
  · rw [updN_ne zs q, h j]
    by_cases q2 : c ≤ j ∧ j < c + i
    · rw [if_pos q2, if_pos (by omega)]
    · rw [if_neg q2, if_neg (by omega)]
theorem cpy_in {cs qs zs : Nat → Nat} {c i j : Nat} (h : cpy cs qs c i zs) (hj : j < i) : zs (c + j) = qs j := by
  rw [h (c + j), if_pos (by omega), show c + j - c = j by omega]
theorem cpy_out {cs qs zs : Nat → Nat} {c i j : Nat} (h : cpy cs qs c i zs) (hj : ¬ (c ≤ j ∧ j < c + i)) : zs j = cs j := by
  rw [h j, if_neg hj]
theorem pv_congr {f g : Nat → Nat} {o o' n : Nat} (h : ∀ j, j < n → f (o + j) = g (o' + j)) (hp : pv f o n) : pv g o' n := by
  intro j hj hc
  rw [← h j hj] at hc
  have h1 := hp j hj hc
  rw [dk_congr (f := fun i => g (o' + i)) (g := fun i => f (o + i)) (fun i hi => (h i (by omega)).symm)]
  exact h1
def lowOk (cs : Nat → Nat) (c : Nat) (x y : Int32) : Prop := x = -1 ∨ ∃ a b : Nat, a ≤ b ∧ b ≤ c ∧ x = nI a ∧ y = nI b ∧ pv cs a (b - a)
theorem low_cpy {cs qs zs : Nat → Nat} {c i k : Nat} {x y : Int32} (h : lowOk cs c x y) (hk : k = c + i) (hc : cpy cs qs c i zs) : lowOk zs k x y := by
  rcases h with h | ⟨a, b, h1, h2, h3, h4, h5⟩
  · exact Or.inl h
  · exact Or.inr ⟨a, b, h1, by omega, h3, h4, pv_congr (fun j hj => (cpy_out hc (by omega)).symm) h5⟩
theorem low_fin {cs qs zs qt : Nat → Nat} {K c i k n b w : Nat} (hk : k = c + i) (hi : i = n) (h : SJ K 0 qs n qt b w) (hc : cpy cs qs c i zs) : lowOk zs k (nI c) (nI k) := by
  subst hk; subst hi
  obtain ⟨-, h2, h3, -⟩ := h
  refine Or.inr ⟨c, c + i, by omega, by omega, rfl, rfl, ?_⟩
  rw [show c + i - c = i by omega]
  intro j hj hcc
  rw [cpy_in hc hj] at hcc
  rw [dk_congr (f := fun i => zs (c + i)) (g := qs) (fun q hq => cpy_in hc (by omega))]
  have h4 := h3 j (by omega) hj
  have h5 := (h2 j hj).2 hcc h4.1 h4.2
  have h6 := de_dk (f := qs) (n := j) (fun q q1 q2 => h3 q q1 (by omega))
  omega
theorem low_prog {cs zs : Nat → Nat} {c i : Nat} {x y : Int32} (h : lowOk cs c x y) (hi : c ≤ i) (hc2 : c ≤ 1600) (hc : cpy cs cs 1600 i zs) : progOk zs x y := by
  rcases h with h | ⟨a, b, h1, h2, h3, h4, h5⟩
  · exact Or.inl h
  · exact Or.inr ⟨a, b, h1, by omega, h3, h4, pv_congr (fun j hj => by rw [show 1600 + a + j = 1600 + (a + j) by omega, cpy_in hc (by omega)]) h5⟩
def upE (cs cs2 : Nat → Nat) : Prop := ∀ j, 1600 ≤ j → cs2 j = cs j
theorem upE_rf {cs : Nat → Nat} : upE cs cs := fun _ _ => rfl
theorem upE_tr {a b c : Nat → Nat} (h1 : upE a b) (h2 : upE b c) : upE a c := fun j h => (h2 j h).trans (h1 j h)
theorem upE_cpy {cs qs zs : Nat → Nat} {c i : Nat} (hc : cpy cs qs c i zs) (h : c + i ≤ 1600) : upE cs zs := fun j hj => cpy_out hc (by omega)
theorem prog_up {cs zs : Nat → Nat} {x y : Int32} (h : progOk cs x y) (hu : upE cs zs) : progOk zs x y := by
  rcases h with h | ⟨a, b, h1, h2, h3, h4, h5⟩
  · exact Or.inl h
  · exact Or.inr ⟨a, b, h1, h2, h3, h4, pv_congr (fun j hj => (hu _ (by omega)).symm) h5⟩
theorem dq {qs : Nat → Nat} {i z z' : Nat} (hz : z = de qs i) (h : ((1000 ≤ qs i ∨ (40 ≤ qs i ∧ qs i < 60) ∨ qs i = 13) ∧ z' = z + 1) ∨ (((60 ≤ qs i ∧ qs i < 1000) ∨ qs i = 12) ∧ z' = z) ∨ (qs i < 40 ∧ ¬ qs i = 12 ∧ ¬ qs i = 13 ∧ z' = z - 1)) : z' = de qs (i + 1) := by
  rcases h with ⟨h1, h2⟩ | ⟨h1, h2⟩ | ⟨h1, h2, h3, h4⟩
  · rw [de_p h1]; omega
  · rw [de_u h1]; omega
  · rw [de_b h1 h2 h3]; omega
theorem qof_k {b : Nat} {x : Int64} (h : b = 0 ∨ (b = 1 ∧ (0 : Int64) ≤ x ∧ x ≤ 9)) (hb : ¬ b = 0) : ∃ k : Nat, k < 10 ∧ x.toInt32 = nI k := by
  obtain ⟨-, h1, h2⟩ := h.resolve_left hb
  have q1 := Int64.le_iff_toInt_le.mp h1
  have q2 := Int64.le_iff_toInt_le.mp h2
  have e0 : (0 : Int64).toInt = 0 := rfl
  have e9 : (9 : Int64).toInt = 9 := rfl
  rw [e0] at q1
  rw [e9] at q2
  exact nl2i (n := 10) q1 (by omega) (by omega)
theorem dg_X12_lockTold_0_0 : bqL cX12_lockTold 0 [(0, [42]), (1, [42]), (2, [180, 0, 20]), (5, [182, 0, 245]), (8, [42]), (9, [180, 0, 48]), (12, [3]), (13, [42]), (14, [5]), (15, [16, 9]), (17, [182, 0, 249]), (20, [79]), (21, [42]), (22, [42]), (23, [180, 0, 24]), (26, [182, 0, 245]), (29, [42]), (30, [180, 0, 48]), (33, [4]), (34, [42]), (35, [3]), (36, [16, 9]), (38, [182, 0, 249]), (41, [79]), (42, [42]), (43, [16, 59]), (45, [182, 0, 253]), (48, [177])] = true := by decide +kernel
theorem dX12_lockTold_0 : decode cX12_lockTold 0 = .ok (.aload_n 0, 1) := q_aload_n0 (bat_get dg_X12_lockTold_0_0 0 rfl rfl)
theorem dX12_lockTold_1 : decode cX12_lockTold 1 = .ok (.aload_n 0, 1) := q_aload_n0 (bat_get dg_X12_lockTold_0_0 1 rfl rfl)
theorem dX12_lockTold_2 : decode cX12_lockTold 2 = .ok (.getfield 20, 3) := q_getfield (bat_get dg_X12_lockTold_0_0 2 rfl rfl) rfl
theorem dX12_lockTold_5 : decode cX12_lockTold 5 = .ok (.invokevirtual 245, 3) := q_invokevirtual (bat_get dg_X12_lockTold_0_0 3 rfl rfl) rfl
theorem dX12_lockTold_8 : decode cX12_lockTold 8 = .ok (.aload_n 0, 1) := q_aload_n0 (bat_get dg_X12_lockTold_0_0 4 rfl rfl)
theorem dX12_lockTold_9 : decode cX12_lockTold 9 = .ok (.getfield 48, 3) := q_getfield (bat_get dg_X12_lockTold_0_0 5 rfl rfl) rfl
theorem dX12_lockTold_12 : decode cX12_lockTold 12 = .ok (.iconst 0, 1) := q_iconst0 (bat_get dg_X12_lockTold_0_0 6 rfl rfl)
theorem dX12_lockTold_13 : decode cX12_lockTold 13 = .ok (.aload_n 0, 1) := q_aload_n0 (bat_get dg_X12_lockTold_0_0 7 rfl rfl)
theorem dX12_lockTold_14 : decode cX12_lockTold 14 = .ok (.iconst 2, 1) := q_iconst2 (bat_get dg_X12_lockTold_0_0 8 rfl rfl)
theorem dX12_lockTold_15 : decode cX12_lockTold 15 = .ok (.bipush 9, 2) := q_bipush (bat_get dg_X12_lockTold_0_0 9 rfl rfl) rfl
theorem dX12_lockTold_17 : decode cX12_lockTold 17 = .ok (.invokevirtual 249, 3) := q_invokevirtual (bat_get dg_X12_lockTold_0_0 10 rfl rfl) rfl
theorem dX12_lockTold_20 : decode cX12_lockTold 20 = .ok (.iastore, 1) := q_iastore (bat_get dg_X12_lockTold_0_0 11 rfl rfl)
theorem dX12_lockTold_21 : decode cX12_lockTold 21 = .ok (.aload_n 0, 1) := q_aload_n0 (bat_get dg_X12_lockTold_0_0 12 rfl rfl)
theorem dX12_lockTold_22 : decode cX12_lockTold 22 = .ok (.aload_n 0, 1) := q_aload_n0 (bat_get dg_X12_lockTold_0_0 13 rfl rfl)
theorem dX12_lockTold_23 : decode cX12_lockTold 23 = .ok (.getfield 24, 3) := q_getfield (bat_get dg_X12_lockTold_0_0 14 rfl rfl) rfl
theorem dX12_lockTold_26 : decode cX12_lockTold 26 = .ok (.invokevirtual 245, 3) := q_invokevirtual (bat_get dg_X12_lockTold_0_0 15 rfl rfl) rfl
theorem dX12_lockTold_29 : decode cX12_lockTold 29 = .ok (.aload_n 0, 1) := q_aload_n0 (bat_get dg_X12_lockTold_0_0 16 rfl rfl)
theorem dX12_lockTold_30 : decode cX12_lockTold 30 = .ok (.getfield 48, 3) := q_getfield (bat_get dg_X12_lockTold_0_0 17 rfl rfl) rfl
theorem dX12_lockTold_33 : decode cX12_lockTold 33 = .ok (.iconst 1, 1) := q_iconst1 (bat_get dg_X12_lockTold_0_0 18 rfl rfl)
theorem dX12_lockTold_34 : decode cX12_lockTold 34 = .ok (.aload_n 0, 1) := q_aload_n0 (bat_get dg_X12_lockTold_0_0 19 rfl rfl)
theorem dX12_lockTold_35 : decode cX12_lockTold 35 = .ok (.iconst 0, 1) := q_iconst0 (bat_get dg_X12_lockTold_0_0 20 rfl rfl)
theorem dX12_lockTold_36 : decode cX12_lockTold 36 = .ok (.bipush 9, 2) := q_bipush (bat_get dg_X12_lockTold_0_0 21 rfl rfl) rfl
theorem dX12_lockTold_38 : decode cX12_lockTold 38 = .ok (.invokevirtual 249, 3) := q_invokevirtual (bat_get dg_X12_lockTold_0_0 22 rfl rfl) rfl
theorem dX12_lockTold_41 : decode cX12_lockTold 41 = .ok (.iastore, 1) := q_iastore (bat_get dg_X12_lockTold_0_0 23 rfl rfl)
theorem dX12_lockTold_42 : decode cX12_lockTold 42 = .ok (.aload_n 0, 1) := q_aload_n0 (bat_get dg_X12_lockTold_0_0 24 rfl rfl)
theorem dX12_lockTold_43 : decode cX12_lockTold 43 = .ok (.bipush 59, 2) := q_bipush (bat_get dg_X12_lockTold_0_0 25 rfl rfl) rfl
theorem dX12_lockTold_45 : decode cX12_lockTold 45 = .ok (.invokevirtual 253, 3) := q_invokevirtual (bat_get dg_X12_lockTold_0_0 26 rfl rfl) rfl
theorem dX12_lockTold_48 : decode cX12_lockTold 48 = .ok (.return_, 1) := q_return_ (bat_get dg_X12_lockTold_0_0 27 rfl rfl)
theorem w_5_166 : (Cond.fieldLink RX12 20 "SameKeeperModel" "lockWord" "[C") ∈ wsL_law := sk_mem (ck_5 _ (List.mem_of_getElem? (i := 166) rfl)) rfl
theorem w_5_167 : (Cond.fieldLink RX12 24 "SameKeeperModel" "fromWord" "[C") ∈ wsL_law := sk_mem (ck_5 _ (List.mem_of_getElem? (i := 167) rfl)) rfl
theorem w_6_209 : (Cond.code yX12_lockTold cX12_lockTold 1 none) ∈ wsL_law := sk_mem (ck_6 _ (List.mem_of_getElem? (i := 209) rfl)) rfl
theorem dg_X12_dayTold_0_0 : bqL cX12_dayTold 0 [(0, [42]), (1, [3]), (2, [42]), (3, [180, 0, 48]), (6, [3]), (7, [46]), (8, [4]), (9, [100]), (10, [182, 0, 249]), (13, [61]), (14, [42]), (15, [3]), (16, [16, 9]), (18, [182, 0, 249]), (21, [62]), (22, [42]), (23, [180, 0, 195]), (26, [154, 0, 14]), (40, [177]), (29, [42]), (30, [180, 0, 51]), (33, [6]), (34, [28]), (35, [104]), (36, [27]), (37, [96]), (38, [29]), (39, [79])] = true := by decide +kernel
theorem dX12_dayTold_0 : decode cX12_dayTold 0 = .ok (.aload_n 0, 1) := q_aload_n0 (bat_get dg_X12_dayTold_0_0 0 rfl rfl)
theorem dX12_dayTold_1 : decode cX12_dayTold 1 = .ok (.iconst 0, 1) := q_iconst0 (bat_get dg_X12_dayTold_0_0 1 rfl rfl)
theorem dX12_dayTold_2 : decode cX12_dayTold 2 = .ok (.aload_n 0, 1) := q_aload_n0 (bat_get dg_X12_dayTold_0_0 2 rfl rfl)
theorem dX12_dayTold_3 : decode cX12_dayTold 3 = .ok (.getfield 48, 3) := q_getfield (bat_get dg_X12_dayTold_0_0 3 rfl rfl) rfl
theorem dX12_dayTold_6 : decode cX12_dayTold 6 = .ok (.iconst 0, 1) := q_iconst0 (bat_get dg_X12_dayTold_0_0 4 rfl rfl)
theorem dX12_dayTold_7 : decode cX12_dayTold 7 = .ok (.iaload, 1) := q_iaload (bat_get dg_X12_dayTold_0_0 5 rfl rfl)
theorem dX12_dayTold_8 : decode cX12_dayTold 8 = .ok (.iconst 1, 1) := q_iconst1 (bat_get dg_X12_dayTold_0_0 6 rfl rfl)
theorem dX12_dayTold_9 : decode cX12_dayTold 9 = .ok (.isub, 1) := q_isub (bat_get dg_X12_dayTold_0_0 7 rfl rfl)
theorem dX12_dayTold_10 : decode cX12_dayTold 10 = .ok (.invokevirtual 249, 3) := q_invokevirtual (bat_get dg_X12_dayTold_0_0 8 rfl rfl) rfl
theorem dX12_dayTold_13 : decode cX12_dayTold 13 = .ok (.istore_n 2, 1) := q_istore_n2 (bat_get dg_X12_dayTold_0_0 9 rfl rfl)
theorem dX12_dayTold_14 : decode cX12_dayTold 14 = .ok (.aload_n 0, 1) := q_aload_n0 (bat_get dg_X12_dayTold_0_0 10 rfl rfl)
theorem dX12_dayTold_15 : decode cX12_dayTold 15 = .ok (.iconst 0, 1) := q_iconst0 (bat_get dg_X12_dayTold_0_0 11 rfl rfl)
theorem dX12_dayTold_16 : decode cX12_dayTold 16 = .ok (.bipush 9, 2) := q_bipush (bat_get dg_X12_dayTold_0_0 12 rfl rfl) rfl
theorem dX12_dayTold_18 : decode cX12_dayTold 18 = .ok (.invokevirtual 249, 3) := q_invokevirtual (bat_get dg_X12_dayTold_0_0 13 rfl rfl) rfl
theorem dX12_dayTold_21 : decode cX12_dayTold 21 = .ok (.istore_n 3, 1) := q_istore_n3 (bat_get dg_X12_dayTold_0_0 14 rfl rfl)
theorem dX12_dayTold_22 : decode cX12_dayTold 22 = .ok (.aload_n 0, 1) := q_aload_n0 (bat_get dg_X12_dayTold_0_0 15 rfl rfl)
theorem dX12_dayTold_23 : decode cX12_dayTold 23 = .ok (.getfield 195, 3) := q_getfield (bat_get dg_X12_dayTold_0_0 16 rfl rfl) rfl
theorem dX12_dayTold_26 : decode cX12_dayTold 26 = .ok (.ifCond .ne 14, 3) := q_ifCond_ne (bat_get dg_X12_dayTold_0_0 17 rfl rfl) rfl
theorem dX12_dayTold_40 : decode cX12_dayTold 40 = .ok (.return_, 1) := q_return_ (bat_get dg_X12_dayTold_0_0 18 rfl rfl)
theorem dX12_dayTold_29 : decode cX12_dayTold 29 = .ok (.aload_n 0, 1) := q_aload_n0 (bat_get dg_X12_dayTold_0_0 19 rfl rfl)
theorem dX12_dayTold_30 : decode cX12_dayTold 30 = .ok (.getfield 51, 3) := q_getfield (bat_get dg_X12_dayTold_0_0 20 rfl rfl) rfl
theorem dX12_dayTold_33 : decode cX12_dayTold 33 = .ok (.iconst 3, 1) := q_iconst3 (bat_get dg_X12_dayTold_0_0 21 rfl rfl)
theorem dX12_dayTold_34 : decode cX12_dayTold 34 = .ok (.iload_n 2, 1) := q_iload_n2 (bat_get dg_X12_dayTold_0_0 22 rfl rfl)
theorem dX12_dayTold_35 : decode cX12_dayTold 35 = .ok (.imul, 1) := q_imul (bat_get dg_X12_dayTold_0_0 23 rfl rfl)
theorem dX12_dayTold_36 : decode cX12_dayTold 36 = .ok (.iload_n 1, 1) := q_iload_n1 (bat_get dg_X12_dayTold_0_0 24 rfl rfl)
theorem dX12_dayTold_37 : decode cX12_dayTold 37 = .ok (.iadd, 1) := q_iadd (bat_get dg_X12_dayTold_0_0 25 rfl rfl)
theorem dX12_dayTold_38 : decode cX12_dayTold 38 = .ok (.iload_n 3, 1) := q_iload_n3 (bat_get dg_X12_dayTold_0_0 26 rfl rfl)
theorem dX12_dayTold_39 : decode cX12_dayTold 39 = .ok (.iastore, 1) := q_iastore (bat_get dg_X12_dayTold_0_0 27 rfl rfl)
theorem w_5_176 : (Cond.fieldLink RX12 51 "SameKeeperModel" "days0" "[I") ∈ wsL_law := sk_mem (ck_5 _ (List.mem_of_getElem? (i := 176) rfl)) rfl
theorem w_7_18 : (Cond.code yX12_dayTold cX12_dayTold 4 none) ∈ wsL_law := sk_mem (ck_7 _ (List.mem_of_getElem? (i := 18) rfl)) rfl
theorem dg_X12_muteTold_0_0 : bqL cX12_muteTold 0 [(0, [42]), (1, [3]), (2, [42]), (3, [180, 0, 48]), (6, [3]), (7, [46]), (8, [4]), (9, [100]), (10, [182, 0, 249]), (13, [60]), (14, [42]), (15, [180, 0, 195]), (18, [154, 0, 26]), (44, [42]), (45, [180, 0, 195]), (48, [154, 0, 14]), (62, [177]), (51, [42]), (52, [180, 0, 51]), (55, [6]), (56, [27]), (57, [104]), (58, [5]), (59, [96]), (60, [4]), (61, [79]), (21, [42]), (22, [180, 0, 51]), (25, [6]), (26, [27]), (27, [104]), (28, [5]), (29, [96]), (30, [46]), (31, [4]), (32, [160, 0, 12]), (35, [42]), (36, [5]), (37, [42]), (38, [180, 0, 235])] = true := by decide +kernel
theorem dX12_muteTold_0 : decode cX12_muteTold 0 = .ok (.aload_n 0, 1) := q_aload_n0 (bat_get dg_X12_muteTold_0_0 0 rfl rfl)
theorem dX12_muteTold_1 : decode cX12_muteTold 1 = .ok (.iconst 0, 1) := q_iconst0 (bat_get dg_X12_muteTold_0_0 1 rfl rfl)
theorem dX12_muteTold_2 : decode cX12_muteTold 2 = .ok (.aload_n 0, 1) := q_aload_n0 (bat_get dg_X12_muteTold_0_0 2 rfl rfl)
theorem dX12_muteTold_3 : decode cX12_muteTold 3 = .ok (.getfield 48, 3) := q_getfield (bat_get dg_X12_muteTold_0_0 3 rfl rfl) rfl
theorem dX12_muteTold_6 : decode cX12_muteTold 6 = .ok (.iconst 0, 1) := q_iconst0 (bat_get dg_X12_muteTold_0_0 4 rfl rfl)
theorem dX12_muteTold_7 : decode cX12_muteTold 7 = .ok (.iaload, 1) := q_iaload (bat_get dg_X12_muteTold_0_0 5 rfl rfl)
theorem dX12_muteTold_8 : decode cX12_muteTold 8 = .ok (.iconst 1, 1) := q_iconst1 (bat_get dg_X12_muteTold_0_0 6 rfl rfl)
theorem dX12_muteTold_9 : decode cX12_muteTold 9 = .ok (.isub, 1) := q_isub (bat_get dg_X12_muteTold_0_0 7 rfl rfl)
theorem dX12_muteTold_10 : decode cX12_muteTold 10 = .ok (.invokevirtual 249, 3) := q_invokevirtual (bat_get dg_X12_muteTold_0_0 8 rfl rfl) rfl
theorem dX12_muteTold_13 : decode cX12_muteTold 13 = .ok (.istore_n 1, 1) := q_istore_n1 (bat_get dg_X12_muteTold_0_0 9 rfl rfl)
theorem dX12_muteTold_14 : decode cX12_muteTold 14 = .ok (.aload_n 0, 1) := q_aload_n0 (bat_get dg_X12_muteTold_0_0 10 rfl rfl)
theorem dX12_muteTold_15 : decode cX12_muteTold 15 = .ok (.getfield 195, 3) := q_getfield (bat_get dg_X12_muteTold_0_0 11 rfl rfl) rfl
theorem dX12_muteTold_18 : decode cX12_muteTold 18 = .ok (.ifCond .ne 26, 3) := q_ifCond_ne (bat_get dg_X12_muteTold_0_0 12 rfl rfl) rfl
theorem dX12_muteTold_44 : decode cX12_muteTold 44 = .ok (.aload_n 0, 1) := q_aload_n0 (bat_get dg_X12_muteTold_0_0 13 rfl rfl)
theorem dX12_muteTold_45 : decode cX12_muteTold 45 = .ok (.getfield 195, 3) := q_getfield (bat_get dg_X12_muteTold_0_0 14 rfl rfl) rfl
theorem dX12_muteTold_48 : decode cX12_muteTold 48 = .ok (.ifCond .ne 14, 3) := q_ifCond_ne (bat_get dg_X12_muteTold_0_0 15 rfl rfl) rfl
theorem dX12_muteTold_62 : decode cX12_muteTold 62 = .ok (.return_, 1) := q_return_ (bat_get dg_X12_muteTold_0_0 16 rfl rfl)
theorem dX12_muteTold_51 : decode cX12_muteTold 51 = .ok (.aload_n 0, 1) := q_aload_n0 (bat_get dg_X12_muteTold_0_0 17 rfl rfl)
theorem dX12_muteTold_52 : decode cX12_muteTold 52 = .ok (.getfield 51, 3) := q_getfield (bat_get dg_X12_muteTold_0_0 18 rfl rfl) rfl
theorem dX12_muteTold_55 : decode cX12_muteTold 55 = .ok (.iconst 3, 1) := q_iconst3 (bat_get dg_X12_muteTold_0_0 19 rfl rfl)
theorem dX12_muteTold_56 : decode cX12_muteTold 56 = .ok (.iload_n 1, 1) := q_iload_n1 (bat_get dg_X12_muteTold_0_0 20 rfl rfl)
theorem dX12_muteTold_57 : decode cX12_muteTold 57 = .ok (.imul, 1) := q_imul (bat_get dg_X12_muteTold_0_0 21 rfl rfl)
theorem dX12_muteTold_58 : decode cX12_muteTold 58 = .ok (.iconst 2, 1) := q_iconst2 (bat_get dg_X12_muteTold_0_0 22 rfl rfl)
theorem dX12_muteTold_59 : decode cX12_muteTold 59 = .ok (.iadd, 1) := q_iadd (bat_get dg_X12_muteTold_0_0 23 rfl rfl)
theorem dX12_muteTold_60 : decode cX12_muteTold 60 = .ok (.iconst 1, 1) := q_iconst1 (bat_get dg_X12_muteTold_0_0 24 rfl rfl)
theorem dX12_muteTold_61 : decode cX12_muteTold 61 = .ok (.iastore, 1) := q_iastore (bat_get dg_X12_muteTold_0_0 25 rfl rfl)
theorem dX12_muteTold_21 : decode cX12_muteTold 21 = .ok (.aload_n 0, 1) := q_aload_n0 (bat_get dg_X12_muteTold_0_0 26 rfl rfl)
theorem dX12_muteTold_22 : decode cX12_muteTold 22 = .ok (.getfield 51, 3) := q_getfield (bat_get dg_X12_muteTold_0_0 27 rfl rfl) rfl
theorem dX12_muteTold_25 : decode cX12_muteTold 25 = .ok (.iconst 3, 1) := q_iconst3 (bat_get dg_X12_muteTold_0_0 28 rfl rfl)
theorem dX12_muteTold_26 : decode cX12_muteTold 26 = .ok (.iload_n 1, 1) := q_iload_n1 (bat_get dg_X12_muteTold_0_0 29 rfl rfl)
theorem dX12_muteTold_27 : decode cX12_muteTold 27 = .ok (.imul, 1) := q_imul (bat_get dg_X12_muteTold_0_0 30 rfl rfl)
theorem dX12_muteTold_28 : decode cX12_muteTold 28 = .ok (.iconst 2, 1) := q_iconst2 (bat_get dg_X12_muteTold_0_0 31 rfl rfl)
theorem dX12_muteTold_29 : decode cX12_muteTold 29 = .ok (.iadd, 1) := q_iadd (bat_get dg_X12_muteTold_0_0 32 rfl rfl)
theorem dX12_muteTold_30 : decode cX12_muteTold 30 = .ok (.iaload, 1) := q_iaload (bat_get dg_X12_muteTold_0_0 33 rfl rfl)
theorem dX12_muteTold_31 : decode cX12_muteTold 31 = .ok (.iconst 1, 1) := q_iconst1 (bat_get dg_X12_muteTold_0_0 34 rfl rfl)
theorem dX12_muteTold_32 : decode cX12_muteTold 32 = .ok (.if_icmp .ne 12, 3) := q_if_icmp_ne (bat_get dg_X12_muteTold_0_0 35 rfl rfl) rfl
theorem dX12_muteTold_35 : decode cX12_muteTold 35 = .ok (.aload_n 0, 1) := q_aload_n0 (bat_get dg_X12_muteTold_0_0 36 rfl rfl)
theorem dX12_muteTold_36 : decode cX12_muteTold 36 = .ok (.iconst 2, 1) := q_iconst2 (bat_get dg_X12_muteTold_0_0 37 rfl rfl)
theorem dX12_muteTold_37 : decode cX12_muteTold 37 = .ok (.aload_n 0, 1) := q_aload_n0 (bat_get dg_X12_muteTold_0_0 38 rfl rfl)
theorem dX12_muteTold_38 : decode cX12_muteTold 38 = .ok (.getfield 235, 3) := q_getfield (bat_get dg_X12_muteTold_0_0 39 rfl rfl) rfl
theorem dg_X12_muteTold_41_41 : bqL cX12_muteTold 41 [(0, [182, 0, 225])] = true := by decide +kernel
theorem dX12_muteTold_41 : decode cX12_muteTold 41 = .ok (.invokevirtual 225, 3) := q_invokevirtual (bat_get dg_X12_muteTold_41_41 0 rfl rfl) rfl
theorem w_7_22 : (Cond.code yX12_muteTold cX12_muteTold 2 none) ∈ wsL_law := sk_mem (ck_7 _ (List.mem_of_getElem? (i := 22) rfl)) rfl
theorem dg_X12_codesTold_0_0 : bqL cX12_codesTold 0 [(0, [42]), (1, [180, 0, 195]), (4, [154, 0, 19]), (23, [42]), (24, [180, 0, 195]), (27, [153, 0, 4]), (31, [42]), (32, [27]), (33, [4]), (34, [160, 0, 7]), (41, [3]), (42, [181, 0, 242]), (45, [42]), (46, [3]), (47, [181, 1, 1]), (50, [42]), (51, [3]), (52, [181, 1, 4]), (55, [42]), (56, [3]), (57, [181, 1, 7]), (60, [42]), (61, [3]), (62, [181, 1, 10]), (65, [42]), (66, [182, 1, 13]), (69, [42]), (70, [180, 0, 195]), (73, [153, 0, 4]), (77, [42]), (78, [180, 0, 54]), (81, [27]), (82, [42]), (83, [180, 1, 16]), (86, [79]), (87, [3]), (88, [62]), (89, [29]), (90, [42]), (91, [180, 1, 1])] = true := by decide +kernel
theorem dX12_codesTold_0 : decode cX12_codesTold 0 = .ok (.aload_n 0, 1) := q_aload_n0 (bat_get dg_X12_codesTold_0_0 0 rfl rfl)
theorem dX12_codesTold_1 : decode cX12_codesTold 1 = .ok (.getfield 195, 3) := q_getfield (bat_get dg_X12_codesTold_0_0 1 rfl rfl) rfl
theorem dX12_codesTold_4 : decode cX12_codesTold 4 = .ok (.ifCond .ne 19, 3) := q_ifCond_ne (bat_get dg_X12_codesTold_0_0 2 rfl rfl) rfl
theorem dX12_codesTold_23 : decode cX12_codesTold 23 = .ok (.aload_n 0, 1) := q_aload_n0 (bat_get dg_X12_codesTold_0_0 3 rfl rfl)
theorem dX12_codesTold_24 : decode cX12_codesTold 24 = .ok (.getfield 195, 3) := q_getfield (bat_get dg_X12_codesTold_0_0 4 rfl rfl) rfl
theorem dX12_codesTold_27 : decode cX12_codesTold 27 = .ok (.ifCond .eq 4, 3) := q_ifCond_eq (bat_get dg_X12_codesTold_0_0 5 rfl rfl) rfl
theorem dX12_codesTold_31 : decode cX12_codesTold 31 = .ok (.aload_n 0, 1) := q_aload_n0 (bat_get dg_X12_codesTold_0_0 6 rfl rfl)
theorem dX12_codesTold_32 : decode cX12_codesTold 32 = .ok (.iload_n 1, 1) := q_iload_n1 (bat_get dg_X12_codesTold_0_0 7 rfl rfl)
theorem dX12_codesTold_33 : decode cX12_codesTold 33 = .ok (.iconst 1, 1) := q_iconst1 (bat_get dg_X12_codesTold_0_0 8 rfl rfl)
theorem dX12_codesTold_34 : decode cX12_codesTold 34 = .ok (.if_icmp .ne 7, 3) := q_if_icmp_ne (bat_get dg_X12_codesTold_0_0 9 rfl rfl) rfl
theorem dX12_codesTold_41 : decode cX12_codesTold 41 = .ok (.iconst 0, 1) := q_iconst0 (bat_get dg_X12_codesTold_0_0 10 rfl rfl)
theorem dX12_codesTold_42 : decode cX12_codesTold 42 = .ok (.putfield 242, 3) := q_putfield (bat_get dg_X12_codesTold_0_0 11 rfl rfl) rfl
theorem dX12_codesTold_45 : decode cX12_codesTold 45 = .ok (.aload_n 0, 1) := q_aload_n0 (bat_get dg_X12_codesTold_0_0 12 rfl rfl)
theorem dX12_codesTold_46 : decode cX12_codesTold 46 = .ok (.iconst 0, 1) := q_iconst0 (bat_get dg_X12_codesTold_0_0 13 rfl rfl)
theorem dX12_codesTold_47 : decode cX12_codesTold 47 = .ok (.putfield 257, 3) := q_putfield (bat_get dg_X12_codesTold_0_0 14 rfl rfl) rfl
theorem dX12_codesTold_50 : decode cX12_codesTold 50 = .ok (.aload_n 0, 1) := q_aload_n0 (bat_get dg_X12_codesTold_0_0 15 rfl rfl)
theorem dX12_codesTold_51 : decode cX12_codesTold 51 = .ok (.iconst 0, 1) := q_iconst0 (bat_get dg_X12_codesTold_0_0 16 rfl rfl)
theorem dX12_codesTold_52 : decode cX12_codesTold 52 = .ok (.putfield 260, 3) := q_putfield (bat_get dg_X12_codesTold_0_0 17 rfl rfl) rfl
theorem dX12_codesTold_55 : decode cX12_codesTold 55 = .ok (.aload_n 0, 1) := q_aload_n0 (bat_get dg_X12_codesTold_0_0 18 rfl rfl)
theorem dX12_codesTold_56 : decode cX12_codesTold 56 = .ok (.iconst 0, 1) := q_iconst0 (bat_get dg_X12_codesTold_0_0 19 rfl rfl)
theorem dX12_codesTold_57 : decode cX12_codesTold 57 = .ok (.putfield 263, 3) := q_putfield (bat_get dg_X12_codesTold_0_0 20 rfl rfl) rfl
theorem dX12_codesTold_60 : decode cX12_codesTold 60 = .ok (.aload_n 0, 1) := q_aload_n0 (bat_get dg_X12_codesTold_0_0 21 rfl rfl)
theorem dX12_codesTold_61 : decode cX12_codesTold 61 = .ok (.iconst 0, 1) := q_iconst0 (bat_get dg_X12_codesTold_0_0 22 rfl rfl)
theorem dX12_codesTold_62 : decode cX12_codesTold 62 = .ok (.putfield 266, 3) := q_putfield (bat_get dg_X12_codesTold_0_0 23 rfl rfl) rfl
theorem dX12_codesTold_65 : decode cX12_codesTold 65 = .ok (.aload_n 0, 1) := q_aload_n0 (bat_get dg_X12_codesTold_0_0 24 rfl rfl)
theorem dX12_codesTold_66 : decode cX12_codesTold 66 = .ok (.invokevirtual 269, 3) := q_invokevirtual (bat_get dg_X12_codesTold_0_0 25 rfl rfl) rfl
theorem dX12_codesTold_69 : decode cX12_codesTold 69 = .ok (.aload_n 0, 1) := q_aload_n0 (bat_get dg_X12_codesTold_0_0 26 rfl rfl)
theorem dX12_codesTold_70 : decode cX12_codesTold 70 = .ok (.getfield 195, 3) := q_getfield (bat_get dg_X12_codesTold_0_0 27 rfl rfl) rfl
theorem dX12_codesTold_73 : decode cX12_codesTold 73 = .ok (.ifCond .eq 4, 3) := q_ifCond_eq (bat_get dg_X12_codesTold_0_0 28 rfl rfl) rfl
theorem dX12_codesTold_77 : decode cX12_codesTold 77 = .ok (.aload_n 0, 1) := q_aload_n0 (bat_get dg_X12_codesTold_0_0 29 rfl rfl)
theorem dX12_codesTold_78 : decode cX12_codesTold 78 = .ok (.getfield 54, 3) := q_getfield (bat_get dg_X12_codesTold_0_0 30 rfl rfl) rfl
theorem dX12_codesTold_81 : decode cX12_codesTold 81 = .ok (.iload_n 1, 1) := q_iload_n1 (bat_get dg_X12_codesTold_0_0 31 rfl rfl)
theorem dX12_codesTold_82 : decode cX12_codesTold 82 = .ok (.aload_n 0, 1) := q_aload_n0 (bat_get dg_X12_codesTold_0_0 32 rfl rfl)
theorem dX12_codesTold_83 : decode cX12_codesTold 83 = .ok (.getfield 272, 3) := q_getfield (bat_get dg_X12_codesTold_0_0 33 rfl rfl) rfl
theorem dX12_codesTold_86 : decode cX12_codesTold 86 = .ok (.iastore, 1) := q_iastore (bat_get dg_X12_codesTold_0_0 34 rfl rfl)
theorem dX12_codesTold_87 : decode cX12_codesTold 87 = .ok (.iconst 0, 1) := q_iconst0 (bat_get dg_X12_codesTold_0_0 35 rfl rfl)
theorem dX12_codesTold_88 : decode cX12_codesTold 88 = .ok (.istore_n 3, 1) := q_istore_n3 (bat_get dg_X12_codesTold_0_0 36 rfl rfl)
theorem dX12_codesTold_89 : decode cX12_codesTold 89 = .ok (.iload_n 3, 1) := q_iload_n3 (bat_get dg_X12_codesTold_0_0 37 rfl rfl)
theorem dX12_codesTold_90 : decode cX12_codesTold 90 = .ok (.aload_n 0, 1) := q_aload_n0 (bat_get dg_X12_codesTold_0_0 38 rfl rfl)
theorem dX12_codesTold_91 : decode cX12_codesTold 91 = .ok (.getfield 257, 3) := q_getfield (bat_get dg_X12_codesTold_0_0 39 rfl rfl) rfl
theorem dg_X12_codesTold_7_94 : bqL cX12_codesTold 7 [(87, [162, 0, 34]), (121, [42]), (122, [180, 0, 57]), (125, [27]), (126, [42]), (127, [180, 1, 16]), (130, [79]), (131, [177]), (90, [42]), (91, [180, 0, 60]), (94, [42]), (95, [180, 1, 16]), (98, [42]), (99, [180, 0, 180]), (102, [29]), (103, [46]), (104, [79]), (105, [42]), (106, [89]), (107, [180, 1, 16]), (110, [4]), (111, [96]), (112, [181, 1, 16]), (115, [132, 3, 1]), (118, [167, 255, 220]), (69, [177]), (23, [177]), (0, [42]), (1, [180, 0, 54]), (4, [27]), (5, [46]), (6, [2]), (7, [159, 0, 9]), (10, [42]), (11, [8]), (12, [28]), (13, [182, 0, 225])] = true := by decide +kernel
theorem dX12_codesTold_94 : decode cX12_codesTold 94 = .ok (.if_icmp .ge 34, 3) := q_if_icmp_ge (bat_get dg_X12_codesTold_7_94 0 rfl rfl) rfl
theorem dX12_codesTold_128 : decode cX12_codesTold 128 = .ok (.aload_n 0, 1) := q_aload_n0 (bat_get dg_X12_codesTold_7_94 1 rfl rfl)
theorem dX12_codesTold_129 : decode cX12_codesTold 129 = .ok (.getfield 57, 3) := q_getfield (bat_get dg_X12_codesTold_7_94 2 rfl rfl) rfl
theorem dX12_codesTold_132 : decode cX12_codesTold 132 = .ok (.iload_n 1, 1) := q_iload_n1 (bat_get dg_X12_codesTold_7_94 3 rfl rfl)
theorem dX12_codesTold_133 : decode cX12_codesTold 133 = .ok (.aload_n 0, 1) := q_aload_n0 (bat_get dg_X12_codesTold_7_94 4 rfl rfl)
theorem dX12_codesTold_134 : decode cX12_codesTold 134 = .ok (.getfield 272, 3) := q_getfield (bat_get dg_X12_codesTold_7_94 5 rfl rfl) rfl
theorem dX12_codesTold_137 : decode cX12_codesTold 137 = .ok (.iastore, 1) := q_iastore (bat_get dg_X12_codesTold_7_94 6 rfl rfl)
theorem dX12_codesTold_138 : decode cX12_codesTold 138 = .ok (.return_, 1) := q_return_ (bat_get dg_X12_codesTold_7_94 7 rfl rfl)
theorem dX12_codesTold_97 : decode cX12_codesTold 97 = .ok (.aload_n 0, 1) := q_aload_n0 (bat_get dg_X12_codesTold_7_94 8 rfl rfl)
theorem dX12_codesTold_98 : decode cX12_codesTold 98 = .ok (.getfield 60, 3) := q_getfield (bat_get dg_X12_codesTold_7_94 9 rfl rfl) rfl
theorem dX12_codesTold_101 : decode cX12_codesTold 101 = .ok (.aload_n 0, 1) := q_aload_n0 (bat_get dg_X12_codesTold_7_94 10 rfl rfl)
theorem dX12_codesTold_102 : decode cX12_codesTold 102 = .ok (.getfield 272, 3) := q_getfield (bat_get dg_X12_codesTold_7_94 11 rfl rfl) rfl
theorem dX12_codesTold_105 : decode cX12_codesTold 105 = .ok (.aload_n 0, 1) := q_aload_n0 (bat_get dg_X12_codesTold_7_94 12 rfl rfl)
theorem dX12_codesTold_106 : decode cX12_codesTold 106 = .ok (.getfield 180, 3) := q_getfield (bat_get dg_X12_codesTold_7_94 13 rfl rfl) rfl
theorem dX12_codesTold_109 : decode cX12_codesTold 109 = .ok (.iload_n 3, 1) := q_iload_n3 (bat_get dg_X12_codesTold_7_94 14 rfl rfl)
theorem dX12_codesTold_110 : decode cX12_codesTold 110 = .ok (.iaload, 1) := q_iaload (bat_get dg_X12_codesTold_7_94 15 rfl rfl)
theorem dX12_codesTold_111 : decode cX12_codesTold 111 = .ok (.iastore, 1) := q_iastore (bat_get dg_X12_codesTold_7_94 16 rfl rfl)
theorem dX12_codesTold_112 : decode cX12_codesTold 112 = .ok (.aload_n 0, 1) := q_aload_n0 (bat_get dg_X12_codesTold_7_94 17 rfl rfl)
theorem dX12_codesTold_113 : decode cX12_codesTold 113 = .ok (.dup, 1) := q_dup (bat_get dg_X12_codesTold_7_94 18 rfl rfl)
theorem dX12_codesTold_114 : decode cX12_codesTold 114 = .ok (.getfield 272, 3) := q_getfield (bat_get dg_X12_codesTold_7_94 19 rfl rfl) rfl
theorem dX12_codesTold_117 : decode cX12_codesTold 117 = .ok (.iconst 1, 1) := q_iconst1 (bat_get dg_X12_codesTold_7_94 20 rfl rfl)
theorem dX12_codesTold_118 : decode cX12_codesTold 118 = .ok (.iadd, 1) := q_iadd (bat_get dg_X12_codesTold_7_94 21 rfl rfl)
theorem dX12_codesTold_119 : decode cX12_codesTold 119 = .ok (.putfield 272, 3) := q_putfield (bat_get dg_X12_codesTold_7_94 22 rfl rfl) rfl
theorem dX12_codesTold_122 : decode cX12_codesTold 122 = .ok (.iinc 3 1, 3) := q_iinc (bat_get dg_X12_codesTold_7_94 23 rfl rfl) rfl
theorem dX12_codesTold_125 : decode cX12_codesTold 125 = .ok (.goto (-36), 3) := q_goto (bat_get dg_X12_codesTold_7_94 24 rfl rfl) rfl
theorem dX12_codesTold_76 : decode cX12_codesTold 76 = .ok (.return_, 1) := q_return_ (bat_get dg_X12_codesTold_7_94 25 rfl rfl)
theorem dX12_codesTold_30 : decode cX12_codesTold 30 = .ok (.return_, 1) := q_return_ (bat_get dg_X12_codesTold_7_94 26 rfl rfl)
theorem dX12_codesTold_7 : decode cX12_codesTold 7 = .ok (.aload_n 0, 1) := q_aload_n0 (bat_get dg_X12_codesTold_7_94 27 rfl rfl)
theorem dX12_codesTold_8 : decode cX12_codesTold 8 = .ok (.getfield 54, 3) := q_getfield (bat_get dg_X12_codesTold_7_94 28 rfl rfl) rfl
theorem dX12_codesTold_11 : decode cX12_codesTold 11 = .ok (.iload_n 1, 1) := q_iload_n1 (bat_get dg_X12_codesTold_7_94 29 rfl rfl)
theorem dX12_codesTold_12 : decode cX12_codesTold 12 = .ok (.iaload, 1) := q_iaload (bat_get dg_X12_codesTold_7_94 30 rfl rfl)
theorem dX12_codesTold_13 : decode cX12_codesTold 13 = .ok (.iconst (-1), 1) := q_iconstm1 (bat_get dg_X12_codesTold_7_94 31 rfl rfl)
theorem dX12_codesTold_14 : decode cX12_codesTold 14 = .ok (.if_icmp .eq 9, 3) := q_if_icmp_eq (bat_get dg_X12_codesTold_7_94 32 rfl rfl) rfl
theorem dX12_codesTold_17 : decode cX12_codesTold 17 = .ok (.aload_n 0, 1) := q_aload_n0 (bat_get dg_X12_codesTold_7_94 33 rfl rfl)
theorem dX12_codesTold_18 : decode cX12_codesTold 18 = .ok (.iconst 5, 1) := q_iconst5 (bat_get dg_X12_codesTold_7_94 34 rfl rfl)
theorem dX12_codesTold_19 : decode cX12_codesTold 19 = .ok (.iload_n 2, 1) := q_iload_n2 (bat_get dg_X12_codesTold_7_94 35 rfl rfl)
theorem dX12_codesTold_20 : decode cX12_codesTold 20 = .ok (.invokevirtual 225, 3) := q_invokevirtual (bat_get dg_X12_codesTold_7_94 36 rfl rfl) rfl
theorem w_5_182 : (Cond.fieldLink RX12 272 "SameKeeperModel" "coded" "I") ∈ wsL_law := sk_mem (ck_5 _ (List.mem_of_getElem? (i := 182) rfl)) rfl
theorem w_7_26 : (Cond.code yX12_codesTold cX12_codesTold 4 none) ∈ wsL_law := sk_mem (ck_7 _ (List.mem_of_getElem? (i := 26) rfl)) rfl
def om_20_ffff8 : List Bool := true :: true :: true :: true :: true :: true :: true :: true :: true :: true :: true :: true :: true :: true :: true :: true :: true :: false :: false :: false :: []
def om_20_80000 : List Bool := true :: false :: false :: false :: false :: false :: false :: false :: false :: false :: false :: false :: false :: false :: false :: false :: false :: false :: false :: false :: []
theorem dg_X12_codesTold_37_37 : bqL cX12_codesTold 37 [(0, [4]), (1, [167, 0, 4])] = true := by decide +kernel
theorem dX12_codesTold_37 : decode cX12_codesTold 37 = .ok (.iconst 1, 1) := q_iconst1 (bat_get dg_X12_codesTold_37_37 0 rfl rfl)
theorem dX12_codesTold_38 : decode cX12_codesTold 38 = .ok (.goto 4, 3) := q_goto (bat_get dg_X12_codesTold_37_37 1 rfl rfl) rfl
theorem dg_X12_statementTold_0_0 : bqL cX12_statementTold 0 [(0, [42]), (1, [180, 0, 201]), (4, [60]), (5, [42]), (6, [180, 1, 19]), (9, [16, 60]), (11, [160, 0, 10]), (21, [42]), (22, [42]), (23, [180, 0, 27]), (26, [182, 0, 222]), (29, [153, 0, 11]), (40, [42]), (41, [42]), (42, [180, 0, 30]), (45, [182, 0, 222]), (48, [153, 0, 11]), (59, [42]), (60, [42]), (61, [180, 0, 33]), (64, [182, 0, 222]), (67, [153, 0, 10]), (77, [42]), (78, [42]), (79, [180, 0, 36]), (82, [182, 0, 222]), (85, [153, 0, 12]), (97, [42]), (98, [42]), (99, [180, 0, 39]), (102, [182, 0, 222]), (105, [153, 0, 12]), (117, [42]), (118, [42]), (119, [180, 0, 42]), (122, [182, 0, 222]), (125, [153, 0, 12]), (137, [42]), (138, [42]), (139, [180, 0, 45])] = true := by decide +kernel
theorem dX12_statementTold_0 : decode cX12_statementTold 0 = .ok (.aload_n 0, 1) := q_aload_n0 (bat_get dg_X12_statementTold_0_0 0 rfl rfl)
theorem dX12_statementTold_1 : decode cX12_statementTold 1 = .ok (.getfield 201, 3) := q_getfield (bat_get dg_X12_statementTold_0_0 1 rfl rfl) rfl
theorem dX12_statementTold_4 : decode cX12_statementTold 4 = .ok (.istore_n 1, 1) := q_istore_n1 (bat_get dg_X12_statementTold_0_0 2 rfl rfl)
theorem dX12_statementTold_5 : decode cX12_statementTold 5 = .ok (.aload_n 0, 1) := q_aload_n0 (bat_get dg_X12_statementTold_0_0 3 rfl rfl)
theorem dX12_statementTold_6 : decode cX12_statementTold 6 = .ok (.getfield 275, 3) := q_getfield (bat_get dg_X12_statementTold_0_0 4 rfl rfl) rfl
theorem dX12_statementTold_9 : decode cX12_statementTold 9 = .ok (.bipush 60, 2) := q_bipush (bat_get dg_X12_statementTold_0_0 5 rfl rfl) rfl
theorem dX12_statementTold_11 : decode cX12_statementTold 11 = .ok (.if_icmp .ne 10, 3) := q_if_icmp_ne (bat_get dg_X12_statementTold_0_0 6 rfl rfl) rfl
theorem dX12_statementTold_21 : decode cX12_statementTold 21 = .ok (.aload_n 0, 1) := q_aload_n0 (bat_get dg_X12_statementTold_0_0 7 rfl rfl)
theorem dX12_statementTold_22 : decode cX12_statementTold 22 = .ok (.aload_n 0, 1) := q_aload_n0 (bat_get dg_X12_statementTold_0_0 8 rfl rfl)
theorem dX12_statementTold_23 : decode cX12_statementTold 23 = .ok (.getfield 27, 3) := q_getfield (bat_get dg_X12_statementTold_0_0 9 rfl rfl) rfl
theorem dX12_statementTold_26 : decode cX12_statementTold 26 = .ok (.invokevirtual 222, 3) := q_invokevirtual (bat_get dg_X12_statementTold_0_0 10 rfl rfl) rfl
theorem dX12_statementTold_29 : decode cX12_statementTold 29 = .ok (.ifCond .eq 11, 3) := q_ifCond_eq (bat_get dg_X12_statementTold_0_0 11 rfl rfl) rfl
theorem dX12_statementTold_40 : decode cX12_statementTold 40 = .ok (.aload_n 0, 1) := q_aload_n0 (bat_get dg_X12_statementTold_0_0 12 rfl rfl)
theorem dX12_statementTold_41 : decode cX12_statementTold 41 = .ok (.aload_n 0, 1) := q_aload_n0 (bat_get dg_X12_statementTold_0_0 13 rfl rfl)
theorem dX12_statementTold_42 : decode cX12_statementTold 42 = .ok (.getfield 30, 3) := q_getfield (bat_get dg_X12_statementTold_0_0 14 rfl rfl) rfl
theorem dX12_statementTold_45 : decode cX12_statementTold 45 = .ok (.invokevirtual 222, 3) := q_invokevirtual (bat_get dg_X12_statementTold_0_0 15 rfl rfl) rfl
theorem dX12_statementTold_48 : decode cX12_statementTold 48 = .ok (.ifCond .eq 11, 3) := q_ifCond_eq (bat_get dg_X12_statementTold_0_0 16 rfl rfl) rfl
theorem dX12_statementTold_59 : decode cX12_statementTold 59 = .ok (.aload_n 0, 1) := q_aload_n0 (bat_get dg_X12_statementTold_0_0 17 rfl rfl)
theorem dX12_statementTold_60 : decode cX12_statementTold 60 = .ok (.aload_n 0, 1) := q_aload_n0 (bat_get dg_X12_statementTold_0_0 18 rfl rfl)
theorem dX12_statementTold_61 : decode cX12_statementTold 61 = .ok (.getfield 33, 3) := q_getfield (bat_get dg_X12_statementTold_0_0 19 rfl rfl) rfl
theorem dX12_statementTold_64 : decode cX12_statementTold 64 = .ok (.invokevirtual 222, 3) := q_invokevirtual (bat_get dg_X12_statementTold_0_0 20 rfl rfl) rfl
theorem dX12_statementTold_67 : decode cX12_statementTold 67 = .ok (.ifCond .eq 10, 3) := q_ifCond_eq (bat_get dg_X12_statementTold_0_0 21 rfl rfl) rfl
theorem dX12_statementTold_77 : decode cX12_statementTold 77 = .ok (.aload_n 0, 1) := q_aload_n0 (bat_get dg_X12_statementTold_0_0 22 rfl rfl)
theorem dX12_statementTold_78 : decode cX12_statementTold 78 = .ok (.aload_n 0, 1) := q_aload_n0 (bat_get dg_X12_statementTold_0_0 23 rfl rfl)
theorem dX12_statementTold_79 : decode cX12_statementTold 79 = .ok (.getfield 36, 3) := q_getfield (bat_get dg_X12_statementTold_0_0 24 rfl rfl) rfl
theorem dX12_statementTold_82 : decode cX12_statementTold 82 = .ok (.invokevirtual 222, 3) := q_invokevirtual (bat_get dg_X12_statementTold_0_0 25 rfl rfl) rfl
theorem dX12_statementTold_85 : decode cX12_statementTold 85 = .ok (.ifCond .eq 12, 3) := q_ifCond_eq (bat_get dg_X12_statementTold_0_0 26 rfl rfl) rfl
theorem dX12_statementTold_97 : decode cX12_statementTold 97 = .ok (.aload_n 0, 1) := q_aload_n0 (bat_get dg_X12_statementTold_0_0 27 rfl rfl)
theorem dX12_statementTold_98 : decode cX12_statementTold 98 = .ok (.aload_n 0, 1) := q_aload_n0 (bat_get dg_X12_statementTold_0_0 28 rfl rfl)
theorem dX12_statementTold_99 : decode cX12_statementTold 99 = .ok (.getfield 39, 3) := q_getfield (bat_get dg_X12_statementTold_0_0 29 rfl rfl) rfl
theorem dX12_statementTold_102 : decode cX12_statementTold 102 = .ok (.invokevirtual 222, 3) := q_invokevirtual (bat_get dg_X12_statementTold_0_0 30 rfl rfl) rfl
theorem dX12_statementTold_105 : decode cX12_statementTold 105 = .ok (.ifCond .eq 12, 3) := q_ifCond_eq (bat_get dg_X12_statementTold_0_0 31 rfl rfl) rfl
theorem dX12_statementTold_117 : decode cX12_statementTold 117 = .ok (.aload_n 0, 1) := q_aload_n0 (bat_get dg_X12_statementTold_0_0 32 rfl rfl)
theorem dX12_statementTold_118 : decode cX12_statementTold 118 = .ok (.aload_n 0, 1) := q_aload_n0 (bat_get dg_X12_statementTold_0_0 33 rfl rfl)
theorem dX12_statementTold_119 : decode cX12_statementTold 119 = .ok (.getfield 42, 3) := q_getfield (bat_get dg_X12_statementTold_0_0 34 rfl rfl) rfl
theorem dX12_statementTold_122 : decode cX12_statementTold 122 = .ok (.invokevirtual 222, 3) := q_invokevirtual (bat_get dg_X12_statementTold_0_0 35 rfl rfl) rfl
theorem dX12_statementTold_125 : decode cX12_statementTold 125 = .ok (.ifCond .eq 12, 3) := q_ifCond_eq (bat_get dg_X12_statementTold_0_0 36 rfl rfl) rfl
theorem dX12_statementTold_137 : decode cX12_statementTold 137 = .ok (.aload_n 0, 1) := q_aload_n0 (bat_get dg_X12_statementTold_0_0 37 rfl rfl)
theorem dX12_statementTold_138 : decode cX12_statementTold 138 = .ok (.aload_n 0, 1) := q_aload_n0 (bat_get dg_X12_statementTold_0_0 38 rfl rfl)
theorem dX12_statementTold_139 : decode cX12_statementTold 139 = .ok (.getfield 45, 3) := q_getfield (bat_get dg_X12_statementTold_0_0 39 rfl rfl) rfl
theorem dg_X12_statementTold_32_142 : bqL cX12_statementTold 32 [(110, [182, 0, 245]), (113, [42]), (114, [42]), (115, [3]), (116, [16, 100]), (118, [182, 0, 249]), (121, [181, 1, 31]), (124, [42]), (125, [16, 59]), (127, [182, 0, 253]), (130, [42]), (131, [89]), (132, [180, 1, 19]), (135, [4]), (136, [96]), (137, [181, 1, 19]), (140, [177]), (96, [42]), (97, [5]), (98, [27]), (99, [182, 1, 28]), (102, [167, 0, 22]), (76, [42]), (77, [4]), (78, [27]), (79, [182, 1, 28]), (82, [167, 0, 42]), (56, [42]), (57, [3]), (58, [27]), (59, [182, 1, 28]), (62, [167, 0, 62]), (38, [42]), (39, [182, 1, 25]), (42, [167, 0, 82]), (19, [42]), (20, [4]), (21, [182, 1, 22]), (24, [167, 0, 100]), (0, [42])] = true := by decide +kernel
theorem dX12_statementTold_142 : decode cX12_statementTold 142 = .ok (.invokevirtual 245, 3) := q_invokevirtual (bat_get dg_X12_statementTold_32_142 0 rfl rfl) rfl
theorem dX12_statementTold_145 : decode cX12_statementTold 145 = .ok (.aload_n 0, 1) := q_aload_n0 (bat_get dg_X12_statementTold_32_142 1 rfl rfl)
theorem dX12_statementTold_146 : decode cX12_statementTold 146 = .ok (.aload_n 0, 1) := q_aload_n0 (bat_get dg_X12_statementTold_32_142 2 rfl rfl)
theorem dX12_statementTold_147 : decode cX12_statementTold 147 = .ok (.iconst 0, 1) := q_iconst0 (bat_get dg_X12_statementTold_32_142 3 rfl rfl)
theorem dX12_statementTold_148 : decode cX12_statementTold 148 = .ok (.bipush 100, 2) := q_bipush (bat_get dg_X12_statementTold_32_142 4 rfl rfl) rfl
theorem dX12_statementTold_150 : decode cX12_statementTold 150 = .ok (.invokevirtual 249, 3) := q_invokevirtual (bat_get dg_X12_statementTold_32_142 5 rfl rfl) rfl
theorem dX12_statementTold_153 : decode cX12_statementTold 153 = .ok (.putfield 287, 3) := q_putfield (bat_get dg_X12_statementTold_32_142 6 rfl rfl) rfl
theorem dX12_statementTold_156 : decode cX12_statementTold 156 = .ok (.aload_n 0, 1) := q_aload_n0 (bat_get dg_X12_statementTold_32_142 7 rfl rfl)
theorem dX12_statementTold_157 : decode cX12_statementTold 157 = .ok (.bipush 59, 2) := q_bipush (bat_get dg_X12_statementTold_32_142 8 rfl rfl) rfl
theorem dX12_statementTold_159 : decode cX12_statementTold 159 = .ok (.invokevirtual 253, 3) := q_invokevirtual (bat_get dg_X12_statementTold_32_142 9 rfl rfl) rfl
theorem dX12_statementTold_162 : decode cX12_statementTold 162 = .ok (.aload_n 0, 1) := q_aload_n0 (bat_get dg_X12_statementTold_32_142 10 rfl rfl)
theorem dX12_statementTold_163 : decode cX12_statementTold 163 = .ok (.dup, 1) := q_dup (bat_get dg_X12_statementTold_32_142 11 rfl rfl)
theorem dX12_statementTold_164 : decode cX12_statementTold 164 = .ok (.getfield 275, 3) := q_getfield (bat_get dg_X12_statementTold_32_142 12 rfl rfl) rfl
theorem dX12_statementTold_167 : decode cX12_statementTold 167 = .ok (.iconst 1, 1) := q_iconst1 (bat_get dg_X12_statementTold_32_142 13 rfl rfl)
theorem dX12_statementTold_168 : decode cX12_statementTold 168 = .ok (.iadd, 1) := q_iadd (bat_get dg_X12_statementTold_32_142 14 rfl rfl)
theorem dX12_statementTold_169 : decode cX12_statementTold 169 = .ok (.putfield 275, 3) := q_putfield (bat_get dg_X12_statementTold_32_142 15 rfl rfl) rfl
theorem dX12_statementTold_172 : decode cX12_statementTold 172 = .ok (.return_, 1) := q_return_ (bat_get dg_X12_statementTold_32_142 16 rfl rfl)
theorem dX12_statementTold_128 : decode cX12_statementTold 128 = .ok (.aload_n 0, 1) := q_aload_n0 (bat_get dg_X12_statementTold_32_142 17 rfl rfl)
theorem dX12_statementTold_129 : decode cX12_statementTold 129 = .ok (.iconst 2, 1) := q_iconst2 (bat_get dg_X12_statementTold_32_142 18 rfl rfl)
theorem dX12_statementTold_130 : decode cX12_statementTold 130 = .ok (.iload_n 1, 1) := q_iload_n1 (bat_get dg_X12_statementTold_32_142 19 rfl rfl)
theorem dX12_statementTold_131 : decode cX12_statementTold 131 = .ok (.invokevirtual 284, 3) := q_invokevirtual (bat_get dg_X12_statementTold_32_142 20 rfl rfl) rfl
theorem dX12_statementTold_134 : decode cX12_statementTold 134 = .ok (.goto 22, 3) := q_goto (bat_get dg_X12_statementTold_32_142 21 rfl rfl) rfl
theorem dX12_statementTold_108 : decode cX12_statementTold 108 = .ok (.aload_n 0, 1) := q_aload_n0 (bat_get dg_X12_statementTold_32_142 22 rfl rfl)
theorem dX12_statementTold_109 : decode cX12_statementTold 109 = .ok (.iconst 1, 1) := q_iconst1 (bat_get dg_X12_statementTold_32_142 23 rfl rfl)
theorem dX12_statementTold_110 : decode cX12_statementTold 110 = .ok (.iload_n 1, 1) := q_iload_n1 (bat_get dg_X12_statementTold_32_142 24 rfl rfl)
theorem dX12_statementTold_111 : decode cX12_statementTold 111 = .ok (.invokevirtual 284, 3) := q_invokevirtual (bat_get dg_X12_statementTold_32_142 25 rfl rfl) rfl
theorem dX12_statementTold_114 : decode cX12_statementTold 114 = .ok (.goto 42, 3) := q_goto (bat_get dg_X12_statementTold_32_142 26 rfl rfl) rfl
theorem dX12_statementTold_88 : decode cX12_statementTold 88 = .ok (.aload_n 0, 1) := q_aload_n0 (bat_get dg_X12_statementTold_32_142 27 rfl rfl)
theorem dX12_statementTold_89 : decode cX12_statementTold 89 = .ok (.iconst 0, 1) := q_iconst0 (bat_get dg_X12_statementTold_32_142 28 rfl rfl)
theorem dX12_statementTold_90 : decode cX12_statementTold 90 = .ok (.iload_n 1, 1) := q_iload_n1 (bat_get dg_X12_statementTold_32_142 29 rfl rfl)
theorem dX12_statementTold_91 : decode cX12_statementTold 91 = .ok (.invokevirtual 284, 3) := q_invokevirtual (bat_get dg_X12_statementTold_32_142 30 rfl rfl) rfl
theorem dX12_statementTold_94 : decode cX12_statementTold 94 = .ok (.goto 62, 3) := q_goto (bat_get dg_X12_statementTold_32_142 31 rfl rfl) rfl
theorem dX12_statementTold_70 : decode cX12_statementTold 70 = .ok (.aload_n 0, 1) := q_aload_n0 (bat_get dg_X12_statementTold_32_142 32 rfl rfl)
theorem dX12_statementTold_71 : decode cX12_statementTold 71 = .ok (.invokevirtual 281, 3) := q_invokevirtual (bat_get dg_X12_statementTold_32_142 33 rfl rfl) rfl
theorem dX12_statementTold_74 : decode cX12_statementTold 74 = .ok (.goto 82, 3) := q_goto (bat_get dg_X12_statementTold_32_142 34 rfl rfl) rfl
theorem dX12_statementTold_51 : decode cX12_statementTold 51 = .ok (.aload_n 0, 1) := q_aload_n0 (bat_get dg_X12_statementTold_32_142 35 rfl rfl)
theorem dX12_statementTold_52 : decode cX12_statementTold 52 = .ok (.iconst 1, 1) := q_iconst1 (bat_get dg_X12_statementTold_32_142 36 rfl rfl)
theorem dX12_statementTold_53 : decode cX12_statementTold 53 = .ok (.invokevirtual 278, 3) := q_invokevirtual (bat_get dg_X12_statementTold_32_142 37 rfl rfl) rfl
theorem dX12_statementTold_56 : decode cX12_statementTold 56 = .ok (.goto 100, 3) := q_goto (bat_get dg_X12_statementTold_32_142 38 rfl rfl) rfl
theorem dX12_statementTold_32 : decode cX12_statementTold 32 = .ok (.aload_n 0, 1) := q_aload_n0 (bat_get dg_X12_statementTold_32_142 39 rfl rfl)
theorem dg_X12_statementTold_14_33 : bqL cX12_statementTold 14 [(19, [3]), (20, [182, 1, 22]), (23, [167, 0, 119]), (0, [42]), (1, [8]), (2, [27]), (3, [182, 0, 225]), (6, [177])] = true := by decide +kernel
theorem dX12_statementTold_33 : decode cX12_statementTold 33 = .ok (.iconst 0, 1) := q_iconst0 (bat_get dg_X12_statementTold_14_33 0 rfl rfl)
theorem dX12_statementTold_34 : decode cX12_statementTold 34 = .ok (.invokevirtual 278, 3) := q_invokevirtual (bat_get dg_X12_statementTold_14_33 1 rfl rfl) rfl
theorem dX12_statementTold_37 : decode cX12_statementTold 37 = .ok (.goto 119, 3) := q_goto (bat_get dg_X12_statementTold_14_33 2 rfl rfl) rfl
theorem dX12_statementTold_14 : decode cX12_statementTold 14 = .ok (.aload_n 0, 1) := q_aload_n0 (bat_get dg_X12_statementTold_14_33 3 rfl rfl)
theorem dX12_statementTold_15 : decode cX12_statementTold 15 = .ok (.iconst 5, 1) := q_iconst5 (bat_get dg_X12_statementTold_14_33 4 rfl rfl)
theorem dX12_statementTold_16 : decode cX12_statementTold 16 = .ok (.iload_n 1, 1) := q_iload_n1 (bat_get dg_X12_statementTold_14_33 5 rfl rfl)
theorem dX12_statementTold_17 : decode cX12_statementTold 17 = .ok (.invokevirtual 225, 3) := q_invokevirtual (bat_get dg_X12_statementTold_14_33 6 rfl rfl) rfl
theorem dX12_statementTold_20 : decode cX12_statementTold 20 = .ok (.return_, 1) := q_return_ (bat_get dg_X12_statementTold_14_33 7 rfl rfl)
theorem w_5_183 : (Cond.fieldLink RX12 275 "SameKeeperModel" "statements" "I") ∈ wsL_law := sk_mem (ck_5 _ (List.mem_of_getElem? (i := 183) rfl)) rfl
theorem w_5_168 : (Cond.fieldLink RX12 27 "SameKeeperModel" "bargeWord" "[C") ∈ wsL_law := sk_mem (ck_5 _ (List.mem_of_getElem? (i := 168) rfl)) rfl
theorem w_5_169 : (Cond.fieldLink RX12 30 "SameKeeperModel" "wetWord" "[C") ∈ wsL_law := sk_mem (ck_5 _ (List.mem_of_getElem? (i := 169) rfl)) rfl
theorem w_5_170 : (Cond.fieldLink RX12 33 "SameKeeperModel" "muteWord" "[C") ∈ wsL_law := sk_mem (ck_5 _ (List.mem_of_getElem? (i := 170) rfl)) rfl
theorem w_5_171 : (Cond.fieldLink RX12 36 "SameKeeperModel" "saysWord" "[C") ∈ wsL_law := sk_mem (ck_5 _ (List.mem_of_getElem? (i := 171) rfl)) rfl
theorem w_5_172 : (Cond.fieldLink RX12 39 "SameKeeperModel" "doesWord" "[C") ∈ wsL_law := sk_mem (ck_5 _ (List.mem_of_getElem? (i := 172) rfl)) rfl
theorem w_5_173 : (Cond.fieldLink RX12 42 "SameKeeperModel" "wageWord" "[C") ∈ wsL_law := sk_mem (ck_5 _ (List.mem_of_getElem? (i := 173) rfl)) rfl
theorem w_5_174 : (Cond.fieldLink RX12 45 "SameKeeperModel" "rainWord" "[C") ∈ wsL_law := sk_mem (ck_5 _ (List.mem_of_getElem? (i := 174) rfl)) rfl
theorem w_5_177 : (Cond.fieldLink RX12 287 "SameKeeperModel" "rainTold" "I") ∈ wsL_law := sk_mem (ck_5 _ (List.mem_of_getElem? (i := 177) rfl)) rfl
theorem w_7_23 : (Cond.methodLink RX12 284 yX12_codesTold) ∈ wsL_law := sk_mem (ck_7 _ (List.mem_of_getElem? (i := 23) rfl)) rfl
theorem w_7_25 : (Cond.instanceMethod yX12_codesTold) ∈ wsL_law := sk_mem (ck_7 _ (List.mem_of_getElem? (i := 25) rfl)) rfl
theorem w_0_53 : (Cond.selects RX12 yX12_codesTold yX12_codesTold) ∈ wsL_law := sk_mem (ck_0 _ (List.mem_of_getElem? (i := 53) rfl)) rfl
theorem w_7_19 : (Cond.methodLink RX12 281 yX12_muteTold) ∈ wsL_law := sk_mem (ck_7 _ (List.mem_of_getElem? (i := 19) rfl)) rfl
theorem w_7_21 : (Cond.instanceMethod yX12_muteTold) ∈ wsL_law := sk_mem (ck_7 _ (List.mem_of_getElem? (i := 21) rfl)) rfl
theorem w_0_52 : (Cond.selects RX12 yX12_muteTold yX12_muteTold) ∈ wsL_law := sk_mem (ck_0 _ (List.mem_of_getElem? (i := 52) rfl)) rfl
theorem w_7_15 : (Cond.methodLink RX12 278 yX12_dayTold) ∈ wsL_law := sk_mem (ck_7 _ (List.mem_of_getElem? (i := 15) rfl)) rfl
theorem w_7_17 : (Cond.instanceMethod yX12_dayTold) ∈ wsL_law := sk_mem (ck_7 _ (List.mem_of_getElem? (i := 17) rfl)) rfl
theorem w_0_51 : (Cond.selects RX12 yX12_dayTold yX12_dayTold) ∈ wsL_law := sk_mem (ck_0 _ (List.mem_of_getElem? (i := 51) rfl)) rfl
theorem w_7_14 : (Cond.code yX12_statementTold cX12_statementTold 2 none) ∈ wsL_law := sk_mem (ck_7 _ (List.mem_of_getElem? (i := 14) rfl)) rfl
def om_29_18000040 : List Bool := true :: true :: false :: false :: false :: false :: false :: false :: false :: false :: false :: false :: false :: false :: false :: false :: false :: false :: false :: false :: false :: false :: true :: false :: false :: false :: false :: false :: false :: []
def om_29_18000020 : List Bool := true :: true :: false :: false :: false :: false :: false :: false :: false :: false :: false :: false :: false :: false :: false :: false :: false :: false :: false :: false :: false :: false :: false :: true :: false :: false :: false :: false :: false :: []
def om_29_18000010 : List Bool := true :: true :: false :: false :: false :: false :: false :: false :: false :: false :: false :: false :: false :: false :: false :: false :: false :: false :: false :: false :: false :: false :: false :: false :: true :: false :: false :: false :: false :: []
def om_29_18000008 : List Bool := true :: true :: false :: false :: false :: false :: false :: false :: false :: false :: false :: false :: false :: false :: false :: false :: false :: false :: false :: false :: false :: false :: false :: false :: false :: true :: false :: false :: false :: []
def om_29_18000004 : List Bool := true :: true :: false :: false :: false :: false :: false :: false :: false :: false :: false :: false :: false :: false :: false :: false :: false :: false :: false :: false :: false :: false :: false :: false :: false :: false :: true :: false :: false :: []
def om_29_18000002 : List Bool := true :: true :: false :: false :: false :: false :: false :: false :: false :: false :: false :: false :: false :: false :: false :: false :: false :: false :: false :: false :: false :: false :: false :: false :: false :: false :: false :: true :: false :: []
def om_29_18000001 : List Bool := true :: true :: false :: false :: false :: false :: false :: false :: false :: false :: false :: false :: false :: false :: false :: false :: false :: false :: false :: false :: false :: false :: false :: false :: false :: false :: false :: false :: true :: []
def om_29_18000000 : List Bool := true :: true :: false :: false :: false :: false :: false :: false :: false :: false :: false :: false :: false :: false :: false :: false :: false :: false :: false :: false :: false :: false :: false :: false :: false :: false :: false :: false :: false :: []
def om_29_1ffffe00 : List Bool := true :: true :: true :: true :: true :: true :: true :: true :: true :: true :: true :: true :: true :: true :: true :: true :: true :: true :: true :: true :: false :: false :: false :: false :: false :: false :: false :: false :: false :: []
def om_29_18000180 : List Bool := true :: true :: false :: false :: false :: false :: false :: false :: false :: false :: false :: false :: false :: false :: false :: false :: false :: false :: false :: false :: true :: true :: false :: false :: false :: false :: false :: false :: false :: []
theorem hd_X12_codesTold_2 : skD yX12_codesTold 2 := by decide +kernel
theorem hd_X12_muteTold_0 : skD yX12_muteTold 0 := by decide +kernel
theorem hd_X12_dayTold_1 : skD yX12_dayTold 1 := by decide +kernel
theorem dX12_qOf_1 : decode cX12_qOf 1 = .ok (.lookupswitch 11 #[], 11) := by decide +kernel
theorem dg_X12_qOf_0_0 : bqL cX12_qOf 0 [(0, [27]), (12, [32]), (13, [9]), (14, [20, 1, 62]), (17, [184, 0, 238]), (20, [153, 0, 33]), (53, [9]), (54, [173]), (23, [42]), (24, [180, 0, 86]), (27, [16, 10]), (29, [21, 4]), (31, [104]), (32, [32]), (33, [136]), (34, [96]), (35, [47]), (36, [42]), (37, [180, 0, 82]), (40, [16, 10]), (42, [21, 4]), (44, [104]), (45, [32]), (46, [136]), (47, [96]), (48, [47]), (49, [105]), (50, [167, 0, 4])] = true := by decide +kernel
theorem dX12_qOf_0 : decode cX12_qOf 0 = .ok (.iload_n 1, 1) := q_iload_n1 (bat_get dg_X12_qOf_0_0 0 rfl rfl)
theorem dX12_qOf_12 : decode cX12_qOf 12 = .ok (.lload_n 2, 1) := q_lload_n2 (bat_get dg_X12_qOf_0_0 1 rfl rfl)
theorem dX12_qOf_13 : decode cX12_qOf 13 = .ok (.lconst 0, 1) := q_lconst0 (bat_get dg_X12_qOf_0_0 2 rfl rfl)
theorem dX12_qOf_14 : decode cX12_qOf 14 = .ok (.ldc2_w 318, 3) := q_ldc2_w (bat_get dg_X12_qOf_0_0 3 rfl rfl) rfl
theorem dX12_qOf_17 : decode cX12_qOf 17 = .ok (.invokestatic 238, 3) := q_invokestatic (bat_get dg_X12_qOf_0_0 4 rfl rfl) rfl
theorem dX12_qOf_20 : decode cX12_qOf 20 = .ok (.ifCond .eq 33, 3) := q_ifCond_eq (bat_get dg_X12_qOf_0_0 5 rfl rfl) rfl
theorem dX12_qOf_53 : decode cX12_qOf 53 = .ok (.lconst 0, 1) := q_lconst0 (bat_get dg_X12_qOf_0_0 6 rfl rfl)
theorem dX12_qOf_54 : decode cX12_qOf 54 = .ok (.lreturn, 1) := q_lreturn (bat_get dg_X12_qOf_0_0 7 rfl rfl)
theorem dX12_qOf_23 : decode cX12_qOf 23 = .ok (.aload_n 0, 1) := q_aload_n0 (bat_get dg_X12_qOf_0_0 8 rfl rfl)
theorem dX12_qOf_24 : decode cX12_qOf 24 = .ok (.getfield 86, 3) := q_getfield (bat_get dg_X12_qOf_0_0 9 rfl rfl) rfl
theorem dX12_qOf_27 : decode cX12_qOf 27 = .ok (.bipush 10, 2) := q_bipush (bat_get dg_X12_qOf_0_0 10 rfl rfl) rfl
theorem dX12_qOf_29 : decode cX12_qOf 29 = .ok (.iload 4, 2) := q_iload (bat_get dg_X12_qOf_0_0 11 rfl rfl)
theorem dX12_qOf_31 : decode cX12_qOf 31 = .ok (.imul, 1) := q_imul (bat_get dg_X12_qOf_0_0 12 rfl rfl)
theorem dX12_qOf_32 : decode cX12_qOf 32 = .ok (.lload_n 2, 1) := q_lload_n2 (bat_get dg_X12_qOf_0_0 13 rfl rfl)
theorem dX12_qOf_33 : decode cX12_qOf 33 = .ok (.l2i, 1) := q_l2i (bat_get dg_X12_qOf_0_0 14 rfl rfl)
theorem dX12_qOf_34 : decode cX12_qOf 34 = .ok (.iadd, 1) := q_iadd (bat_get dg_X12_qOf_0_0 15 rfl rfl)
theorem dX12_qOf_35 : decode cX12_qOf 35 = .ok (.laload, 1) := q_laload (bat_get dg_X12_qOf_0_0 16 rfl rfl)
theorem dX12_qOf_36 : decode cX12_qOf 36 = .ok (.aload_n 0, 1) := q_aload_n0 (bat_get dg_X12_qOf_0_0 17 rfl rfl)
theorem dX12_qOf_37 : decode cX12_qOf 37 = .ok (.getfield 82, 3) := q_getfield (bat_get dg_X12_qOf_0_0 18 rfl rfl) rfl
theorem dX12_qOf_40 : decode cX12_qOf 40 = .ok (.bipush 10, 2) := q_bipush (bat_get dg_X12_qOf_0_0 19 rfl rfl) rfl
theorem dX12_qOf_42 : decode cX12_qOf 42 = .ok (.iload 4, 2) := q_iload (bat_get dg_X12_qOf_0_0 20 rfl rfl)
theorem dX12_qOf_44 : decode cX12_qOf 44 = .ok (.imul, 1) := q_imul (bat_get dg_X12_qOf_0_0 21 rfl rfl)
theorem dX12_qOf_45 : decode cX12_qOf 45 = .ok (.lload_n 2, 1) := q_lload_n2 (bat_get dg_X12_qOf_0_0 22 rfl rfl)
theorem dX12_qOf_46 : decode cX12_qOf 46 = .ok (.l2i, 1) := q_l2i (bat_get dg_X12_qOf_0_0 23 rfl rfl)
theorem dX12_qOf_47 : decode cX12_qOf 47 = .ok (.iadd, 1) := q_iadd (bat_get dg_X12_qOf_0_0 24 rfl rfl)
theorem dX12_qOf_48 : decode cX12_qOf 48 = .ok (.laload, 1) := q_laload (bat_get dg_X12_qOf_0_0 25 rfl rfl)
theorem dX12_qOf_49 : decode cX12_qOf 49 = .ok (.lmul, 1) := q_lmul (bat_get dg_X12_qOf_0_0 26 rfl rfl)
theorem dX12_qOf_50 : decode cX12_qOf 50 = .ok (.goto 4, 3) := q_goto (bat_get dg_X12_qOf_0_0 27 rfl rfl) rfl
theorem w_8_198 : (Cond.code yX12_qOf cX12_qOf 5 (some .long)) ∈ wsL_law := sk_mem (ck_8 _ (List.mem_of_getElem? (i := 198) rfl)) rfl
set_option maxHeartbeats 4000000 in
set_option maxRecDepth 100000 in
theorem c_m_qOf (l : Launch) (D : va_G) (cI cJ cC cZ cS : ClassId) (mm : Nat) (g : Nat → Nat) (ta : Nat) (pa : Nat) (pe : Nat) (pd : Int32) (pb : Nat) (pp : Int32) (pf : Int32) (pg : Int32) (pn : Int32) (rt : Int32) (rn : Int32) (cd : Nat) (sn : Int32) (il : Nat) (tk : Int32) (am : Int32) (at_ : Int32) (aa : Int32) (wt : Int32) (wy : Int64) (rm : Nat) (ud : Nat) (nu : Nat) (sd : Int64) (qn : Nat) (qw : Nat) (qo : Int32) (qb : Nat) (qp : Nat) (qa : Int64) (qi : Nat) (oc : Nat) (w : Int32) (x : Int64) (d : Nat) (bf : Nat → Int64) (be : Nat → Int64) (hd : d < 9) : skM l yX12_qOf cX12_qOf 5 (some .long) 1 25 0 0 D (skT cI cJ cC cZ cS) [.ref mm, .int w, .long x, .int (nI d)] [ro_ mm 12 (mo g (nI ta) (nI pa) (nI pe) pd (nI pb) pp pf pg pn rt rn (nI cd) sn (nI il) tk am at_ aa 0 0 (-1) wt wy 0 (nI rm) (nI ud) (nI nu) sd (nI qn) (nI qw) qo (nI qb) (nI qp) qa (nI qi) (nI oc)), ra_J (g 44) cJ 90 bf, ra_J (g 43) cJ 90 be] (skL D (skT cI cJ cC cZ cS) (fun (r : Int64) (u : va_W) => u = [ro_ mm 12 (mo g (nI ta) (nI pa) (nI pe) pd (nI pb) pp pf pg pn rt rn (nI cd) sn (nI il) tk am at_ aa 0 0 (-1) wt wy 0 (nI rm) (nI ud) (nI nu) sd (nI qn) (nI qw) qo (nI qb) (nI qp) qa (nI qi) (nI oc)), ra_J (g 44) cJ 90 bf, ra_J (g 43) cJ 90 be])) := by
  refine skM_of pf_X12_qOf (Nat.le_of_ble_eq_true rfl) ?_
  intro p e s m below meth c A ls E hP hD hl
  refine skE_el E (fun hx hb hr hml hlocks hin hown hts hK hA => ?_)
  have hown : s.vm.findClass RX12 = some m.cls := hown
  have hS : va_S A s.heap s.heap [] := va_S.rf
  have hl : lv_has ls 5 [(0, .ref mm), (1, .int w), (2, .long x), (4, .int (nI d))] := hl
  refine lv_iload_n hx hb dX12_qOf_0 rfl (lv_at hl 1 rfl) ?_
  refine lv_lookup (off := 11) (tgt := 12) hx hb dX12_qOf_1 (by decide) (by rfl) (by decide) ?_
  refine lv_lload_n hx hb dX12_qOf_12 rfl (lv_at hl 2 rfl) ?_
  refine lv_lconst (v := 0) hx hb dX12_qOf_13 (by decide) ?_
  refine lv_ldc2 (v := 9) hx hb hown (hts _ w_7_130) dX12_qOf_14 ?_
  refine sk_Si (n := 3) (rest := []) (wr := [ro_ mm 12 (mo g (nI ta) (nI pa) (nI pe) pd (nI pb) pp pf pg pn rt rn (nI cd) sn (nI il) tk am at_ aa 0 0 (-1) wt wy 0 (nI rm) (nI ud) (nI nu) sd (nI qn) (nI qw) qo (nI qb) (nI qp) qa (nI qi) (nI oc)), ra_J (g 44) cJ 90 bf, ra_J (g 43) cJ 90 be]) ⟨hx, hb, hml, hown, hts⟩ hl.1 (c_m_isIn l D cI cJ cC cZ cS x 0 9) w_7_0 w_7_1 w_1_14 w_7_2 hd_X12_isIn_3 ⟨⟨(Nat.le_of_ble_eq_true rfl), (Nat.le_of_ble_eq_true rfl)⟩, (Nat.le_of_ble_eq_true rfl), (Nat.le_of_ble_eq_true rfl)⟩ hK hP hD hS hA [] [0, 1, 2] rfl rfl (by decide +kernel) (by decide +kernel) (by decide +kernel) rfl rfl (Nat.le_of_ble_eq_true rfl) dX12_qOf_17 (fun r_2 u H locs hw hP hD hS => ?_)
  obtain ⟨b_1, hb1_3, rfl, rfl⟩ := hw
  refine o_re (ws' := [ro_ mm 12 (mo g (nI ta) (nI pa) (nI pe) pd (nI pb) pp pf pg pn rt rn (nI cd) sn (nI il) tk am at_ aa 0 0 (-1) wt wy 0 (nI rm) (nI ud) (nI nu) sd (nI qn) (nI qw) qo (nI qb) (nI qp) qa (nI qi) (nI oc)), ra_J (g 44) cJ 90 bf, ra_J (g 43) cJ 90 be]) hP hD rfl (fun hP hD => ?_)
  refine lv_if_eq (tgt := 53) hx hb dX12_qOf_20 (by decide) (fun c_4 => ?_) (fun c_4 => ?_)
  · have c_4 : b_1 = 0 := (neq b_1 0 (by omega) (Nat.le_of_ble_eq_true rfl)).mp c_4
    refine lv_lconst (v := 0) hx hb dX12_qOf_53 (by decide) ?_
    exact sk_lret hx hb hr hlocks hK hP hD hS rfl (Nat.le_of_ble_eq_true rfl) (Nat.le_of_ble_eq_true rfl) dX12_qOf_54
  · have c_4 : ¬ (b_1 = 0) := fun h => c_4 ((neq b_1 0 (by omega) (Nat.le_of_ble_eq_true rfl)).mpr h)
    obtain ⟨kq, hkq, ekq⟩ := qof_k hb1_3 (by omega)
    refine lv_aload_n hx hb dX12_qOf_23 rfl (lv_at hl 0 rfl) ?_
    refine sk_get (v := .ref (g 44)) (C := RX12) (T := TX12) (N := 92) hx hb hts inlX12 hown hK hP 0 rfl rfl 44 (Nat.le_of_ble_eq_true rfl) w_5_199 rfl dX12_qOf_24 ?_
    refine lv_bipush (v := 10) hx hb dX12_qOf_27 (by decide) ?_
    refine lv_iload hx hb dX12_qOf_29 (lv_at hl 3 rfl) ?_
    refine lv_imul hx hb dX12_qOf_31 ?_
    refine sk_top (nI (10 * d)) (nmul 10 d) ?_
    refine lv_lload_n hx hb dX12_qOf_32 rfl (lv_at hl 2 rfl) ?_
    refine lv_l2i hx hb dX12_qOf_33 rfl ?_
    refine sk_top (nI kq) ekq ?_
    refine lv_iadd hx hb dX12_qOf_34 ?_
    refine sk_top (nI (10 * d + kq)) (nI_add (10 * d) kq) ?_
    refine va_lald hx hb hK.1 hP 1 1 rfl rfl (vin (10 * d + kq) 90 (by omega) (Nat.le_of_ble_eq_true rfl)) dX12_qOf_35 ?_
    refine lv_topl (fun v_5 ev_5 => ?_)
    refine lv_aload_n hx hb dX12_qOf_36 rfl (lv_at hl 0 rfl) ?_
    refine sk_get (v := .ref (g 43)) (C := RX12) (T := TX12) (N := 92) hx hb hts inlX12 hown hK hP 0 rfl rfl 43 (Nat.le_of_ble_eq_true rfl) w_5_198 rfl dX12_qOf_37 ?_
    refine lv_bipush (v := 10) hx hb dX12_qOf_40 (by decide) ?_
    refine lv_iload hx hb dX12_qOf_42 (lv_at hl 3 rfl) ?_
    refine lv_imul hx hb dX12_qOf_44 ?_
    refine sk_top (nI (10 * d)) (nmul 10 d) ?_
    refine lv_lload_n hx hb dX12_qOf_45 rfl (lv_at hl 2 rfl) ?_
    refine lv_l2i hx hb dX12_qOf_46 rfl ?_
    refine sk_top (nI kq) ekq ?_
    refine lv_iadd hx hb dX12_qOf_47 ?_
    refine sk_top (nI (10 * d + kq)) (nI_add (10 * d) kq) ?_
    refine va_lald hx hb hK.1 hP 2 1 rfl rfl (vin (10 * d + kq) 90 (by omega) (Nat.le_of_ble_eq_true rfl)) dX12_qOf_48 ?_
    refine lv_topl (fun v_6 ev_6 => ?_)
    refine lv_lmul hx hb dX12_qOf_49 ?_
    refine lv_topl (fun v_7 ev_7 => ?_)
    refine lv_goto (tgt := 54) hx hb dX12_qOf_50 (by decide) ?_
    exact sk_lret hx hb hr hlocks hK hP hD hS rfl (Nat.le_of_ble_eq_true rfl) (Nat.le_of_ble_eq_true rfl) dX12_qOf_54
theorem dg_X12_qTold_0_0 : bqL cX12_qTold 0 [(0, [42]), (1, [3]), (2, [181, 1, 64]), (5, [3]), (6, [61]), (7, [28]), (8, [42]), (9, [180, 1, 1]), (12, [162, 0, 156]), (168, [42]), (169, [180, 0, 186]), (172, [3]), (173, [47]), (174, [173]), (15, [42]), (16, [180, 0, 180]), (19, [28]), (20, [46]), (21, [62]), (22, [29]), (23, [17, 3, 232]), (26, [161, 0, 16]), (42, [29]), (43, [16, 60]), (45, [161, 0, 40]), (85, [29]), (86, [16, 40]), (88, [161, 0, 22]), (110, [29]), (111, [16, 13]), (113, [160, 0, 11]), (124, [29]), (125, [16, 12]), (127, [160, 0, 30]), (157, [42]), (158, [29]), (159, [182, 1, 75]), (162, [132, 2, 1]), (165, [167, 255, 98]), (130, [42])] = true := by decide +kernel
theorem dX12_qTold_0 : decode cX12_qTold 0 = .ok (.aload_n 0, 1) := q_aload_n0 (bat_get dg_X12_qTold_0_0 0 rfl rfl)
theorem dX12_qTold_1 : decode cX12_qTold 1 = .ok (.iconst 0, 1) := q_iconst0 (bat_get dg_X12_qTold_0_0 1 rfl rfl)
theorem dX12_qTold_2 : decode cX12_qTold 2 = .ok (.putfield 320, 3) := q_putfield (bat_get dg_X12_qTold_0_0 2 rfl rfl) rfl
theorem dX12_qTold_5 : decode cX12_qTold 5 = .ok (.iconst 0, 1) := q_iconst0 (bat_get dg_X12_qTold_0_0 3 rfl rfl)
theorem dX12_qTold_6 : decode cX12_qTold 6 = .ok (.istore_n 2, 1) := q_istore_n2 (bat_get dg_X12_qTold_0_0 4 rfl rfl)
theorem dX12_qTold_7 : decode cX12_qTold 7 = .ok (.iload_n 2, 1) := q_iload_n2 (bat_get dg_X12_qTold_0_0 5 rfl rfl)
theorem dX12_qTold_8 : decode cX12_qTold 8 = .ok (.aload_n 0, 1) := q_aload_n0 (bat_get dg_X12_qTold_0_0 6 rfl rfl)
theorem dX12_qTold_9 : decode cX12_qTold 9 = .ok (.getfield 257, 3) := q_getfield (bat_get dg_X12_qTold_0_0 7 rfl rfl) rfl
theorem dX12_qTold_12 : decode cX12_qTold 12 = .ok (.if_icmp .ge 156, 3) := q_if_icmp_ge (bat_get dg_X12_qTold_0_0 8 rfl rfl) rfl
theorem dX12_qTold_168 : decode cX12_qTold 168 = .ok (.aload_n 0, 1) := q_aload_n0 (bat_get dg_X12_qTold_0_0 9 rfl rfl)
theorem dX12_qTold_169 : decode cX12_qTold 169 = .ok (.getfield 186, 3) := q_getfield (bat_get dg_X12_qTold_0_0 10 rfl rfl) rfl
theorem dX12_qTold_172 : decode cX12_qTold 172 = .ok (.iconst 0, 1) := q_iconst0 (bat_get dg_X12_qTold_0_0 11 rfl rfl)
theorem dX12_qTold_173 : decode cX12_qTold 173 = .ok (.laload, 1) := q_laload (bat_get dg_X12_qTold_0_0 12 rfl rfl)
theorem dX12_qTold_174 : decode cX12_qTold 174 = .ok (.lreturn, 1) := q_lreturn (bat_get dg_X12_qTold_0_0 13 rfl rfl)
theorem dX12_qTold_15 : decode cX12_qTold 15 = .ok (.aload_n 0, 1) := q_aload_n0 (bat_get dg_X12_qTold_0_0 14 rfl rfl)
theorem dX12_qTold_16 : decode cX12_qTold 16 = .ok (.getfield 180, 3) := q_getfield (bat_get dg_X12_qTold_0_0 15 rfl rfl) rfl
theorem dX12_qTold_19 : decode cX12_qTold 19 = .ok (.iload_n 2, 1) := q_iload_n2 (bat_get dg_X12_qTold_0_0 16 rfl rfl)
theorem dX12_qTold_20 : decode cX12_qTold 20 = .ok (.iaload, 1) := q_iaload (bat_get dg_X12_qTold_0_0 17 rfl rfl)
theorem dX12_qTold_21 : decode cX12_qTold 21 = .ok (.istore_n 3, 1) := q_istore_n3 (bat_get dg_X12_qTold_0_0 18 rfl rfl)
theorem dX12_qTold_22 : decode cX12_qTold 22 = .ok (.iload_n 3, 1) := q_iload_n3 (bat_get dg_X12_qTold_0_0 19 rfl rfl)
theorem dX12_qTold_23 : decode cX12_qTold 23 = .ok (.sipush 1000, 3) := q_sipush (bat_get dg_X12_qTold_0_0 20 rfl rfl) rfl
theorem dX12_qTold_26 : decode cX12_qTold 26 = .ok (.if_icmp .lt 16, 3) := q_if_icmp_lt (bat_get dg_X12_qTold_0_0 21 rfl rfl) rfl
theorem dX12_qTold_42 : decode cX12_qTold 42 = .ok (.iload_n 3, 1) := q_iload_n3 (bat_get dg_X12_qTold_0_0 22 rfl rfl)
theorem dX12_qTold_43 : decode cX12_qTold 43 = .ok (.bipush 60, 2) := q_bipush (bat_get dg_X12_qTold_0_0 23 rfl rfl) rfl
theorem dX12_qTold_45 : decode cX12_qTold 45 = .ok (.if_icmp .lt 40, 3) := q_if_icmp_lt (bat_get dg_X12_qTold_0_0 24 rfl rfl) rfl
theorem dX12_qTold_85 : decode cX12_qTold 85 = .ok (.iload_n 3, 1) := q_iload_n3 (bat_get dg_X12_qTold_0_0 25 rfl rfl)
theorem dX12_qTold_86 : decode cX12_qTold 86 = .ok (.bipush 40, 2) := q_bipush (bat_get dg_X12_qTold_0_0 26 rfl rfl) rfl
theorem dX12_qTold_88 : decode cX12_qTold 88 = .ok (.if_icmp .lt 22, 3) := q_if_icmp_lt (bat_get dg_X12_qTold_0_0 27 rfl rfl) rfl
theorem dX12_qTold_110 : decode cX12_qTold 110 = .ok (.iload_n 3, 1) := q_iload_n3 (bat_get dg_X12_qTold_0_0 28 rfl rfl)
theorem dX12_qTold_111 : decode cX12_qTold 111 = .ok (.bipush 13, 2) := q_bipush (bat_get dg_X12_qTold_0_0 29 rfl rfl) rfl
theorem dX12_qTold_113 : decode cX12_qTold 113 = .ok (.if_icmp .ne 11, 3) := q_if_icmp_ne (bat_get dg_X12_qTold_0_0 30 rfl rfl) rfl
theorem dX12_qTold_124 : decode cX12_qTold 124 = .ok (.iload_n 3, 1) := q_iload_n3 (bat_get dg_X12_qTold_0_0 31 rfl rfl)
theorem dX12_qTold_125 : decode cX12_qTold 125 = .ok (.bipush 12, 2) := q_bipush (bat_get dg_X12_qTold_0_0 32 rfl rfl) rfl
theorem dX12_qTold_127 : decode cX12_qTold 127 = .ok (.if_icmp .ne 30, 3) := q_if_icmp_ne (bat_get dg_X12_qTold_0_0 33 rfl rfl) rfl
theorem dX12_qTold_157 : decode cX12_qTold 157 = .ok (.aload_n 0, 1) := q_aload_n0 (bat_get dg_X12_qTold_0_0 34 rfl rfl)
theorem dX12_qTold_158 : decode cX12_qTold 158 = .ok (.iload_n 3, 1) := q_iload_n3 (bat_get dg_X12_qTold_0_0 35 rfl rfl)
theorem dX12_qTold_159 : decode cX12_qTold 159 = .ok (.invokevirtual 331, 3) := q_invokevirtual (bat_get dg_X12_qTold_0_0 36 rfl rfl) rfl
theorem dX12_qTold_162 : decode cX12_qTold 162 = .ok (.iinc 2 1, 3) := q_iinc (bat_get dg_X12_qTold_0_0 37 rfl rfl) rfl
theorem dX12_qTold_165 : decode cX12_qTold 165 = .ok (.goto (-158), 3) := q_goto (bat_get dg_X12_qTold_0_0 38 rfl rfl) rfl
theorem dX12_qTold_130 : decode cX12_qTold 130 = .ok (.aload_n 0, 1) := q_aload_n0 (bat_get dg_X12_qTold_0_0 39 rfl rfl)
theorem dg_X12_qTold_48_131 : bqL cX12_qTold 48 [(83, [180, 0, 186]), (86, [42]), (87, [180, 1, 64]), (90, [4]), (91, [100]), (92, [10]), (93, [42]), (94, [180, 0, 186]), (97, [42]), (98, [180, 1, 64]), (101, [4]), (102, [100]), (103, [47]), (104, [101]), (105, [80]), (106, [167, 0, 8]), (68, [42]), (69, [10]), (70, [182, 1, 67]), (73, [167, 0, 41]), (43, [42]), (44, [42]), (45, [29]), (46, [16, 40]), (48, [100]), (49, [27]), (50, [182, 1, 71]), (53, [184, 2, 44]), (56, [182, 1, 67]), (59, [167, 0, 55]), (0, [42]), (1, [180, 0, 186]), (4, [42]), (5, [180, 1, 64]), (8, [4]), (9, [100]), (10, [42]), (11, [29]), (12, [16, 60]), (14, [100])] = true := by decide +kernel
theorem dX12_qTold_131 : decode cX12_qTold 131 = .ok (.getfield 186, 3) := q_getfield (bat_get dg_X12_qTold_48_131 0 rfl rfl) rfl
theorem dX12_qTold_134 : decode cX12_qTold 134 = .ok (.aload_n 0, 1) := q_aload_n0 (bat_get dg_X12_qTold_48_131 1 rfl rfl)
theorem dX12_qTold_135 : decode cX12_qTold 135 = .ok (.getfield 320, 3) := q_getfield (bat_get dg_X12_qTold_48_131 2 rfl rfl) rfl
theorem dX12_qTold_138 : decode cX12_qTold 138 = .ok (.iconst 1, 1) := q_iconst1 (bat_get dg_X12_qTold_48_131 3 rfl rfl)
theorem dX12_qTold_139 : decode cX12_qTold 139 = .ok (.isub, 1) := q_isub (bat_get dg_X12_qTold_48_131 4 rfl rfl)
theorem dX12_qTold_140 : decode cX12_qTold 140 = .ok (.lconst 1, 1) := q_lconst1 (bat_get dg_X12_qTold_48_131 5 rfl rfl)
theorem dX12_qTold_141 : decode cX12_qTold 141 = .ok (.aload_n 0, 1) := q_aload_n0 (bat_get dg_X12_qTold_48_131 6 rfl rfl)
theorem dX12_qTold_142 : decode cX12_qTold 142 = .ok (.getfield 186, 3) := q_getfield (bat_get dg_X12_qTold_48_131 7 rfl rfl) rfl
theorem dX12_qTold_145 : decode cX12_qTold 145 = .ok (.aload_n 0, 1) := q_aload_n0 (bat_get dg_X12_qTold_48_131 8 rfl rfl)
theorem dX12_qTold_146 : decode cX12_qTold 146 = .ok (.getfield 320, 3) := q_getfield (bat_get dg_X12_qTold_48_131 9 rfl rfl) rfl
theorem dX12_qTold_149 : decode cX12_qTold 149 = .ok (.iconst 1, 1) := q_iconst1 (bat_get dg_X12_qTold_48_131 10 rfl rfl)
theorem dX12_qTold_150 : decode cX12_qTold 150 = .ok (.isub, 1) := q_isub (bat_get dg_X12_qTold_48_131 11 rfl rfl)
theorem dX12_qTold_151 : decode cX12_qTold 151 = .ok (.laload, 1) := q_laload (bat_get dg_X12_qTold_48_131 12 rfl rfl)
theorem dX12_qTold_152 : decode cX12_qTold 152 = .ok (.lsub, 1) := q_lsub (bat_get dg_X12_qTold_48_131 13 rfl rfl)
theorem dX12_qTold_153 : decode cX12_qTold 153 = .ok (.lastore, 1) := q_lastore (bat_get dg_X12_qTold_48_131 14 rfl rfl)
theorem dX12_qTold_154 : decode cX12_qTold 154 = .ok (.goto 8, 3) := q_goto (bat_get dg_X12_qTold_48_131 15 rfl rfl) rfl
theorem dX12_qTold_116 : decode cX12_qTold 116 = .ok (.aload_n 0, 1) := q_aload_n0 (bat_get dg_X12_qTold_48_131 16 rfl rfl)
theorem dX12_qTold_117 : decode cX12_qTold 117 = .ok (.lconst 1, 1) := q_lconst1 (bat_get dg_X12_qTold_48_131 17 rfl rfl)
theorem dX12_qTold_118 : decode cX12_qTold 118 = .ok (.invokevirtual 323, 3) := q_invokevirtual (bat_get dg_X12_qTold_48_131 18 rfl rfl) rfl
theorem dX12_qTold_121 : decode cX12_qTold 121 = .ok (.goto 41, 3) := q_goto (bat_get dg_X12_qTold_48_131 19 rfl rfl) rfl
theorem dX12_qTold_91 : decode cX12_qTold 91 = .ok (.aload_n 0, 1) := q_aload_n0 (bat_get dg_X12_qTold_48_131 20 rfl rfl)
theorem dX12_qTold_92 : decode cX12_qTold 92 = .ok (.aload_n 0, 1) := q_aload_n0 (bat_get dg_X12_qTold_48_131 21 rfl rfl)
theorem dX12_qTold_93 : decode cX12_qTold 93 = .ok (.iload_n 3, 1) := q_iload_n3 (bat_get dg_X12_qTold_48_131 22 rfl rfl)
theorem dX12_qTold_94 : decode cX12_qTold 94 = .ok (.bipush 40, 2) := q_bipush (bat_get dg_X12_qTold_48_131 23 rfl rfl) rfl
theorem dX12_qTold_96 : decode cX12_qTold 96 = .ok (.isub, 1) := q_isub (bat_get dg_X12_qTold_48_131 24 rfl rfl)
theorem dX12_qTold_97 : decode cX12_qTold 97 = .ok (.iload_n 1, 1) := q_iload_n1 (bat_get dg_X12_qTold_48_131 25 rfl rfl)
theorem dX12_qTold_98 : decode cX12_qTold 98 = .ok (.invokevirtual 327, 3) := q_invokevirtual (bat_get dg_X12_qTold_48_131 26 rfl rfl) rfl
theorem dX12_qTold_101 : decode cX12_qTold 101 = .ok (.invokestatic 556, 3) := q_invokestatic (bat_get dg_X12_qTold_48_131 27 rfl rfl) rfl
theorem dX12_qTold_104 : decode cX12_qTold 104 = .ok (.invokevirtual 323, 3) := q_invokevirtual (bat_get dg_X12_qTold_48_131 28 rfl rfl) rfl
theorem dX12_qTold_107 : decode cX12_qTold 107 = .ok (.goto 55, 3) := q_goto (bat_get dg_X12_qTold_48_131 29 rfl rfl) rfl
theorem dX12_qTold_48 : decode cX12_qTold 48 = .ok (.aload_n 0, 1) := q_aload_n0 (bat_get dg_X12_qTold_48_131 30 rfl rfl)
theorem dX12_qTold_49 : decode cX12_qTold 49 = .ok (.getfield 186, 3) := q_getfield (bat_get dg_X12_qTold_48_131 31 rfl rfl) rfl
theorem dX12_qTold_52 : decode cX12_qTold 52 = .ok (.aload_n 0, 1) := q_aload_n0 (bat_get dg_X12_qTold_48_131 32 rfl rfl)
theorem dX12_qTold_53 : decode cX12_qTold 53 = .ok (.getfield 320, 3) := q_getfield (bat_get dg_X12_qTold_48_131 33 rfl rfl) rfl
theorem dX12_qTold_56 : decode cX12_qTold 56 = .ok (.iconst 1, 1) := q_iconst1 (bat_get dg_X12_qTold_48_131 34 rfl rfl)
theorem dX12_qTold_57 : decode cX12_qTold 57 = .ok (.isub, 1) := q_isub (bat_get dg_X12_qTold_48_131 35 rfl rfl)
theorem dX12_qTold_58 : decode cX12_qTold 58 = .ok (.aload_n 0, 1) := q_aload_n0 (bat_get dg_X12_qTold_48_131 36 rfl rfl)
theorem dX12_qTold_59 : decode cX12_qTold 59 = .ok (.iload_n 3, 1) := q_iload_n3 (bat_get dg_X12_qTold_48_131 37 rfl rfl)
theorem dX12_qTold_60 : decode cX12_qTold 60 = .ok (.bipush 60, 2) := q_bipush (bat_get dg_X12_qTold_48_131 38 rfl rfl) rfl
theorem dX12_qTold_62 : decode cX12_qTold 62 = .ok (.isub, 1) := q_isub (bat_get dg_X12_qTold_48_131 39 rfl rfl)
theorem dg_X12_qTold_29_63 : bqL cX12_qTold 29 [(34, [42]), (35, [180, 0, 186]), (38, [42]), (39, [180, 1, 64]), (42, [4]), (43, [100]), (44, [47]), (45, [27]), (46, [182, 2, 59]), (49, [184, 2, 44]), (52, [80]), (53, [167, 0, 80]), (0, [42]), (1, [29]), (2, [17, 3, 232]), (5, [100]), (6, [133]), (7, [182, 1, 67]), (10, [167, 0, 123])] = true := by decide +kernel
theorem dX12_qTold_63 : decode cX12_qTold 63 = .ok (.aload_n 0, 1) := q_aload_n0 (bat_get dg_X12_qTold_29_63 0 rfl rfl)
theorem dX12_qTold_64 : decode cX12_qTold 64 = .ok (.getfield 186, 3) := q_getfield (bat_get dg_X12_qTold_29_63 1 rfl rfl) rfl
theorem dX12_qTold_67 : decode cX12_qTold 67 = .ok (.aload_n 0, 1) := q_aload_n0 (bat_get dg_X12_qTold_29_63 2 rfl rfl)
theorem dX12_qTold_68 : decode cX12_qTold 68 = .ok (.getfield 320, 3) := q_getfield (bat_get dg_X12_qTold_29_63 3 rfl rfl) rfl
theorem dX12_qTold_71 : decode cX12_qTold 71 = .ok (.iconst 1, 1) := q_iconst1 (bat_get dg_X12_qTold_29_63 4 rfl rfl)
theorem dX12_qTold_72 : decode cX12_qTold 72 = .ok (.isub, 1) := q_isub (bat_get dg_X12_qTold_29_63 5 rfl rfl)
theorem dX12_qTold_73 : decode cX12_qTold 73 = .ok (.laload, 1) := q_laload (bat_get dg_X12_qTold_29_63 6 rfl rfl)
theorem dX12_qTold_74 : decode cX12_qTold 74 = .ok (.iload_n 1, 1) := q_iload_n1 (bat_get dg_X12_qTold_29_63 7 rfl rfl)
theorem dX12_qTold_75 : decode cX12_qTold 75 = .ok (.invokevirtual 571, 3) := q_invokevirtual (bat_get dg_X12_qTold_29_63 8 rfl rfl) rfl
theorem dX12_qTold_78 : decode cX12_qTold 78 = .ok (.invokestatic 556, 3) := q_invokestatic (bat_get dg_X12_qTold_29_63 9 rfl rfl) rfl
theorem dX12_qTold_81 : decode cX12_qTold 81 = .ok (.lastore, 1) := q_lastore (bat_get dg_X12_qTold_29_63 10 rfl rfl)
theorem dX12_qTold_82 : decode cX12_qTold 82 = .ok (.goto 80, 3) := q_goto (bat_get dg_X12_qTold_29_63 11 rfl rfl) rfl
theorem dX12_qTold_29 : decode cX12_qTold 29 = .ok (.aload_n 0, 1) := q_aload_n0 (bat_get dg_X12_qTold_29_63 12 rfl rfl)
theorem dX12_qTold_30 : decode cX12_qTold 30 = .ok (.iload_n 3, 1) := q_iload_n3 (bat_get dg_X12_qTold_29_63 13 rfl rfl)
theorem dX12_qTold_31 : decode cX12_qTold 31 = .ok (.sipush 1000, 3) := q_sipush (bat_get dg_X12_qTold_29_63 14 rfl rfl) rfl
theorem dX12_qTold_34 : decode cX12_qTold 34 = .ok (.isub, 1) := q_isub (bat_get dg_X12_qTold_29_63 15 rfl rfl)
theorem dX12_qTold_35 : decode cX12_qTold 35 = .ok (.i2l, 1) := q_i2l (bat_get dg_X12_qTold_29_63 16 rfl rfl)
theorem dX12_qTold_36 : decode cX12_qTold 36 = .ok (.invokevirtual 323, 3) := q_invokevirtual (bat_get dg_X12_qTold_29_63 17 rfl rfl) rfl
theorem dX12_qTold_39 : decode cX12_qTold 39 = .ok (.goto 123, 3) := q_goto (bat_get dg_X12_qTold_29_63 18 rfl rfl) rfl
theorem w_8_195 : (Cond.methodLink RX12 571 yX12_qOf) ∈ wsL_law := sk_mem (ck_8 _ (List.mem_of_getElem? (i := 195) rfl)) rfl
theorem w_8_197 : (Cond.instanceMethod yX12_qOf) ∈ wsL_law := sk_mem (ck_8 _ (List.mem_of_getElem? (i := 197) rfl)) rfl
theorem w_0_117 : (Cond.selects RX12 yX12_qOf yX12_qOf) ∈ wsL_law := sk_mem (ck_0 _ (List.mem_of_getElem? (i := 117) rfl)) rfl
theorem w_8_194 : (Cond.code yX12_qTold cX12_qTold 4 (some .long)) ∈ wsL_law := sk_mem (ck_8 _ (List.mem_of_getElem? (i := 194) rfl)) rfl
def om_7_50 : List Bool := true :: false :: true :: false :: false :: false :: false :: []
def om_7_4c : List Bool := true :: false :: false :: true :: true :: false :: false :: []
def om_7_43 : List Bool := true :: false :: false :: false :: false :: true :: true :: []
theorem hd_X12_qOf_3 : skD yX12_qOf 3 := by decide +kernel
set_option maxHeartbeats 4000000 in
set_option maxRecDepth 100000 in
theorem c_m_qTold (l : Launch) (D : va_G) (cI cJ cC cZ cS : ClassId) (mm : Nat) (g : Nat → Nat) (ta : Nat) (pa : Nat) (pe : Nat) (pd : Int32) (pb : Nat) (pp : Int32) (pf : Int32) (pg : Int32) (pn : Int32) (rt : Int32) (rn : Int32) (cd : Nat) (sn : Int32) (il : Nat) (tk : Int32) (am : Int32) (at_ : Int32) (aa : Int32) (wt : Int32) (wy : Int64) (rm : Nat) (ud : Nat) (nu : Nat) (sd : Int64) (qn : Nat) (qw : Nat) (qo : Int32) (qb : Nat) (qp : Nat) (qa : Int64) (qi : Nat) (oc : Nat) (d : Nat) (qs : Nat → Nat) (ql : Nat → Int64) (nw : Nat → Int32) (pt : Nat → Nat) (bf : Nat → Int64) (be : Nat → Int64) (hd : d < 9) (hqn : qn ≤ 1700) (hwf : wf qs qn) (hqs : ∀ j, qs j ≤ 20000) (hnw : nowOk nw) (hpt : ∀ j, pt j ≤ 9) : skM l yX12_qTold cX12_qTold 4 (some .long) 2 50 0 0 D (skT cI cJ cC cZ cS) [.ref mm, .int (nI d)] [ro_ mm 12 (mo g (nI ta) (nI pa) (nI pe) pd (nI pb) pp pf pg pn rt rn (nI cd) sn (nI il) tk am at_ aa 0 0 (-1) wt wy 0 (nI rm) (nI ud) (nI nu) sd (nI qn) (nI qw) qo (nI qb) (nI qp) qa (nI qi) (nI oc)), ra_N (g 80) cI 1700 qs, ra_J (g 86) cJ 1700 ql, ra_I (g 31) cI 120 nw, ra_N (g 46) cI 9 pt, ra_J (g 44) cJ 90 bf, ra_J (g 43) cJ 90 be] (skL D (skT cI cJ cC cZ cS) (fun (r : Int64) (u : va_W) => ∃ (qp2 : Nat), ∃ (ql2 : Nat → Int64), u = [ro_ mm 12 (mo g (nI ta) (nI pa) (nI pe) pd (nI pb) pp pf pg pn rt rn (nI cd) sn (nI il) tk am at_ aa 0 0 (-1) wt wy 0 (nI rm) (nI ud) (nI nu) sd (nI qn) (nI qw) qo (nI qb) (nI qp2) qa (nI qi) (nI oc)), ra_N (g 80) cI 1700 qs, ra_J (g 86) cJ 1700 ql2, ra_I (g 31) cI 120 nw, ra_N (g 46) cI 9 pt, ra_J (g 44) cJ 90 bf, ra_J (g 43) cJ 90 be])) := by
  refine skM_of pf_X12_qTold (Nat.le_of_ble_eq_true rfl) ?_
  intro p e s m below meth c A ls E hP hD hl
  refine skE_el E (fun hx hb hr hml hlocks hin hown hts hK hA => ?_)
  have hown : s.vm.findClass RX12 = some m.cls := hown
  have hS : va_S A s.heap s.heap [] := va_S.rf
  have hl : lv_has ls 4 [(0, .ref mm), (1, .int (nI d))] := hl
  refine lv_aload_n hx hb dX12_qTold_0 rfl (lv_at hl 0 rfl) ?_
  refine lv_iconst (v := 0) hx hb dX12_qTold_1 ic_0 ?_
  refine sk_put (ws' := [ro_ mm 12 (mo g (nI ta) (nI pa) (nI pe) pd (nI pb) pp pf pg pn rt rn (nI cd) sn (nI il) tk am at_ aa 0 0 (-1) wt wy 0 (nI rm) (nI ud) (nI nu) sd (nI qn) (nI qw) qo (nI qb) 0 qa (nI qi) (nI oc)), ra_N (g 80) cI 1700 qs, ra_J (g 86) cJ 1700 ql, ra_I (g 31) cI 120 nw, ra_N (g 46) cI 9 pt, ra_J (g 44) cJ 90 bf, ra_J (g 43) cJ 90 be]) (C := RX12) (T := TX12) (N := 92) (v := .int 0) hx hb hts inlX12 tyX12 tyX12_ok nmX12 hown hK hP hD hS 0 rfl rfl 87 (Nat.le_of_ble_eq_true rfl) w_6_2 rfl rfl rfl (Nat.le_of_ble_eq_true rfl) rfl dX12_qTold_2 (fun H locs hP hD hS => ?_)
  refine lv_iconst (v := 0) hx hb dX12_qTold_5 ic_0 ?_
  refine lv_istore_n (lv' := [(2, .int 0), (0, .ref mm), (1, .int (nI d))]) hx hb dX12_qTold_6 rfl hl (by decide) rfl (fun ls hl => ?_)
  have lp_1 : ∀ (n_2 : Nat) (i : Nat) (zq : Nat) (zl : Nat → Int64) (H : Heap) (locs : List Loc) (ls : Array Slot), qn - i < n_2 → (i ≤ qn) → (zq ≤ i) → (zq = de qs i) → va_P D vwCl [ro_ mm 12 (mo g (nI ta) (nI pa) (nI pe) pd (nI pb) pp pf pg pn rt rn (nI cd) sn (nI il) tk am at_ aa 0 0 (-1) wt wy 0 (nI rm) (nI ud) (nI nu) sd (nI qn) (nI qw) qo (nI qb) (nI zq) qa (nI qi) (nI oc)), ra_N (g 80) cI 1700 qs, ra_J (g 86) cJ 1700 zl, ra_I (g 31) cI 120 nw, ra_N (g 46) cI 9 pt, ra_J (g 44) cJ 90 bf, ra_J (g 43) cJ 90 be] H → va_D A [ro_ mm 12 (mo g (nI ta) (nI pa) (nI pe) pd (nI pb) pp pf pg pn rt rn (nI cd) sn (nI il) tk am at_ aa 0 0 (-1) wt wy 0 (nI rm) (nI ud) (nI nu) sd (nI qn) (nI qw) qo (nI qb) (nI zq) qa (nI qi) (nI oc)), ra_N (g 80) cI 1700 qs, ra_J (g 86) cJ 1700 zl, ra_I (g 31) cI 120 nw, ra_N (g 46) cI 9 pt, ra_J (g 44) cJ 90 bf, ra_J (g 43) cJ 90 be] → va_S A s.heap H locs → lv_has ls 4 [(2, .int (nI i)), (0, .ref mm), (1, .int (nI d))] → W p l e { frames := 2, cells := 0, slots := 0, locals := 50 } s m ([.ref mm, .int (nI d)] : List Value).toArray below meth c H locs 0 0 (MQ below (skL D (skT cI cJ cC cZ cS) (fun (r : Int64) (u : va_W) => ∃ (qp2 : Nat), ∃ (ql2 : Nat → Int64), u = [ro_ mm 12 (mo g (nI ta) (nI pa) (nI pe) pd (nI pb) pp pf pg pn rt rn (nI cd) sn (nI il) tk am at_ aa 0 0 (-1) wt wy 0 (nI rm) (nI ud) (nI nu) sd (nI qn) (nI qw) qo (nI qb) (nI qp2) qa (nI qi) (nI oc)), ra_N (g 80) cI 1700 qs, ra_J (g 86) cJ 1700 ql2, ra_I (g 31) cI 120 nw, ra_N (g 46) cI 9 pt, ra_J (g 44) cJ 90 bf, ra_J (g 43) cJ 90 be]) A) ([.ref mm, .int (nI d)] : List Value).toArray s 0 0 A) (F0 m 7 ls []) := by
    intro n_2
    induction n_2 with
    | zero => intro i zq zl H locs ls hm; exact absurd hm (Nat.not_lt_zero _)
    | succ n_2 ih_lp_1 =>
      intro i zq zl H locs ls hm hi hzq1 hzq hP hD hS hl
      refine lv_iload_n hx hb dX12_qTold_7 rfl (lv_at hl 0 rfl) ?_
      refine lv_aload_n hx hb dX12_qTold_8 rfl (lv_at hl 1 rfl) ?_
      refine sk_get (v := .int (nI qn)) (C := RX12) (T := TX12) (N := 92) hx hb hts inlX12 hown hK hP 0 rfl rfl 81 (Nat.le_of_ble_eq_true rfl) w_5_236 rfl dX12_qTold_9 ?_
      refine lv_icmp_ge (tgt := 168) hx hb dX12_qTold_12 (by decide) (fun c_3 => ?_) (fun c_3 => ?_)
      · have c_3 : qn ≤ i := (nle qn i (by omega) (by omega)).mp c_3
        refine lv_aload_n hx hb dX12_qTold_168 rfl (lv_at hl 1 rfl) ?_
        refine sk_get (v := .ref (g 86)) (C := RX12) (T := TX12) (N := 92) hx hb hts inlX12 hown hK hP 0 rfl rfl 86 (Nat.le_of_ble_eq_true rfl) w_6_1 rfl dX12_qTold_169 ?_
        refine lv_iconst (v := 0) hx hb dX12_qTold_172 ic_0 ?_
        refine va_lald hx hb hK.1 hP 2 1 rfl rfl (by unfold vp_in; decide) dX12_qTold_173 ?_
        refine lv_topl (fun v_4 ev_4 => ?_)
        exact sk_lret hx hb hr hlocks hK hP hD hS (⟨zq, zl, rfl⟩) (Nat.le_of_ble_eq_true rfl) (Nat.le_of_ble_eq_true rfl) dX12_qTold_174
      · have c_3 : ¬ (qn ≤ i) := fun h => c_3 ((nle qn i (by omega) (by omega)).mpr h)
        have hwi := hwf i (by omega)
        refine lv_aload_n hx hb dX12_qTold_15 rfl (lv_at hl 1 rfl) ?_
        refine sk_get (v := .ref (g 80)) (C := RX12) (T := TX12) (N := 92) hx hb hts inlX12 hown hK hP 0 rfl rfl 80 (Nat.le_of_ble_eq_true rfl) w_5_235 rfl dX12_qTold_16 ?_
        refine lv_iload_n hx hb dX12_qTold_19 rfl (lv_at hl 0 rfl) ?_
        refine va_iald hx hb hK.1 hP 1 0 rfl rfl (vin i 1700 (by omega) (Nat.le_of_ble_eq_true rfl)) dX12_qTold_20 ?_
        refine sk_top (nI (qs i)) (nrd qs i (by omega)) ?_
        have hb_5 := hqs i
        refine lv_istore_n (lv' := [(3, .int (nI (qs i))), (2, .int (nI i)), (0, .ref mm), (1, .int (nI d))]) hx hb dX12_qTold_21 rfl hl (by decide) rfl (fun ls hl => ?_)
        refine lv_iload_n hx hb dX12_qTold_22 rfl (lv_at hl 0 rfl) ?_
        refine lv_sipush (v := 1000) hx hb dX12_qTold_23 (by decide) ?_
        refine lv_icmp_lt (tgt := 42) hx hb dX12_qTold_26 (by decide) (fun c_6 => ?_) (fun c_6 => ?_)
        · have c_6 : qs i < 1000 := (nlt (qs i) 1000 (by omega) (Nat.le_of_ble_eq_true rfl)).mp c_6
          refine lv_iload_n hx hb dX12_qTold_42 rfl (lv_at hl 0 rfl) ?_
          refine lv_bipush (v := 60) hx hb dX12_qTold_43 (by decide) ?_
          refine lv_icmp_lt (tgt := 85) hx hb dX12_qTold_45 (by decide) (fun c_7 => ?_) (fun c_7 => ?_)
          · have c_7 : qs i < 60 := (nlt (qs i) 60 (by omega) (Nat.le_of_ble_eq_true rfl)).mp c_7
            refine lv_iload_n hx hb dX12_qTold_85 rfl (lv_at hl 0 rfl) ?_
            refine lv_bipush (v := 40) hx hb dX12_qTold_86 (by decide) ?_
            refine lv_icmp_lt (tgt := 110) hx hb dX12_qTold_88 (by decide) (fun c_8 => ?_) (fun c_8 => ?_)
            · have c_8 : qs i < 40 := (nlt (qs i) 40 (by omega) (Nat.le_of_ble_eq_true rfl)).mp c_8
              refine lv_iload_n hx hb dX12_qTold_110 rfl (lv_at hl 0 rfl) ?_
              refine lv_bipush (v := 13) hx hb dX12_qTold_111 (by decide) ?_
              refine lv_icmp_ne (tgt := 124) hx hb dX12_qTold_113 (by decide) (fun c_9 => ?_) (fun c_9 => ?_)
              · have c_9 : ¬ (qs i = 13) := fun h => c_9 ((neq (qs i) 13 (by omega) (Nat.le_of_ble_eq_true rfl)).mpr h)
                refine lv_iload_n hx hb dX12_qTold_124 rfl (lv_at hl 0 rfl) ?_
                refine lv_bipush (v := 12) hx hb dX12_qTold_125 (by decide) ?_
                refine lv_icmp_ne (tgt := 157) hx hb dX12_qTold_127 (by decide) (fun c_10 => ?_) (fun c_10 => ?_)
                · have c_10 : ¬ (qs i = 12) := fun h => c_10 ((neq (qs i) 12 (by omega) (Nat.le_of_ble_eq_true rfl)).mpr h)
                  refine lv_aload_n hx hb dX12_qTold_157 rfl (lv_at hl 2 rfl) ?_
                  refine lv_iload_n hx hb dX12_qTold_158 rfl (lv_at hl 0 rfl) ?_
                  refine sk_Vv (q0 := 0) (n := 1) (rest := []) (wr := fmR om_7_50 _) ⟨hx, hb, hml, hown, hts⟩ hl.1 (c_m_qJoins l D cI cJ cC cZ cS mm g ta pa pe pd pb pp pf pg pn rt rn cd sn il tk am at_ aa 0 0 (-1) wt wy 0 rm ud nu sd qn qw qo qb zq qa qi oc (nI (qs i)) zl (by omega) (by omega)) w_7_156 w_7_158 w_0_80 w_1_14 w_7_159 hd_X12_qJoins_1 ⟨⟨(Nat.le_of_ble_eq_true rfl), (Nat.le_of_ble_eq_true rfl)⟩, (Nat.le_of_ble_eq_true rfl), (Nat.le_of_ble_eq_true rfl)⟩ hK hP hD hS hA (fmT om_7_50 0) (fmF om_7_50 0) (fm_C1 rfl rfl) (fm_R rfl rfl) (fm_nT om_7_50 0) (fm_nF om_7_50 0) (fm_di om_7_50 0) rfl rfl rfl rfl (Nat.le_of_ble_eq_true rfl) dX12_qTold_159 (fun u H locs hw hP hD hS => ?_)
                  refine exE hw (fun ql2_11 eu_12 => ?_)
                  clear hw
                  refine o_mgE (ws' := [ro_ mm 12 (mo g (nI ta) (nI pa) (nI pe) pd (nI pb) pp pf pg pn rt rn (nI cd) sn (nI il) tk am at_ aa 0 0 (-1) wt wy 0 (nI rm) (nI ud) (nI nu) sd (nI qn) (nI qw) qo (nI qb) (nI (zq - 2 + 1)) qa (nI qi) (nI oc)), ra_N (g 80) cI 1700 qs, ra_J (g 86) cJ 1700 ql2_11, ra_I (g 31) cI 120 nw, ra_N (g 46) cI 9 pt, ra_J (g 44) cJ 90 bf, ra_J (g 43) cJ 90 be]) eu_12 hP hD rfl (fun hP hD => ?_)
                  refine lv_iinc (v := nI (i + 1)) (lv' := [(2, .int (nI (i + 1))), (3, .int (nI (qs i))), (0, .ref mm), (1, .int (nI d))]) hx hb dX12_qTold_162 hl (k := 1) rfl (ninc i 1 (by decide)) (by decide) rfl (fun ls hl => ?_)
                  refine lv_goto (tgt := 7) hx hb dX12_qTold_165 (by decide) ?_
                  exact ih_lp_1 (i + 1) (zq - 2 + 1) ql2_11 _ _ _ (by omega) (by omega) (by omega) (dq hzq (by omega)) hP hD hS (lv_sub hl [0, 2, 3] rfl)
                · have c_10 : qs i = 12 := (neq (qs i) 12 (by omega) (Nat.le_of_ble_eq_true rfl)).mp c_10
                  refine lv_aload_n hx hb dX12_qTold_130 rfl (lv_at hl 2 rfl) ?_
                  refine sk_get (v := .ref (g 86)) (C := RX12) (T := TX12) (N := 92) hx hb hts inlX12 hown hK hP 0 rfl rfl 86 (Nat.le_of_ble_eq_true rfl) w_6_1 rfl dX12_qTold_131 ?_
                  refine lv_aload_n hx hb dX12_qTold_134 rfl (lv_at hl 2 rfl) ?_
                  refine sk_get (v := .int (nI zq)) (C := RX12) (T := TX12) (N := 92) hx hb hts inlX12 hown hK hP 0 rfl rfl 87 (Nat.le_of_ble_eq_true rfl) w_6_2 rfl dX12_qTold_135 ?_
                  refine lv_iconst (v := 1) hx hb dX12_qTold_138 ic_1 ?_
                  refine lv_isub hx hb dX12_qTold_139 ?_
                  refine sk_top (nI (zq - 1)) (nsub zq 1 (by omega)) ?_
                  refine lv_lconst (v := 1) hx hb dX12_qTold_140 (by decide) ?_
                  refine lv_aload_n hx hb dX12_qTold_141 rfl (lv_at hl 2 rfl) ?_
                  refine sk_get (v := .ref (g 86)) (C := RX12) (T := TX12) (N := 92) hx hb hts inlX12 hown hK hP 0 rfl rfl 86 (Nat.le_of_ble_eq_true rfl) w_6_1 rfl dX12_qTold_142 ?_
                  refine lv_aload_n hx hb dX12_qTold_145 rfl (lv_at hl 2 rfl) ?_
                  refine sk_get (v := .int (nI zq)) (C := RX12) (T := TX12) (N := 92) hx hb hts inlX12 hown hK hP 0 rfl rfl 87 (Nat.le_of_ble_eq_true rfl) w_6_2 rfl dX12_qTold_146 ?_
                  refine lv_iconst (v := 1) hx hb dX12_qTold_149 ic_1 ?_
                  refine lv_isub hx hb dX12_qTold_150 ?_
                  refine sk_top (nI (zq - 1)) (nsub zq 1 (by omega)) ?_
                  refine va_lald hx hb hK.1 hP 2 1 rfl rfl (vin (zq - 1) 1700 (by omega) (Nat.le_of_ble_eq_true rfl)) dX12_qTold_151 ?_
                  refine lv_topl (fun v_13 ev_13 => ?_)
                  refine lv_lsub hx hb dX12_qTold_152 ?_
                  refine lv_topl (fun v_14 ev_14 => ?_)
                  refine sk_lastO (ws' := fun f_15 => [ro_ mm 12 (mo g (nI ta) (nI pa) (nI pe) pd (nI pb) pp pf pg pn rt rn (nI cd) sn (nI il) tk am at_ aa 0 0 (-1) wt wy 0 (nI rm) (nI ud) (nI nu) sd (nI qn) (nI qw) qo (nI qb) (nI zq) qa (nI qi) (nI oc)), ra_N (g 80) cI 1700 qs, ra_J (g 86) cJ 1700 f_15, ra_I (g 31) cI 120 nw, ra_N (g 46) cI 9 pt, ra_J (g 44) cJ 90 bf, ra_J (g 43) cJ 90 be]) hx hb hK hP hD hS 2 1 rfl rfl (vin (zq - 1) 1700 (by omega) (Nat.le_of_ble_eq_true rfl)) (fun _ => rfl) dX12_qTold_153 (fun f_15 H locs hP hD hS => ?_)
                  refine lv_goto (tgt := 162) hx hb dX12_qTold_154 (by decide) ?_
                  refine lv_iinc (v := nI (i + 1)) (lv' := [(2, .int (nI (i + 1))), (3, .int (nI (qs i))), (0, .ref mm), (1, .int (nI d))]) hx hb dX12_qTold_162 hl (k := 1) rfl (ninc i 1 (by decide)) (by decide) rfl (fun ls hl => ?_)
                  refine lv_goto (tgt := 7) hx hb dX12_qTold_165 (by decide) ?_
                  exact ih_lp_1 (i + 1) zq f_15 _ _ _ (by omega) (by omega) (by omega) (dq hzq (by omega)) hP hD hS (lv_sub hl [0, 2, 3] rfl)
              · have c_9 : qs i = 13 := (neq (qs i) 13 (by omega) (Nat.le_of_ble_eq_true rfl)).mp c_9
                refine lv_aload_n hx hb dX12_qTold_116 rfl (lv_at hl 2 rfl) ?_
                refine lv_lconst (v := 1) hx hb dX12_qTold_117 (by decide) ?_
                refine sk_Vv (q0 := 0) (n := 1) (rest := []) (wr := fmR om_7_50 _) ⟨hx, hb, hml, hown, hts⟩ hl.1 (c_m_qPuts l D cI cJ cC cZ cS mm g ta pa pe pd pb pp pf pg pn rt rn cd sn il tk am at_ aa 0 0 (-1) wt wy 0 rm ud nu sd qn qw qo qb zq qa qi oc 1 zl (by omega)) w_7_139 w_7_141 w_0_76 w_1_14 w_7_142 hd_X12_qPuts_1 ⟨⟨(Nat.le_of_ble_eq_true rfl), (Nat.le_of_ble_eq_true rfl)⟩, (Nat.le_of_ble_eq_true rfl), (Nat.le_of_ble_eq_true rfl)⟩ hK hP hD hS hA (fmT om_7_50 0) (fmF om_7_50 0) (fm_C1 rfl rfl) (fm_R rfl rfl) (fm_nT om_7_50 0) (fm_nF om_7_50 0) (fm_di om_7_50 0) rfl rfl rfl rfl (Nat.le_of_ble_eq_true rfl) dX12_qTold_118 (fun u H locs hw hP hD hS => ?_)
                refine exE hw (fun ql2_16 eu_17 => ?_)
                clear hw
                refine o_mgE (ws' := [ro_ mm 12 (mo g (nI ta) (nI pa) (nI pe) pd (nI pb) pp pf pg pn rt rn (nI cd) sn (nI il) tk am at_ aa 0 0 (-1) wt wy 0 (nI rm) (nI ud) (nI nu) sd (nI qn) (nI qw) qo (nI qb) (nI (zq + 1)) qa (nI qi) (nI oc)), ra_N (g 80) cI 1700 qs, ra_J (g 86) cJ 1700 ql2_16, ra_I (g 31) cI 120 nw, ra_N (g 46) cI 9 pt, ra_J (g 44) cJ 90 bf, ra_J (g 43) cJ 90 be]) eu_17 hP hD rfl (fun hP hD => ?_)
                refine lv_goto (tgt := 162) hx hb dX12_qTold_121 (by decide) ?_
                refine lv_iinc (v := nI (i + 1)) (lv' := [(2, .int (nI (i + 1))), (3, .int (nI (qs i))), (0, .ref mm), (1, .int (nI d))]) hx hb dX12_qTold_162 hl (k := 1) rfl (ninc i 1 (by decide)) (by decide) rfl (fun ls hl => ?_)
                refine lv_goto (tgt := 7) hx hb dX12_qTold_165 (by decide) ?_
                exact ih_lp_1 (i + 1) (zq + 1) ql2_16 _ _ _ (by omega) (by omega) (by omega) (dq hzq (by omega)) hP hD hS (lv_sub hl [0, 2, 3] rfl)
            · have c_8 : ¬ (qs i < 40) := fun h => c_8 ((nlt (qs i) 40 (by omega) (Nat.le_of_ble_eq_true rfl)).mpr h)
              refine lv_aload_n hx hb dX12_qTold_91 rfl (lv_at hl 2 rfl) ?_
              refine lv_aload_n hx hb dX12_qTold_92 rfl (lv_at hl 2 rfl) ?_
              refine lv_iload_n hx hb dX12_qTold_93 rfl (lv_at hl 0 rfl) ?_
              refine lv_bipush (v := 40) hx hb dX12_qTold_94 (by decide) ?_
              refine lv_isub hx hb dX12_qTold_96 ?_
              refine sk_top (nI (qs i - 40)) (nsub (qs i) 40 (by omega)) ?_
              refine lv_iload_n hx hb dX12_qTold_97 rfl (lv_at hl 3 rfl) ?_
              refine sk_Vl (q0 := 0) (n := 2) (rest := [.ref mm]) (wr := fmR om_7_4c _) ⟨hx, hb, hml, hown, hts⟩ hl.1 (c_m_qPartOf l D cI cJ cC cZ cS mm g ta pa pe pd pb pp pf pg pn rt rn cd sn il tk am at_ aa 0 0 (-1) wt wy 0 rm ud nu sd qn qw qo qb zq qa qi oc (nI (qs i - 40)) d nw pt hd hnw hpt) w_7_143 w_7_145 w_0_77 w_1_14 w_7_146 hd_X12_qPartOf_2 ⟨⟨(Nat.le_of_ble_eq_true rfl), (Nat.le_of_ble_eq_true rfl)⟩, (Nat.le_of_ble_eq_true rfl), (Nat.le_of_ble_eq_true rfl)⟩ hK hP hD hS hA (fmT om_7_4c 0) (fmF om_7_4c 0) (fm_C1 rfl rfl) (fm_R rfl rfl) (fm_nT om_7_4c 0) (fm_nF om_7_4c 0) (fm_di om_7_4c 0) rfl rfl rfl rfl (Nat.le_of_ble_eq_true rfl) dX12_qTold_98 (fun r_18 u H locs hw hP hD hS => ?_)
              refine o_mgE (ws' := [ro_ mm 12 (mo g (nI ta) (nI pa) (nI pe) pd (nI pb) pp pf pg pn rt rn (nI cd) sn (nI il) tk am at_ aa 0 0 (-1) wt wy 0 (nI rm) (nI ud) (nI nu) sd (nI qn) (nI qw) qo (nI qb) (nI zq) qa (nI qi) (nI oc)), ra_N (g 80) cI 1700 qs, ra_J (g 86) cJ 1700 zl, ra_I (g 31) cI 120 nw, ra_N (g 46) cI 9 pt, ra_J (g 44) cJ 90 bf, ra_J (g 43) cJ 90 be]) hw hP hD rfl (fun hP hD => ?_)
              refine sk_Sl (n := 1) (rest := [.ref mm]) (wr := [ro_ mm 12 (mo g (nI ta) (nI pa) (nI pe) pd (nI pb) pp pf pg pn rt rn (nI cd) sn (nI il) tk am at_ aa 0 0 (-1) wt wy 0 (nI rm) (nI ud) (nI nu) sd (nI qn) (nI qw) qo (nI qb) (nI zq) qa (nI qi) (nI oc)), ra_N (g 80) cI 1700 qs, ra_J (g 86) cJ 1700 zl, ra_I (g 31) cI 120 nw, ra_N (g 46) cI 9 pt, ra_J (g 44) cJ 90 bf, ra_J (g 43) cJ 90 be]) ⟨hx, hb, hml, hown, hts⟩ hl.1 (c_m_qClip l D cI cJ cC cZ cS r_18) w_7_160 w_7_161 w_1_14 w_7_162 hd_X12_qClip_1 ⟨⟨(Nat.le_of_ble_eq_true rfl), (Nat.le_of_ble_eq_true rfl)⟩, (Nat.le_of_ble_eq_true rfl), (Nat.le_of_ble_eq_true rfl)⟩ hK hP hD hS hA [] [0, 1, 2, 3, 4, 5, 6] rfl rfl (by decide +kernel) (by decide +kernel) (by decide +kernel) rfl rfl (Nat.le_of_ble_eq_true rfl) dX12_qTold_101 (fun r_19 u H locs hw hP hD hS => ?_)
              obtain rfl := hw
              refine o_re (ws' := [ro_ mm 12 (mo g (nI ta) (nI pa) (nI pe) pd (nI pb) pp pf pg pn rt rn (nI cd) sn (nI il) tk am at_ aa 0 0 (-1) wt wy 0 (nI rm) (nI ud) (nI nu) sd (nI qn) (nI qw) qo (nI qb) (nI zq) qa (nI qi) (nI oc)), ra_N (g 80) cI 1700 qs, ra_J (g 86) cJ 1700 zl, ra_I (g 31) cI 120 nw, ra_N (g 46) cI 9 pt, ra_J (g 44) cJ 90 bf, ra_J (g 43) cJ 90 be]) hP hD rfl (fun hP hD => ?_)
              refine sk_Vv (q0 := 0) (n := 1) (rest := []) (wr := fmR om_7_50 _) ⟨hx, hb, hml, hown, hts⟩ hl.1 (c_m_qPuts l D cI cJ cC cZ cS mm g ta pa pe pd pb pp pf pg pn rt rn cd sn il tk am at_ aa 0 0 (-1) wt wy 0 rm ud nu sd qn qw qo qb zq qa qi oc r_19 zl (by omega)) w_7_139 w_7_141 w_0_76 w_1_14 w_7_142 hd_X12_qPuts_1 ⟨⟨(Nat.le_of_ble_eq_true rfl), (Nat.le_of_ble_eq_true rfl)⟩, (Nat.le_of_ble_eq_true rfl), (Nat.le_of_ble_eq_true rfl)⟩ hK hP hD hS hA (fmT om_7_50 0) (fmF om_7_50 0) (fm_C1 rfl rfl) (fm_R rfl rfl) (fm_nT om_7_50 0) (fm_nF om_7_50 0) (fm_di om_7_50 0) rfl rfl rfl rfl (Nat.le_of_ble_eq_true rfl) dX12_qTold_104 (fun u H locs hw hP hD hS => ?_)
              refine exE hw (fun ql2_20 eu_21 => ?_)
              clear hw
              refine o_mgE (ws' := [ro_ mm 12 (mo g (nI ta) (nI pa) (nI pe) pd (nI pb) pp pf pg pn rt rn (nI cd) sn (nI il) tk am at_ aa 0 0 (-1) wt wy 0 (nI rm) (nI ud) (nI nu) sd (nI qn) (nI qw) qo (nI qb) (nI (zq + 1)) qa (nI qi) (nI oc)), ra_N (g 80) cI 1700 qs, ra_J (g 86) cJ 1700 ql2_20, ra_I (g 31) cI 120 nw, ra_N (g 46) cI 9 pt, ra_J (g 44) cJ 90 bf, ra_J (g 43) cJ 90 be]) eu_21 hP hD rfl (fun hP hD => ?_)
              refine lv_goto (tgt := 162) hx hb dX12_qTold_107 (by decide) ?_
              refine lv_iinc (v := nI (i + 1)) (lv' := [(2, .int (nI (i + 1))), (3, .int (nI (qs i))), (0, .ref mm), (1, .int (nI d))]) hx hb dX12_qTold_162 hl (k := 1) rfl (ninc i 1 (by decide)) (by decide) rfl (fun ls hl => ?_)
              refine lv_goto (tgt := 7) hx hb dX12_qTold_165 (by decide) ?_
              exact ih_lp_1 (i + 1) (zq + 1) ql2_20 _ _ _ (by omega) (by omega) (by omega) (dq hzq (by omega)) hP hD hS (lv_sub hl [0, 2, 3] rfl)
          · have c_7 : ¬ (qs i < 60) := fun h => c_7 ((nlt (qs i) 60 (by omega) (Nat.le_of_ble_eq_true rfl)).mpr h)
            refine lv_aload_n hx hb dX12_qTold_48 rfl (lv_at hl 2 rfl) ?_
            refine sk_get (v := .ref (g 86)) (C := RX12) (T := TX12) (N := 92) hx hb hts inlX12 hown hK hP 0 rfl rfl 86 (Nat.le_of_ble_eq_true rfl) w_6_1 rfl dX12_qTold_49 ?_
            refine lv_aload_n hx hb dX12_qTold_52 rfl (lv_at hl 2 rfl) ?_
            refine sk_get (v := .int (nI zq)) (C := RX12) (T := TX12) (N := 92) hx hb hts inlX12 hown hK hP 0 rfl rfl 87 (Nat.le_of_ble_eq_true rfl) w_6_2 rfl dX12_qTold_53 ?_
            refine lv_iconst (v := 1) hx hb dX12_qTold_56 ic_1 ?_
            refine lv_isub hx hb dX12_qTold_57 ?_
            refine sk_top (nI (zq - 1)) (nsub zq 1 (by omega)) ?_
            refine lv_aload_n hx hb dX12_qTold_58 rfl (lv_at hl 2 rfl) ?_
            refine lv_iload_n hx hb dX12_qTold_59 rfl (lv_at hl 0 rfl) ?_
            refine lv_bipush (v := 60) hx hb dX12_qTold_60 (by decide) ?_
            refine lv_isub hx hb dX12_qTold_62 ?_
            refine sk_top (nI (qs i - 60)) (nsub (qs i) 60 (by omega)) ?_
            refine lv_aload_n hx hb dX12_qTold_63 rfl (lv_at hl 2 rfl) ?_
            refine sk_get (v := .ref (g 86)) (C := RX12) (T := TX12) (N := 92) hx hb hts inlX12 hown hK hP 0 rfl rfl 86 (Nat.le_of_ble_eq_true rfl) w_6_1 rfl dX12_qTold_64 ?_
            refine lv_aload_n hx hb dX12_qTold_67 rfl (lv_at hl 2 rfl) ?_
            refine sk_get (v := .int (nI zq)) (C := RX12) (T := TX12) (N := 92) hx hb hts inlX12 hown hK hP 0 rfl rfl 87 (Nat.le_of_ble_eq_true rfl) w_6_2 rfl dX12_qTold_68 ?_
            refine lv_iconst (v := 1) hx hb dX12_qTold_71 ic_1 ?_
            refine lv_isub hx hb dX12_qTold_72 ?_
            refine sk_top (nI (zq - 1)) (nsub zq 1 (by omega)) ?_
            refine va_lald hx hb hK.1 hP 2 1 rfl rfl (vin (zq - 1) 1700 (by omega) (Nat.le_of_ble_eq_true rfl)) dX12_qTold_73 ?_
            refine lv_topl (fun v_22 ev_22 => ?_)
            refine lv_iload_n hx hb dX12_qTold_74 rfl (lv_at hl 3 rfl) ?_
            refine sk_Vl (q0 := 0) (n := 3) (rest := [.int (nI (zq - 1)), .ref (g 86)]) (wr := fmR om_7_43 _) ⟨hx, hb, hml, hown, hts⟩ hl.1 (c_m_qOf l D cI cJ cC cZ cS mm g ta pa pe pd pb pp pf pg pn rt rn cd sn il tk am at_ aa wt wy rm ud nu sd qn qw qo qb zq qa qi oc (nI (qs i - 60)) v_22 d bf be hd) w_8_195 w_8_197 w_0_117 w_1_14 w_8_198 hd_X12_qOf_3 ⟨⟨(Nat.le_of_ble_eq_true rfl), (Nat.le_of_ble_eq_true rfl)⟩, (Nat.le_of_ble_eq_true rfl), (Nat.le_of_ble_eq_true rfl)⟩ hK hP hD hS hA (fmT om_7_43 0) (fmF om_7_43 0) (fm_C1 rfl rfl) (fm_R rfl rfl) (fm_nT om_7_43 0) (fm_nF om_7_43 0) (fm_di om_7_43 0) rfl rfl rfl rfl (Nat.le_of_ble_eq_true rfl) dX12_qTold_75 (fun r_23 u H locs hw hP hD hS => ?_)
            refine o_mgE (ws' := [ro_ mm 12 (mo g (nI ta) (nI pa) (nI pe) pd (nI pb) pp pf pg pn rt rn (nI cd) sn (nI il) tk am at_ aa 0 0 (-1) wt wy 0 (nI rm) (nI ud) (nI nu) sd (nI qn) (nI qw) qo (nI qb) (nI zq) qa (nI qi) (nI oc)), ra_N (g 80) cI 1700 qs, ra_J (g 86) cJ 1700 zl, ra_I (g 31) cI 120 nw, ra_N (g 46) cI 9 pt, ra_J (g 44) cJ 90 bf, ra_J (g 43) cJ 90 be]) hw hP hD rfl (fun hP hD => ?_)
            refine sk_Sl (n := 1) (rest := [.int (nI (zq - 1)), .ref (g 86)]) (wr := [ro_ mm 12 (mo g (nI ta) (nI pa) (nI pe) pd (nI pb) pp pf pg pn rt rn (nI cd) sn (nI il) tk am at_ aa 0 0 (-1) wt wy 0 (nI rm) (nI ud) (nI nu) sd (nI qn) (nI qw) qo (nI qb) (nI zq) qa (nI qi) (nI oc)), ra_N (g 80) cI 1700 qs, ra_J (g 86) cJ 1700 zl, ra_I (g 31) cI 120 nw, ra_N (g 46) cI 9 pt, ra_J (g 44) cJ 90 bf, ra_J (g 43) cJ 90 be]) ⟨hx, hb, hml, hown, hts⟩ hl.1 (c_m_qClip l D cI cJ cC cZ cS r_23) w_7_160 w_7_161 w_1_14 w_7_162 hd_X12_qClip_1 ⟨⟨(Nat.le_of_ble_eq_true rfl), (Nat.le_of_ble_eq_true rfl)⟩, (Nat.le_of_ble_eq_true rfl), (Nat.le_of_ble_eq_true rfl)⟩ hK hP hD hS hA [] [0, 1, 2, 3, 4, 5, 6] rfl rfl (by decide +kernel) (by decide +kernel) (by decide +kernel) rfl rfl (Nat.le_of_ble_eq_true rfl) dX12_qTold_78 (fun r_24 u H locs hw hP hD hS => ?_)
            obtain rfl := hw
            refine o_re (ws' := [ro_ mm 12 (mo g (nI ta) (nI pa) (nI pe) pd (nI pb) pp pf pg pn rt rn (nI cd) sn (nI il) tk am at_ aa 0 0 (-1) wt wy 0 (nI rm) (nI ud) (nI nu) sd (nI qn) (nI qw) qo (nI qb) (nI zq) qa (nI qi) (nI oc)), ra_N (g 80) cI 1700 qs, ra_J (g 86) cJ 1700 zl, ra_I (g 31) cI 120 nw, ra_N (g 46) cI 9 pt, ra_J (g 44) cJ 90 bf, ra_J (g 43) cJ 90 be]) hP hD rfl (fun hP hD => ?_)
            refine sk_lastO (ws' := fun f_25 => [ro_ mm 12 (mo g (nI ta) (nI pa) (nI pe) pd (nI pb) pp pf pg pn rt rn (nI cd) sn (nI il) tk am at_ aa 0 0 (-1) wt wy 0 (nI rm) (nI ud) (nI nu) sd (nI qn) (nI qw) qo (nI qb) (nI zq) qa (nI qi) (nI oc)), ra_N (g 80) cI 1700 qs, ra_J (g 86) cJ 1700 f_25, ra_I (g 31) cI 120 nw, ra_N (g 46) cI 9 pt, ra_J (g 44) cJ 90 bf, ra_J (g 43) cJ 90 be]) hx hb hK hP hD hS 2 1 rfl rfl (vin (zq - 1) 1700 (by omega) (Nat.le_of_ble_eq_true rfl)) (fun _ => rfl) dX12_qTold_81 (fun f_25 H locs hP hD hS => ?_)
            refine lv_goto (tgt := 162) hx hb dX12_qTold_82 (by decide) ?_
            refine lv_iinc (v := nI (i + 1)) (lv' := [(2, .int (nI (i + 1))), (3, .int (nI (qs i))), (0, .ref mm), (1, .int (nI d))]) hx hb dX12_qTold_162 hl (k := 1) rfl (ninc i 1 (by decide)) (by decide) rfl (fun ls hl => ?_)
            refine lv_goto (tgt := 7) hx hb dX12_qTold_165 (by decide) ?_
            exact ih_lp_1 (i + 1) zq f_25 _ _ _ (by omega) (by omega) (by omega) (dq hzq (by omega)) hP hD hS (lv_sub hl [0, 2, 3] rfl)
        · have c_6 : ¬ (qs i < 1000) := fun h => c_6 ((nlt (qs i) 1000 (by omega) (Nat.le_of_ble_eq_true rfl)).mpr h)
          refine lv_aload_n hx hb dX12_qTold_29 rfl (lv_at hl 2 rfl) ?_
          refine lv_iload_n hx hb dX12_qTold_30 rfl (lv_at hl 0 rfl) ?_
          refine lv_sipush (v := 1000) hx hb dX12_qTold_31 (by decide) ?_
          refine lv_isub hx hb dX12_qTold_34 ?_
          refine sk_top (nI (qs i - 1000)) (nsub (qs i) 1000 (by omega)) ?_
          refine lv_i2l hx hb dX12_qTold_35 rfl ?_
          refine sk_Vv (q0 := 0) (n := 1) (rest := []) (wr := fmR om_7_50 _) ⟨hx, hb, hml, hown, hts⟩ hl.1 (c_m_qPuts l D cI cJ cC cZ cS mm g ta pa pe pd pb pp pf pg pn rt rn cd sn il tk am at_ aa 0 0 (-1) wt wy 0 rm ud nu sd qn qw qo qb zq qa qi oc (Int32.toInt64 (nI (qs i - 1000))) zl (by omega)) w_7_139 w_7_141 w_0_76 w_1_14 w_7_142 hd_X12_qPuts_1 ⟨⟨(Nat.le_of_ble_eq_true rfl), (Nat.le_of_ble_eq_true rfl)⟩, (Nat.le_of_ble_eq_true rfl), (Nat.le_of_ble_eq_true rfl)⟩ hK hP hD hS hA (fmT om_7_50 0) (fmF om_7_50 0) (fm_C1 rfl rfl) (fm_R rfl rfl) (fm_nT om_7_50 0) (fm_nF om_7_50 0) (fm_di om_7_50 0) rfl rfl rfl rfl (Nat.le_of_ble_eq_true rfl) dX12_qTold_36 (fun u H locs hw hP hD hS => ?_)
          refine exE hw (fun ql2_26 eu_27 => ?_)
          clear hw
          refine o_mgE (ws' := [ro_ mm 12 (mo g (nI ta) (nI pa) (nI pe) pd (nI pb) pp pf pg pn rt rn (nI cd) sn (nI il) tk am at_ aa 0 0 (-1) wt wy 0 (nI rm) (nI ud) (nI nu) sd (nI qn) (nI qw) qo (nI qb) (nI (zq + 1)) qa (nI qi) (nI oc)), ra_N (g 80) cI 1700 qs, ra_J (g 86) cJ 1700 ql2_26, ra_I (g 31) cI 120 nw, ra_N (g 46) cI 9 pt, ra_J (g 44) cJ 90 bf, ra_J (g 43) cJ 90 be]) eu_27 hP hD rfl (fun hP hD => ?_)
          refine lv_goto (tgt := 162) hx hb dX12_qTold_39 (by decide) ?_
          refine lv_iinc (v := nI (i + 1)) (lv' := [(2, .int (nI (i + 1))), (3, .int (nI (qs i))), (0, .ref mm), (1, .int (nI d))]) hx hb dX12_qTold_162 hl (k := 1) rfl (ninc i 1 (by decide)) (by decide) rfl (fun ls hl => ?_)
          refine lv_goto (tgt := 7) hx hb dX12_qTold_165 (by decide) ?_
          exact ih_lp_1 (i + 1) (zq + 1) ql2_26 _ _ _ (by omega) (by omega) (by omega) (dq hzq (by omega)) hP hD hS (lv_sub hl [0, 2, 3] rfl)
  exact lp_1 (qn - 0 + 1) 0 0 ql _ _ _ (Nat.lt_succ_self _) (by omega) (by omega) rfl hP hD hS (lv_sub hl [0, 1, 2] rfl)
theorem dg_X12_qTakes_16_16 : bqL cX12_qTakes 16 [(0, [54, 5]), (74, [27]), (75, [6]), (76, [164, 0, 41]), (117, [42]), (118, [3]), (119, [181, 2, 66]), (122, [177]), (79, [42]), (80, [180, 2, 66]), (83, [154, 0, 29]), (112, [42]), (113, [32]), (114, [181, 2, 63]), (86, [27]), (87, [7]), (88, [160, 0, 15]), (103, [32]), (104, [42]), (105, [180, 2, 63]), (108, [148]), (109, [156, 0, 8]), (91, [32]), (92, [42]), (93, [180, 2, 63]), (96, [148]), (97, [158, 0, 20]), (100, [167, 0, 12]), (59, [27]), (60, [6]), (61, [160, 0, 13]), (64, [42]), (65, [89]), (66, [180, 2, 63]), (69, [32]), (70, [97]), (71, [181, 2, 63]), (39, [27]), (40, [5]), (41, [160, 0, 18])] = true := by decide +kernel
theorem dX12_qTakes_16 : decode cX12_qTakes 16 = .ok (.istore 5, 2) := q_istore (bat_get dg_X12_qTakes_16_16 0 rfl rfl)
theorem dX12_qTakes_90 : decode cX12_qTakes 90 = .ok (.iload_n 1, 1) := q_iload_n1 (bat_get dg_X12_qTakes_16_16 1 rfl rfl)
theorem dX12_qTakes_91 : decode cX12_qTakes 91 = .ok (.iconst 3, 1) := q_iconst3 (bat_get dg_X12_qTakes_16_16 2 rfl rfl)
theorem dX12_qTakes_92 : decode cX12_qTakes 92 = .ok (.if_icmp .le 41, 3) := q_if_icmp_le (bat_get dg_X12_qTakes_16_16 3 rfl rfl) rfl
theorem dX12_qTakes_133 : decode cX12_qTakes 133 = .ok (.aload_n 0, 1) := q_aload_n0 (bat_get dg_X12_qTakes_16_16 4 rfl rfl)
theorem dX12_qTakes_134 : decode cX12_qTakes 134 = .ok (.iconst 0, 1) := q_iconst0 (bat_get dg_X12_qTakes_16_16 5 rfl rfl)
theorem dX12_qTakes_135 : decode cX12_qTakes 135 = .ok (.putfield 578, 3) := q_putfield (bat_get dg_X12_qTakes_16_16 6 rfl rfl) rfl
theorem dX12_qTakes_138 : decode cX12_qTakes 138 = .ok (.return_, 1) := q_return_ (bat_get dg_X12_qTakes_16_16 7 rfl rfl)
theorem dX12_qTakes_95 : decode cX12_qTakes 95 = .ok (.aload_n 0, 1) := q_aload_n0 (bat_get dg_X12_qTakes_16_16 8 rfl rfl)
theorem dX12_qTakes_96 : decode cX12_qTakes 96 = .ok (.getfield 578, 3) := q_getfield (bat_get dg_X12_qTakes_16_16 9 rfl rfl) rfl
theorem dX12_qTakes_99 : decode cX12_qTakes 99 = .ok (.ifCond .ne 29, 3) := q_ifCond_ne (bat_get dg_X12_qTakes_16_16 10 rfl rfl) rfl
theorem dX12_qTakes_128 : decode cX12_qTakes 128 = .ok (.aload_n 0, 1) := q_aload_n0 (bat_get dg_X12_qTakes_16_16 11 rfl rfl)
theorem dX12_qTakes_129 : decode cX12_qTakes 129 = .ok (.lload_n 2, 1) := q_lload_n2 (bat_get dg_X12_qTakes_16_16 12 rfl rfl)
theorem dX12_qTakes_130 : decode cX12_qTakes 130 = .ok (.putfield 575, 3) := q_putfield (bat_get dg_X12_qTakes_16_16 13 rfl rfl) rfl
theorem dX12_qTakes_102 : decode cX12_qTakes 102 = .ok (.iload_n 1, 1) := q_iload_n1 (bat_get dg_X12_qTakes_16_16 14 rfl rfl)
theorem dX12_qTakes_103 : decode cX12_qTakes 103 = .ok (.iconst 4, 1) := q_iconst4 (bat_get dg_X12_qTakes_16_16 15 rfl rfl)
theorem dX12_qTakes_104 : decode cX12_qTakes 104 = .ok (.if_icmp .ne 15, 3) := q_if_icmp_ne (bat_get dg_X12_qTakes_16_16 16 rfl rfl) rfl
theorem dX12_qTakes_119 : decode cX12_qTakes 119 = .ok (.lload_n 2, 1) := q_lload_n2 (bat_get dg_X12_qTakes_16_16 17 rfl rfl)
theorem dX12_qTakes_120 : decode cX12_qTakes 120 = .ok (.aload_n 0, 1) := q_aload_n0 (bat_get dg_X12_qTakes_16_16 18 rfl rfl)
theorem dX12_qTakes_121 : decode cX12_qTakes 121 = .ok (.getfield 575, 3) := q_getfield (bat_get dg_X12_qTakes_16_16 19 rfl rfl) rfl
theorem dX12_qTakes_124 : decode cX12_qTakes 124 = .ok (.lcmp, 1) := q_lcmp (bat_get dg_X12_qTakes_16_16 20 rfl rfl)
theorem dX12_qTakes_125 : decode cX12_qTakes 125 = .ok (.ifCond .ge 8, 3) := q_ifCond_ge (bat_get dg_X12_qTakes_16_16 21 rfl rfl) rfl
theorem dX12_qTakes_107 : decode cX12_qTakes 107 = .ok (.lload_n 2, 1) := q_lload_n2 (bat_get dg_X12_qTakes_16_16 22 rfl rfl)
theorem dX12_qTakes_108 : decode cX12_qTakes 108 = .ok (.aload_n 0, 1) := q_aload_n0 (bat_get dg_X12_qTakes_16_16 23 rfl rfl)
theorem dX12_qTakes_109 : decode cX12_qTakes 109 = .ok (.getfield 575, 3) := q_getfield (bat_get dg_X12_qTakes_16_16 24 rfl rfl) rfl
theorem dX12_qTakes_112 : decode cX12_qTakes 112 = .ok (.lcmp, 1) := q_lcmp (bat_get dg_X12_qTakes_16_16 25 rfl rfl)
theorem dX12_qTakes_113 : decode cX12_qTakes 113 = .ok (.ifCond .le 20, 3) := q_ifCond_le (bat_get dg_X12_qTakes_16_16 26 rfl rfl) rfl
theorem dX12_qTakes_116 : decode cX12_qTakes 116 = .ok (.goto 12, 3) := q_goto (bat_get dg_X12_qTakes_16_16 27 rfl rfl) rfl
theorem dX12_qTakes_75 : decode cX12_qTakes 75 = .ok (.iload_n 1, 1) := q_iload_n1 (bat_get dg_X12_qTakes_16_16 28 rfl rfl)
theorem dX12_qTakes_76 : decode cX12_qTakes 76 = .ok (.iconst 3, 1) := q_iconst3 (bat_get dg_X12_qTakes_16_16 29 rfl rfl)
theorem dX12_qTakes_77 : decode cX12_qTakes 77 = .ok (.if_icmp .ne 13, 3) := q_if_icmp_ne (bat_get dg_X12_qTakes_16_16 30 rfl rfl) rfl
theorem dX12_qTakes_80 : decode cX12_qTakes 80 = .ok (.aload_n 0, 1) := q_aload_n0 (bat_get dg_X12_qTakes_16_16 31 rfl rfl)
theorem dX12_qTakes_81 : decode cX12_qTakes 81 = .ok (.dup, 1) := q_dup (bat_get dg_X12_qTakes_16_16 32 rfl rfl)
theorem dX12_qTakes_82 : decode cX12_qTakes 82 = .ok (.getfield 575, 3) := q_getfield (bat_get dg_X12_qTakes_16_16 33 rfl rfl) rfl
theorem dX12_qTakes_85 : decode cX12_qTakes 85 = .ok (.lload_n 2, 1) := q_lload_n2 (bat_get dg_X12_qTakes_16_16 34 rfl rfl)
theorem dX12_qTakes_86 : decode cX12_qTakes 86 = .ok (.ladd, 1) := q_ladd (bat_get dg_X12_qTakes_16_16 35 rfl rfl)
theorem dX12_qTakes_87 : decode cX12_qTakes 87 = .ok (.putfield 575, 3) := q_putfield (bat_get dg_X12_qTakes_16_16 36 rfl rfl) rfl
theorem dX12_qTakes_55 : decode cX12_qTakes 55 = .ok (.iload_n 1, 1) := q_iload_n1 (bat_get dg_X12_qTakes_16_16 37 rfl rfl)
theorem dX12_qTakes_56 : decode cX12_qTakes 56 = .ok (.iconst 2, 1) := q_iconst2 (bat_get dg_X12_qTakes_16_16 38 rfl rfl)
theorem dX12_qTakes_57 : decode cX12_qTakes 57 = .ok (.if_icmp .ne 18, 3) := q_if_icmp_ne (bat_get dg_X12_qTakes_16_16 39 rfl rfl) rfl
theorem dg_X12_qTakes_0_60 : bqL cX12_qTakes 0 [(60, [21, 5]), (62, [153, 0, 13]), (65, [42]), (66, [89]), (67, [180, 2, 63]), (70, [10]), (71, [97]), (72, [181, 2, 63]), (18, [27]), (19, [154, 0, 19]), (38, [27]), (39, [4]), (40, [160, 0, 15]), (43, [21, 5]), (45, [153, 0, 10]), (48, [42]), (49, [21, 4]), (51, [133]), (52, [181, 2, 63]), (22, [21, 5]), (24, [153, 0, 14]), (27, [42]), (28, [180, 2, 63]), (31, [20, 2, 57]), (34, [148]), (35, [153, 0, 13]), (0, [27]), (1, [6]), (2, [162, 0, 13]), (15, [3]), (5, [32]), (6, [10]), (7, [148]), (8, [154, 0, 7]), (11, [4]), (12, [167, 0, 4])] = true := by decide +kernel
theorem dX12_qTakes_60 : decode cX12_qTakes 60 = .ok (.iload 5, 2) := q_iload (bat_get dg_X12_qTakes_0_60 0 rfl rfl)
theorem dX12_qTakes_62 : decode cX12_qTakes 62 = .ok (.ifCond .eq 13, 3) := q_ifCond_eq (bat_get dg_X12_qTakes_0_60 1 rfl rfl) rfl
theorem dX12_qTakes_65 : decode cX12_qTakes 65 = .ok (.aload_n 0, 1) := q_aload_n0 (bat_get dg_X12_qTakes_0_60 2 rfl rfl)
theorem dX12_qTakes_66 : decode cX12_qTakes 66 = .ok (.dup, 1) := q_dup (bat_get dg_X12_qTakes_0_60 3 rfl rfl)
theorem dX12_qTakes_67 : decode cX12_qTakes 67 = .ok (.getfield 575, 3) := q_getfield (bat_get dg_X12_qTakes_0_60 4 rfl rfl) rfl
theorem dX12_qTakes_70 : decode cX12_qTakes 70 = .ok (.lconst 1, 1) := q_lconst1 (bat_get dg_X12_qTakes_0_60 5 rfl rfl)
theorem dX12_qTakes_71 : decode cX12_qTakes 71 = .ok (.ladd, 1) := q_ladd (bat_get dg_X12_qTakes_0_60 6 rfl rfl)
theorem dX12_qTakes_72 : decode cX12_qTakes 72 = .ok (.putfield 575, 3) := q_putfield (bat_get dg_X12_qTakes_0_60 7 rfl rfl) rfl
theorem dX12_qTakes_18 : decode cX12_qTakes 18 = .ok (.iload_n 1, 1) := q_iload_n1 (bat_get dg_X12_qTakes_0_60 8 rfl rfl)
theorem dX12_qTakes_19 : decode cX12_qTakes 19 = .ok (.ifCond .ne 19, 3) := q_ifCond_ne (bat_get dg_X12_qTakes_0_60 9 rfl rfl) rfl
theorem dX12_qTakes_38 : decode cX12_qTakes 38 = .ok (.iload_n 1, 1) := q_iload_n1 (bat_get dg_X12_qTakes_0_60 10 rfl rfl)
theorem dX12_qTakes_39 : decode cX12_qTakes 39 = .ok (.iconst 1, 1) := q_iconst1 (bat_get dg_X12_qTakes_0_60 11 rfl rfl)
theorem dX12_qTakes_40 : decode cX12_qTakes 40 = .ok (.if_icmp .ne 15, 3) := q_if_icmp_ne (bat_get dg_X12_qTakes_0_60 12 rfl rfl) rfl
theorem dX12_qTakes_43 : decode cX12_qTakes 43 = .ok (.iload 5, 2) := q_iload (bat_get dg_X12_qTakes_0_60 13 rfl rfl)
theorem dX12_qTakes_45 : decode cX12_qTakes 45 = .ok (.ifCond .eq 10, 3) := q_ifCond_eq (bat_get dg_X12_qTakes_0_60 14 rfl rfl) rfl
theorem dX12_qTakes_48 : decode cX12_qTakes 48 = .ok (.aload_n 0, 1) := q_aload_n0 (bat_get dg_X12_qTakes_0_60 15 rfl rfl)
theorem dX12_qTakes_49 : decode cX12_qTakes 49 = .ok (.iload 4, 2) := q_iload (bat_get dg_X12_qTakes_0_60 16 rfl rfl)
theorem dX12_qTakes_51 : decode cX12_qTakes 51 = .ok (.i2l, 1) := q_i2l (bat_get dg_X12_qTakes_0_60 17 rfl rfl)
theorem dX12_qTakes_52 : decode cX12_qTakes 52 = .ok (.putfield 575, 3) := q_putfield (bat_get dg_X12_qTakes_0_60 18 rfl rfl) rfl
theorem dX12_qTakes_22 : decode cX12_qTakes 22 = .ok (.iload 5, 2) := q_iload (bat_get dg_X12_qTakes_0_60 19 rfl rfl)
theorem dX12_qTakes_24 : decode cX12_qTakes 24 = .ok (.ifCond .eq 14, 3) := q_ifCond_eq (bat_get dg_X12_qTakes_0_60 20 rfl rfl) rfl
theorem dX12_qTakes_27 : decode cX12_qTakes 27 = .ok (.aload_n 0, 1) := q_aload_n0 (bat_get dg_X12_qTakes_0_60 21 rfl rfl)
theorem dX12_qTakes_28 : decode cX12_qTakes 28 = .ok (.getfield 575, 3) := q_getfield (bat_get dg_X12_qTakes_0_60 22 rfl rfl) rfl
theorem dX12_qTakes_31 : decode cX12_qTakes 31 = .ok (.ldc2_w 569, 3) := q_ldc2_w (bat_get dg_X12_qTakes_0_60 23 rfl rfl) rfl
theorem dX12_qTakes_34 : decode cX12_qTakes 34 = .ok (.lcmp, 1) := q_lcmp (bat_get dg_X12_qTakes_0_60 24 rfl rfl)
theorem dX12_qTakes_35 : decode cX12_qTakes 35 = .ok (.ifCond .eq 13, 3) := q_ifCond_eq (bat_get dg_X12_qTakes_0_60 25 rfl rfl) rfl
theorem dX12_qTakes_0 : decode cX12_qTakes 0 = .ok (.iload_n 1, 1) := q_iload_n1 (bat_get dg_X12_qTakes_0_60 26 rfl rfl)
theorem dX12_qTakes_1 : decode cX12_qTakes 1 = .ok (.iconst 3, 1) := q_iconst3 (bat_get dg_X12_qTakes_0_60 27 rfl rfl)
theorem dX12_qTakes_2 : decode cX12_qTakes 2 = .ok (.if_icmp .ge 13, 3) := q_if_icmp_ge (bat_get dg_X12_qTakes_0_60 28 rfl rfl) rfl
theorem dX12_qTakes_15 : decode cX12_qTakes 15 = .ok (.iconst 0, 1) := q_iconst0 (bat_get dg_X12_qTakes_0_60 29 rfl rfl)
theorem dX12_qTakes_5 : decode cX12_qTakes 5 = .ok (.lload_n 2, 1) := q_lload_n2 (bat_get dg_X12_qTakes_0_60 30 rfl rfl)
theorem dX12_qTakes_6 : decode cX12_qTakes 6 = .ok (.lconst 1, 1) := q_lconst1 (bat_get dg_X12_qTakes_0_60 31 rfl rfl)
theorem dX12_qTakes_7 : decode cX12_qTakes 7 = .ok (.lcmp, 1) := q_lcmp (bat_get dg_X12_qTakes_0_60 32 rfl rfl)
theorem dX12_qTakes_8 : decode cX12_qTakes 8 = .ok (.ifCond .ne 7, 3) := q_ifCond_ne (bat_get dg_X12_qTakes_0_60 33 rfl rfl) rfl
theorem dX12_qTakes_11 : decode cX12_qTakes 11 = .ok (.iconst 1, 1) := q_iconst1 (bat_get dg_X12_qTakes_0_60 34 rfl rfl)
theorem dX12_qTakes_12 : decode cX12_qTakes 12 = .ok (.goto 4, 3) := q_goto (bat_get dg_X12_qTakes_0_60 35 rfl rfl) rfl
theorem w_6_4 : (Cond.fieldLink RX12 578 "SameKeeperModel" "qIsNew" "Z") ∈ wsL_law := sk_mem (ck_6 _ (List.mem_of_getElem? (i := 4) rfl)) rfl
theorem w_6_3 : (Cond.fieldLink RX12 575 "SameKeeperModel" "qAnswer" "J") ∈ wsL_law := sk_mem (ck_6 _ (List.mem_of_getElem? (i := 3) rfl)) rfl
theorem w_8_202 : (Cond.code yX12_qTakes cX12_qTakes 6 none) ∈ wsL_law := sk_mem (ck_8 _ (List.mem_of_getElem? (i := 202) rfl)) rfl
set_option maxHeartbeats 4000000 in
set_option maxRecDepth 100000 in
theorem c_m_qTakes (l : Launch) (D : va_G) (cI cJ cC cZ cS : ClassId) (mm : Nat) (g : Nat → Nat) (ta : Nat) (pa : Nat) (pe : Nat) (pd : Int32) (pb : Nat) (pp : Int32) (pf : Int32) (pg : Int32) (pn : Int32) (rt : Int32) (rn : Int32) (cd : Nat) (sn : Int32) (il : Nat) (tk : Int32) (am : Int32) (at_ : Int32) (aa : Int32) (wt : Int32) (wy : Int64) (rm : Nat) (ud : Nat) (nu : Nat) (sd : Int64) (qn : Nat) (qw : Nat) (qo : Int32) (qb : Nat) (qp : Nat) (qa : Int64) (qi : Nat) (oc : Nat) (o : Int32) (x : Int64) (d : Nat) (hqi : qi ≤ 1) : skM l yX12_qTakes cX12_qTakes 6 none 0 0 0 0 D (skT cI cJ cC cZ cS) [.ref mm, .int o, .long x, .int (nI d)] [ro_ mm 12 (mo g (nI ta) (nI pa) (nI pe) pd (nI pb) pp pf pg pn rt rn (nI cd) sn (nI il) tk am at_ aa 0 0 (-1) wt wy 0 (nI rm) (nI ud) (nI nu) sd (nI qn) (nI qw) qo (nI qb) (nI qp) qa (nI qi) (nI oc))] (skV D (skT cI cJ cC cZ cS) (fun (u : va_W) => ∃ (qa2 : Int64), u = [ro_ mm 12 (mo g (nI ta) (nI pa) (nI pe) pd (nI pb) pp pf pg pn rt rn (nI cd) sn (nI il) tk am at_ aa 0 0 (-1) wt wy 0 (nI rm) (nI ud) (nI nu) sd (nI qn) (nI qw) qo (nI qb) (nI qp) qa2 0 (nI oc))])) := by
  refine skM_of pf_X12_qTakes (Nat.le_of_ble_eq_true rfl) ?_
  intro p e s m below meth c A ls E hP hD hl
  refine skE_el E (fun hx hb hr hml hlocks hin hown hts hK hA => ?_)
  have hown : s.vm.findClass RX12 = some m.cls := hown
  have hS : va_S A s.heap s.heap [] := va_S.rf
  have hl : lv_has ls 6 [(0, .ref mm), (1, .int o), (2, .long x), (4, .int (nI d))] := hl
  have jn_1 : ∀ (bq : Nat) (H : Heap) (locs : List Loc) (ls : Array Slot), (bq ≤ 1) → va_P D vwCl [ro_ mm 12 (mo g (nI ta) (nI pa) (nI pe) pd (nI pb) pp pf pg pn rt rn (nI cd) sn (nI il) tk am at_ aa 0 0 (-1) wt wy 0 (nI rm) (nI ud) (nI nu) sd (nI qn) (nI qw) qo (nI qb) (nI qp) qa (nI qi) (nI oc))] H → va_D A [ro_ mm 12 (mo g (nI ta) (nI pa) (nI pe) pd (nI pb) pp pf pg pn rt rn (nI cd) sn (nI il) tk am at_ aa 0 0 (-1) wt wy 0 (nI rm) (nI ud) (nI nu) sd (nI qn) (nI qw) qo (nI qb) (nI qp) qa (nI qi) (nI oc))] → va_S A s.heap H locs → lv_has ls 6 [(0, .ref mm), (1, .int o), (2, .long x), (4, .int (nI d))] → W p l e { frames := 0, cells := 0, slots := 0, locals := 0 } s m ([.ref mm, .int o, .long x, .int (nI d)] : List Value).toArray below meth c H locs 0 0 (MQ below (skV D (skT cI cJ cC cZ cS) (fun (u : va_W) => ∃ (qa2 : Int64), u = [ro_ mm 12 (mo g (nI ta) (nI pa) (nI pe) pd (nI pb) pp pf pg pn rt rn (nI cd) sn (nI il) tk am at_ aa 0 0 (-1) wt wy 0 (nI rm) (nI ud) (nI nu) sd (nI qn) (nI qw) qo (nI qb) (nI qp) qa2 0 (nI oc))]) A) ([.ref mm, .int o, .long x, .int (nI d)] : List Value).toArray s 0 0 A) (F0 m 16 ls [.int (nI bq)]) := by
    intro bq H locs ls hbq hP hD hS hl
    refine lv_istore (lv' := [(5, .int (nI bq)), (0, .ref mm), (1, .int o), (2, .long x), (4, .int (nI d))]) hx hb dX12_qTakes_16 hl (by decide) rfl (fun ls hl => ?_)
    have jn_2 : ∀ (z90 : Int64) (H : Heap) (locs : List Loc) (ls : Array Slot), va_P D vwCl [ro_ mm 12 (mo g (nI ta) (nI pa) (nI pe) pd (nI pb) pp pf pg pn rt rn (nI cd) sn (nI il) tk am at_ aa 0 0 (-1) wt wy 0 (nI rm) (nI ud) (nI nu) sd (nI qn) (nI qw) qo (nI qb) (nI qp) z90 (nI qi) (nI oc))] H → va_D A [ro_ mm 12 (mo g (nI ta) (nI pa) (nI pe) pd (nI pb) pp pf pg pn rt rn (nI cd) sn (nI il) tk am at_ aa 0 0 (-1) wt wy 0 (nI rm) (nI ud) (nI nu) sd (nI qn) (nI qw) qo (nI qb) (nI qp) z90 (nI qi) (nI oc))] → va_S A s.heap H locs → lv_has ls 6 [(5, .int (nI bq)), (0, .ref mm), (1, .int o), (2, .long x), (4, .int (nI d))] → W p l e { frames := 0, cells := 0, slots := 0, locals := 0 } s m ([.ref mm, .int o, .long x, .int (nI d)] : List Value).toArray below meth c H locs 0 0 (MQ below (skV D (skT cI cJ cC cZ cS) (fun (u : va_W) => ∃ (qa2 : Int64), u = [ro_ mm 12 (mo g (nI ta) (nI pa) (nI pe) pd (nI pb) pp pf pg pn rt rn (nI cd) sn (nI il) tk am at_ aa 0 0 (-1) wt wy 0 (nI rm) (nI ud) (nI nu) sd (nI qn) (nI qw) qo (nI qb) (nI qp) qa2 0 (nI oc))]) A) ([.ref mm, .int o, .long x, .int (nI d)] : List Value).toArray s 0 0 A) (F0 m 90 ls []) := by
      intro z90 H locs ls  hP hD hS hl
      refine lv_iload_n hx hb dX12_qTakes_90 rfl (lv_at hl 2 rfl) ?_
      refine lv_iconst (v := 3) hx hb dX12_qTakes_91 ic_3 ?_
      refine lv_icmp_le (tgt := 133) hx hb dX12_qTakes_92 (by decide) (fun c_3 => ?_) (fun c_3 => ?_)
      · skip
        refine lv_aload_n hx hb dX12_qTakes_133 rfl (lv_at hl 1 rfl) ?_
        refine lv_iconst (v := 0) hx hb dX12_qTakes_134 ic_0 ?_
        refine sk_put (ws' := [ro_ mm 12 (mo g (nI ta) (nI pa) (nI pe) pd (nI pb) pp pf pg pn rt rn (nI cd) sn (nI il) tk am at_ aa 0 0 (-1) wt wy 0 (nI rm) (nI ud) (nI nu) sd (nI qn) (nI qw) qo (nI qb) (nI qp) z90 0 (nI oc))]) (C := RX12) (T := TX12) (N := 92) (v := .int 0) hx hb hts inlX12 tyX12 tyX12_ok nmX12 hown hK hP hD hS 0 rfl rfl 89 (Nat.le_of_ble_eq_true rfl) w_6_4 rfl rfl rfl (Nat.le_of_ble_eq_true rfl) rfl dX12_qTakes_135 (fun H locs hP hD hS => ?_)
        exact sk_vret hx hb hr hlocks hK hP hD hS (⟨z90, rfl⟩) (Nat.le_of_ble_eq_true rfl) (Nat.le_of_ble_eq_true rfl) dX12_qTakes_138
      · skip
        refine lv_aload_n hx hb dX12_qTakes_95 rfl (lv_at hl 1 rfl) ?_
        refine sk_get (v := .int (nI qi)) (C := RX12) (T := TX12) (N := 92) hx hb hts inlX12 hown hK hP 0 rfl rfl 89 (Nat.le_of_ble_eq_true rfl) w_6_4 rfl dX12_qTakes_96 ?_
        refine lv_if_ne (tgt := 128) hx hb dX12_qTakes_99 (by decide) (fun c_4 => ?_) (fun c_4 => ?_)
        · have c_4 : ¬ (qi = 0) := fun h => c_4 ((neq qi 0 (by omega) (Nat.le_of_ble_eq_true rfl)).mpr h)
          refine lv_aload_n hx hb dX12_qTakes_128 rfl (lv_at hl 1 rfl) ?_
          refine lv_lload_n hx hb dX12_qTakes_129 rfl (lv_at hl 3 rfl) ?_
          refine sk_put (ws' := [ro_ mm 12 (mo g (nI ta) (nI pa) (nI pe) pd (nI pb) pp pf pg pn rt rn (nI cd) sn (nI il) tk am at_ aa 0 0 (-1) wt wy 0 (nI rm) (nI ud) (nI nu) sd (nI qn) (nI qw) qo (nI qb) (nI qp) x (nI qi) (nI oc))]) (C := RX12) (T := TX12) (N := 92) (v := .long x) hx hb hts inlX12 tyX12 tyX12_ok nmX12 hown hK hP hD hS 0 rfl rfl 88 (Nat.le_of_ble_eq_true rfl) w_6_3 rfl rfl rfl (Nat.le_of_ble_eq_true rfl) rfl dX12_qTakes_130 (fun H locs hP hD hS => ?_)
          refine lv_aload_n hx hb dX12_qTakes_133 rfl (lv_at hl 1 rfl) ?_
          refine lv_iconst (v := 0) hx hb dX12_qTakes_134 ic_0 ?_
          refine sk_put (ws' := [ro_ mm 12 (mo g (nI ta) (nI pa) (nI pe) pd (nI pb) pp pf pg pn rt rn (nI cd) sn (nI il) tk am at_ aa 0 0 (-1) wt wy 0 (nI rm) (nI ud) (nI nu) sd (nI qn) (nI qw) qo (nI qb) (nI qp) x 0 (nI oc))]) (C := RX12) (T := TX12) (N := 92) (v := .int 0) hx hb hts inlX12 tyX12 tyX12_ok nmX12 hown hK hP hD hS 0 rfl rfl 89 (Nat.le_of_ble_eq_true rfl) w_6_4 rfl rfl rfl (Nat.le_of_ble_eq_true rfl) rfl dX12_qTakes_135 (fun H locs hP hD hS => ?_)
          exact sk_vret hx hb hr hlocks hK hP hD hS (⟨x, rfl⟩) (Nat.le_of_ble_eq_true rfl) (Nat.le_of_ble_eq_true rfl) dX12_qTakes_138
        · have c_4 : qi = 0 := (neq qi 0 (by omega) (Nat.le_of_ble_eq_true rfl)).mp c_4
          refine lv_iload_n hx hb dX12_qTakes_102 rfl (lv_at hl 2 rfl) ?_
          refine lv_iconst (v := 4) hx hb dX12_qTakes_103 ic_4 ?_
          refine lv_icmp_ne (tgt := 119) hx hb dX12_qTakes_104 (by decide) (fun c_5 => ?_) (fun c_5 => ?_)
          · skip
            refine lv_lload_n hx hb dX12_qTakes_119 rfl (lv_at hl 3 rfl) ?_
            refine lv_aload_n hx hb dX12_qTakes_120 rfl (lv_at hl 1 rfl) ?_
            refine sk_get (v := .long z90) (C := RX12) (T := TX12) (N := 92) hx hb hts inlX12 hown hK hP 0 rfl rfl 88 (Nat.le_of_ble_eq_true rfl) w_6_3 rfl dX12_qTakes_121 ?_
            refine W.lcmp hx hb dX12_qTakes_124 ?_
            refine lv_if_ge (tgt := 133) hx hb dX12_qTakes_125 (by decide) (fun c_6 => ?_) (fun c_6 => ?_)
            · skip
              refine lv_aload_n hx hb dX12_qTakes_133 rfl (lv_at hl 1 rfl) ?_
              refine lv_iconst (v := 0) hx hb dX12_qTakes_134 ic_0 ?_
              refine sk_put (ws' := [ro_ mm 12 (mo g (nI ta) (nI pa) (nI pe) pd (nI pb) pp pf pg pn rt rn (nI cd) sn (nI il) tk am at_ aa 0 0 (-1) wt wy 0 (nI rm) (nI ud) (nI nu) sd (nI qn) (nI qw) qo (nI qb) (nI qp) z90 0 (nI oc))]) (C := RX12) (T := TX12) (N := 92) (v := .int 0) hx hb hts inlX12 tyX12 tyX12_ok nmX12 hown hK hP hD hS 0 rfl rfl 89 (Nat.le_of_ble_eq_true rfl) w_6_4 rfl rfl rfl (Nat.le_of_ble_eq_true rfl) rfl dX12_qTakes_135 (fun H locs hP hD hS => ?_)
              exact sk_vret hx hb hr hlocks hK hP hD hS (⟨z90, rfl⟩) (Nat.le_of_ble_eq_true rfl) (Nat.le_of_ble_eq_true rfl) dX12_qTakes_138
            · skip
              refine lv_aload_n hx hb dX12_qTakes_128 rfl (lv_at hl 1 rfl) ?_
              refine lv_lload_n hx hb dX12_qTakes_129 rfl (lv_at hl 3 rfl) ?_
              refine sk_put (ws' := [ro_ mm 12 (mo g (nI ta) (nI pa) (nI pe) pd (nI pb) pp pf pg pn rt rn (nI cd) sn (nI il) tk am at_ aa 0 0 (-1) wt wy 0 (nI rm) (nI ud) (nI nu) sd (nI qn) (nI qw) qo (nI qb) (nI qp) x (nI qi) (nI oc))]) (C := RX12) (T := TX12) (N := 92) (v := .long x) hx hb hts inlX12 tyX12 tyX12_ok nmX12 hown hK hP hD hS 0 rfl rfl 88 (Nat.le_of_ble_eq_true rfl) w_6_3 rfl rfl rfl (Nat.le_of_ble_eq_true rfl) rfl dX12_qTakes_130 (fun H locs hP hD hS => ?_)
              refine lv_aload_n hx hb dX12_qTakes_133 rfl (lv_at hl 1 rfl) ?_
              refine lv_iconst (v := 0) hx hb dX12_qTakes_134 ic_0 ?_
              refine sk_put (ws' := [ro_ mm 12 (mo g (nI ta) (nI pa) (nI pe) pd (nI pb) pp pf pg pn rt rn (nI cd) sn (nI il) tk am at_ aa 0 0 (-1) wt wy 0 (nI rm) (nI ud) (nI nu) sd (nI qn) (nI qw) qo (nI qb) (nI qp) x 0 (nI oc))]) (C := RX12) (T := TX12) (N := 92) (v := .int 0) hx hb hts inlX12 tyX12 tyX12_ok nmX12 hown hK hP hD hS 0 rfl rfl 89 (Nat.le_of_ble_eq_true rfl) w_6_4 rfl rfl rfl (Nat.le_of_ble_eq_true rfl) rfl dX12_qTakes_135 (fun H locs hP hD hS => ?_)
              exact sk_vret hx hb hr hlocks hK hP hD hS (⟨x, rfl⟩) (Nat.le_of_ble_eq_true rfl) (Nat.le_of_ble_eq_true rfl) dX12_qTakes_138
          · skip
            refine lv_lload_n hx hb dX12_qTakes_107 rfl (lv_at hl 3 rfl) ?_
            refine lv_aload_n hx hb dX12_qTakes_108 rfl (lv_at hl 1 rfl) ?_
            refine sk_get (v := .long z90) (C := RX12) (T := TX12) (N := 92) hx hb hts inlX12 hown hK hP 0 rfl rfl 88 (Nat.le_of_ble_eq_true rfl) w_6_3 rfl dX12_qTakes_109 ?_
            refine W.lcmp hx hb dX12_qTakes_112 ?_
            refine lv_if_le (tgt := 133) hx hb dX12_qTakes_113 (by decide) (fun c_7 => ?_) (fun c_7 => ?_)
            · skip
              refine lv_aload_n hx hb dX12_qTakes_133 rfl (lv_at hl 1 rfl) ?_
              refine lv_iconst (v := 0) hx hb dX12_qTakes_134 ic_0 ?_
              refine sk_put (ws' := [ro_ mm 12 (mo g (nI ta) (nI pa) (nI pe) pd (nI pb) pp pf pg pn rt rn (nI cd) sn (nI il) tk am at_ aa 0 0 (-1) wt wy 0 (nI rm) (nI ud) (nI nu) sd (nI qn) (nI qw) qo (nI qb) (nI qp) z90 0 (nI oc))]) (C := RX12) (T := TX12) (N := 92) (v := .int 0) hx hb hts inlX12 tyX12 tyX12_ok nmX12 hown hK hP hD hS 0 rfl rfl 89 (Nat.le_of_ble_eq_true rfl) w_6_4 rfl rfl rfl (Nat.le_of_ble_eq_true rfl) rfl dX12_qTakes_135 (fun H locs hP hD hS => ?_)
              exact sk_vret hx hb hr hlocks hK hP hD hS (⟨z90, rfl⟩) (Nat.le_of_ble_eq_true rfl) (Nat.le_of_ble_eq_true rfl) dX12_qTakes_138
            · skip
              refine lv_goto (tgt := 128) hx hb dX12_qTakes_116 (by decide) ?_
              refine lv_aload_n hx hb dX12_qTakes_128 rfl (lv_at hl 1 rfl) ?_
              refine lv_lload_n hx hb dX12_qTakes_129 rfl (lv_at hl 3 rfl) ?_
              refine sk_put (ws' := [ro_ mm 12 (mo g (nI ta) (nI pa) (nI pe) pd (nI pb) pp pf pg pn rt rn (nI cd) sn (nI il) tk am at_ aa 0 0 (-1) wt wy 0 (nI rm) (nI ud) (nI nu) sd (nI qn) (nI qw) qo (nI qb) (nI qp) x (nI qi) (nI oc))]) (C := RX12) (T := TX12) (N := 92) (v := .long x) hx hb hts inlX12 tyX12 tyX12_ok nmX12 hown hK hP hD hS 0 rfl rfl 88 (Nat.le_of_ble_eq_true rfl) w_6_3 rfl rfl rfl (Nat.le_of_ble_eq_true rfl) rfl dX12_qTakes_130 (fun H locs hP hD hS => ?_)
              refine lv_aload_n hx hb dX12_qTakes_133 rfl (lv_at hl 1 rfl) ?_
              refine lv_iconst (v := 0) hx hb dX12_qTakes_134 ic_0 ?_
              refine sk_put (ws' := [ro_ mm 12 (mo g (nI ta) (nI pa) (nI pe) pd (nI pb) pp pf pg pn rt rn (nI cd) sn (nI il) tk am at_ aa 0 0 (-1) wt wy 0 (nI rm) (nI ud) (nI nu) sd (nI qn) (nI qw) qo (nI qb) (nI qp) x 0 (nI oc))]) (C := RX12) (T := TX12) (N := 92) (v := .int 0) hx hb hts inlX12 tyX12 tyX12_ok nmX12 hown hK hP hD hS 0 rfl rfl 89 (Nat.le_of_ble_eq_true rfl) w_6_4 rfl rfl rfl (Nat.le_of_ble_eq_true rfl) rfl dX12_qTakes_135 (fun H locs hP hD hS => ?_)
              exact sk_vret hx hb hr hlocks hK hP hD hS (⟨x, rfl⟩) (Nat.le_of_ble_eq_true rfl) (Nat.le_of_ble_eq_true rfl) dX12_qTakes_138
    have jn_8 : ∀ (z75 : Int64) (H : Heap) (locs : List Loc) (ls : Array Slot), va_P D vwCl [ro_ mm 12 (mo g (nI ta) (nI pa) (nI pe) pd (nI pb) pp pf pg pn rt rn (nI cd) sn (nI il) tk am at_ aa 0 0 (-1) wt wy 0 (nI rm) (nI ud) (nI nu) sd (nI qn) (nI qw) qo (nI qb) (nI qp) z75 (nI qi) (nI oc))] H → va_D A [ro_ mm 12 (mo g (nI ta) (nI pa) (nI pe) pd (nI pb) pp pf pg pn rt rn (nI cd) sn (nI il) tk am at_ aa 0 0 (-1) wt wy 0 (nI rm) (nI ud) (nI nu) sd (nI qn) (nI qw) qo (nI qb) (nI qp) z75 (nI qi) (nI oc))] → va_S A s.heap H locs → lv_has ls 6 [(5, .int (nI bq)), (0, .ref mm), (1, .int o), (2, .long x), (4, .int (nI d))] → W p l e { frames := 0, cells := 0, slots := 0, locals := 0 } s m ([.ref mm, .int o, .long x, .int (nI d)] : List Value).toArray below meth c H locs 0 0 (MQ below (skV D (skT cI cJ cC cZ cS) (fun (u : va_W) => ∃ (qa2 : Int64), u = [ro_ mm 12 (mo g (nI ta) (nI pa) (nI pe) pd (nI pb) pp pf pg pn rt rn (nI cd) sn (nI il) tk am at_ aa 0 0 (-1) wt wy 0 (nI rm) (nI ud) (nI nu) sd (nI qn) (nI qw) qo (nI qb) (nI qp) qa2 0 (nI oc))]) A) ([.ref mm, .int o, .long x, .int (nI d)] : List Value).toArray s 0 0 A) (F0 m 75 ls []) := by
      intro z75 H locs ls  hP hD hS hl
      refine lv_iload_n hx hb dX12_qTakes_75 rfl (lv_at hl 2 rfl) ?_
      refine lv_iconst (v := 3) hx hb dX12_qTakes_76 ic_3 ?_
      refine lv_icmp_ne (tgt := 90) hx hb dX12_qTakes_77 (by decide) (fun c_9 => ?_) (fun c_9 => ?_)
      · skip
        exact jn_2 z75 _ _ _  hP hD hS (lv_sub hl [0, 1, 2, 3, 4] rfl)
      · skip
        refine lv_aload_n hx hb dX12_qTakes_80 rfl (lv_at hl 1 rfl) ?_
        refine lv_dup hx hb dX12_qTakes_81 rfl ?_
        refine sk_get (v := .long z75) (C := RX12) (T := TX12) (N := 92) hx hb hts inlX12 hown hK hP 0 rfl rfl 88 (Nat.le_of_ble_eq_true rfl) w_6_3 rfl dX12_qTakes_82 ?_
        refine lv_lload_n hx hb dX12_qTakes_85 rfl (lv_at hl 3 rfl) ?_
        refine lv_ladd hx hb dX12_qTakes_86 ?_
        refine lv_topl (fun v_10 ev_10 => ?_)
        refine sk_put (ws' := [ro_ mm 12 (mo g (nI ta) (nI pa) (nI pe) pd (nI pb) pp pf pg pn rt rn (nI cd) sn (nI il) tk am at_ aa 0 0 (-1) wt wy 0 (nI rm) (nI ud) (nI nu) sd (nI qn) (nI qw) qo (nI qb) (nI qp) v_10 (nI qi) (nI oc))]) (C := RX12) (T := TX12) (N := 92) (v := .long v_10) hx hb hts inlX12 tyX12 tyX12_ok nmX12 hown hK hP hD hS 0 rfl rfl 88 (Nat.le_of_ble_eq_true rfl) w_6_3 rfl rfl rfl (Nat.le_of_ble_eq_true rfl) rfl dX12_qTakes_87 (fun H locs hP hD hS => ?_)
        exact jn_2 v_10 _ _ _  hP hD hS (lv_sub hl [0, 1, 2, 3, 4] rfl)
    have jn_11 : ∀ (z55 : Int64) (H : Heap) (locs : List Loc) (ls : Array Slot), va_P D vwCl [ro_ mm 12 (mo g (nI ta) (nI pa) (nI pe) pd (nI pb) pp pf pg pn rt rn (nI cd) sn (nI il) tk am at_ aa 0 0 (-1) wt wy 0 (nI rm) (nI ud) (nI nu) sd (nI qn) (nI qw) qo (nI qb) (nI qp) z55 (nI qi) (nI oc))] H → va_D A [ro_ mm 12 (mo g (nI ta) (nI pa) (nI pe) pd (nI pb) pp pf pg pn rt rn (nI cd) sn (nI il) tk am at_ aa 0 0 (-1) wt wy 0 (nI rm) (nI ud) (nI nu) sd (nI qn) (nI qw) qo (nI qb) (nI qp) z55 (nI qi) (nI oc))] → va_S A s.heap H locs → lv_has ls 6 [(5, .int (nI bq)), (0, .ref mm), (1, .int o), (2, .long x), (4, .int (nI d))] → W p l e { frames := 0, cells := 0, slots := 0, locals := 0 } s m ([.ref mm, .int o, .long x, .int (nI d)] : List Value).toArray below meth c H locs 0 0 (MQ below (skV D (skT cI cJ cC cZ cS) (fun (u : va_W) => ∃ (qa2 : Int64), u = [ro_ mm 12 (mo g (nI ta) (nI pa) (nI pe) pd (nI pb) pp pf pg pn rt rn (nI cd) sn (nI il) tk am at_ aa 0 0 (-1) wt wy 0 (nI rm) (nI ud) (nI nu) sd (nI qn) (nI qw) qo (nI qb) (nI qp) qa2 0 (nI oc))]) A) ([.ref mm, .int o, .long x, .int (nI d)] : List Value).toArray s 0 0 A) (F0 m 55 ls []) := by
      intro z55 H locs ls  hP hD hS hl
      refine lv_iload_n hx hb dX12_qTakes_55 rfl (lv_at hl 2 rfl) ?_
      refine lv_iconst (v := 2) hx hb dX12_qTakes_56 ic_2 ?_
      refine lv_icmp_ne (tgt := 75) hx hb dX12_qTakes_57 (by decide) (fun c_12 => ?_) (fun c_12 => ?_)
      · skip
        exact jn_8 z55 _ _ _  hP hD hS (lv_sub hl [0, 1, 2, 3, 4] rfl)
      · skip
        refine lv_iload hx hb dX12_qTakes_60 (lv_at hl 0 rfl) ?_
        refine lv_if_eq (tgt := 75) hx hb dX12_qTakes_62 (by decide) (fun c_13 => ?_) (fun c_13 => ?_)
        · have c_13 : bq = 0 := (neq bq 0 (by omega) (Nat.le_of_ble_eq_true rfl)).mp c_13
          exact jn_8 z55 _ _ _  hP hD hS (lv_sub hl [0, 1, 2, 3, 4] rfl)
        · have c_13 : ¬ (bq = 0) := fun h => c_13 ((neq bq 0 (by omega) (Nat.le_of_ble_eq_true rfl)).mpr h)
          refine lv_aload_n hx hb dX12_qTakes_65 rfl (lv_at hl 1 rfl) ?_
          refine lv_dup hx hb dX12_qTakes_66 rfl ?_
          refine sk_get (v := .long z55) (C := RX12) (T := TX12) (N := 92) hx hb hts inlX12 hown hK hP 0 rfl rfl 88 (Nat.le_of_ble_eq_true rfl) w_6_3 rfl dX12_qTakes_67 ?_
          refine lv_lconst (v := 1) hx hb dX12_qTakes_70 (by decide) ?_
          refine lv_ladd hx hb dX12_qTakes_71 ?_
          refine lv_topl (fun v_14 ev_14 => ?_)
          refine sk_put (ws' := [ro_ mm 12 (mo g (nI ta) (nI pa) (nI pe) pd (nI pb) pp pf pg pn rt rn (nI cd) sn (nI il) tk am at_ aa 0 0 (-1) wt wy 0 (nI rm) (nI ud) (nI nu) sd (nI qn) (nI qw) qo (nI qb) (nI qp) v_14 (nI qi) (nI oc))]) (C := RX12) (T := TX12) (N := 92) (v := .long v_14) hx hb hts inlX12 tyX12 tyX12_ok nmX12 hown hK hP hD hS 0 rfl rfl 88 (Nat.le_of_ble_eq_true rfl) w_6_3 rfl rfl rfl (Nat.le_of_ble_eq_true rfl) rfl dX12_qTakes_72 (fun H locs hP hD hS => ?_)
          exact jn_8 v_14 _ _ _  hP hD hS (lv_sub hl [0, 1, 2, 3, 4] rfl)
    refine lv_iload_n hx hb dX12_qTakes_18 rfl (lv_at hl 2 rfl) ?_
    refine lv_if_ne (tgt := 38) hx hb dX12_qTakes_19 (by decide) (fun c_15 => ?_) (fun c_15 => ?_)
    · skip
      refine lv_iload_n hx hb dX12_qTakes_38 rfl (lv_at hl 2 rfl) ?_
      refine lv_iconst (v := 1) hx hb dX12_qTakes_39 ic_1 ?_
      refine lv_icmp_ne (tgt := 55) hx hb dX12_qTakes_40 (by decide) (fun c_16 => ?_) (fun c_16 => ?_)
      · skip
        exact jn_11 qa _ _ _  hP hD hS (lv_sub hl [0, 1, 2, 3, 4] rfl)
      · skip
        refine lv_iload hx hb dX12_qTakes_43 (lv_at hl 0 rfl) ?_
        refine lv_if_eq (tgt := 55) hx hb dX12_qTakes_45 (by decide) (fun c_17 => ?_) (fun c_17 => ?_)
        · have c_17 : bq = 0 := (neq bq 0 (by omega) (Nat.le_of_ble_eq_true rfl)).mp c_17
          exact jn_11 qa _ _ _  hP hD hS (lv_sub hl [0, 1, 2, 3, 4] rfl)
        · have c_17 : ¬ (bq = 0) := fun h => c_17 ((neq bq 0 (by omega) (Nat.le_of_ble_eq_true rfl)).mpr h)
          refine lv_aload_n hx hb dX12_qTakes_48 rfl (lv_at hl 1 rfl) ?_
          refine lv_iload hx hb dX12_qTakes_49 (lv_at hl 4 rfl) ?_
          refine lv_i2l hx hb dX12_qTakes_51 rfl ?_
          refine sk_put (ws' := [ro_ mm 12 (mo g (nI ta) (nI pa) (nI pe) pd (nI pb) pp pf pg pn rt rn (nI cd) sn (nI il) tk am at_ aa 0 0 (-1) wt wy 0 (nI rm) (nI ud) (nI nu) sd (nI qn) (nI qw) qo (nI qb) (nI qp) (Int32.toInt64 (nI d)) (nI qi) (nI oc))]) (C := RX12) (T := TX12) (N := 92) (v := .long (Int32.toInt64 (nI d))) hx hb hts inlX12 tyX12 tyX12_ok nmX12 hown hK hP hD hS 0 rfl rfl 88 (Nat.le_of_ble_eq_true rfl) w_6_3 rfl rfl rfl (Nat.le_of_ble_eq_true rfl) rfl dX12_qTakes_52 (fun H locs hP hD hS => ?_)
          exact jn_11 (Int32.toInt64 (nI d)) _ _ _  hP hD hS (lv_sub hl [0, 1, 2, 3, 4] rfl)
    · skip
      refine lv_iload hx hb dX12_qTakes_22 (lv_at hl 0 rfl) ?_
      refine lv_if_eq (tgt := 38) hx hb dX12_qTakes_24 (by decide) (fun c_18 => ?_) (fun c_18 => ?_)
      · have c_18 : bq = 0 := (neq bq 0 (by omega) (Nat.le_of_ble_eq_true rfl)).mp c_18
        refine lv_iload_n hx hb dX12_qTakes_38 rfl (lv_at hl 2 rfl) ?_
        refine lv_iconst (v := 1) hx hb dX12_qTakes_39 ic_1 ?_
        refine lv_icmp_ne (tgt := 55) hx hb dX12_qTakes_40 (by decide) (fun c_19 => ?_) (fun c_19 => ?_)
        · skip
          exact jn_11 qa _ _ _  hP hD hS (lv_sub hl [0, 1, 2, 3, 4] rfl)
        · skip
          refine lv_iload hx hb dX12_qTakes_43 (lv_at hl 0 rfl) ?_
          refine lv_if_eq (tgt := 55) hx hb dX12_qTakes_45 (by decide) (fun c_20 => ?_) (fun c_20 => ?_)
          · have c_20 : bq = 0 := (neq bq 0 (by omega) (Nat.le_of_ble_eq_true rfl)).mp c_20
            exact jn_11 qa _ _ _  hP hD hS (lv_sub hl [0, 1, 2, 3, 4] rfl)
          · have c_20 : ¬ (bq = 0) := fun h => c_20 ((neq bq 0 (by omega) (Nat.le_of_ble_eq_true rfl)).mpr h)
            refine lv_aload_n hx hb dX12_qTakes_48 rfl (lv_at hl 1 rfl) ?_
            refine lv_iload hx hb dX12_qTakes_49 (lv_at hl 4 rfl) ?_
            refine lv_i2l hx hb dX12_qTakes_51 rfl ?_
            refine sk_put (ws' := [ro_ mm 12 (mo g (nI ta) (nI pa) (nI pe) pd (nI pb) pp pf pg pn rt rn (nI cd) sn (nI il) tk am at_ aa 0 0 (-1) wt wy 0 (nI rm) (nI ud) (nI nu) sd (nI qn) (nI qw) qo (nI qb) (nI qp) (Int32.toInt64 (nI d)) (nI qi) (nI oc))]) (C := RX12) (T := TX12) (N := 92) (v := .long (Int32.toInt64 (nI d))) hx hb hts inlX12 tyX12 tyX12_ok nmX12 hown hK hP hD hS 0 rfl rfl 88 (Nat.le_of_ble_eq_true rfl) w_6_3 rfl rfl rfl (Nat.le_of_ble_eq_true rfl) rfl dX12_qTakes_52 (fun H locs hP hD hS => ?_)
            exact jn_11 (Int32.toInt64 (nI d)) _ _ _  hP hD hS (lv_sub hl [0, 1, 2, 3, 4] rfl)
      · have c_18 : ¬ (bq = 0) := fun h => c_18 ((neq bq 0 (by omega) (Nat.le_of_ble_eq_true rfl)).mpr h)
        refine lv_aload_n hx hb dX12_qTakes_27 rfl (lv_at hl 1 rfl) ?_
        refine sk_get (v := .long qa) (C := RX12) (T := TX12) (N := 92) hx hb hts inlX12 hown hK hP 0 rfl rfl 88 (Nat.le_of_ble_eq_true rfl) w_6_3 rfl dX12_qTakes_28 ?_
        refine lv_ldc2 (v := (-1)) hx hb hown (hts _ w_7_155) dX12_qTakes_31 ?_
        refine W.lcmp hx hb dX12_qTakes_34 ?_
        refine lv_if_eq (tgt := 48) hx hb dX12_qTakes_35 (by decide) (fun c_21 => ?_) (fun c_21 => ?_)
        · skip
          refine lv_aload_n hx hb dX12_qTakes_48 rfl (lv_at hl 1 rfl) ?_
          refine lv_iload hx hb dX12_qTakes_49 (lv_at hl 4 rfl) ?_
          refine lv_i2l hx hb dX12_qTakes_51 rfl ?_
          refine sk_put (ws' := [ro_ mm 12 (mo g (nI ta) (nI pa) (nI pe) pd (nI pb) pp pf pg pn rt rn (nI cd) sn (nI il) tk am at_ aa 0 0 (-1) wt wy 0 (nI rm) (nI ud) (nI nu) sd (nI qn) (nI qw) qo (nI qb) (nI qp) (Int32.toInt64 (nI d)) (nI qi) (nI oc))]) (C := RX12) (T := TX12) (N := 92) (v := .long (Int32.toInt64 (nI d))) hx hb hts inlX12 tyX12 tyX12_ok nmX12 hown hK hP hD hS 0 rfl rfl 88 (Nat.le_of_ble_eq_true rfl) w_6_3 rfl rfl rfl (Nat.le_of_ble_eq_true rfl) rfl dX12_qTakes_52 (fun H locs hP hD hS => ?_)
          exact jn_11 (Int32.toInt64 (nI d)) _ _ _  hP hD hS (lv_sub hl [0, 1, 2, 3, 4] rfl)
        · skip
          refine lv_iload_n hx hb dX12_qTakes_38 rfl (lv_at hl 2 rfl) ?_
          refine lv_iconst (v := 1) hx hb dX12_qTakes_39 ic_1 ?_
          refine lv_icmp_ne (tgt := 55) hx hb dX12_qTakes_40 (by decide) (fun c_22 => ?_) (fun c_22 => ?_)
          · skip
            exact jn_11 qa _ _ _  hP hD hS (lv_sub hl [0, 1, 2, 3, 4] rfl)
          · skip
            refine lv_iload hx hb dX12_qTakes_43 (lv_at hl 0 rfl) ?_
            refine lv_if_eq (tgt := 55) hx hb dX12_qTakes_45 (by decide) (fun c_23 => ?_) (fun c_23 => ?_)
            · have c_23 : bq = 0 := (neq bq 0 (by omega) (Nat.le_of_ble_eq_true rfl)).mp c_23
              exact jn_11 qa _ _ _  hP hD hS (lv_sub hl [0, 1, 2, 3, 4] rfl)
            · have c_23 : ¬ (bq = 0) := fun h => c_23 ((neq bq 0 (by omega) (Nat.le_of_ble_eq_true rfl)).mpr h)
              refine lv_aload_n hx hb dX12_qTakes_48 rfl (lv_at hl 1 rfl) ?_
              refine lv_iload hx hb dX12_qTakes_49 (lv_at hl 4 rfl) ?_
              refine lv_i2l hx hb dX12_qTakes_51 rfl ?_
              refine sk_put (ws' := [ro_ mm 12 (mo g (nI ta) (nI pa) (nI pe) pd (nI pb) pp pf pg pn rt rn (nI cd) sn (nI il) tk am at_ aa 0 0 (-1) wt wy 0 (nI rm) (nI ud) (nI nu) sd (nI qn) (nI qw) qo (nI qb) (nI qp) (Int32.toInt64 (nI d)) (nI qi) (nI oc))]) (C := RX12) (T := TX12) (N := 92) (v := .long (Int32.toInt64 (nI d))) hx hb hts inlX12 tyX12 tyX12_ok nmX12 hown hK hP hD hS 0 rfl rfl 88 (Nat.le_of_ble_eq_true rfl) w_6_3 rfl rfl rfl (Nat.le_of_ble_eq_true rfl) rfl dX12_qTakes_52 (fun H locs hP hD hS => ?_)
              exact jn_11 (Int32.toInt64 (nI d)) _ _ _  hP hD hS (lv_sub hl [0, 1, 2, 3, 4] rfl)
  refine lv_iload_n hx hb dX12_qTakes_0 rfl (lv_at hl 1 rfl) ?_
  refine lv_iconst (v := 3) hx hb dX12_qTakes_1 ic_3 ?_
  refine lv_icmp_ge (tgt := 15) hx hb dX12_qTakes_2 (by decide) (fun c_24 => ?_) (fun c_24 => ?_)
  · obtain ⟨k_25, hk_25, h1k_25, rfl⟩ := nofge' o 3 (by omega) c_24
    refine lv_iconst (v := 0) hx hb dX12_qTakes_15 ic_0 ?_
    exact jn_1 0 _ _ _ (by omega) hP hD hS (lv_sub hl [0, 1, 2, 3] rfl)
  · skip
    refine lv_lload_n hx hb dX12_qTakes_5 rfl (lv_at hl 2 rfl) ?_
    refine lv_lconst (v := 1) hx hb dX12_qTakes_6 (by decide) ?_
    refine W.lcmp hx hb dX12_qTakes_7 ?_
    refine lv_if_ne (tgt := 15) hx hb dX12_qTakes_8 (by decide) (fun c_26 => ?_) (fun c_26 => ?_)
    · skip
      refine lv_iconst (v := 0) hx hb dX12_qTakes_15 ic_0 ?_
      exact jn_1 0 _ _ _ (by omega) hP hD hS (lv_sub hl [0, 1, 2, 3] rfl)
    · skip
      refine lv_iconst (v := 1) hx hb dX12_qTakes_11 ic_1 ?_
      refine lv_goto (tgt := 16) hx hb dX12_qTakes_12 (by decide) ?_
      exact jn_1 1 _ _ _ (by omega) hP hD hS (lv_sub hl [0, 1, 2, 3] rfl)
theorem dg_X12_qKind_0_0 : bqL cX12_qKind 0 [(0, [42]), (1, [42]), (2, [180, 0, 114]), (5, [182, 0, 222]), (8, [153, 0, 7]), (15, [42]), (16, [42]), (17, [180, 0, 117]), (20, [182, 0, 222]), (23, [153, 0, 7]), (30, [42]), (31, [42]), (32, [180, 0, 120]), (35, [182, 0, 222]), (38, [153, 0, 7]), (45, [42]), (46, [42]), (47, [180, 0, 123]), (50, [182, 0, 222]), (53, [153, 0, 7]), (60, [42]), (61, [42]), (62, [180, 0, 126]), (65, [182, 0, 222]), (68, [153, 0, 7]), (75, [8]), (76, [60]), (77, [27]), (78, [8]), (79, [160, 0, 11]), (82, [42]), (83, [42]), (84, [180, 0, 129]), (87, [182, 0, 245]), (90, [27]), (91, [172]), (71, [7]), (72, [167, 0, 4]), (56, [6]), (57, [167, 0, 19])] = true := by decide +kernel
theorem dX12_qKind_0 : decode cX12_qKind 0 = .ok (.aload_n 0, 1) := q_aload_n0 (bat_get dg_X12_qKind_0_0 0 rfl rfl)
theorem dX12_qKind_1 : decode cX12_qKind 1 = .ok (.aload_n 0, 1) := q_aload_n0 (bat_get dg_X12_qKind_0_0 1 rfl rfl)
theorem dX12_qKind_2 : decode cX12_qKind 2 = .ok (.getfield 114, 3) := q_getfield (bat_get dg_X12_qKind_0_0 2 rfl rfl) rfl
theorem dX12_qKind_5 : decode cX12_qKind 5 = .ok (.invokevirtual 222, 3) := q_invokevirtual (bat_get dg_X12_qKind_0_0 3 rfl rfl) rfl
theorem dX12_qKind_8 : decode cX12_qKind 8 = .ok (.ifCond .eq 7, 3) := q_ifCond_eq (bat_get dg_X12_qKind_0_0 4 rfl rfl) rfl
theorem dX12_qKind_15 : decode cX12_qKind 15 = .ok (.aload_n 0, 1) := q_aload_n0 (bat_get dg_X12_qKind_0_0 5 rfl rfl)
theorem dX12_qKind_16 : decode cX12_qKind 16 = .ok (.aload_n 0, 1) := q_aload_n0 (bat_get dg_X12_qKind_0_0 6 rfl rfl)
theorem dX12_qKind_17 : decode cX12_qKind 17 = .ok (.getfield 117, 3) := q_getfield (bat_get dg_X12_qKind_0_0 7 rfl rfl) rfl
theorem dX12_qKind_20 : decode cX12_qKind 20 = .ok (.invokevirtual 222, 3) := q_invokevirtual (bat_get dg_X12_qKind_0_0 8 rfl rfl) rfl
theorem dX12_qKind_23 : decode cX12_qKind 23 = .ok (.ifCond .eq 7, 3) := q_ifCond_eq (bat_get dg_X12_qKind_0_0 9 rfl rfl) rfl
theorem dX12_qKind_30 : decode cX12_qKind 30 = .ok (.aload_n 0, 1) := q_aload_n0 (bat_get dg_X12_qKind_0_0 10 rfl rfl)
theorem dX12_qKind_31 : decode cX12_qKind 31 = .ok (.aload_n 0, 1) := q_aload_n0 (bat_get dg_X12_qKind_0_0 11 rfl rfl)
theorem dX12_qKind_32 : decode cX12_qKind 32 = .ok (.getfield 120, 3) := q_getfield (bat_get dg_X12_qKind_0_0 12 rfl rfl) rfl
theorem dX12_qKind_35 : decode cX12_qKind 35 = .ok (.invokevirtual 222, 3) := q_invokevirtual (bat_get dg_X12_qKind_0_0 13 rfl rfl) rfl
theorem dX12_qKind_38 : decode cX12_qKind 38 = .ok (.ifCond .eq 7, 3) := q_ifCond_eq (bat_get dg_X12_qKind_0_0 14 rfl rfl) rfl
theorem dX12_qKind_45 : decode cX12_qKind 45 = .ok (.aload_n 0, 1) := q_aload_n0 (bat_get dg_X12_qKind_0_0 15 rfl rfl)
theorem dX12_qKind_46 : decode cX12_qKind 46 = .ok (.aload_n 0, 1) := q_aload_n0 (bat_get dg_X12_qKind_0_0 16 rfl rfl)
theorem dX12_qKind_47 : decode cX12_qKind 47 = .ok (.getfield 123, 3) := q_getfield (bat_get dg_X12_qKind_0_0 17 rfl rfl) rfl
theorem dX12_qKind_50 : decode cX12_qKind 50 = .ok (.invokevirtual 222, 3) := q_invokevirtual (bat_get dg_X12_qKind_0_0 18 rfl rfl) rfl
theorem dX12_qKind_53 : decode cX12_qKind 53 = .ok (.ifCond .eq 7, 3) := q_ifCond_eq (bat_get dg_X12_qKind_0_0 19 rfl rfl) rfl
theorem dX12_qKind_60 : decode cX12_qKind 60 = .ok (.aload_n 0, 1) := q_aload_n0 (bat_get dg_X12_qKind_0_0 20 rfl rfl)
theorem dX12_qKind_61 : decode cX12_qKind 61 = .ok (.aload_n 0, 1) := q_aload_n0 (bat_get dg_X12_qKind_0_0 21 rfl rfl)
theorem dX12_qKind_62 : decode cX12_qKind 62 = .ok (.getfield 126, 3) := q_getfield (bat_get dg_X12_qKind_0_0 22 rfl rfl) rfl
theorem dX12_qKind_65 : decode cX12_qKind 65 = .ok (.invokevirtual 222, 3) := q_invokevirtual (bat_get dg_X12_qKind_0_0 23 rfl rfl) rfl
theorem dX12_qKind_68 : decode cX12_qKind 68 = .ok (.ifCond .eq 7, 3) := q_ifCond_eq (bat_get dg_X12_qKind_0_0 24 rfl rfl) rfl
theorem dX12_qKind_75 : decode cX12_qKind 75 = .ok (.iconst 5, 1) := q_iconst5 (bat_get dg_X12_qKind_0_0 25 rfl rfl)
theorem dX12_qKind_76 : decode cX12_qKind 76 = .ok (.istore_n 1, 1) := q_istore_n1 (bat_get dg_X12_qKind_0_0 26 rfl rfl)
theorem dX12_qKind_77 : decode cX12_qKind 77 = .ok (.iload_n 1, 1) := q_iload_n1 (bat_get dg_X12_qKind_0_0 27 rfl rfl)
theorem dX12_qKind_78 : decode cX12_qKind 78 = .ok (.iconst 5, 1) := q_iconst5 (bat_get dg_X12_qKind_0_0 28 rfl rfl)
theorem dX12_qKind_79 : decode cX12_qKind 79 = .ok (.if_icmp .ne 11, 3) := q_if_icmp_ne (bat_get dg_X12_qKind_0_0 29 rfl rfl) rfl
theorem dX12_qKind_82 : decode cX12_qKind 82 = .ok (.aload_n 0, 1) := q_aload_n0 (bat_get dg_X12_qKind_0_0 30 rfl rfl)
theorem dX12_qKind_83 : decode cX12_qKind 83 = .ok (.aload_n 0, 1) := q_aload_n0 (bat_get dg_X12_qKind_0_0 31 rfl rfl)
theorem dX12_qKind_84 : decode cX12_qKind 84 = .ok (.getfield 129, 3) := q_getfield (bat_get dg_X12_qKind_0_0 32 rfl rfl) rfl
theorem dX12_qKind_87 : decode cX12_qKind 87 = .ok (.invokevirtual 245, 3) := q_invokevirtual (bat_get dg_X12_qKind_0_0 33 rfl rfl) rfl
theorem dX12_qKind_90 : decode cX12_qKind 90 = .ok (.iload_n 1, 1) := q_iload_n1 (bat_get dg_X12_qKind_0_0 34 rfl rfl)
theorem dX12_qKind_91 : decode cX12_qKind 91 = .ok (.ireturn, 1) := q_ireturn (bat_get dg_X12_qKind_0_0 35 rfl rfl)
theorem dX12_qKind_71 : decode cX12_qKind 71 = .ok (.iconst 4, 1) := q_iconst4 (bat_get dg_X12_qKind_0_0 36 rfl rfl)
theorem dX12_qKind_72 : decode cX12_qKind 72 = .ok (.goto 4, 3) := q_goto (bat_get dg_X12_qKind_0_0 37 rfl rfl) rfl
theorem dX12_qKind_56 : decode cX12_qKind 56 = .ok (.iconst 3, 1) := q_iconst3 (bat_get dg_X12_qKind_0_0 38 rfl rfl)
theorem dX12_qKind_57 : decode cX12_qKind 57 = .ok (.goto 19, 3) := q_goto (bat_get dg_X12_qKind_0_0 39 rfl rfl) rfl
theorem dg_X12_qKind_11_41 : bqL cX12_qKind 11 [(30, [5]), (31, [167, 0, 34]), (15, [4]), (16, [167, 0, 49]), (0, [3]), (1, [167, 0, 64])] = true := by decide +kernel
theorem dX12_qKind_41 : decode cX12_qKind 41 = .ok (.iconst 2, 1) := q_iconst2 (bat_get dg_X12_qKind_11_41 0 rfl rfl)
theorem dX12_qKind_42 : decode cX12_qKind 42 = .ok (.goto 34, 3) := q_goto (bat_get dg_X12_qKind_11_41 1 rfl rfl) rfl
theorem dX12_qKind_26 : decode cX12_qKind 26 = .ok (.iconst 1, 1) := q_iconst1 (bat_get dg_X12_qKind_11_41 2 rfl rfl)
theorem dX12_qKind_27 : decode cX12_qKind 27 = .ok (.goto 49, 3) := q_goto (bat_get dg_X12_qKind_11_41 3 rfl rfl) rfl
theorem dX12_qKind_11 : decode cX12_qKind 11 = .ok (.iconst 0, 1) := q_iconst0 (bat_get dg_X12_qKind_11_41 4 rfl rfl)
theorem dX12_qKind_12 : decode cX12_qKind 12 = .ok (.goto 64, 3) := q_goto (bat_get dg_X12_qKind_11_41 5 rfl rfl) rfl
theorem w_5_214 : (Cond.fieldLink RX12 117 "SameKeeperModel" "lastAsked" "[C") ∈ wsL_law := sk_mem (ck_5 _ (List.mem_of_getElem? (i := 214) rfl)) rfl
theorem w_5_215 : (Cond.fieldLink RX12 120 "SameKeeperModel" "oftenAsked" "[C") ∈ wsL_law := sk_mem (ck_5 _ (List.mem_of_getElem? (i := 215) rfl)) rfl
theorem w_5_216 : (Cond.fieldLink RX12 123 "SameKeeperModel" "totalAsked" "[C") ∈ wsL_law := sk_mem (ck_5 _ (List.mem_of_getElem? (i := 216) rfl)) rfl
theorem w_5_217 : (Cond.fieldLink RX12 126 "SameKeeperModel" "mostAsked" "[C") ∈ wsL_law := sk_mem (ck_5 _ (List.mem_of_getElem? (i := 217) rfl)) rfl
theorem w_5_218 : (Cond.fieldLink RX12 129 "SameKeeperModel" "leastAsked" "[C") ∈ wsL_law := sk_mem (ck_5 _ (List.mem_of_getElem? (i := 218) rfl)) rfl
theorem w_8_170 : (Cond.code yX12_qKind cX12_qKind 2 (some .int)) ∈ wsL_law := sk_mem (ck_8 _ (List.mem_of_getElem? (i := 170) rfl)) rfl
def om_8_e0 : List Bool := true :: true :: true :: false :: false :: false :: false :: false :: []
def om_8_d0 : List Bool := true :: true :: false :: true :: false :: false :: false :: false :: []
def om_8_c8 : List Bool := true :: true :: false :: false :: true :: false :: false :: false :: []
def om_8_c4 : List Bool := true :: true :: false :: false :: false :: true :: false :: false :: []
def om_8_c2 : List Bool := true :: true :: false :: false :: false :: false :: true :: false :: []
def om_8_c1 : List Bool := true :: true :: false :: false :: false :: false :: false :: true :: []
theorem dg_X12_ask_0_0 : bqL cX12_ask 0 [(0, [42]), (1, [180, 1, 46]), (4, [154, 0, 12]), (16, [42]), (17, [42]), (18, [180, 0, 192]), (21, [181, 0, 204]), (24, [42]), (25, [3]), (26, [181, 0, 192]), (29, [42]), (30, [3]), (31, [181, 0, 201]), (34, [42]), (35, [2]), (36, [181, 0, 215]), (39, [42]), (40, [3]), (41, [181, 0, 195]), (44, [42]), (45, [2]), (46, [181, 0, 198]), (49, [42]), (50, [5]), (51, [181, 0, 242]), (54, [42]), (55, [3]), (56, [181, 1, 1]), (59, [42]), (60, [3]), (61, [181, 1, 4]), (64, [42]), (65, [3]), (66, [181, 1, 7]), (69, [42]), (70, [3]), (71, [181, 1, 10]), (74, [42]), (75, [182, 2, 69]), (78, [60])] = true := by decide +kernel
theorem dX12_ask_0 : decode cX12_ask 0 = .ok (.aload_n 0, 1) := q_aload_n0 (bat_get dg_X12_ask_0_0 0 rfl rfl)
theorem dX12_ask_1 : decode cX12_ask 1 = .ok (.getfield 302, 3) := q_getfield (bat_get dg_X12_ask_0_0 1 rfl rfl) rfl
theorem dX12_ask_4 : decode cX12_ask 4 = .ok (.ifCond .ne 12, 3) := q_ifCond_ne (bat_get dg_X12_ask_0_0 2 rfl rfl) rfl
theorem dX12_ask_16 : decode cX12_ask 16 = .ok (.aload_n 0, 1) := q_aload_n0 (bat_get dg_X12_ask_0_0 3 rfl rfl)
theorem dX12_ask_17 : decode cX12_ask 17 = .ok (.aload_n 0, 1) := q_aload_n0 (bat_get dg_X12_ask_0_0 4 rfl rfl)
theorem dX12_ask_18 : decode cX12_ask 18 = .ok (.getfield 192, 3) := q_getfield (bat_get dg_X12_ask_0_0 5 rfl rfl) rfl
theorem dX12_ask_21 : decode cX12_ask 21 = .ok (.putfield 204, 3) := q_putfield (bat_get dg_X12_ask_0_0 6 rfl rfl) rfl
theorem dX12_ask_24 : decode cX12_ask 24 = .ok (.aload_n 0, 1) := q_aload_n0 (bat_get dg_X12_ask_0_0 7 rfl rfl)
theorem dX12_ask_25 : decode cX12_ask 25 = .ok (.iconst 0, 1) := q_iconst0 (bat_get dg_X12_ask_0_0 8 rfl rfl)
theorem dX12_ask_26 : decode cX12_ask 26 = .ok (.putfield 192, 3) := q_putfield (bat_get dg_X12_ask_0_0 9 rfl rfl) rfl
theorem dX12_ask_29 : decode cX12_ask 29 = .ok (.aload_n 0, 1) := q_aload_n0 (bat_get dg_X12_ask_0_0 10 rfl rfl)
theorem dX12_ask_30 : decode cX12_ask 30 = .ok (.iconst 0, 1) := q_iconst0 (bat_get dg_X12_ask_0_0 11 rfl rfl)
theorem dX12_ask_31 : decode cX12_ask 31 = .ok (.putfield 201, 3) := q_putfield (bat_get dg_X12_ask_0_0 12 rfl rfl) rfl
theorem dX12_ask_34 : decode cX12_ask 34 = .ok (.aload_n 0, 1) := q_aload_n0 (bat_get dg_X12_ask_0_0 13 rfl rfl)
theorem dX12_ask_35 : decode cX12_ask 35 = .ok (.iconst (-1), 1) := q_iconstm1 (bat_get dg_X12_ask_0_0 14 rfl rfl)
theorem dX12_ask_36 : decode cX12_ask 36 = .ok (.putfield 215, 3) := q_putfield (bat_get dg_X12_ask_0_0 15 rfl rfl) rfl
theorem dX12_ask_39 : decode cX12_ask 39 = .ok (.aload_n 0, 1) := q_aload_n0 (bat_get dg_X12_ask_0_0 16 rfl rfl)
theorem dX12_ask_40 : decode cX12_ask 40 = .ok (.iconst 0, 1) := q_iconst0 (bat_get dg_X12_ask_0_0 17 rfl rfl)
theorem dX12_ask_41 : decode cX12_ask 41 = .ok (.putfield 195, 3) := q_putfield (bat_get dg_X12_ask_0_0 18 rfl rfl) rfl
theorem dX12_ask_44 : decode cX12_ask 44 = .ok (.aload_n 0, 1) := q_aload_n0 (bat_get dg_X12_ask_0_0 19 rfl rfl)
theorem dX12_ask_45 : decode cX12_ask 45 = .ok (.iconst (-1), 1) := q_iconstm1 (bat_get dg_X12_ask_0_0 20 rfl rfl)
theorem dX12_ask_46 : decode cX12_ask 46 = .ok (.putfield 198, 3) := q_putfield (bat_get dg_X12_ask_0_0 21 rfl rfl) rfl
theorem dX12_ask_49 : decode cX12_ask 49 = .ok (.aload_n 0, 1) := q_aload_n0 (bat_get dg_X12_ask_0_0 22 rfl rfl)
theorem dX12_ask_50 : decode cX12_ask 50 = .ok (.iconst 2, 1) := q_iconst2 (bat_get dg_X12_ask_0_0 23 rfl rfl)
theorem dX12_ask_51 : decode cX12_ask 51 = .ok (.putfield 242, 3) := q_putfield (bat_get dg_X12_ask_0_0 24 rfl rfl) rfl
theorem dX12_ask_54 : decode cX12_ask 54 = .ok (.aload_n 0, 1) := q_aload_n0 (bat_get dg_X12_ask_0_0 25 rfl rfl)
theorem dX12_ask_55 : decode cX12_ask 55 = .ok (.iconst 0, 1) := q_iconst0 (bat_get dg_X12_ask_0_0 26 rfl rfl)
theorem dX12_ask_56 : decode cX12_ask 56 = .ok (.putfield 257, 3) := q_putfield (bat_get dg_X12_ask_0_0 27 rfl rfl) rfl
theorem dX12_ask_59 : decode cX12_ask 59 = .ok (.aload_n 0, 1) := q_aload_n0 (bat_get dg_X12_ask_0_0 28 rfl rfl)
theorem dX12_ask_60 : decode cX12_ask 60 = .ok (.iconst 0, 1) := q_iconst0 (bat_get dg_X12_ask_0_0 29 rfl rfl)
theorem dX12_ask_61 : decode cX12_ask 61 = .ok (.putfield 260, 3) := q_putfield (bat_get dg_X12_ask_0_0 30 rfl rfl) rfl
theorem dX12_ask_64 : decode cX12_ask 64 = .ok (.aload_n 0, 1) := q_aload_n0 (bat_get dg_X12_ask_0_0 31 rfl rfl)
theorem dX12_ask_65 : decode cX12_ask 65 = .ok (.iconst 0, 1) := q_iconst0 (bat_get dg_X12_ask_0_0 32 rfl rfl)
theorem dX12_ask_66 : decode cX12_ask 66 = .ok (.putfield 263, 3) := q_putfield (bat_get dg_X12_ask_0_0 33 rfl rfl) rfl
theorem dX12_ask_69 : decode cX12_ask 69 = .ok (.aload_n 0, 1) := q_aload_n0 (bat_get dg_X12_ask_0_0 34 rfl rfl)
theorem dX12_ask_70 : decode cX12_ask 70 = .ok (.iconst 0, 1) := q_iconst0 (bat_get dg_X12_ask_0_0 35 rfl rfl)
theorem dX12_ask_71 : decode cX12_ask 71 = .ok (.putfield 266, 3) := q_putfield (bat_get dg_X12_ask_0_0 36 rfl rfl) rfl
theorem dX12_ask_74 : decode cX12_ask 74 = .ok (.aload_n 0, 1) := q_aload_n0 (bat_get dg_X12_ask_0_0 37 rfl rfl)
theorem dX12_ask_75 : decode cX12_ask 75 = .ok (.invokevirtual 581, 3) := q_invokevirtual (bat_get dg_X12_ask_0_0 38 rfl rfl) rfl
theorem dX12_ask_78 : decode cX12_ask 78 = .ok (.istore_n 1, 1) := q_istore_n1 (bat_get dg_X12_ask_0_0 39 rfl rfl)
theorem dg_X12_ask_109_109 : bqL cX12_ask 109 [(0, [42]), (1, [180, 0, 195]), (4, [154, 0, 20]), (24, [42]), (25, [42]), (26, [180, 0, 195]), (29, [181, 1, 40]), (32, [42]), (33, [42]), (34, [180, 0, 198]), (37, [181, 0, 13]), (40, [42]), (41, [180, 0, 195]), (44, [153, 0, 7]), (47, [20, 1, 165]), (50, [173]), (7, [42]), (8, [182, 0, 207]), (11, [2]), (12, [159, 0, 12]), (51, [42]), (52, [27]), (53, [5]), (54, [162, 0, 9]), (63, [9]), (64, [181, 2, 63]), (67, [42]), (68, [4]), (69, [181, 2, 66]), (72, [42]), (73, [182, 1, 144]), (76, [42]), (77, [180, 1, 126]), (80, [9]), (81, [148]), (82, [158, 0, 8]), (90, [42]), (91, [5]), (92, [181, 0, 242]), (95, [3])] = true := by decide +kernel
theorem dX12_ask_109 : decode cX12_ask 109 = .ok (.aload_n 0, 1) := q_aload_n0 (bat_get dg_X12_ask_109_109 0 rfl rfl)
theorem dX12_ask_110 : decode cX12_ask 110 = .ok (.getfield 195, 3) := q_getfield (bat_get dg_X12_ask_109_109 1 rfl rfl) rfl
theorem dX12_ask_113 : decode cX12_ask 113 = .ok (.ifCond .ne 20, 3) := q_ifCond_ne (bat_get dg_X12_ask_109_109 2 rfl rfl) rfl
theorem dX12_ask_133 : decode cX12_ask 133 = .ok (.aload_n 0, 1) := q_aload_n0 (bat_get dg_X12_ask_109_109 3 rfl rfl)
theorem dX12_ask_134 : decode cX12_ask 134 = .ok (.aload_n 0, 1) := q_aload_n0 (bat_get dg_X12_ask_109_109 4 rfl rfl)
theorem dX12_ask_135 : decode cX12_ask 135 = .ok (.getfield 195, 3) := q_getfield (bat_get dg_X12_ask_109_109 5 rfl rfl) rfl
theorem dX12_ask_138 : decode cX12_ask 138 = .ok (.putfield 296, 3) := q_putfield (bat_get dg_X12_ask_109_109 6 rfl rfl) rfl
theorem dX12_ask_141 : decode cX12_ask 141 = .ok (.aload_n 0, 1) := q_aload_n0 (bat_get dg_X12_ask_109_109 7 rfl rfl)
theorem dX12_ask_142 : decode cX12_ask 142 = .ok (.aload_n 0, 1) := q_aload_n0 (bat_get dg_X12_ask_109_109 8 rfl rfl)
theorem dX12_ask_143 : decode cX12_ask 143 = .ok (.getfield 198, 3) := q_getfield (bat_get dg_X12_ask_109_109 9 rfl rfl) rfl
theorem dX12_ask_146 : decode cX12_ask 146 = .ok (.putfield 13, 3) := q_putfield (bat_get dg_X12_ask_109_109 10 rfl rfl) rfl
theorem dX12_ask_149 : decode cX12_ask 149 = .ok (.aload_n 0, 1) := q_aload_n0 (bat_get dg_X12_ask_109_109 11 rfl rfl)
theorem dX12_ask_150 : decode cX12_ask 150 = .ok (.getfield 195, 3) := q_getfield (bat_get dg_X12_ask_109_109 12 rfl rfl) rfl
theorem dX12_ask_153 : decode cX12_ask 153 = .ok (.ifCond .eq 7, 3) := q_ifCond_eq (bat_get dg_X12_ask_109_109 13 rfl rfl) rfl
theorem dX12_ask_156 : decode cX12_ask 156 = .ok (.ldc2_w 421, 3) := q_ldc2_w (bat_get dg_X12_ask_109_109 14 rfl rfl) rfl
theorem dX12_ask_159 : decode cX12_ask 159 = .ok (.lreturn, 1) := q_lreturn (bat_get dg_X12_ask_109_109 15 rfl rfl)
theorem dX12_ask_116 : decode cX12_ask 116 = .ok (.aload_n 0, 1) := q_aload_n0 (bat_get dg_X12_ask_109_109 16 rfl rfl)
theorem dX12_ask_117 : decode cX12_ask 117 = .ok (.invokevirtual 207, 3) := q_invokevirtual (bat_get dg_X12_ask_109_109 17 rfl rfl) rfl
theorem dX12_ask_120 : decode cX12_ask 120 = .ok (.iconst (-1), 1) := q_iconstm1 (bat_get dg_X12_ask_109_109 18 rfl rfl)
theorem dX12_ask_121 : decode cX12_ask 121 = .ok (.if_icmp .eq 12, 3) := q_if_icmp_eq (bat_get dg_X12_ask_109_109 19 rfl rfl) rfl
theorem dX12_ask_160 : decode cX12_ask 160 = .ok (.aload_n 0, 1) := q_aload_n0 (bat_get dg_X12_ask_109_109 20 rfl rfl)
theorem dX12_ask_161 : decode cX12_ask 161 = .ok (.iload_n 1, 1) := q_iload_n1 (bat_get dg_X12_ask_109_109 21 rfl rfl)
theorem dX12_ask_162 : decode cX12_ask 162 = .ok (.iconst 2, 1) := q_iconst2 (bat_get dg_X12_ask_109_109 22 rfl rfl)
theorem dX12_ask_163 : decode cX12_ask 163 = .ok (.if_icmp .ge 9, 3) := q_if_icmp_ge (bat_get dg_X12_ask_109_109 23 rfl rfl) rfl
theorem dX12_ask_172 : decode cX12_ask 172 = .ok (.lconst 0, 1) := q_lconst0 (bat_get dg_X12_ask_109_109 24 rfl rfl)
theorem dX12_ask_173 : decode cX12_ask 173 = .ok (.putfield 575, 3) := q_putfield (bat_get dg_X12_ask_109_109 25 rfl rfl) rfl
theorem dX12_ask_176 : decode cX12_ask 176 = .ok (.aload_n 0, 1) := q_aload_n0 (bat_get dg_X12_ask_109_109 26 rfl rfl)
theorem dX12_ask_177 : decode cX12_ask 177 = .ok (.iconst 1, 1) := q_iconst1 (bat_get dg_X12_ask_109_109 27 rfl rfl)
theorem dX12_ask_178 : decode cX12_ask 178 = .ok (.putfield 578, 3) := q_putfield (bat_get dg_X12_ask_109_109 28 rfl rfl) rfl
theorem dX12_ask_181 : decode cX12_ask 181 = .ok (.aload_n 0, 1) := q_aload_n0 (bat_get dg_X12_ask_109_109 29 rfl rfl)
theorem dX12_ask_182 : decode cX12_ask 182 = .ok (.invokevirtual 400, 3) := q_invokevirtual (bat_get dg_X12_ask_109_109 30 rfl rfl) rfl
theorem dX12_ask_185 : decode cX12_ask 185 = .ok (.aload_n 0, 1) := q_aload_n0 (bat_get dg_X12_ask_109_109 31 rfl rfl)
theorem dX12_ask_186 : decode cX12_ask 186 = .ok (.getfield 382, 3) := q_getfield (bat_get dg_X12_ask_109_109 32 rfl rfl) rfl
theorem dX12_ask_189 : decode cX12_ask 189 = .ok (.lconst 0, 1) := q_lconst0 (bat_get dg_X12_ask_109_109 33 rfl rfl)
theorem dX12_ask_190 : decode cX12_ask 190 = .ok (.lcmp, 1) := q_lcmp (bat_get dg_X12_ask_109_109 34 rfl rfl)
theorem dX12_ask_191 : decode cX12_ask 191 = .ok (.ifCond .le 8, 3) := q_ifCond_le (bat_get dg_X12_ask_109_109 35 rfl rfl) rfl
theorem dX12_ask_199 : decode cX12_ask 199 = .ok (.aload_n 0, 1) := q_aload_n0 (bat_get dg_X12_ask_109_109 36 rfl rfl)
theorem dX12_ask_200 : decode cX12_ask 200 = .ok (.iconst 2, 1) := q_iconst2 (bat_get dg_X12_ask_109_109 37 rfl rfl)
theorem dX12_ask_201 : decode cX12_ask 201 = .ok (.putfield 242, 3) := q_putfield (bat_get dg_X12_ask_109_109 38 rfl rfl) rfl
theorem dX12_ask_204 : decode cX12_ask 204 = .ok (.iconst 0, 1) := q_iconst0 (bat_get dg_X12_ask_109_109 39 rfl rfl)
theorem dg_X12_ask_79_205 : bqL cX12_ask 79 [(126, [61]), (127, [28]), (128, [42]), (129, [182, 1, 59]), (132, [162, 0, 20]), (152, [42]), (153, [180, 2, 63]), (156, [173]), (135, [42]), (136, [27]), (137, [42]), (138, [28]), (139, [182, 2, 75]), (142, [28]), (143, [182, 2, 79]), (146, [132, 2, 1]), (149, [167, 255, 234]), (115, [42]), (116, [9]), (117, [182, 1, 138]), (87, [20, 2, 57]), (90, [167, 0, 4]), (45, [42]), (46, [4]), (47, [42]), (48, [180, 0, 201]), (51, [182, 0, 225]), (0, [42]), (1, [180, 0, 195]), (4, [154, 0, 15]), (19, [42]), (20, [180, 0, 195]), (23, [154, 0, 7]), (26, [42]), (27, [182, 1, 13]), (7, [27]), (8, [6]), (9, [162, 0, 10]), (12, [42]), (13, [182, 2, 72])] = true := by decide +kernel
theorem dX12_ask_205 : decode cX12_ask 205 = .ok (.istore_n 2, 1) := q_istore_n2 (bat_get dg_X12_ask_79_205 0 rfl rfl)
theorem dX12_ask_206 : decode cX12_ask 206 = .ok (.iload_n 2, 1) := q_iload_n2 (bat_get dg_X12_ask_79_205 1 rfl rfl)
theorem dX12_ask_207 : decode cX12_ask 207 = .ok (.aload_n 0, 1) := q_aload_n0 (bat_get dg_X12_ask_79_205 2 rfl rfl)
theorem dX12_ask_208 : decode cX12_ask 208 = .ok (.invokevirtual 315, 3) := q_invokevirtual (bat_get dg_X12_ask_79_205 3 rfl rfl) rfl
theorem dX12_ask_211 : decode cX12_ask 211 = .ok (.if_icmp .ge 20, 3) := q_if_icmp_ge (bat_get dg_X12_ask_79_205 4 rfl rfl) rfl
theorem dX12_ask_231 : decode cX12_ask 231 = .ok (.aload_n 0, 1) := q_aload_n0 (bat_get dg_X12_ask_79_205 5 rfl rfl)
theorem dX12_ask_232 : decode cX12_ask 232 = .ok (.getfield 575, 3) := q_getfield (bat_get dg_X12_ask_79_205 6 rfl rfl) rfl
theorem dX12_ask_235 : decode cX12_ask 235 = .ok (.lreturn, 1) := q_lreturn (bat_get dg_X12_ask_79_205 7 rfl rfl)
theorem dX12_ask_214 : decode cX12_ask 214 = .ok (.aload_n 0, 1) := q_aload_n0 (bat_get dg_X12_ask_79_205 8 rfl rfl)
theorem dX12_ask_215 : decode cX12_ask 215 = .ok (.iload_n 1, 1) := q_iload_n1 (bat_get dg_X12_ask_79_205 9 rfl rfl)
theorem dX12_ask_216 : decode cX12_ask 216 = .ok (.aload_n 0, 1) := q_aload_n0 (bat_get dg_X12_ask_79_205 10 rfl rfl)
theorem dX12_ask_217 : decode cX12_ask 217 = .ok (.iload_n 2, 1) := q_iload_n2 (bat_get dg_X12_ask_79_205 11 rfl rfl)
theorem dX12_ask_218 : decode cX12_ask 218 = .ok (.invokevirtual 587, 3) := q_invokevirtual (bat_get dg_X12_ask_79_205 12 rfl rfl) rfl
theorem dX12_ask_221 : decode cX12_ask 221 = .ok (.iload_n 2, 1) := q_iload_n2 (bat_get dg_X12_ask_79_205 13 rfl rfl)
theorem dX12_ask_222 : decode cX12_ask 222 = .ok (.invokevirtual 591, 3) := q_invokevirtual (bat_get dg_X12_ask_79_205 14 rfl rfl) rfl
theorem dX12_ask_225 : decode cX12_ask 225 = .ok (.iinc 2 1, 3) := q_iinc (bat_get dg_X12_ask_79_205 15 rfl rfl) rfl
theorem dX12_ask_228 : decode cX12_ask 228 = .ok (.goto (-22), 3) := q_goto (bat_get dg_X12_ask_79_205 16 rfl rfl) rfl
theorem dX12_ask_194 : decode cX12_ask 194 = .ok (.aload_n 0, 1) := q_aload_n0 (bat_get dg_X12_ask_79_205 17 rfl rfl)
theorem dX12_ask_195 : decode cX12_ask 195 = .ok (.lconst 0, 1) := q_lconst0 (bat_get dg_X12_ask_79_205 18 rfl rfl)
theorem dX12_ask_196 : decode cX12_ask 196 = .ok (.invokevirtual 394, 3) := q_invokevirtual (bat_get dg_X12_ask_79_205 19 rfl rfl) rfl
theorem dX12_ask_166 : decode cX12_ask 166 = .ok (.ldc2_w 569, 3) := q_ldc2_w (bat_get dg_X12_ask_79_205 20 rfl rfl) rfl
theorem dX12_ask_169 : decode cX12_ask 169 = .ok (.goto 4, 3) := q_goto (bat_get dg_X12_ask_79_205 21 rfl rfl) rfl
theorem dX12_ask_124 : decode cX12_ask 124 = .ok (.aload_n 0, 1) := q_aload_n0 (bat_get dg_X12_ask_79_205 22 rfl rfl)
theorem dX12_ask_125 : decode cX12_ask 125 = .ok (.iconst 1, 1) := q_iconst1 (bat_get dg_X12_ask_79_205 23 rfl rfl)
theorem dX12_ask_126 : decode cX12_ask 126 = .ok (.aload_n 0, 1) := q_aload_n0 (bat_get dg_X12_ask_79_205 24 rfl rfl)
theorem dX12_ask_127 : decode cX12_ask 127 = .ok (.getfield 201, 3) := q_getfield (bat_get dg_X12_ask_79_205 25 rfl rfl) rfl
theorem dX12_ask_130 : decode cX12_ask 130 = .ok (.invokevirtual 225, 3) := q_invokevirtual (bat_get dg_X12_ask_79_205 26 rfl rfl) rfl
theorem dX12_ask_79 : decode cX12_ask 79 = .ok (.aload_n 0, 1) := q_aload_n0 (bat_get dg_X12_ask_79_205 27 rfl rfl)
theorem dX12_ask_80 : decode cX12_ask 80 = .ok (.getfield 195, 3) := q_getfield (bat_get dg_X12_ask_79_205 28 rfl rfl) rfl
theorem dX12_ask_83 : decode cX12_ask 83 = .ok (.ifCond .ne 15, 3) := q_ifCond_ne (bat_get dg_X12_ask_79_205 29 rfl rfl) rfl
theorem dX12_ask_98 : decode cX12_ask 98 = .ok (.aload_n 0, 1) := q_aload_n0 (bat_get dg_X12_ask_79_205 30 rfl rfl)
theorem dX12_ask_99 : decode cX12_ask 99 = .ok (.getfield 195, 3) := q_getfield (bat_get dg_X12_ask_79_205 31 rfl rfl) rfl
theorem dX12_ask_102 : decode cX12_ask 102 = .ok (.ifCond .ne 7, 3) := q_ifCond_ne (bat_get dg_X12_ask_79_205 32 rfl rfl) rfl
theorem dX12_ask_105 : decode cX12_ask 105 = .ok (.aload_n 0, 1) := q_aload_n0 (bat_get dg_X12_ask_79_205 33 rfl rfl)
theorem dX12_ask_106 : decode cX12_ask 106 = .ok (.invokevirtual 269, 3) := q_invokevirtual (bat_get dg_X12_ask_79_205 34 rfl rfl) rfl
theorem dX12_ask_86 : decode cX12_ask 86 = .ok (.iload_n 1, 1) := q_iload_n1 (bat_get dg_X12_ask_79_205 35 rfl rfl)
theorem dX12_ask_87 : decode cX12_ask 87 = .ok (.iconst 3, 1) := q_iconst3 (bat_get dg_X12_ask_79_205 36 rfl rfl)
theorem dX12_ask_88 : decode cX12_ask 88 = .ok (.if_icmp .ge 10, 3) := q_if_icmp_ge (bat_get dg_X12_ask_79_205 37 rfl rfl) rfl
theorem dX12_ask_91 : decode cX12_ask 91 = .ok (.aload_n 0, 1) := q_aload_n0 (bat_get dg_X12_ask_79_205 38 rfl rfl)
theorem dX12_ask_92 : decode cX12_ask 92 = .ok (.invokevirtual 584, 3) := q_invokevirtual (bat_get dg_X12_ask_79_205 39 rfl rfl) rfl
theorem dg_X12_ask_7_95 : bqL cX12_ask 7 [(88, [167, 0, 14]), (0, [42]), (1, [3]), (2, [181, 0, 192]), (5, [20, 1, 165]), (8, [173])] = true := by decide +kernel
theorem dX12_ask_95 : decode cX12_ask 95 = .ok (.goto 14, 3) := q_goto (bat_get dg_X12_ask_7_95 0 rfl rfl) rfl
theorem dX12_ask_7 : decode cX12_ask 7 = .ok (.aload_n 0, 1) := q_aload_n0 (bat_get dg_X12_ask_7_95 1 rfl rfl)
theorem dX12_ask_8 : decode cX12_ask 8 = .ok (.iconst 0, 1) := q_iconst0 (bat_get dg_X12_ask_7_95 2 rfl rfl)
theorem dX12_ask_9 : decode cX12_ask 9 = .ok (.putfield 192, 3) := q_putfield (bat_get dg_X12_ask_7_95 3 rfl rfl) rfl
theorem dX12_ask_12 : decode cX12_ask 12 = .ok (.ldc2_w 421, 3) := q_ldc2_w (bat_get dg_X12_ask_7_95 4 rfl rfl) rfl
theorem dX12_ask_15 : decode cX12_ask 15 = .ok (.lreturn, 1) := q_lreturn (bat_get dg_X12_ask_7_95 5 rfl rfl)
theorem w_8_167 : (Cond.methodLink RX12 581 yX12_qKind) ∈ wsL_law := sk_mem (ck_8 _ (List.mem_of_getElem? (i := 167) rfl)) rfl
theorem w_8_169 : (Cond.instanceMethod yX12_qKind) ∈ wsL_law := sk_mem (ck_8 _ (List.mem_of_getElem? (i := 169) rfl)) rfl
theorem w_0_110 : (Cond.selects RX12 yX12_qKind yX12_qKind) ∈ wsL_law := sk_mem (ck_0 _ (List.mem_of_getElem? (i := 110) rfl)) rfl
theorem w_8_191 : (Cond.methodLink RX12 587 yX12_qTold) ∈ wsL_law := sk_mem (ck_8 _ (List.mem_of_getElem? (i := 191) rfl)) rfl
theorem w_8_193 : (Cond.instanceMethod yX12_qTold) ∈ wsL_law := sk_mem (ck_8 _ (List.mem_of_getElem? (i := 193) rfl)) rfl
theorem w_0_116 : (Cond.selects RX12 yX12_qTold yX12_qTold) ∈ wsL_law := sk_mem (ck_0 _ (List.mem_of_getElem? (i := 116) rfl)) rfl
theorem w_8_199 : (Cond.methodLink RX12 591 yX12_qTakes) ∈ wsL_law := sk_mem (ck_8 _ (List.mem_of_getElem? (i := 199) rfl)) rfl
theorem w_8_201 : (Cond.instanceMethod yX12_qTakes) ∈ wsL_law := sk_mem (ck_8 _ (List.mem_of_getElem? (i := 201) rfl)) rfl
theorem w_0_118 : (Cond.selects RX12 yX12_qTakes yX12_qTakes) ∈ wsL_law := sk_mem (ck_0 _ (List.mem_of_getElem? (i := 118) rfl)) rfl
theorem w_8_171 : (Cond.methodLink RX12 584 yX12_qTest) ∈ wsL_law := sk_mem (ck_8 _ (List.mem_of_getElem? (i := 171) rfl)) rfl
theorem w_8_173 : (Cond.instanceMethod yX12_qTest) ∈ wsL_law := sk_mem (ck_8 _ (List.mem_of_getElem? (i := 173) rfl)) rfl
theorem w_0_111 : (Cond.selects RX12 yX12_qTest yX12_qTest) ∈ wsL_law := sk_mem (ck_0 _ (List.mem_of_getElem? (i := 111) rfl)) rfl
theorem w_8_166 : (Cond.code yX12_ask cX12_ask 3 (some .long)) ∈ wsL_law := sk_mem (ck_8 _ (List.mem_of_getElem? (i := 166) rfl)) rfl
def om_38_200100041f : List Bool := true :: false :: false :: false :: false :: false :: false :: false :: false :: false :: false :: false :: false :: true :: false :: false :: false :: false :: false :: false :: false :: false :: false :: false :: false :: false :: false :: true :: false :: false :: false :: false :: false :: true :: true :: true :: true :: true :: []
def om_38_2001000000 : List Bool := true :: false :: false :: false :: false :: false :: false :: false :: false :: false :: false :: false :: false :: true :: false :: false :: false :: false :: false :: false :: false :: false :: false :: false :: false :: false :: false :: false :: false :: false :: false :: false :: false :: false :: false :: false :: false :: false :: []
def om_38_3ffe000000 : List Bool := true :: true :: true :: true :: true :: true :: true :: true :: true :: true :: true :: true :: true :: false :: false :: false :: false :: false :: false :: false :: false :: false :: false :: false :: false :: false :: false :: false :: false :: false :: false :: false :: false :: false :: false :: false :: false :: false :: []
def om_38_2040000000 : List Bool := true :: false :: false :: false :: false :: false :: false :: true :: false :: false :: false :: false :: false :: false :: false :: false :: false :: false :: false :: false :: false :: false :: false :: false :: false :: false :: false :: false :: false :: false :: false :: false :: false :: false :: false :: false :: false :: false :: []
def om_38_2386800000 : List Bool := true :: false :: false :: false :: true :: true :: true :: false :: false :: false :: false :: true :: true :: false :: true :: false :: false :: false :: false :: false :: false :: false :: false :: false :: false :: false :: false :: false :: false :: false :: false :: false :: false :: false :: false :: false :: false :: false :: []
def om_38_2000000000 : List Bool := true :: false :: false :: false :: false :: false :: false :: false :: false :: false :: false :: false :: false :: false :: false :: false :: false :: false :: false :: false :: false :: false :: false :: false :: false :: false :: false :: false :: false :: false :: false :: false :: false :: false :: false :: false :: false :: false :: []
def om_38_235c000000 : List Bool := true :: false :: false :: false :: true :: true :: false :: true :: false :: true :: true :: true :: false :: false :: false :: false :: false :: false :: false :: false :: false :: false :: false :: false :: false :: false :: false :: false :: false :: false :: false :: false :: false :: false :: false :: false :: false :: false :: []
def om_38_2001fffe00 : List Bool := true :: false :: false :: false :: false :: false :: false :: false :: false :: false :: false :: false :: false :: true :: true :: true :: true :: true :: true :: true :: true :: true :: true :: true :: true :: true :: true :: true :: true :: false :: false :: false :: false :: false :: false :: false :: false :: false :: []
def om_38_2001ffffe0 : List Bool := true :: false :: false :: false :: false :: false :: false :: false :: false :: false :: false :: false :: false :: true :: true :: true :: true :: true :: true :: true :: true :: true :: true :: true :: true :: true :: true :: true :: true :: true :: true :: true :: true :: false :: false :: false :: false :: false :: []
theorem hd_X12_qKind_0 : skD yX12_qKind 0 := by decide +kernel
theorem hd_X12_qTold_1 : skD yX12_qTold 1 := by decide +kernel
theorem hd_X12_qTakes_3 : skD yX12_qTakes 3 := by decide +kernel
theorem hd_X12_qTest_0 : skD yX12_qTest 0 := by decide +kernel
theorem sk_sk (tb : Nat → Nat) (n a : Nat) : sk tb n (sk tb n a) = sk tb n a := ext_stop (ext_end qB tb n a)
def cuO (tb : Nat → Nat) (n pa : Nat) (pd : Int32) : Cur := (sk tb n pa, decide (pd = nI (sk tb n pa)))
def pdO (pa : Nat) (pd : Int32) : Prop := pd = -1 ∨ ∃ e : Nat, e ≤ pa ∧ pd = nI e
def moO (tb : Nat → Nat) (n : Nat) (o : Except Err Cur) (pa : Nat) (pd : Int32) (pb : Nat) (pp : Int32) : Prop := match o with
  | .ok c => pb = 0 ∧ pp = -1 ∧ pa ≤ n ∧ c = cuO tb n pa pd ∧ pdO pa pd
  | .error e => pb = e.1 ∧ pp = nI e.2 ∧ 1 ≤ e.1 ∧ e.1 ≤ 5
theorem pdO_up {a b : Nat} {pd : Int32} (h : pdO a pd) (hb : a ≤ b) : pdO b pd := by
  rcases h with h | ⟨e, h1, h2⟩
  · exact Or.inl h
  · exact Or.inr ⟨e, by omega, h2⟩
theorem cuO_sk (tb : Nat → Nat) (n pa : Nat) (pd : Int32) : cuO tb n (sk tb n pa) pd = cuO tb n pa pd := by
  unfold cuO; rw [sk_sk]
theorem mo_look {tb : Nat → Nat} {n : Nat} {o : Except Err Cur} {pa : Nat} {pd : Int32} {pb : Nat} {pp : Int32} (h : moO tb n o pa pd pb pp) : moO tb n o (sk tb n pa) pd pb pp := by
  cases o with
  | error e => exact h
  | ok c => exact ⟨h.1, h.2.1, ext_le h.2.2.1, by rw [cuO_sk]; exact h.2.2.2.1, pdO_up h.2.2.2.2 (ext_ge qB tb n pa)⟩
theorem mo_ok {tb : Nat → Nat} {n : Nat} {o : Except Err Cur} {pa : Nat} {pd : Int32} {pb : Nat} {pp : Int32} (h : moO tb n o pa pd pb pp) (hb : pb = 0) : o = .ok (cuO tb n pa pd) ∧ pp = -1 ∧ pa ≤ n ∧ pdO pa pd := by
  cases o with
  | error e =>
    have h1 := h.1
    have h2 := h.2.2.1
    omega
  | ok c => exact ⟨by rw [h.2.2.2.1], h.2.1, h.2.2.1, h.2.2.2.2⟩
theorem mo_nz {tb : Nat → Nat} {n : Nat} {o : Except Err Cur} {pa : Nat} {pd : Int32} {pb : Nat} {pp : Int32} (h : moO tb n o pa pd pb pp) (hb : ¬ pb = 0) : ∃ e, o = .error e := by
  cases o with
  | error e => exact ⟨e, rfl⟩
  | ok c => exact absurd h.1 hb
theorem mo_er {tb : Nat → Nat} {n : Nat} {o : Except Err Cur} {pa : Nat} {pd : Int32} {pb : Nat} {pp : Int32} {F : Cur → Except Err Cur} {pa2 : Nat} {pd2 : Int32} (h : moO tb n o pa pd pb pp) (hb : ¬ pb = 0) : moO tb n (bindR o F) pa2 pd2 pb pp := by
  obtain ⟨e, rfl⟩ := mo_nz h hb
  exact h
theorem mo_fail {tb : Nat → Nat} {n : Nat} {o : Except Err Cur} {pa : Nat} {pd : Int32} {pb : Nat} {pp : Int32} {F : Cur → Except Err Cur} {pa2 : Nat} {pd2 : Int32} {k w : Nat} (h : moO tb n o pa pd pb pp) (hb : pb = 0) (hk : 1 ≤ k) (hk5 : k ≤ 5) (e : F (cuO tb n pa pd) = .error (k, w)) : moO tb n (bindR o F) pa2 pd2 k (nI w) := by
  rw [(mo_ok h hb).1]
  show moO tb n (F (cuO tb n pa pd)) pa2 pd2 k (nI w)
  rw [e]
  exact ⟨rfl, rfl, hk, hk5⟩
theorem qLD {c : Nat} (h : qD c = true) : qL c = false := by
  have := qD_t.mp h
  exact qL_f (by omega)
theorem mo_nxW {tb : Nat → Nat} {n : Nat} {o : Except Err Cur} {pa : Nat} {pd : Int32} {pb : Nat} {pp : Int32} {F : Cur → Except Err Cur} {x : Nat} (h : moO tb n o pa pd pb pp) (hb : pb = 0) (hn : n ≤ 1600) (hx : x = te tb n (sk tb n pa)) (hw : (qL (tb (sk tb n pa)) || qD (tb (sk tb n pa))) = true) (hl : sk tb n pa < n) (e : F (cuO tb n pa pd) = .ok (nx tb n (sk tb n pa))) : moO tb n (bindR o F) x (nI x) pb pp := by
  obtain ⟨h1, h2, h3, h4⟩ := mo_ok h hb
  rw [h1]
  show moO tb n (F (cuO tb n pa pd)) x (nI x) pb pp
  rw [e]
  have hle : x ≤ n := by rw [hx]; exact te_le hl
  refine ⟨hb, h2, hle, ?_, Or.inr ⟨x, Nat.le_refl _, rfl⟩⟩
  unfold nx cuO
  rw [hw, Bool.true_and, ← hx]
  have hs : sk tb n x ≤ n := ext_le hle
  congr 1
  rw [Bool.eq_iff_iff, beq_iff_eq, decide_eq_true_iff, nI_eq (by omega) (by omega)]
  exact ⟨fun q => q.symm, fun q => q.symm⟩
theorem mo_nxS {tb : Nat → Nat} {n : Nat} {o : Except Err Cur} {pa : Nat} {pd : Int32} {pb : Nat} {pp : Int32} {F : Cur → Except Err Cur} {x : Nat} (h : moO tb n o pa pd pb pp) (hb : pb = 0) (hn : n ≤ 1600) (hx : x = sk tb n pa + 1) (h1 : qL (tb (sk tb n pa)) = false) (h2 : qD (tb (sk tb n pa)) = false) (hl : sk tb n pa < n) (e : F (cuO tb n pa pd) = .ok (nx tb n (sk tb n pa))) : moO tb n (bindR o F) x pd pb pp := by
  obtain ⟨g1, g2, g3, g4⟩ := mo_ok h hb
  rw [g1]
  show moO tb n (F (cuO tb n pa pd)) x pd pb pp
  rw [e]
  have ht : te tb n (sk tb n pa) = x := by unfold te; rw [h1, if_neg (by decide), h2, if_neg (by decide), hx]
  have hle : x ≤ n := by omega
  have hs := ext_ge qB tb n x
  have hs2 : sk tb n x ≤ n := ext_le hle
  have hp := ext_ge qB tb n pa
  refine ⟨hb, g2, hle, ?_, pdO_up g4 (by rw [hx]; unfold sk; omega)⟩
  unfold nx cuO
  rw [h1, h2, ht]
  show (sk tb n x, false) = _
  congr 1
  symm
  rw [decide_eq_false_iff_not]
  rcases g4 with g4 | ⟨e1, g5, g6⟩
  · rw [g4]
    intro q
    have := i_eq q
    rw [i_m1, i_nI (by omega)] at this
    omega
  · rw [g6]
    intro q
    have := (nI_eq (by omega) (by omega)).mp q
    unfold sk at *
    omega
theorem isW_no {tb : Nat → Nat} {n : Nat} {w : List Nat} {c : Cur} (h : ¬ (c.1 < n ∧ qL (tb c.1) = true)) : isW tb n w c = false := by
  cases q : isW tb n w c with
  | false => rfl
  | true => exact absurd ⟨isW_lt q, (isW_qL q).1⟩ h
theorem isW_fl {tb : Nat → Nat} {n pa : Nat} {pd : Int32} {w : List Nat} (h : pd = nI (sk tb n pa)) : isW tb n w (cuO tb n pa pd) = false := by
  cases q : isW tb n w (cuO tb n pa pd) with
  | false => rfl
  | true =>
    have := (isW_qL q).2.2
    unfold cuO at this
    rw [h] at this
    simp at this
theorem isW_len {tb : Nat → Nat} {n : Nat} {w : List Nat} {c : Cur} {k : Nat} (hk : k = ext qL tb n c.1) (h : ¬ k - c.1 = w.length) : isW tb n w c = false := by
  cases q : isW tb n w c with
  | false => rfl
  | true =>
    have := (isW_qL q).2.1
    rw [← this, wl_len] at h
    exact absurd (by rw [hk]) h
theorem wl_get {tb : Nat → Nat} {n s i : Nat} (h : i < ext qL tb n s - s) : (wl tb n s).getD i 0 = tb (s + i) := by
  unfold wl
  rw [List.getD_eq_getElem?_getD, List.getElem?_map, List.getElem?_eq_getElem (by rw [List.length_range]; exact h), List.getElem_range]; rfl
theorem isW_ne {tb : Nat → Nat} {n : Nat} {w : List Nat} {c : Cur} {k i : Nat} (hk : k = ext qL tb n c.1) (hl : k - c.1 = w.length) (hi : i < w.length) (h : ¬ tb (c.1 + i) = w.getD i 0) : isW tb n w c = false := by
  cases q : isW tb n w c with
  | false => rfl
  | true =>
    have := (isW_qL q).2.1
    exact absurd (by rw [← this, wl_get (by rw [← hk]; omega)]) h
theorem isW_yes {tb : Nat → Nat} {n : Nat} {w : List Nat} {c : Cur} {k : Nat} (h1 : c.1 < n) (h2 : qL (tb c.1) = true) (h3 : c.2 = false) (hk : k = ext qL tb n c.1) (hl : k - c.1 = w.length) (h : ∀ i, i < w.length → tb (c.1 + i) = w.getD i 0) : isW tb n w c = true := by
  unfold isW
  rw [Bool.and_eq_true, Bool.and_eq_true, Bool.and_eq_true, decide_eq_true_iff, h3, h2, beq_iff_eq]
  refine ⟨⟨⟨h1, rfl⟩, rfl⟩, List.ext_getElem? (fun i => ?_)⟩
  by_cases q : i < w.length
  · have a : i < (wl tb n c.1).length := by rw [wl_len, ← hk]; omega
    have b := wl_get (tb := tb) (n := n) (s := c.1) (i := i) (by rw [← hk]; omega)
    have d := h i q
    rw [List.getD_eq_getElem?_getD, List.getElem?_eq_getElem a, Option.getD_some] at b
    rw [List.getD_eq_getElem?_getD, List.getElem?_eq_getElem q, Option.getD_some] at d
    rw [List.getElem?_eq_getElem a, List.getElem?_eq_getElem q, b, d]
  · rw [List.getElem?_eq_none (by rw [wl_len, ← hk]; omega), List.getElem?_eq_none (by omega)]
theorem cu_f {tb : Nat → Nat} {n pa : Nat} {pd : Int32} (h : ¬ pd = nI (sk tb n pa)) : (cuO tb n pa pd).2 = false := decide_eq_false_iff_not.mpr h
theorem lk_L {tb : Nat → Nat} {r : Int32} {a e : Nat} (hb : ∀ j, tb j ≤ 255) (h : lkOk tb r a e) : ((97 : Int32) ≤ r ∧ r ≤ 122) ↔ (a < e ∧ qL (tb a) = true) := by
  have e1 : ((97 : Int32)).toInt = 97 := by decide
  have e2 : ((122 : Int32)).toInt = 122 := by decide
  rw [Int32.le_iff_toInt_le, Int32.le_iff_toInt_le, e1, e2, qL_t]
  have := hb a
  rcases h with ⟨h1, h2⟩ | ⟨h1, h2, -, -⟩
  · rw [h1, i_m1]; omega
  · rw [h2, i_nI (by omega)]; omega
theorem lk_D {tb : Nat → Nat} {r : Int32} {a e : Nat} (hb : ∀ j, tb j ≤ 255) (h : lkOk tb r a e) : ((48 : Int32) ≤ r ∧ r ≤ 57) ↔ (a < e ∧ qD (tb a) = true) := by
  have e1 : ((48 : Int32)).toInt = 48 := by decide
  have e2 : ((57 : Int32)).toInt = 57 := by decide
  rw [Int32.le_iff_toInt_le, Int32.le_iff_toInt_le, e1, e2, qD_t]
  have := hb a
  rcases h with ⟨h1, h2⟩ | ⟨h1, h2, -, -⟩
  · rw [h1, i_m1]; omega
  · rw [h2, i_nI (by omega)]; omega
theorem lk_S {tb : Nat → Nat} {r : Int32} {a e w : Nat} (hb : ∀ j, tb j ≤ 255) (hw : w ≤ 255) (h : lkOk tb r a e) : r = nI w ↔ (a < e ∧ tb a = w) := by
  have := hb a
  rcases h with ⟨h1, h2⟩ | ⟨h1, h2, -, -⟩
  · refine ⟨fun q => ?_, fun q => by omega⟩
    have := i_eq (h1.symm.trans q)
    rw [i_m1, i_nI (by omega)] at this
    omega
  · rw [h2, nI_eq (by omega) (by omega)]
    exact ⟨fun q => ⟨h1, q⟩, fun q => q.2⟩
theorem isS_cu {tb : Nat → Nat} {n pa b : Nat} {pd : Int32} : isS tb n b (cuO tb n pa pd) = true ↔ (sk tb n pa < n ∧ tb (sk tb n pa) = b) := by
  unfold isS
  rw [Bool.and_eq_true, decide_eq_true_iff, beq_iff_eq]
  exact Iff.rfl
theorem mo_takeW {tb : Nat → Nat} {n : Nat} {o : Except Err Cur} {pa : Nat} {pd : Int32} {pb : Nat} {pp : Int32} {w : List Nat} {F : Cur → Except Err Cur} {x : Nat} (h : moO tb n o pa pd pb pp) (hb : pb = 0) (hn : n ≤ 1600) (hw : isW tb n w (cuO tb n pa pd) = true) (hx : x = sk tb n pa + w.length) (e : F (cuO tb n pa pd) = .ok (nx tb n (sk tb n pa))) : moO tb n (bindR o F) x (nI x) pb pp := by
  have a := isW_qL hw
  have b : qL (tb (sk tb n pa)) = true := a.1
  have d : wl tb n (sk tb n pa) = w := a.2.1
  refine mo_nxW h hb hn ?_ (by rw [b]; rfl) (isW_lt hw) e
  rw [te_w b, hx, ← d, wl_len]
  have := ext_ge qL tb n (sk tb n pa)
  omega
theorem mo_asks1 {tb : Nat → Nat} {n : Nat} {w : List Nat} {c : Cur} (h : isW tb n w c = false) : wordP tb n w c = .error (1, c.1) := by
  unfold wordP; rw [h, if_neg (by decide)]
theorem mo_asks2 {tb : Nat → Nat} {n : Nat} {w : List Nat} {c : Cur} (h : isW tb n w c = true) : wordP tb n w c = .ok (nx tb n c.1) := by
  unfold wordP; rw [if_pos h]
theorem mo_takeS {tb : Nat → Nat} {n b : Nat} {o : Except Err Cur} {pa : Nat} {pd : Int32} {pb : Nat} {pp : Int32} {F : Cur → Except Err Cur} {x : Nat} (h : moO tb n o pa pd pb pp) (hb : pb = 0) (hn : n ≤ 1600) (hs : sk tb n pa < n ∧ tb (sk tb n pa) = b) (h9 : b < 256 ∧ ¬ (97 ≤ b ∧ b ≤ 122) ∧ ¬ (48 ≤ b ∧ b ≤ 57)) (hx : x = sk tb n pa + 1) (e : F (cuO tb n pa pd) = .ok (nx tb n (sk tb n pa))) : moO tb n (bindR o F) x pd pb pp :=
  mo_nxS h hb hn hx (qL_f (by rw [hs.2]; exact h9.2.1)) (qD_f (by rw [hs.2]; exact h9.2.2)) hs.1 e
theorem nm_no {tb : Nat → Nat} {n lo hi : Nat} {c : Cur} (h : ¬ (c.1 < n ∧ qD (tb c.1) = true ∧ c.2 = false)) : nmF tb n lo hi c = .error (1, c.1) := by
  unfold nmF numP; rw [if_neg h]; rfl
theorem nm_many {tb : Nat → Nat} {n lo hi : Nat} {c : Cur} (h : c.1 < n ∧ qD (tb c.1) = true ∧ c.2 = false) (h4 : 4 < ext qD tb n c.1 - c.1) : nmF tb n lo hi c = .error (1, c.1 + 4) := by
  unfold nmF numP; rw [if_pos h, if_pos h4]; rfl
theorem nm_out {tb : Nat → Nat} {n lo hi v : Nat} {c : Cur} (h : c.1 < n ∧ qD (tb c.1) = true ∧ c.2 = false) (h4 : ¬ 4 < ext qD tb n c.1 - c.1) (hv : v = vd tb c.1 (ext qD tb n c.1 - c.1)) (ho : ¬ (lo ≤ v ∧ v ≤ hi)) : nmF tb n lo hi c = .error (2, c.1) := by
  unfold nmF numP; rw [if_pos h, if_neg h4, ← hv, if_pos (by omega)]; rfl
theorem nm_ok {tb : Nat → Nat} {n lo hi v : Nat} {c : Cur} (h : c.1 < n ∧ qD (tb c.1) = true ∧ c.2 = false) (h4 : ¬ 4 < ext qD tb n c.1 - c.1) (hv : v = vd tb c.1 (ext qD tb n c.1 - c.1)) (ho : lo ≤ v ∧ v ≤ hi) : numP tb n lo hi c = .ok (v, nx tb n c.1) := by
  unfold numP; rw [if_pos h, if_neg h4, ← hv, if_neg (by omega)]
theorem nm_okF {tb : Nat → Nat} {n lo hi v : Nat} {c : Cur} (h : numP tb n lo hi c = .ok (v, nx tb n c.1)) : nmF tb n lo hi c = .ok (nx tb n c.1) := by
  unfold nmF; rw [h]; rfl
theorem nv_of {tb : Nat → Nat} {n lo hi v : Nat} {o : Except Err Cur} {pa : Nat} {pd : Int32} {pb : Nat} {pp : Int32} (h : moO tb n o pa pd pb pp) (hb : pb = 0) (hq : numP tb n lo hi (cuO tb n pa pd) = .ok (v, nx tb n (sk tb n pa))) : nvO tb n lo hi o v := by
  intro c r hc hr
  rw [(mo_ok h hb).1] at hc
  cases hc
  rw [hq] at hr
  cases hr
  rfl
theorem nv_er {tb : Nat → Nat} {n lo hi v : Nat} {o : Except Err Cur} {pa : Nat} {pd : Int32} {pb : Nat} {pp : Int32} (h : moO tb n o pa pd pb pp) (hb : ¬ pb = 0) : nvO tb n lo hi o v := by
  intro c r hc hr
  obtain ⟨e, rfl⟩ := mo_nz h hb
  cases hc
theorem nv_bad {tb : Nat → Nat} {n lo hi v : Nat} {o : Except Err Cur} {pa : Nat} {pd : Int32} {pb : Nat} {pp : Int32} {e : Err} (h : moO tb n o pa pd pb pp) (hb : pb = 0) (hq : nmF tb n lo hi (cuO tb n pa pd) = .error e) : nvO tb n lo hi o v := by
  intro c r hc hr
  rw [(mo_ok h hb).1] at hc
  cases hc
  unfold nmF at hq
  rw [hr] at hq
  cases hq
theorem mo_here {tb : Nat → Nat} {n : Nat} {o : Except Err Cur} {pa : Nat} {pd : Int32} {pb : Nat} {pp : Int32} {x : Nat} (h : moO tb n o pa pd pb pp) (hs : (pb = 0 ∧ x = sk tb n pa) ∨ (¬ pb = 0 ∧ x = pa)) : moO tb n o x pd pb pp := by
  rcases hs with ⟨-, rfl⟩ | ⟨-, rfl⟩
  · exact mo_look h
  · exact h
theorem mo_cu {tb : Nat → Nat} {n : Nat} {o : Except Err Cur} {pa : Nat} {pd : Int32} {pb : Nat} {pp : Int32} {c : Cur} (h : moO tb n o pa pd pb pp) (e : o = .ok c) : pb = 0 ∧ c = cuO tb n pa pd := by
  subst e
  exact ⟨h.1, h.2.2.2.1⟩
theorem mo_swap {tb : Nat → Nat} {n : Nat} {o : Except Err Cur} {pa : Nat} {pd : Int32} {pb : Nat} {pp : Int32} {F G : Cur → Except Err Cur} {pa2 : Nat} {pd2 : Int32} {pb2 : Nat} {pp2 : Int32} (h : moO tb n o pa pd pb pp) (e : pb = 0 → F (cuO tb n pa pd) = G (cuO tb n pa pd)) (h2 : moO tb n (bindR o F) pa2 pd2 pb2 pp2) : moO tb n (bindR o G) pa2 pd2 pb2 pp2 := by
  cases o with
  | error e => exact h2
  | ok c =>
    have hc := mo_cu h rfl
    have e2 : bindR (.ok c) F = bindR (.ok c) G := by
      show F c = G c
      rw [hc.2]; exact e hc.1
    rw [← e2]; exact h2
theorem ext_gt {q : Nat → Bool} {tb : Nat → Nat} {n a : Nat} (h : a < n) (hq : q (tb a) = true) : a + 1 ≤ ext q tb n a := by
  rw [← ext_go h hq]; exact ext_ge q tb n (a + 1)
theorem vd_s {tb : Nat → Nat} {b z v : Nat} (hb : b ≤ z) (h : v = vd tb b (z - b)) (h1 : 48 ≤ tb z) : 10 * v + tb z - 48 = vd tb b (z + 1 - b) := by
  rw [show z + 1 - b = (z - b) + 1 by omega, vd, show b + (z - b) = z by omega, ← h]
  omega
def wlist (qt : Nat → Nat) (b : Nat) : Nat → List Nat
  | 0 => []
  | k + 1 => qt (b + k) :: wlist qt b k
theorem wlist_cg {f g : Nat → Nat} {b : Nat} : ∀ k, (∀ j, j < k → f (b + j) = g (b + j)) → wlist f b k = wlist g b k
  | 0, _ => rfl
  | k + 1, h => by rw [wlist, wlist, h k (by omega), wlist_cg k (fun j hj => h j (by omega))]
theorem wlist_push {qt : Nat → Nat} {b w v : Nat} (h : b ≤ w) : wlist (updN qt w v) b (w + 1 - b) = v :: wlist qt b (w - b) := by
  rw [show w + 1 - b = (w - b) + 1 by omega, wlist, show b + (w - b) = w by omega, updN_at, wlist_cg (g := qt) (w - b) (fun j hj => updN_ne qt (by omega))]
theorem wlist_pop {qt : Nat → Nat} {b w : Nat} (h : b + 1 ≤ w) : wlist qt b (w - b) = qt (w - 1) :: wlist qt b (w - 1 - b) := by
  rw [show w - b = (w - 1 - b) + 1 by omega, wlist, show b + (w - 1 - b) = w - 1 by omega]
theorem wlist_set {qt : Nat → Nat} {b w v : Nat} (h : b + 1 ≤ w) : wlist (updN qt (w - 1) v) b (w - b) = v :: wlist qt b (w - 1 - b) := by
  rw [wlist_pop h, updN_at, wlist_cg (g := qt) (w - 1 - b) (fun j hj => updN_ne qt (by omega))]
theorem wlist_0 {qt : Nat → Nat} {b w : Nat} (h : w ≤ b) : wlist qt b (w - b) = [] := by
  rw [show w - b = 0 by omega]; rfl
def ops : List Nat → Nat
  | [] => 0
  | o :: L => (if 20 ≤ o then 1 else 0) + ops L
def hdL (L : List Nat) : Nat := L.headD 0
def shp : List Nat → Prop
  | [] => True
  | o :: L => shp L ∧ ((o = 60 ∨ (20 ≤ o ∧ o ≤ 24)) ∨ ((o = 3 ∨ o = 4) ∧ ¬ hdL L = 60 ∧ ¬ hdL L = 3 ∧ ¬ hdL L = 4) ∨ ((o = 1 ∨ o = 2) ∧ ¬ hdL L = 60 ∧ ¬ hdL L = 3 ∧ ¬ hdL L = 4 ∧ ¬ hdL L = 1 ∧ ¬ hdL L = 2))
def ccO (qs : Nat → Nat) (m0 qn : Nat) (k : List Nat) : Prop := qn = m0 + k.length ∧ ∀ j, j < k.length → qs (m0 + j) = k.getD j 0
theorem cc_push {qs : Nat → Nat} {m0 qn v : Nat} {k : List Nat} (h : ccO qs m0 qn k) : ccO (updN qs qn v) m0 (qn + 1) (k ++ [v]) := by
  refine ⟨by rw [List.length_append, List.length_singleton, h.1]; omega, fun j hj => ?_⟩
  rw [List.length_append, List.length_singleton] at hj
  by_cases e : j = k.length
  · subst e
    rw [← h.1, updN_at, List.getD_eq_getElem?_getD, List.getElem?_append_right (by omega), Nat.sub_self]; rfl
  · rw [updN_ne qs (by rw [h.1]; omega), List.getD_eq_getElem?_getD, List.getElem?_append_left (by omega), ← List.getD_eq_getElem?_getD]
    exact h.2 j (by omega)
theorem cc_0 (qs : Nat → Nat) (m0 : Nat) : ccO qs m0 m0 [] := ⟨rfl, fun j hj => absurd hj (Nat.not_lt_zero j)⟩
def YY (X : List Nat → Nat → Cur → List Nat → Res) (d0 m0 b : Nat) (T : Res) (c : Cur) (qs : Nat → Nat) (qn : Nat) (qt : Nat → Nat) (w : Nat) (qo : Int32) : Prop := ∃ k dd, dd + ops (wlist qt b (w - b)) = d0 ∧ d0 ≤ 6 ∧ qo = nI (6 - dd) ∧ ccO qs m0 qn k ∧ shp (wlist qt b (w - b)) ∧ b ≤ w ∧ X (wlist qt b (w - b)) dd c k = T
def yO (X : List Nat → Nat → Cur → List Nat → Res) (d0 m0 b : Nat) (T : Res) (o : Except Err Cur) (qs : Nat → Nat) (qn : Nat) (qt : Nat → Nat) (w : Nat) (qo : Int32) : Prop := match o with
  | .error e => T = .error e
  | .ok c => YY X d0 m0 b T c qs qn qt w qo
abbrev Xp (tb : Nat → Nat) (n kind : Nat) : List Nat → Nat → Cur → List Nat → Res := fun L dd c k => prt tb n kind L dd c k
abbrev Xa (tb : Nat → Nat) (n kind ph : Nat) : List Nat → Nat → Cur → List Nat → Res := fun L dd c k => aft tb n kind L ph dd c k
theorem nI_sub1 {dd : Nat} (h : dd + 1 ≤ 6) : nI (6 - dd) - 1 = nI (6 - (dd + 1)) := by
  rw [npred _ (by omega)]; congr 1
theorem nI_add1 {dd : Nat} (h : 1 ≤ dd) (h6 : dd ≤ 6) : nI (6 - dd) + 1 = nI (6 - (dd - 1)) := by
  rw [show (1 : Int32) = nI 1 from rfl, nI_add]; congr 1; omega
theorem qo_6 {dd : Nat} (h : dd ≤ 6) : nI (6 - dd) = 6 ↔ dd = 0 := by
  rw [show (6 : Int32) = nI 6 from rfl, nI_eq (by omega) (by omega)]; omega
theorem y_full {tb : Nat → Nat} {n kind d0 m0 b : Nat} {T : Res} {c : Cur} {qs : Nat → Nat} {qn : Nat} {qt : Nat → Nat} {w : Nat} {qo : Int32} {e : Err} (h : YY (Xp tb n kind) d0 m0 b T c qs qn qt w qo) (hq : qo = 6) (he : ∀ L k, prt tb n kind L 0 c k = .error e) : T = .error e := by
  obtain ⟨k, dd, h1, h2, h3, h4, h5, h6, h7⟩ := h
  have h0 := (qo_6 (by omega)).mp (h3.symm.trans hq)
  subst h0
  rw [← h7]; exact he _ _
theorem y_open {tb : Nat → Nat} {n kind d0 m0 b : Nat} {T : Res} {c c2 : Cur} {qs : Nat → Nat} {qn : Nat} {qt : Nat → Nat} {w v : Nat} {qo : Int32} (h : YY (Xp tb n kind) d0 m0 b T c qs qn qt w qo) (hq : ¬ qo = 6) (hv : v = 60 ∨ v = 20 ∨ v = 21 ∨ v = 22) (he : ∀ L d k, prt tb n kind L (d + 1) c k = prt tb n kind (v :: L) d c2 k) : YY (Xp tb n kind) d0 m0 b T c2 qs qn (updN qt w v) (w + 1) (qo + 1) := by
  obtain ⟨k, dd, h1, h2, h3, h4, h5, h6, h7⟩ := h
  have h0 : 1 ≤ dd := by
    rcases Nat.eq_zero_or_pos dd with q | q
    · exact absurd (h3.trans ((qo_6 (by omega)).mpr q)) hq
    · exact q
  have hw := wlist_push (qt := qt) (v := v) h6
  refine ⟨k, dd - 1, ?_, h2, by rw [h3]; exact nI_add1 h0 (by omega), h4, ?_, by omega, ?_⟩
  · rw [hw, ops, if_pos (by omega)]; omega
  · rw [hw]; exact ⟨h5, Or.inl (by omega)⟩
  · rw [hw]
    show prt tb n kind (v :: wlist qt b (w - b)) (dd - 1) c2 k = T
    rw [← he, show dd - 1 + 1 = dd by omega]; exact h7
theorem y_name {tb : Nat → Nat} {n kind d0 m0 b v : Nat} {T : Res} {c c2 : Cur} {qs : Nat → Nat} {qn : Nat} {qt : Nat → Nat} {w : Nat} {qo : Int32} (h : YY (Xp tb n kind) d0 m0 b T c qs qn qt w qo) (he : ∀ L d k, prt tb n kind L d c k = aft tb n kind L 0 d c2 (k ++ [v])) : YY (Xa tb n kind 0) d0 m0 b T c2 (updN qs qn v) (qn + 1) qt w qo := by
  obtain ⟨k, dd, h1, h2, h3, h4, h5, h6, h7⟩ := h
  exact ⟨k ++ [v], dd, h1, h2, h3, cc_push h4, h5, h6, by rw [← h7]; exact (he _ _ _).symm⟩
theorem y_err {X : List Nat → Nat → Cur → List Nat → Res} {d0 m0 b : Nat} {T : Res} {c : Cur} {qs : Nat → Nat} {qn : Nat} {qt : Nat → Nat} {w : Nat} {qo : Int32} {e : Err} (h : YY X d0 m0 b T c qs qn qt w qo) (he : ∀ L d k, shp L → X L d c k = .error e) : T = .error e := by
  obtain ⟨k, dd, h1, h2, h3, h4, h5, h6, h7⟩ := h
  rw [← h7]; exact he _ _ _ h5
theorem y_drop {tb : Nat → Nat} {n kind d0 m0 b ph ph2 : Nat} {T : Res} {c : Cur} {qs : Nat → Nat} {qn : Nat} {qt : Nat → Nat} {w : Nat} {qo : Int32} (h : YY (Xa tb n kind ph) d0 m0 b T c qs qn qt w qo) (hw : b + 1 ≤ w) (hv : qt (w - 1) < 20) (he : ∀ L d k, shp (qt (w - 1) :: L) → aft tb n kind (qt (w - 1) :: L) ph d c k = aft tb n kind L ph2 d c (k ++ [qt (w - 1)])) : YY (Xa tb n kind ph2) d0 m0 b T c (updN qs qn (qt (w - 1))) (qn + 1) qt (w - 1) qo := by
  obtain ⟨k, dd, h1, h2, h3, h4, h5, h6, h7⟩ := h
  rw [wlist_pop hw] at h1 h5 h7
  rw [ops, if_neg (by omega)] at h1
  refine ⟨k ++ [qt (w - 1)], dd, by omega, h2, h3, cc_push h4, h5.1, by omega, ?_⟩
  rw [← h7]; exact (he _ _ _ h5).symm
theorem y_weeks {tb : Nat → Nat} {n kind d0 m0 b : Nat} {T : Res} {c : Cur} {qs : Nat → Nat} {qn : Nat} {qt : Nat → Nat} {w : Nat} {qo : Int32} (h : YY (Xa tb n kind 0) d0 m0 b T c qs qn qt w qo) (hw : b + 1 ≤ w) (hv : 60 ≤ qt (w - 1)) : YY (Xa tb n kind 0) d0 m0 b T c (updN qs qn (qt (w - 1))) (qn + 1) qt (w - 1) (qo - 1) := by
  obtain ⟨k, dd, h1, h2, h3, h4, h5, h6, h7⟩ := h
  rw [wlist_pop hw] at h1 h5 h7
  rw [ops, if_pos (by omega)] at h1
  have e : qt (w - 1) = 60 := by
    have := h5.2
    omega
  rw [e] at h7 ⊢
  refine ⟨k ++ [60], dd + 1, by omega, h2, by rw [h3]; exact nI_sub1 (by omega), cc_push h4, h5.1, by omega, ?_⟩
  rw [← h7]
  show aft tb n kind _ 0 (dd + 1) c (k ++ [60]) = aft tb n kind (60 :: _) 0 dd c k
  rw [aft_w]
def topO (qt : Nat → Nat) (b w : Nat) : Nat := if b < w then qt (w - 1) else 0
theorem hd_top {qt : Nat → Nat} {b w : Nat} : hdL (wlist qt b (w - b)) = topO qt b w := by
  unfold topO
  by_cases h : b < w
  · rw [if_pos h, wlist_pop (by omega)]; rfl
  · rw [if_neg h, wlist_0 (by omega)]; rfl
theorem hd_some {L : List Nat} {o : Nat} (h : L.head? = some o) : hdL L = o := by
  cases L with
  | nil => cases h
  | cons a L => cases h; rfl
theorem y_01 {tb : Nat → Nat} {n kind d0 m0 b : Nat} {T : Res} {c : Cur} {qs : Nat → Nat} {qn : Nat} {qt : Nat → Nat} {w : Nat} {qo : Int32} (h : YY (Xa tb n kind 0) d0 m0 b T c qs qn qt w qo) (h1 : ¬ topO qt b w = 60) (h2 : ¬ topO qt b w = 3) (h3 : ¬ topO qt b w = 4) : YY (Xa tb n kind 1) d0 m0 b T c qs qn qt w qo := by
  obtain ⟨k, dd, g1, g2, g3, g4, g5, g6, g7⟩ := h
  refine ⟨k, dd, g1, g2, g3, g4, g5, g6, ?_⟩
  rw [← g7]
  exact (aft_01 (fun o ho => by rw [← hd_some ho, hd_top]; exact ⟨h1, h2, h3⟩)).symm
theorem y_12 {tb : Nat → Nat} {n kind d0 m0 b : Nat} {T : Res} {c : Cur} {qs : Nat → Nat} {qn : Nat} {qt : Nat → Nat} {w : Nat} {qo : Int32} (h : YY (Xa tb n kind 1) d0 m0 b T c qs qn qt w qo) (h1 : ¬ topO qt b w = 1) (h2 : ¬ topO qt b w = 2) (s1 : ¬ isS tb n 42 c = true) (s2 : ¬ isS tb n 47 c = true) : YY (Xa tb n kind 2) d0 m0 b T c qs qn qt w qo := by
  obtain ⟨k, dd, g1, g2, g3, g4, g5, g6, g7⟩ := h
  refine ⟨k, dd, g1, g2, g3, g4, g5, g6, ?_⟩
  rw [← g7]
  exact (aft_12 (fun o ho => by rw [← hd_some ho, hd_top]; exact ⟨h1, h2⟩) s1 s2).symm
theorem y_d3 {tb : Nat → Nat} {n kind d0 m0 b : Nat} {T : Res} {c : Cur} {qs : Nat → Nat} {qn : Nat} {qt : Nat → Nat} {w : Nat} {qo : Int32} (h : YY (Xa tb n kind 0) d0 m0 b T c qs qn qt w qo) (hw : b + 1 ≤ w) (hv : qt (w - 1) = 3 ∨ qt (w - 1) = 4) : YY (Xa tb n kind 1) d0 m0 b T c (updN qs qn (qt (w - 1))) (qn + 1) qt (w - 1) qo :=
  y_drop h hw (by omega) (fun L d k _ => aft_m hv)
theorem y_d1 {tb : Nat → Nat} {n kind d0 m0 b : Nat} {T : Res} {c : Cur} {qs : Nat → Nat} {qn : Nat} {qt : Nat → Nat} {w : Nat} {qo : Int32} (h : YY (Xa tb n kind 1) d0 m0 b T c qs qn qt w qo) (hw : b + 1 ≤ w) (hv : qt (w - 1) = 1 ∨ qt (w - 1) = 2) (s1 : ¬ isS tb n 42 c = true) (s2 : ¬ isS tb n 47 c = true) : YY (Xa tb n kind 2) d0 m0 b T c (updN qs qn (qt (w - 1))) (qn + 1) qt (w - 1) qo :=
  y_drop h hw (by omega) (fun L d k _ => aft_a hv s1 s2)
theorem y_shp {X : List Nat → Nat → Cur → List Nat → Res} {d0 m0 b : Nat} {T : Res} {c : Cur} {qs : Nat → Nat} {qn : Nat} {qt : Nat → Nat} {w : Nat} {qo : Int32} (h : YY X d0 m0 b T c qs qn qt w qo) (hw : b + 1 ≤ w) : ((qt (w - 1) = 60 ∨ (20 ≤ qt (w - 1) ∧ qt (w - 1) ≤ 24)) ∨ ((qt (w - 1) = 3 ∨ qt (w - 1) = 4) ∧ ¬ topO qt b (w - 1) = 60 ∧ ¬ topO qt b (w - 1) = 3 ∧ ¬ topO qt b (w - 1) = 4) ∨ ((qt (w - 1) = 1 ∨ qt (w - 1) = 2) ∧ ¬ topO qt b (w - 1) = 60 ∧ ¬ topO qt b (w - 1) = 3 ∧ ¬ topO qt b (w - 1) = 4 ∧ ¬ topO qt b (w - 1) = 1 ∧ ¬ topO qt b (w - 1) = 2)) := by
  obtain ⟨k, dd, g1, g2, g3, g4, g5, g6, g7⟩ := h
  rw [wlist_pop hw] at g5
  have := g5.2
  rw [hd_top] at this
  exact this
def phO (ph t : Nat) : Prop := (ph = 0 ∧ ¬ t = 60) ∨ (ph = 1 ∧ ¬ t = 60 ∧ ¬ t = 3 ∧ ¬ t = 4) ∨ (ph = 2 ∧ ¬ t = 60 ∧ ¬ t = 3 ∧ ¬ t = 4 ∧ ¬ t = 1 ∧ ¬ t = 2)
def YD (tb : Nat → Nat) (n kind d0 m0 b : Nat) (T : Res) (c : Cur) (qs : Nat → Nat) (qn : Nat) (qt : Nat → Nat) (w : Nat) (qo : Int32) : Prop := ∃ ph, phO ph (topO qt b w) ∧ YY (Xa tb n kind ph) d0 m0 b T c qs qn qt w qo
theorem yd_drop {tb : Nat → Nat} {n kind d0 m0 b : Nat} {T : Res} {c : Cur} {qs qs2 : Nat → Nat} {qn : Nat} {qt : Nat → Nat} {w : Nat} {qo : Int32} (h : YD tb n kind d0 m0 b T c qs qn qt w qo) (hw : b + 1 ≤ w) (hb : ¬ (20 ≤ qt (w - 1) ∧ qt (w - 1) ≤ 24)) (s1 : ¬ isS tb n 42 c = true) (s2 : ¬ isS tb n 47 c = true) (e : qs2 = updN qs qn (qt (w - 1))) : YD tb n kind d0 m0 b T c qs2 (qn + 1) qt (w - 1) qo := by
  subst e
  obtain ⟨ph, hp, h⟩ := h
  have ht : topO qt b w = qt (w - 1) := by unfold topO; rw [if_pos (by omega)]
  rw [ht] at hp
  have hs := y_shp h hw
  unfold phO at hp
  by_cases c3 : qt (w - 1) = 3 ∨ qt (w - 1) = 4
  · obtain rfl : ph = 0 := by omega
    exact ⟨1, by unfold phO; omega, y_d3 h hw c3⟩
  · have h1 : YY (Xa tb n kind 1) d0 m0 b T c qs qn qt w qo := by
      rcases hp with ⟨rfl, q⟩ | ⟨rfl, q⟩ | ⟨rfl, q⟩
      · exact y_01 h (by rw [ht]; omega) (by rw [ht]; omega) (by rw [ht]; omega)
      · exact h
      · exfalso; omega
    exact ⟨2, by unfold phO; omega, y_d1 h1 hw (by omega) s1 s2⟩
theorem yd_2 {tb : Nat → Nat} {n kind d0 m0 b : Nat} {T : Res} {c : Cur} {qs : Nat → Nat} {qn : Nat} {qt : Nat → Nat} {w : Nat} {qo : Int32} (h : YD tb n kind d0 m0 b T c qs qn qt w qo) (ht : ¬ topO qt b w = 1 ∧ ¬ topO qt b w = 2 ∧ ¬ topO qt b w = 3 ∧ ¬ topO qt b w = 4) (s1 : ¬ isS tb n 42 c = true) (s2 : ¬ isS tb n 47 c = true) : YY (Xa tb n kind 2) d0 m0 b T c qs qn qt w qo := by
  obtain ⟨ph, hp, h⟩ := h
  unfold phO at hp
  have h1 : YY (Xa tb n kind 1) d0 m0 b T c qs qn qt w qo ∨ YY (Xa tb n kind 2) d0 m0 b T c qs qn qt w qo := by
    rcases hp with ⟨rfl, q⟩ | ⟨rfl, q⟩ | ⟨rfl, q⟩
    · exact Or.inl (y_01 h (by omega) (by omega) (by omega))
    · exact Or.inl h
    · exact Or.inr h
  rcases h1 with h1 | h1
  · exact y_12 h1 (by omega) (by omega) s1 s2
  · exact h1
theorem yd_0 {tb : Nat → Nat} {n kind d0 m0 b : Nat} {T : Res} {c : Cur} {qs : Nat → Nat} {qn : Nat} {qt : Nat → Nat} {w : Nat} {qo : Int32} (h : YY (Xa tb n kind 0) d0 m0 b T c qs qn qt w qo) (ht : ¬ topO qt b w = 60) : YD tb n kind d0 m0 b T c qs qn qt w qo := ⟨0, Or.inl ⟨rfl, ht⟩, h⟩
theorem y_close {tb : Nat → Nat} {n kind d0 m0 b : Nat} {T : Res} {c : Cur} {qs : Nat → Nat} {qn : Nat} {qt : Nat → Nat} {w : Nat} {qo : Int32} (h : YY (Xa tb n kind 2) d0 m0 b T c qs qn qt w qo) (hw : b + 1 ≤ w) (hv : qt (w - 1) = 20) (hs : isS tb n 41 c = true) : YY (Xa tb n kind 0) d0 m0 b T (nx tb n c.1) qs qn qt (w - 1) (qo - 1) := by
  obtain ⟨k, dd, h1, h2, h3, h4, h5, h6, h7⟩ := h
  rw [wlist_pop hw, hv] at h1 h5 h7
  rw [ops, if_pos (by omega)] at h1
  refine ⟨k, dd + 1, by omega, h2, by rw [h3]; exact nI_sub1 (by omega), h4, h5.1, by omega, ?_⟩
  rw [← h7]; exact (aft_round hs).symm
theorem y_closem {tb : Nat → Nat} {n kind d0 m0 b v : Nat} {T : Res} {c : Cur} {qs : Nat → Nat} {qn : Nat} {qt : Nat → Nat} {w : Nat} {qo : Int32} (h : YY (Xa tb n kind 2) d0 m0 b T c qs qn qt w qo) (hw : b + 1 ≤ w) (hv : qt (w - 1) = 23 ∨ qt (w - 1) = 24) (hv2 : v + 18 = qt (w - 1)) (hs : isS tb n 41 c = true) : YY (Xa tb n kind 0) d0 m0 b T (nx tb n c.1) (updN qs qn v) (qn + 1) qt (w - 1) (qo - 1) := by
  obtain ⟨k, dd, h1, h2, h3, h4, h5, h6, h7⟩ := h
  rw [wlist_pop hw] at h1 h5 h7
  rw [ops, if_pos (by omega)] at h1
  refine ⟨k ++ [v], dd + 1, by omega, h2, by rw [h3]; exact nI_sub1 (by omega), cc_push h4, h5.1, by omega, ?_⟩
  rw [← h7]
  have e := aft_pair (tb := tb) (n := n) (kind := kind) (dd := dd) (L := wlist qt b (w - 1 - b)) (k := k) hv hs
  rw [show qt (w - 1) - 18 = v by omega] at e
  exact e.symm
theorem y_sign {tb : Nat → Nat} {n kind d0 m0 b v ch ph : Nat} {T : Res} {c : Cur} {qs : Nat → Nat} {qn : Nat} {qt : Nat → Nat} {w : Nat} {qo : Int32} (h : YY (Xa tb n kind ph) d0 m0 b T c qs qn qt w qo) (hp : phO ph (topO qt b w)) (hv : (ph = 1 ∧ ((ch = 42 ∧ v = 3) ∨ (ch = 47 ∧ v = 4))) ∨ (ph = 2 ∧ ((ch = 43 ∧ v = 1) ∨ (ch = 45 ∧ v = 2)))) (hs : isS tb n ch c = true) : YY (Xp tb n kind) d0 m0 b T (nx tb n c.1) qs qn (updN qt w v) (w + 1) qo := by
  obtain ⟨k, dd, h1, h2, h3, h4, h5, h6, h7⟩ := h
  have hw := wlist_push (qt := qt) (v := v) h6
  unfold phO at hp
  refine ⟨k, dd, ?_, h2, h3, h4, ?_, by omega, ?_⟩
  · rw [hw, ops, if_neg (by omega)]; omega
  · rw [hw]
    refine ⟨h5, ?_⟩
    rw [hd_top]
    omega
  · rw [hw, ← h7]
    rcases hv with ⟨rfl, hv⟩ | ⟨rfl, hv⟩
    · exact (aft_times hv hs).symm
    · exact (aft_plus hv hs).symm
theorem y_comma {tb : Nat → Nat} {n kind d0 m0 b v : Nat} {T : Res} {c : Cur} {qs : Nat → Nat} {qn : Nat} {qt : Nat → Nat} {w : Nat} {qo : Int32} (h : YY (Xa tb n kind 2) d0 m0 b T c qs qn qt w qo) (hw : b + 1 ≤ w) (hv : qt (w - 1) = 21 ∨ qt (w - 1) = 22) (hv2 : v = qt (w - 1) + 2) (hs : isS tb n 44 c = true) : YY (Xp tb n kind) d0 m0 b T (nx tb n c.1) qs qn (updN qt (w - 1) v) w qo := by
  obtain ⟨k, dd, h1, h2, h3, h4, h5, h6, h7⟩ := h
  rw [wlist_pop hw] at h1 h5 h7
  rw [ops, if_pos (by omega)] at h1
  have hset := wlist_set (qt := qt) (v := v) hw
  refine ⟨k, dd, ?_, h2, h3, h4, ?_, h6, ?_⟩
  · rw [hset, ops, if_pos (by omega)]; omega
  · rw [hset]; exact ⟨h5.1, Or.inl (by omega)⟩
  · rw [hset, ← h7, hv2]; exact (aft_comma hv hs).symm
theorem y_bad {tb : Nat → Nat} {n kind d0 m0 b : Nat} {T : Res} {c : Cur} {qs : Nat → Nat} {qn : Nat} {qt : Nat → Nat} {w : Nat} {qo : Int32} (h : YY (Xa tb n kind 2) d0 m0 b T c qs qn qt w qo) (hw : b + 1 ≤ w) (hv : 20 ≤ qt (w - 1) ∧ qt (w - 1) ≤ 24) (h1 : ¬ isS tb n 43 c = true) (h2 : ¬ isS tb n 45 c = true) (h3 : qt (w - 1) = 20 ∨ qt (w - 1) = 23 ∨ qt (w - 1) = 24 → ¬ isS tb n 41 c = true) (h4 : qt (w - 1) = 21 ∨ qt (w - 1) = 22 → ¬ isS tb n 44 c = true) : T = .error (1, c.1) := by
  obtain ⟨k, dd, g1, g2, g3, g4, g5, g6, g7⟩ := h
  rw [wlist_pop hw] at g7
  rw [← g7]; exact aft_bad hv h1 h2 h3 h4
theorem y_end {tb : Nat → Nat} {n kind d0 m0 b : Nat} {T : Res} {c : Cur} {qs : Nat → Nat} {qn : Nat} {qt : Nat → Nat} {w : Nat} {qo : Int32} (h : YY (Xa tb n kind 2) d0 m0 b T c qs qn qt w qo) (hw : w ≤ b) (h1 : ¬ isS tb n 43 c = true) (h2 : ¬ isS tb n 45 c = true) : ∃ k, T = .ok (c, k) ∧ ccO qs m0 qn k ∧ qo = nI (6 - d0) := by
  obtain ⟨k, dd, g1, g2, g3, g4, g5, g6, g7⟩ := h
  rw [wlist_0 hw] at g7 g1
  have e : dd = d0 := by
    have : ops [] = 0 := rfl
    omega
  exact ⟨k, by rw [← g7]; exact aft_end h1 h2, g4, by rw [← e]; exact g3⟩
theorem y_start {tb : Nat → Nat} {n kind d0 w : Nat} {c : Cur} {qs : Nat → Nat} {qn : Nat} {qt : Nat → Nat} {qo : Int32} (h6 : d0 ≤ 6) (hq : qo = nI (6 - d0)) : YY (Xp tb n kind) d0 qn w (sumD tb n kind d0 c) c qs qn qt w qo :=
  ⟨[], d0, by rw [wlist_0 (Nat.le_refl w)]; rfl, h6, hq, cc_0 qs qn, by rw [wlist_0 (Nat.le_refl w)]; trivial, Nat.le_refl w, by rw [wlist_0 (Nat.le_refl w)]; exact prt_sum.symm⟩
theorem mo_two {tb : Nat → Nat} {n : Nat} {o : Except Err Cur} {pa : Nat} {pd : Int32} {pb : Nat} {pp : Int32} {a : Nat} {d : Int32} {b2 : Nat} {p2 : Int32} (h : moO tb n o pa pd pb pp) (h2 : moO tb n o a d b2 p2) (hb : pb = 0) (hb2 : b2 = 0) : cuO tb n pa pd = cuO tb n a d := by
  have e := (mo_ok h hb).1.symm.trans (mo_ok h2 hb2).1
  exact Except.ok.inj e
theorem yo_at {tb : Nat → Nat} {n : Nat} {o : Except Err Cur} {pa : Nat} {pd : Int32} {pb : Nat} {pp : Int32} {X : List Nat → Nat → Cur → List Nat → Res} {d0 m0 b : Nat} {T : Res} {qs : Nat → Nat} {qn : Nat} {qt : Nat → Nat} {w : Nat} {qo : Int32} (h : moO tb n o pa pd pb pp) (hb : pb = 0) (hy : yO X d0 m0 b T o qs qn qt w qo) : YY X d0 m0 b T (cuO tb n pa pd) qs qn qt w qo := by
  rw [(mo_ok h hb).1] at hy
  exact hy
theorem yo_e {X : List Nat → Nat → Cur → List Nat → Res} {d0 m0 b : Nat} {T : Res} {o : Except Err Cur} {qs : Nat → Nat} {qn : Nat} {qt : Nat → Nat} {w : Nat} {qo : Int32} (hy : yO X d0 m0 b T o qs qn qt w qo) : ∀ e, o = .error e → T = .error e := by
  intro e he
  subst he
  exact hy
def yA (tb : Nat → Nat) (n kn d0 m0 b : Nat) (T : Res) (o : Except Err Cur) (qs : Nat → Nat) (qn : Nat) (qt : Nat → Nat) (w : Nat) (qo : Int32) : Prop := match o with
  | .error e => T = .error e
  | .ok c => YY (Xa tb n kn 0) d0 m0 b T c qs qn qt w qo ∧ ¬ topO qt b w = 60
theorem ya_of {tb : Nat → Nat} {n kn : Nat} {o : Except Err Cur} {pa : Nat} {pd : Int32} {pb : Nat} {pp : Int32} {d0 m0 b : Nat} {T : Res} {qs : Nat → Nat} {qn : Nat} {qt : Nat → Nat} {w : Nat} {qo : Int32} (h : moO tb n o pa pd pb pp) (he : ∀ e, o = .error e → T = .error e) (hy : pb = 0 → (YY (Xa tb n kn 0) d0 m0 b T (cuO tb n pa pd) qs qn qt w qo ∧ ¬ topO qt b w = 60)) : yA tb n kn d0 m0 b T o qs qn qt w qo := by
  cases o with
  | error e => exact he e rfl
  | ok c =>
    have hc := mo_cu h rfl
    rw [hc.2]
    exact hy hc.1
def notO (tb : Nat → Nat) (n kn : Nat) (c : Cur) : Prop := ¬ isS tb n 40 c = true ∧ ¬ (isW tb n wMin c = true ∨ isW tb n wMax c = true) ∧ ¬ (kn = 2 ∧ isW tb n wWeeks c = true)
theorem y_num {tb : Nat → Nat} {n kn d0 m0 b nv : Nat} {T : Res} {c : Cur} {qs : Nat → Nat} {qn : Nat} {qt : Nat → Nat} {w : Nat} {qo : Int32} (h : YY (Xp tb n kn) d0 m0 b T c qs qn qt w qo) (hn : notO tb n kn c) (hp : partIx tb n kn c = none) (hv : nvO tb n 0 9999 (.ok c) nv) : yO (Xa tb n kn 0) d0 m0 b T (nmF tb n 0 9999 c) (updN qs qn (1000 + nv)) (qn + 1) qt w qo := by
  have key : ∀ L d k, prt tb n kn L d c k = bindR (numP tb n 0 9999 c) (fun r => aft tb n kn L 0 d r.2 (k ++ [1000 + r.1])) := fun L d k => prt_num hn.1 hn.2.1 hn.2.2 hp
  unfold nmF
  cases hq : numP tb n 0 9999 c with
  | error e =>
    exact y_err h (fun L d k _ => by show prt tb n kn L d c k = _; rw [key, hq]; rfl)
  | ok r =>
    have e := hv c r rfl hq
    subst e
    exact y_name h (fun L d k => by rw [key, hq]; rfl)
theorem y_nameK {tb : Nat → Nat} {n kn d0 m0 b j : Nat} {T : Res} {c : Cur} {qs : Nat → Nat} {qn : Nat} {qt : Nat → Nat} {w : Nat} {qo : Int32} (h : YY (Xp tb n kn) d0 m0 b T c qs qn qt w qo) (hn : notO tb n kn c) (hp : partIx tb n kn c = some j) : YY (Xa tb n kn 0) d0 m0 b T (nx tb n c.1) (updN qs qn (40 + j)) (qn + 1) qt w qo :=
  y_name h (fun L d k => prt_name hn.1 hn.2.1 hn.2.2 hp)
set_option maxHeartbeats 4000000 in
set_option maxRecDepth 100000 in
theorem c_em_fail (l : Launch) (D : va_G) (cI cJ cC cZ cS : ClassId) (mm : Nat) (g : Nat → Nat) (ta : Nat) (pa : Nat) (pe : Nat) (pd : Int32) (pb : Nat) (pp : Int32) (pf : Int32) (pg : Int32) (pn : Int32) (rt : Int32) (rn : Int32) (cd : Nat) (sn : Int32) (il : Nat) (tk : Int32) (am : Int32) (at_ : Int32) (aa : Int32) (wt : Int32) (wy : Int64) (rm : Nat) (ud : Nat) (nu : Nat) (sd : Int64) (qn : Nat) (qw : Nat) (qo : Int32) (qb : Nat) (qp : Nat) (qa : Int64) (qi : Nat) (oc : Nat) (w : Nat) (o : Int32) (hpb : pb ≤ 5) (hw : 1 ≤ w) (hw5 : w ≤ 5) : skM l yX12_fail cX12_fail 3 none 0 0 0 0 D (skT cI cJ cC cZ cS) [.ref mm, .int (nI w), .int o] [ro_ mm 12 (mo g (nI ta) (nI pa) (nI pe) pd (nI pb) pp pf pg pn rt rn (nI cd) sn (nI il) tk am at_ aa 0 0 (-1) wt wy 0 (nI rm) (nI ud) (nI nu) sd (nI qn) (nI qw) qo (nI qb) (nI qp) qa (nI qi) (nI oc))] (skV D (skT cI cJ cC cZ cS) (fun (u : va_W) => ∃ (pb2 : Nat), ∃ (pp2 : Int32), pb2 ≤ 5 ∧ ¬ pb2 = 0 ∧ ((pb = 0 ∧ pb2 = w ∧ pp2 = o) ∨ (¬ pb = 0 ∧ pb2 = pb ∧ pp2 = pp)) ∧ u = [ro_ mm 12 (mo g (nI ta) (nI pa) (nI pe) pd (nI pb2) pp2 pf pg pn rt rn (nI cd) sn (nI il) tk am at_ aa 0 0 (-1) wt wy 0 (nI rm) (nI ud) (nI nu) sd (nI qn) (nI qw) qo (nI qb) (nI qp) qa (nI qi) (nI oc))])) := by
  refine skM_of pf_X12_fail (Nat.le_of_ble_eq_true rfl) ?_
  intro p e s m below meth c A ls E hP hD hl
  refine skE_el E (fun hx hb hr hml hlocks hin hown hts hK hA => ?_)
  have hown : s.vm.findClass RX12 = some m.cls := hown
  have hS : va_S A s.heap s.heap [] := va_S.rf
  have hl : lv_has ls 3 [(0, .ref mm), (1, .int (nI w)), (2, .int o)] := hl
  refine lv_aload_n hx hb dX12_fail_0 rfl (lv_at hl 0 rfl) ?_
  refine sk_get (v := .int (nI pb)) (C := RX12) (T := TX12) (N := 92) hx hb hts inlX12 hown hK hP 0 rfl rfl 5 (Nat.le_of_ble_eq_true rfl) w_5_160 rfl dX12_fail_1 ?_
  refine lv_if_eq (tgt := 8) hx hb dX12_fail_4 (by decide) (fun c_1 => ?_) (fun c_1 => ?_)
  · have c_1 : pb = 0 := (neq pb 0 (by omega) (Nat.le_of_ble_eq_true rfl)).mp c_1
    refine lv_aload_n hx hb dX12_fail_8 rfl (lv_at hl 0 rfl) ?_
    refine lv_iload_n hx hb dX12_fail_9 rfl (lv_at hl 1 rfl) ?_
    refine sk_put (ws' := [ro_ mm 12 (mo g (nI ta) (nI pa) (nI pe) pd (nI w) pp pf pg pn rt rn (nI cd) sn (nI il) tk am at_ aa 0 0 (-1) wt wy 0 (nI rm) (nI ud) (nI nu) sd (nI qn) (nI qw) qo (nI qb) (nI qp) qa (nI qi) (nI oc))]) (C := RX12) (T := TX12) (N := 92) (v := .int (nI w)) hx hb hts inlX12 tyX12 tyX12_ok nmX12 hown hK hP hD hS 0 rfl rfl 5 (Nat.le_of_ble_eq_true rfl) w_5_160 rfl rfl rfl (Nat.le_of_ble_eq_true rfl) rfl dX12_fail_10 (fun H locs hP hD hS => ?_)
    refine lv_aload_n hx hb dX12_fail_13 rfl (lv_at hl 0 rfl) ?_
    refine lv_iload_n hx hb dX12_fail_14 rfl (lv_at hl 2 rfl) ?_
    refine sk_put (ws' := [ro_ mm 12 (mo g (nI ta) (nI pa) (nI pe) pd (nI w) o pf pg pn rt rn (nI cd) sn (nI il) tk am at_ aa 0 0 (-1) wt wy 0 (nI rm) (nI ud) (nI nu) sd (nI qn) (nI qw) qo (nI qb) (nI qp) qa (nI qi) (nI oc))]) (C := RX12) (T := TX12) (N := 92) (v := .int o) hx hb hts inlX12 tyX12 tyX12_ok nmX12 hown hK hP hD hS 0 rfl rfl 6 (Nat.le_of_ble_eq_true rfl) w_5_161 rfl rfl rfl (Nat.le_of_ble_eq_true rfl) rfl dX12_fail_15 (fun H locs hP hD hS => ?_)
    exact sk_vret hx hb hr hlocks hK hP hD hS (⟨w, o, hw5, by omega, Or.inl ⟨c_1, rfl, rfl⟩, rfl⟩) (Nat.le_of_ble_eq_true rfl) (Nat.le_of_ble_eq_true rfl) dX12_fail_18
  · have c_1 : ¬ (pb = 0) := fun h => c_1 ((neq pb 0 (by omega) (Nat.le_of_ble_eq_true rfl)).mpr h)
    exact sk_vret hx hb hr hlocks hK hP hD hS (⟨pb, pp, hpb, by omega, Or.inr ⟨c_1, rfl, rfl⟩, rfl⟩) (Nat.le_of_ble_eq_true rfl) (Nat.le_of_ble_eq_true rfl) dX12_fail_7
set_option maxHeartbeats 4000000 in
set_option maxRecDepth 100000 in
theorem c_em_look (l : Launch) (D : va_G) (cI cJ cC cZ cS : ClassId) (mm : Nat) (g : Nat → Nat) (ta : Nat) (pa : Nat) (pe : Nat) (pd : Int32) (pb : Nat) (pp : Int32) (pf : Int32) (pg : Int32) (pn : Int32) (rt : Int32) (rn : Int32) (cd : Nat) (sn : Int32) (il : Nat) (tk : Int32) (am : Int32) (at_ : Int32) (aa : Int32) (wt : Int32) (wy : Int64) (rm : Nat) (ud : Nat) (nu : Nat) (sd : Int64) (qn : Nat) (qw : Nat) (qo : Int32) (qb : Nat) (qp : Nat) (qa : Int64) (qi : Nat) (oc : Nat) (tb : Nat → Nat) (hpa : pa ≤ pe) (hpe : pe ≤ 1600) (htb : ∀ j, tb j ≤ 255) : skM l yX12_look cX12_look 1 (some .int) 0 0 0 0 D (skT cI cJ cC cZ cS) [.ref mm] [ro_ mm 12 (mo g (nI ta) (nI pa) (nI pe) pd (nI pb) pp pf pg pn rt rn (nI cd) sn (nI il) tk am at_ aa 0 0 (-1) wt wy 0 (nI rm) (nI ud) (nI nu) sd (nI qn) (nI qw) qo (nI qb) (nI qp) qa (nI qi) (nI oc)), ra_N (g 0) cI 1600 tb] (skI D (skT cI cJ cC cZ cS) (fun (r : Int32) (u : va_W) => ∃ (pa2 : Nat), pa ≤ pa2 ∧ pa2 ≤ pe ∧ lkOk tb r pa2 pe ∧ stay tb pe pa pa2 ∧ pa2 = sk tb pe pa ∧ u = [ro_ mm 12 (mo g (nI ta) (nI pa2) (nI pe) pd (nI pb) pp pf pg pn rt rn (nI cd) sn (nI il) tk am at_ aa 0 0 (-1) wt wy 0 (nI rm) (nI ud) (nI nu) sd (nI qn) (nI qw) qo (nI qb) (nI qp) qa (nI qi) (nI oc)), ra_N (g 0) cI 1600 tb])) := by
  refine skM_of pf_X12_look (Nat.le_of_ble_eq_true rfl) ?_
  intro p e s m below meth c A ls E hP hD hl
  refine skE_el E (fun hx hb hr hml hlocks hin hown hts hK hA => ?_)
  have hown : s.vm.findClass RX12 = some m.cls := hown
  have hS : va_S A s.heap s.heap [] := va_S.rf
  have hl : lv_has ls 1 [(0, .ref mm)] := hl
  have lp_1 : ∀ (n_2 : Nat) (za : Nat) (H : Heap) (locs : List Loc) (ls : Array Slot), pe - za < n_2 → (pa ≤ za) → (za ≤ pe) → (stay tb pe pa za) → (ext qB tb pe za = ext qB tb pe pa) → va_P D vwCl [ro_ mm 12 (mo g (nI ta) (nI za) (nI pe) pd (nI pb) pp pf pg pn rt rn (nI cd) sn (nI il) tk am at_ aa 0 0 (-1) wt wy 0 (nI rm) (nI ud) (nI nu) sd (nI qn) (nI qw) qo (nI qb) (nI qp) qa (nI qi) (nI oc)), ra_N (g 0) cI 1600 tb] H → va_D A [ro_ mm 12 (mo g (nI ta) (nI za) (nI pe) pd (nI pb) pp pf pg pn rt rn (nI cd) sn (nI il) tk am at_ aa 0 0 (-1) wt wy 0 (nI rm) (nI ud) (nI nu) sd (nI qn) (nI qw) qo (nI qb) (nI qp) qa (nI qi) (nI oc)), ra_N (g 0) cI 1600 tb] → va_S A s.heap H locs → lv_has ls 1 [(0, .ref mm)] → W p l e { frames := 0, cells := 0, slots := 0, locals := 0 } s m ([.ref mm] : List Value).toArray below meth c H locs 0 0 (MQ below (skI D (skT cI cJ cC cZ cS) (fun (r : Int32) (u : va_W) => ∃ (pa2 : Nat), pa ≤ pa2 ∧ pa2 ≤ pe ∧ lkOk tb r pa2 pe ∧ stay tb pe pa pa2 ∧ pa2 = sk tb pe pa ∧ u = [ro_ mm 12 (mo g (nI ta) (nI pa2) (nI pe) pd (nI pb) pp pf pg pn rt rn (nI cd) sn (nI il) tk am at_ aa 0 0 (-1) wt wy 0 (nI rm) (nI ud) (nI nu) sd (nI qn) (nI qw) qo (nI qb) (nI qp) qa (nI qi) (nI oc)), ra_N (g 0) cI 1600 tb]) A) ([.ref mm] : List Value).toArray s 0 0 A) (F0 m 0 ls []) := by
    intro n_2
    induction n_2 with
    | zero => intro za H locs ls hm; exact absurd hm (Nat.not_lt_zero _)
    | succ n_2 ih_lp_1 =>
      intro za H locs ls hm hza hza2 hsty hze hP hD hS hl
      refine lv_aload_n hx hb dX12_look_0 rfl (lv_at hl 0 rfl) ?_
      refine sk_get (v := .int (nI za)) (C := RX12) (T := TX12) (N := 92) hx hb hts inlX12 hown hK hP 0 rfl rfl 2 (Nat.le_of_ble_eq_true rfl) w_5_157 rfl dX12_look_1 ?_
      refine lv_aload_n hx hb dX12_look_4 rfl (lv_at hl 0 rfl) ?_
      refine sk_get (v := .int (nI pe)) (C := RX12) (T := TX12) (N := 92) hx hb hts inlX12 hown hK hP 0 rfl rfl 3 (Nat.le_of_ble_eq_true rfl) w_5_158 rfl dX12_look_5 ?_
      refine lv_icmp_ge (tgt := 52) hx hb dX12_look_8 (by decide) (fun c_3 => ?_) (fun c_3 => ?_)
      · have c_3 : pe ≤ za := (nle pe za (by omega) (by omega)).mp c_3
        refine lv_aload_n hx hb dX12_look_52 rfl (lv_at hl 0 rfl) ?_
        refine sk_get (v := .int (nI za)) (C := RX12) (T := TX12) (N := 92) hx hb hts inlX12 hown hK hP 0 rfl rfl 2 (Nat.le_of_ble_eq_true rfl) w_5_157 rfl dX12_look_53 ?_
        refine lv_aload_n hx hb dX12_look_56 rfl (lv_at hl 0 rfl) ?_
        refine sk_get (v := .int (nI pe)) (C := RX12) (T := TX12) (N := 92) hx hb hts inlX12 hown hK hP 0 rfl rfl 3 (Nat.le_of_ble_eq_true rfl) w_5_158 rfl dX12_look_57 ?_
        refine lv_icmp_ge (tgt := 75) hx hb dX12_look_60 (by decide) (fun c_4 => ?_) (fun c_4 => ?_)
        · have c_4 : pe ≤ za := (nle pe za (by omega) (by omega)).mp c_4
          refine lv_iconst (v := (-1)) hx hb dX12_look_75 (by decide) ?_
          exact sk_iret hx hb hr rfl hlocks hK hP hD hS (⟨za, hza, hza2, (Or.inl ⟨rfl, by omega⟩), hsty, ext_fin hze (by rw [qB_t]; omega), rfl⟩) (Nat.le_of_ble_eq_true rfl) (Nat.le_of_ble_eq_true rfl) dX12_look_76
        · have c_4 : ¬ (pe ≤ za) := fun h => c_4 ((nle pe za (by omega) (by omega)).mpr h)
          refine lv_aload_n hx hb dX12_look_63 rfl (lv_at hl 0 rfl) ?_
          refine sk_get (v := .ref (g 0)) (C := RX12) (T := TX12) (N := 92) hx hb hts inlX12 hown hK hP 0 rfl rfl 0 (Nat.le_of_ble_eq_true rfl) w_5_155 rfl dX12_look_64 ?_
          refine lv_aload_n hx hb dX12_look_67 rfl (lv_at hl 0 rfl) ?_
          refine sk_get (v := .int (nI za)) (C := RX12) (T := TX12) (N := 92) hx hb hts inlX12 hown hK hP 0 rfl rfl 2 (Nat.le_of_ble_eq_true rfl) w_5_157 rfl dX12_look_68 ?_
          refine va_iald hx hb hK.1 hP 1 0 rfl rfl (vin za 1600 (by omega) (Nat.le_of_ble_eq_true rfl)) dX12_look_71 ?_
          refine sk_top (nI (tb za)) (nrd tb za (by omega)) ?_
          have hb_5 := htb za
          refine lv_goto (tgt := 76) hx hb dX12_look_72 (by decide) ?_
          exact sk_iret hx hb hr rfl hlocks hK hP hD hS (⟨za, hza, hza2, (Or.inr ⟨by omega, rfl, by omega, by omega⟩), hsty, ext_fin hze (by rw [qB_t]; omega), rfl⟩) (Nat.le_of_ble_eq_true rfl) (Nat.le_of_ble_eq_true rfl) dX12_look_76
      · have c_3 : ¬ (pe ≤ za) := fun h => c_3 ((nle pe za (by omega) (by omega)).mpr h)
        refine lv_aload_n hx hb dX12_look_11 rfl (lv_at hl 0 rfl) ?_
        refine sk_get (v := .ref (g 0)) (C := RX12) (T := TX12) (N := 92) hx hb hts inlX12 hown hK hP 0 rfl rfl 0 (Nat.le_of_ble_eq_true rfl) w_5_155 rfl dX12_look_12 ?_
        refine lv_aload_n hx hb dX12_look_15 rfl (lv_at hl 0 rfl) ?_
        refine sk_get (v := .int (nI za)) (C := RX12) (T := TX12) (N := 92) hx hb hts inlX12 hown hK hP 0 rfl rfl 2 (Nat.le_of_ble_eq_true rfl) w_5_157 rfl dX12_look_16 ?_
        refine va_iald hx hb hK.1 hP 1 0 rfl rfl (vin za 1600 (by omega) (Nat.le_of_ble_eq_true rfl)) dX12_look_19 ?_
        refine sk_top (nI (tb za)) (nrd tb za (by omega)) ?_
        have hb_6 := htb za
        refine lv_bipush (v := 10) hx hb dX12_look_20 (by decide) ?_
        refine lv_icmp_eq (tgt := 39) hx hb dX12_look_22 (by decide) (fun c_7 => ?_) (fun c_7 => ?_)
        · have c_7 : tb za = 10 := (neq (tb za) 10 (by omega) (Nat.le_of_ble_eq_true rfl)).mp c_7
          refine lv_aload_n hx hb dX12_look_39 rfl (lv_at hl 0 rfl) ?_
          refine lv_dup hx hb dX12_look_40 rfl ?_
          refine sk_get (v := .int (nI za)) (C := RX12) (T := TX12) (N := 92) hx hb hts inlX12 hown hK hP 0 rfl rfl 2 (Nat.le_of_ble_eq_true rfl) w_5_157 rfl dX12_look_41 ?_
          refine lv_iconst (v := 1) hx hb dX12_look_44 ic_1 ?_
          refine lv_iadd hx hb dX12_look_45 ?_
          refine sk_top (nI (za + 1)) (nI_add za 1) ?_
          refine sk_put (ws' := [ro_ mm 12 (mo g (nI ta) (nI (za + 1)) (nI pe) pd (nI pb) pp pf pg pn rt rn (nI cd) sn (nI il) tk am at_ aa 0 0 (-1) wt wy 0 (nI rm) (nI ud) (nI nu) sd (nI qn) (nI qw) qo (nI qb) (nI qp) qa (nI qi) (nI oc)), ra_N (g 0) cI 1600 tb]) (C := RX12) (T := TX12) (N := 92) (v := .int (nI (za + 1))) hx hb hts inlX12 tyX12 tyX12_ok nmX12 hown hK hP hD hS 0 rfl rfl 2 (Nat.le_of_ble_eq_true rfl) w_5_157 rfl rfl rfl (Nat.le_of_ble_eq_true rfl) rfl dX12_look_46 (fun H locs hP hD hS => ?_)
          refine lv_goto (tgt := 0) hx hb dX12_look_49 (by decide) ?_
          exact ih_lp_1 (za + 1) _ _ _ (by omega) (by omega) (by omega) (stay_tr hsty (stay_bl (by omega))) (ext_nxt hze (by omega) (qB_t.mpr (by omega))) hP hD hS (lv_sub hl [0] rfl)
        · have c_7 : ¬ (tb za = 10) := fun h => c_7 ((neq (tb za) 10 (by omega) (Nat.le_of_ble_eq_true rfl)).mpr h)
          refine lv_aload_n hx hb dX12_look_25 rfl (lv_at hl 0 rfl) ?_
          refine sk_get (v := .ref (g 0)) (C := RX12) (T := TX12) (N := 92) hx hb hts inlX12 hown hK hP 0 rfl rfl 0 (Nat.le_of_ble_eq_true rfl) w_5_155 rfl dX12_look_26 ?_
          refine lv_aload_n hx hb dX12_look_29 rfl (lv_at hl 0 rfl) ?_
          refine sk_get (v := .int (nI za)) (C := RX12) (T := TX12) (N := 92) hx hb hts inlX12 hown hK hP 0 rfl rfl 2 (Nat.le_of_ble_eq_true rfl) w_5_157 rfl dX12_look_30 ?_
          refine va_iald hx hb hK.1 hP 1 0 rfl rfl (vin za 1600 (by omega) (Nat.le_of_ble_eq_true rfl)) dX12_look_33 ?_
          refine sk_top (nI (tb za)) (nrd tb za (by omega)) ?_
          have hb_8 := htb za
          refine lv_bipush (v := 32) hx hb dX12_look_34 (by decide) ?_
          refine lv_icmp_ne (tgt := 52) hx hb dX12_look_36 (by decide) (fun c_9 => ?_) (fun c_9 => ?_)
          · have c_9 : ¬ (tb za = 32) := fun h => c_9 ((neq (tb za) 32 (by omega) (Nat.le_of_ble_eq_true rfl)).mpr h)
            refine lv_aload_n hx hb dX12_look_52 rfl (lv_at hl 0 rfl) ?_
            refine sk_get (v := .int (nI za)) (C := RX12) (T := TX12) (N := 92) hx hb hts inlX12 hown hK hP 0 rfl rfl 2 (Nat.le_of_ble_eq_true rfl) w_5_157 rfl dX12_look_53 ?_
            refine lv_aload_n hx hb dX12_look_56 rfl (lv_at hl 0 rfl) ?_
            refine sk_get (v := .int (nI pe)) (C := RX12) (T := TX12) (N := 92) hx hb hts inlX12 hown hK hP 0 rfl rfl 3 (Nat.le_of_ble_eq_true rfl) w_5_158 rfl dX12_look_57 ?_
            refine lv_icmp_ge (tgt := 75) hx hb dX12_look_60 (by decide) (fun c_10 => ?_) (fun c_10 => ?_)
            · have c_10 : pe ≤ za := (nle pe za (by omega) (by omega)).mp c_10
              refine lv_iconst (v := (-1)) hx hb dX12_look_75 (by decide) ?_
              exact sk_iret hx hb hr rfl hlocks hK hP hD hS (⟨za, hza, hza2, (Or.inl ⟨rfl, by omega⟩), hsty, ext_fin hze (by rw [qB_t]; omega), rfl⟩) (Nat.le_of_ble_eq_true rfl) (Nat.le_of_ble_eq_true rfl) dX12_look_76
            · have c_10 : ¬ (pe ≤ za) := fun h => c_10 ((nle pe za (by omega) (by omega)).mpr h)
              refine lv_aload_n hx hb dX12_look_63 rfl (lv_at hl 0 rfl) ?_
              refine sk_get (v := .ref (g 0)) (C := RX12) (T := TX12) (N := 92) hx hb hts inlX12 hown hK hP 0 rfl rfl 0 (Nat.le_of_ble_eq_true rfl) w_5_155 rfl dX12_look_64 ?_
              refine lv_aload_n hx hb dX12_look_67 rfl (lv_at hl 0 rfl) ?_
              refine sk_get (v := .int (nI za)) (C := RX12) (T := TX12) (N := 92) hx hb hts inlX12 hown hK hP 0 rfl rfl 2 (Nat.le_of_ble_eq_true rfl) w_5_157 rfl dX12_look_68 ?_
              refine va_iald hx hb hK.1 hP 1 0 rfl rfl (vin za 1600 (by omega) (Nat.le_of_ble_eq_true rfl)) dX12_look_71 ?_
              refine sk_top (nI (tb za)) (nrd tb za (by omega)) ?_
              have hb_11 := htb za
              refine lv_goto (tgt := 76) hx hb dX12_look_72 (by decide) ?_
              exact sk_iret hx hb hr rfl hlocks hK hP hD hS (⟨za, hza, hza2, (Or.inr ⟨by omega, rfl, by omega, by omega⟩), hsty, ext_fin hze (by rw [qB_t]; omega), rfl⟩) (Nat.le_of_ble_eq_true rfl) (Nat.le_of_ble_eq_true rfl) dX12_look_76
          · have c_9 : tb za = 32 := (neq (tb za) 32 (by omega) (Nat.le_of_ble_eq_true rfl)).mp c_9
            refine lv_aload_n hx hb dX12_look_39 rfl (lv_at hl 0 rfl) ?_
            refine lv_dup hx hb dX12_look_40 rfl ?_
            refine sk_get (v := .int (nI za)) (C := RX12) (T := TX12) (N := 92) hx hb hts inlX12 hown hK hP 0 rfl rfl 2 (Nat.le_of_ble_eq_true rfl) w_5_157 rfl dX12_look_41 ?_
            refine lv_iconst (v := 1) hx hb dX12_look_44 ic_1 ?_
            refine lv_iadd hx hb dX12_look_45 ?_
            refine sk_top (nI (za + 1)) (nI_add za 1) ?_
            refine sk_put (ws' := [ro_ mm 12 (mo g (nI ta) (nI (za + 1)) (nI pe) pd (nI pb) pp pf pg pn rt rn (nI cd) sn (nI il) tk am at_ aa 0 0 (-1) wt wy 0 (nI rm) (nI ud) (nI nu) sd (nI qn) (nI qw) qo (nI qb) (nI qp) qa (nI qi) (nI oc)), ra_N (g 0) cI 1600 tb]) (C := RX12) (T := TX12) (N := 92) (v := .int (nI (za + 1))) hx hb hts inlX12 tyX12 tyX12_ok nmX12 hown hK hP hD hS 0 rfl rfl 2 (Nat.le_of_ble_eq_true rfl) w_5_157 rfl rfl rfl (Nat.le_of_ble_eq_true rfl) rfl dX12_look_46 (fun H locs hP hD hS => ?_)
            refine lv_goto (tgt := 0) hx hb dX12_look_49 (by decide) ?_
            exact ih_lp_1 (za + 1) _ _ _ (by omega) (by omega) (by omega) (stay_tr hsty (stay_bl (by omega))) (ext_nxt hze (by omega) (qB_t.mpr (by omega))) hP hD hS (lv_sub hl [0] rfl)
  exact lp_1 (pe - pa + 1) pa _ _ _ (Nat.lt_succ_self _) (by omega) hpa stay_rf rfl hP hD hS (lv_sub hl [0] rfl)
set_option maxHeartbeats 4000000 in
set_option maxRecDepth 100000 in
theorem c_em_isLetterX (l : Launch) (D : va_G) (cI cJ cC cZ cS : ClassId) (o : Int32)  : skM l yX12_isLetter cX12_isLetter 1 (some .boolean) 0 0 0 0 D (skT cI cJ cC cZ cS) [.int o] [] (skI D (skT cI cJ cC cZ cS) (fun (r : Int32) (u : va_W) => ∃ (b : Nat), ((b = 0 ∧ ¬ ((97 : Int32) ≤ o ∧ o ≤ 122)) ∨ (b = 1 ∧ (97 : Int32) ≤ o ∧ o ≤ 122)) ∧ r = nI b ∧ u = [])) := by
  refine skM_of pf_X12_isLetter (Nat.le_of_ble_eq_true rfl) ?_
  intro p e s m below meth c A ls E hP hD hl
  refine skE_el E (fun hx hb hr hml hlocks hin hown hts hK hA => ?_)
  have hown : s.vm.findClass RX12 = some m.cls := hown
  have hS : va_S A s.heap s.heap [] := va_S.rf
  have hl : lv_has ls 1 [(0, .int o)] := hl
  refine lv_iload_n hx hb dX12_isLetter_0 rfl (lv_at hl 0 rfl) ?_
  refine lv_bipush (v := 97) hx hb dX12_isLetter_1 (by decide) ?_
  refine lv_icmp_lt (tgt := 16) hx hb dX12_isLetter_3 (by decide) (fun c_1 => ?_) (fun c_1 => ?_)
  · skip
    refine lv_iconst (v := 0) hx hb dX12_isLetter_16 ic_0 ?_
    exact sk_iret hx hb hr rfl hlocks hK hP hD hS (⟨0, Or.inl ⟨rfl, fun hq => absurd c_1 (Int32.not_lt.mpr hq.1)⟩, rfl, rfl⟩) (Nat.le_of_ble_eq_true rfl) (Nat.le_of_ble_eq_true rfl) dX12_isLetter_17
  · obtain ⟨k_2, hk_2, h1k_2, rfl⟩ := nofge o 97 (by omega) c_1
    refine lv_iload_n hx hb dX12_isLetter_6 rfl (lv_at hl 0 rfl) ?_
    refine lv_bipush (v := 122) hx hb dX12_isLetter_7 (by decide) ?_
    refine lv_icmp_gt (tgt := 16) hx hb dX12_isLetter_9 (by decide) (fun c_3 => ?_) (fun c_3 => ?_)
    · have c_3 : 122 < k_2 := (nlt 122 k_2 (Nat.le_of_ble_eq_true rfl) (by omega)).mp c_3
      refine lv_iconst (v := 0) hx hb dX12_isLetter_16 ic_0 ?_
      exact sk_iret hx hb hr rfl hlocks hK hP hD hS (⟨0, Or.inl ⟨rfl, fun hq => absurd ((nle k_2 122 (by omega) (Nat.le_of_ble_eq_true rfl)).mp hq.2) (by omega)⟩, rfl, rfl⟩) (Nat.le_of_ble_eq_true rfl) (Nat.le_of_ble_eq_true rfl) dX12_isLetter_17
    · have c_3 : ¬ (122 < k_2) := fun h => c_3 ((nlt 122 k_2 (Nat.le_of_ble_eq_true rfl) (by omega)).mpr h)
      refine lv_iconst (v := 1) hx hb dX12_isLetter_12 ic_1 ?_
      refine lv_goto (tgt := 17) hx hb dX12_isLetter_13 (by decide) ?_
      exact sk_iret hx hb hr rfl hlocks hK hP hD hS (⟨1, Or.inr ⟨rfl, (nle 97 k_2 (Nat.le_of_ble_eq_true rfl) (by omega)).mpr (by omega), (nle k_2 122 (by omega) (Nat.le_of_ble_eq_true rfl)).mpr (by omega)⟩, rfl, rfl⟩) (Nat.le_of_ble_eq_true rfl) (Nat.le_of_ble_eq_true rfl) dX12_isLetter_17
set_option maxHeartbeats 4000000 in
set_option maxRecDepth 100000 in
theorem c_em_isLetterN (l : Launch) (D : va_G) (cI cJ cC cZ cS : ClassId) (o : Nat) (ho : o ≤ 255) : skM l yX12_isLetter cX12_isLetter 1 (some .boolean) 0 0 0 0 D (skT cI cJ cC cZ cS) [.int (nI o)] [] (skI D (skT cI cJ cC cZ cS) (fun (r : Int32) (u : va_W) => ∃ (b : Nat), ((b = 0 ∧ (o < 97 ∨ 122 < o)) ∨ (b = 1 ∧ 97 ≤ o ∧ o ≤ 122)) ∧ r = nI b ∧ u = [])) := by
  refine skM_of pf_X12_isLetter (Nat.le_of_ble_eq_true rfl) ?_
  intro p e s m below meth c A ls E hP hD hl
  refine skE_el E (fun hx hb hr hml hlocks hin hown hts hK hA => ?_)
  have hown : s.vm.findClass RX12 = some m.cls := hown
  have hS : va_S A s.heap s.heap [] := va_S.rf
  have hl : lv_has ls 1 [(0, .int (nI o))] := hl
  refine lv_iload_n hx hb dX12_isLetter_0 rfl (lv_at hl 0 rfl) ?_
  refine lv_bipush (v := 97) hx hb dX12_isLetter_1 (by decide) ?_
  refine lv_icmp_lt (tgt := 16) hx hb dX12_isLetter_3 (by decide) (fun c_1 => ?_) (fun c_1 => ?_)
  · have c_1 : o < 97 := (nlt o 97 (by omega) (Nat.le_of_ble_eq_true rfl)).mp c_1
    refine lv_iconst (v := 0) hx hb dX12_isLetter_16 ic_0 ?_
    exact sk_iret hx hb hr rfl hlocks hK hP hD hS (⟨0, by omega, rfl, rfl⟩) (Nat.le_of_ble_eq_true rfl) (Nat.le_of_ble_eq_true rfl) dX12_isLetter_17
  · have c_1 : ¬ (o < 97) := fun h => c_1 ((nlt o 97 (by omega) (Nat.le_of_ble_eq_true rfl)).mpr h)
    refine lv_iload_n hx hb dX12_isLetter_6 rfl (lv_at hl 0 rfl) ?_
    refine lv_bipush (v := 122) hx hb dX12_isLetter_7 (by decide) ?_
    refine lv_icmp_gt (tgt := 16) hx hb dX12_isLetter_9 (by decide) (fun c_2 => ?_) (fun c_2 => ?_)
    · have c_2 : 122 < o := (nlt 122 o (Nat.le_of_ble_eq_true rfl) (by omega)).mp c_2
      refine lv_iconst (v := 0) hx hb dX12_isLetter_16 ic_0 ?_
      exact sk_iret hx hb hr rfl hlocks hK hP hD hS (⟨0, by omega, rfl, rfl⟩) (Nat.le_of_ble_eq_true rfl) (Nat.le_of_ble_eq_true rfl) dX12_isLetter_17
    · have c_2 : ¬ (122 < o) := fun h => c_2 ((nlt 122 o (Nat.le_of_ble_eq_true rfl) (by omega)).mpr h)
      refine lv_iconst (v := 1) hx hb dX12_isLetter_12 ic_1 ?_
      refine lv_goto (tgt := 17) hx hb dX12_isLetter_13 (by decide) ?_
      exact sk_iret hx hb hr rfl hlocks hK hP hD hS (⟨1, by omega, rfl, rfl⟩) (Nat.le_of_ble_eq_true rfl) (Nat.le_of_ble_eq_true rfl) dX12_isLetter_17
set_option maxHeartbeats 4000000 in
set_option maxRecDepth 100000 in
theorem c_em_isDigitX (l : Launch) (D : va_G) (cI cJ cC cZ cS : ClassId) (o : Int32)  : skM l yX12_isDigit cX12_isDigit 1 (some .boolean) 0 0 0 0 D (skT cI cJ cC cZ cS) [.int o] [] (skI D (skT cI cJ cC cZ cS) (fun (r : Int32) (u : va_W) => ∃ (b : Nat), ((b = 0 ∧ ¬ ((48 : Int32) ≤ o ∧ o ≤ 57)) ∨ (b = 1 ∧ (48 : Int32) ≤ o ∧ o ≤ 57)) ∧ r = nI b ∧ u = [])) := by
  refine skM_of pf_X12_isDigit (Nat.le_of_ble_eq_true rfl) ?_
  intro p e s m below meth c A ls E hP hD hl
  refine skE_el E (fun hx hb hr hml hlocks hin hown hts hK hA => ?_)
  have hown : s.vm.findClass RX12 = some m.cls := hown
  have hS : va_S A s.heap s.heap [] := va_S.rf
  have hl : lv_has ls 1 [(0, .int o)] := hl
  refine lv_iload_n hx hb dX12_isDigit_0 rfl (lv_at hl 0 rfl) ?_
  refine lv_bipush (v := 48) hx hb dX12_isDigit_1 (by decide) ?_
  refine lv_icmp_lt (tgt := 16) hx hb dX12_isDigit_3 (by decide) (fun c_1 => ?_) (fun c_1 => ?_)
  · skip
    refine lv_iconst (v := 0) hx hb dX12_isDigit_16 ic_0 ?_
    exact sk_iret hx hb hr rfl hlocks hK hP hD hS (⟨0, Or.inl ⟨rfl, fun hq => absurd c_1 (Int32.not_lt.mpr hq.1)⟩, rfl, rfl⟩) (Nat.le_of_ble_eq_true rfl) (Nat.le_of_ble_eq_true rfl) dX12_isDigit_17
  · obtain ⟨k_2, hk_2, h1k_2, rfl⟩ := nofge o 48 (by omega) c_1
    refine lv_iload_n hx hb dX12_isDigit_6 rfl (lv_at hl 0 rfl) ?_
    refine lv_bipush (v := 57) hx hb dX12_isDigit_7 (by decide) ?_
    refine lv_icmp_gt (tgt := 16) hx hb dX12_isDigit_9 (by decide) (fun c_3 => ?_) (fun c_3 => ?_)
    · have c_3 : 57 < k_2 := (nlt 57 k_2 (Nat.le_of_ble_eq_true rfl) (by omega)).mp c_3
      refine lv_iconst (v := 0) hx hb dX12_isDigit_16 ic_0 ?_
      exact sk_iret hx hb hr rfl hlocks hK hP hD hS (⟨0, Or.inl ⟨rfl, fun hq => absurd ((nle k_2 57 (by omega) (Nat.le_of_ble_eq_true rfl)).mp hq.2) (by omega)⟩, rfl, rfl⟩) (Nat.le_of_ble_eq_true rfl) (Nat.le_of_ble_eq_true rfl) dX12_isDigit_17
    · have c_3 : ¬ (57 < k_2) := fun h => c_3 ((nlt 57 k_2 (Nat.le_of_ble_eq_true rfl) (by omega)).mpr h)
      refine lv_iconst (v := 1) hx hb dX12_isDigit_12 ic_1 ?_
      refine lv_goto (tgt := 17) hx hb dX12_isDigit_13 (by decide) ?_
      exact sk_iret hx hb hr rfl hlocks hK hP hD hS (⟨1, Or.inr ⟨rfl, (nle 48 k_2 (Nat.le_of_ble_eq_true rfl) (by omega)).mpr (by omega), (nle k_2 57 (by omega) (Nat.le_of_ble_eq_true rfl)).mpr (by omega)⟩, rfl, rfl⟩) (Nat.le_of_ble_eq_true rfl) (Nat.le_of_ble_eq_true rfl) dX12_isDigit_17
set_option maxHeartbeats 4000000 in
set_option maxRecDepth 100000 in
theorem c_em_isDigitN (l : Launch) (D : va_G) (cI cJ cC cZ cS : ClassId) (o : Nat) (ho : o ≤ 255) : skM l yX12_isDigit cX12_isDigit 1 (some .boolean) 0 0 0 0 D (skT cI cJ cC cZ cS) [.int (nI o)] [] (skI D (skT cI cJ cC cZ cS) (fun (r : Int32) (u : va_W) => ∃ (b : Nat), ((b = 0 ∧ (o < 48 ∨ 57 < o)) ∨ (b = 1 ∧ 48 ≤ o ∧ o ≤ 57)) ∧ r = nI b ∧ u = [])) := by
  refine skM_of pf_X12_isDigit (Nat.le_of_ble_eq_true rfl) ?_
  intro p e s m below meth c A ls E hP hD hl
  refine skE_el E (fun hx hb hr hml hlocks hin hown hts hK hA => ?_)
  have hown : s.vm.findClass RX12 = some m.cls := hown
  have hS : va_S A s.heap s.heap [] := va_S.rf
  have hl : lv_has ls 1 [(0, .int (nI o))] := hl
  refine lv_iload_n hx hb dX12_isDigit_0 rfl (lv_at hl 0 rfl) ?_
  refine lv_bipush (v := 48) hx hb dX12_isDigit_1 (by decide) ?_
  refine lv_icmp_lt (tgt := 16) hx hb dX12_isDigit_3 (by decide) (fun c_1 => ?_) (fun c_1 => ?_)
  · have c_1 : o < 48 := (nlt o 48 (by omega) (Nat.le_of_ble_eq_true rfl)).mp c_1
    refine lv_iconst (v := 0) hx hb dX12_isDigit_16 ic_0 ?_
    exact sk_iret hx hb hr rfl hlocks hK hP hD hS (⟨0, by omega, rfl, rfl⟩) (Nat.le_of_ble_eq_true rfl) (Nat.le_of_ble_eq_true rfl) dX12_isDigit_17
  · have c_1 : ¬ (o < 48) := fun h => c_1 ((nlt o 48 (by omega) (Nat.le_of_ble_eq_true rfl)).mpr h)
    refine lv_iload_n hx hb dX12_isDigit_6 rfl (lv_at hl 0 rfl) ?_
    refine lv_bipush (v := 57) hx hb dX12_isDigit_7 (by decide) ?_
    refine lv_icmp_gt (tgt := 16) hx hb dX12_isDigit_9 (by decide) (fun c_2 => ?_) (fun c_2 => ?_)
    · have c_2 : 57 < o := (nlt 57 o (Nat.le_of_ble_eq_true rfl) (by omega)).mp c_2
      refine lv_iconst (v := 0) hx hb dX12_isDigit_16 ic_0 ?_
      exact sk_iret hx hb hr rfl hlocks hK hP hD hS (⟨0, by omega, rfl, rfl⟩) (Nat.le_of_ble_eq_true rfl) (Nat.le_of_ble_eq_true rfl) dX12_isDigit_17
    · have c_2 : ¬ (57 < o) := fun h => c_2 ((nlt 57 o (Nat.le_of_ble_eq_true rfl) (by omega)).mpr h)
      refine lv_iconst (v := 1) hx hb dX12_isDigit_12 ic_1 ?_
      refine lv_goto (tgt := 17) hx hb dX12_isDigit_13 (by decide) ?_
      exact sk_iret hx hb hr rfl hlocks hK hP hD hS (⟨1, by omega, rfl, rfl⟩) (Nat.le_of_ble_eq_true rfl) (Nat.le_of_ble_eq_true rfl) dX12_isDigit_17
theorem al_s {tb : Nat → Nat} {a i : Nat} {w : List Nat} (h : ∀ j, j < i → tb (a + j) = w.getD j 0) (h1 : tb (a + i) = w.getD i 0) : ∀ j, j < i + 1 → tb (a + j) = w.getD j 0 := fun j hj => by
  by_cases e : j = i
  · subst e; exact h1
  · exact h j (by omega)
theorem cw_eq {x i : Nat} {w : List Nat} {v : Int32} (ev : v = cw w (nI i).toNatClampNeg) (hi : i < 2147483648) (hw : ∀ j, w.getD j 0 ≤ 255) (hx : x ≤ 255) : nI x = v ↔ x = w.getD i 0 := by
  rw [ev, nclamp i hi]
  have := hw i
  exact nI_eq (by omega) (by omega)
theorem wb_of {w : List Nat} (h : ∀ x ∈ w, x ≤ 255) : ∀ j, w.getD j 0 ≤ 255 := fun j => by
  rw [List.getD_eq_getElem?_getD]
  by_cases q : j < w.length
  · rw [List.getElem?_eq_getElem q]; exact h _ (List.getElem_mem q)
  · rw [List.getElem?_eq_none (by omega)]; exact Nat.zero_le _
set_option maxHeartbeats 4000000 in
set_option maxRecDepth 100000 in
theorem c_em_isHere (l : Launch) (D : va_G) (cI cJ cC cZ cS : ClassId) (mm : Nat) (g : Nat → Nat) (ta : Nat) (pa : Nat) (pe : Nat) (pd : Int32) (pb : Nat) (pp : Int32) (pf : Int32) (pg : Int32) (pn : Int32) (rt : Int32) (rn : Int32) (cd : Nat) (sn : Int32) (il : Nat) (tk : Int32) (am : Int32) (at_ : Int32) (aa : Int32) (wt : Int32) (wy : Int64) (rm : Nat) (ud : Nat) (nu : Nat) (sd : Int64) (qn : Nat) (qw : Nat) (qo : Int32) (qb : Nat) (qp : Nat) (qa : Int64) (qi : Nat) (oc : Nat) (tb : Nat → Nat) (h1 : Nat) (L : Nat) (wv : List Nat) (hpa : pa ≤ pe) (hpe : pe ≤ 1600) (hpb : pb ≤ 5) (hL : 1 ≤ L) (hL2 : L ≤ 10) (hwl : wv.length = L) (hwb : ∀ j, wv.getD j 0 ≤ 255) (htb : ∀ j, tb j ≤ 255) : skM l yX12_isHere cX12_isHere 4 (some .boolean) 1 20 0 0 D (skT cI cJ cC cZ cS) [.ref mm, .ref h1] [ro_ mm 12 (mo g (nI ta) (nI pa) (nI pe) pd (nI pb) pp pf pg pn rt rn (nI cd) sn (nI il) tk am at_ aa 0 0 (-1) wt wy 0 (nI rm) (nI ud) (nI nu) sd (nI qn) (nI qw) qo (nI qb) (nI qp) qa (nI qi) (nI oc)), ra_N (g 0) cI 1600 tb, ra_I h1 cC L (cw wv)] (skI D (skT cI cJ cC cZ cS) (fun (r : Int32) (u : va_W) => ∃ (b : Nat), ∃ (pa2 : Nat), pa ≤ pa2 ∧ pa2 ≤ pe ∧ stay tb pe pa pa2 ∧ (b = 0 ∨ (b = 1 ∧ pb = 0 ∧ pa2 + L ≤ pe)) ∧ ((pb = 0 ∧ pa2 = sk tb pe pa) ∨ (¬ pb = 0 ∧ pa2 = pa)) ∧ ((b = 0 ∧ (hide (pb = 0 → isW tb pe wv (cuO tb pe pa pd) = false))) ∨ (b = 1 ∧ pb = 0 ∧ isW tb pe wv (cuO tb pe pa pd) = true)) ∧ r = nI b ∧ u = [ro_ mm 12 (mo g (nI ta) (nI pa2) (nI pe) pd (nI pb) pp pf pg pn rt rn (nI cd) sn (nI il) tk am at_ aa 0 0 (-1) wt wy 0 (nI rm) (nI ud) (nI nu) sd (nI qn) (nI qw) qo (nI qb) (nI qp) qa (nI qi) (nI oc)), ra_N (g 0) cI 1600 tb, ra_I h1 cC L (cw wv)])) := by
  refine skM_of pf_X12_isHere (Nat.le_of_ble_eq_true rfl) ?_
  intro p e s m below meth c A ls E hP hD hl
  refine skE_el E (fun hx hb hr hml hlocks hin hown hts hK hA => ?_)
  have hown : s.vm.findClass RX12 = some m.cls := hown
  have hS : va_S A s.heap s.heap [] := va_S.rf
  have hl : lv_has ls 4 [(0, .ref mm), (1, .ref h1)] := hl
  refine lv_aload_n hx hb dX12_isHere_0 rfl (lv_at hl 0 rfl) ?_
  refine sk_get (v := .int (nI pb)) (C := RX12) (T := TX12) (N := 92) hx hb hts inlX12 hown hK hP 0 rfl rfl 5 (Nat.le_of_ble_eq_true rfl) w_5_160 rfl dX12_isHere_1 ?_
  refine lv_if_ne (tgt := 28) hx hb dX12_isHere_4 (by decide) (fun c_1 => ?_) (fun c_1 => ?_)
  · have c_1 : ¬ (pb = 0) := fun h => c_1 ((neq pb 0 (by omega) (Nat.le_of_ble_eq_true rfl)).mpr h)
    refine lv_iconst (v := 0) hx hb dX12_isHere_28 ic_0 ?_
    exact sk_iret hx hb hr rfl hlocks hK hP hD hS (⟨0, pa, by omega, hpa, stay_rf, by omega, (Or.inr ⟨by omega, rfl⟩), (Or.inl ⟨rfl, fun hq => absurd hq c_1⟩), rfl, rfl⟩) (Nat.le_of_ble_eq_true rfl) (Nat.le_of_ble_eq_true rfl) dX12_isHere_29
  · have c_1 : pb = 0 := (neq pb 0 (by omega) (Nat.le_of_ble_eq_true rfl)).mp c_1
    refine lv_aload_n hx hb dX12_isHere_7 rfl (lv_at hl 0 rfl) ?_
    refine sk_Vi (q0 := 0) (n := 0) (rest := []) (wr := fmR om_3_6 _) ⟨hx, hb, hml, hown, hts⟩ hl.1 (c_em_look l D cI cJ cC cZ cS mm g ta pa pe pd pb pp pf pg pn rt rn cd sn il tk am at_ aa wt wy rm ud nu sd qn qw qo qb qp qa qi oc tb hpa hpe htb) w_6_222 w_6_224 w_0_45 w_1_14 w_6_225 hd_X12_look_0 ⟨⟨(Nat.le_of_ble_eq_true rfl), (Nat.le_of_ble_eq_true rfl)⟩, (Nat.le_of_ble_eq_true rfl), (Nat.le_of_ble_eq_true rfl)⟩ hK hP hD hS hA (fmT om_3_6 0) (fmF om_3_6 0) (fm_C1 rfl rfl) (fm_R rfl rfl) (fm_nT om_3_6 0) (fm_nF om_3_6 0) (fm_di om_3_6 0) rfl rfl rfl rfl (Nat.le_of_ble_eq_true rfl) dX12_isHere_8 (fun r_3 u H locs hw hP hD hS => ?_)
    refine exE hw (fun pa2_2 hw1 => anE hw1 (fun hpa2_4 hw2 => anE hw2 (fun hpa3_5 hw3 => anE hw3 (fun hlk_6 hw4 => anE hw4 (fun hst_7 hw5 => anE hw5 (fun hsk_8 eu_9 => ?_))))))
    clear hw hw1 hw2 hw3 hw4 hw5
    refine o_mgE (ws' := [ro_ mm 12 (mo g (nI ta) (nI pa2_2) (nI pe) pd (nI pb) pp pf pg pn rt rn (nI cd) sn (nI il) tk am at_ aa 0 0 (-1) wt wy 0 (nI rm) (nI ud) (nI nu) sd (nI qn) (nI qw) qo (nI qb) (nI qp) qa (nI qi) (nI oc)), ra_N (g 0) cI 1600 tb, ra_I h1 cC L (cw wv)]) eu_9 hP hD rfl (fun hP hD => ?_)
    refine sk_Si (n := 1) (rest := []) (wr := [ro_ mm 12 (mo g (nI ta) (nI pa2_2) (nI pe) pd (nI pb) pp pf pg pn rt rn (nI cd) sn (nI il) tk am at_ aa 0 0 (-1) wt wy 0 (nI rm) (nI ud) (nI nu) sd (nI qn) (nI qw) qo (nI qb) (nI qp) qa (nI qi) (nI oc)), ra_N (g 0) cI 1600 tb, ra_I h1 cC L (cw wv)]) ⟨hx, hb, hml, hown, hts⟩ hl.1 (c_em_isLetterX l D cI cJ cC cZ cS r_3) w_6_226 w_6_227 w_1_14 w_6_228 hd_X12_isLetter_1 ⟨⟨(Nat.le_of_ble_eq_true rfl), (Nat.le_of_ble_eq_true rfl)⟩, (Nat.le_of_ble_eq_true rfl), (Nat.le_of_ble_eq_true rfl)⟩ hK hP hD hS hA [] [0, 1, 2] rfl rfl (by decide +kernel) (by decide +kernel) (by decide +kernel) rfl rfl (Nat.le_of_ble_eq_true rfl) dX12_isHere_11 (fun r_11 u H locs hw hP hD hS => ?_)
    obtain ⟨b_10, hb1_12, rfl, rfl⟩ := hw
    refine o_re (ws' := [ro_ mm 12 (mo g (nI ta) (nI pa2_2) (nI pe) pd (nI pb) pp pf pg pn rt rn (nI cd) sn (nI il) tk am at_ aa 0 0 (-1) wt wy 0 (nI rm) (nI ud) (nI nu) sd (nI qn) (nI qw) qo (nI qb) (nI qp) qa (nI qi) (nI oc)), ra_N (g 0) cI 1600 tb, ra_I h1 cC L (cw wv)]) hP hD rfl (fun hP hD => ?_)
    refine lv_if_eq (tgt := 28) hx hb dX12_isHere_14 (by decide) (fun c_13 => ?_) (fun c_13 => ?_)
    · have c_13 : b_10 = 0 := (neq b_10 0 (by omega) (Nat.le_of_ble_eq_true rfl)).mp c_13
      refine lv_iconst (v := 0) hx hb dX12_isHere_28 ic_0 ?_
      exact sk_iret hx hb hr rfl hlocks hK hP hD hS (⟨0, pa2_2, hpa2_4, hpa3_5, hst_7, by omega, (Or.inl ⟨by omega, hsk_8⟩), (Or.inl ⟨rfl, fun _ => isW_no (fun hq => rr_0 hb1_12 (by omega) ((lk_L htb hlk_6).mpr (by rw [hsk_8]; exact hq)))⟩), rfl, rfl⟩) (Nat.le_of_ble_eq_true rfl) (Nat.le_of_ble_eq_true rfl) dX12_isHere_29
    · have c_13 : ¬ (b_10 = 0) := fun h => c_13 ((neq b_10 0 (by omega) (Nat.le_of_ble_eq_true rfl)).mpr h)
      refine lv_aload_n hx hb dX12_isHere_17 rfl (lv_at hl 0 rfl) ?_
      refine sk_get (v := .int (nI pa2_2)) (C := RX12) (T := TX12) (N := 92) hx hb hts inlX12 hown hK hP 0 rfl rfl 2 (Nat.le_of_ble_eq_true rfl) w_5_157 rfl dX12_isHere_18 ?_
      refine lv_aload_n hx hb dX12_isHere_21 rfl (lv_at hl 0 rfl) ?_
      refine sk_get (v := .int pd) (C := RX12) (T := TX12) (N := 92) hx hb hts inlX12 hown hK hP 0 rfl rfl 4 (Nat.le_of_ble_eq_true rfl) w_5_159 rfl dX12_isHere_22 ?_
      refine lv_icmp_ne (tgt := 30) hx hb dX12_isHere_25 (by decide) (fun c_14 => ?_) (fun c_14 => ?_)
      · have hlq := (lk_L htb hlk_6).mp (rr_1 hb1_12 (by omega))
        have hlt : sk tb pe pa < pe := by rw [← hsk_8]; exact hlq.1
        have hql : qL (tb (sk tb pe pa)) = true := by rw [← hsk_8]; exact hlq.2
        have hnd : ¬ pd = nI (sk tb pe pa) := by rw [← hsk_8]; exact fun hq => c_14 hq.symm
        refine lv_aload_n hx hb dX12_isHere_30 rfl (lv_at hl 0 rfl) ?_
        refine sk_get (v := .int (nI pa2_2)) (C := RX12) (T := TX12) (N := 92) hx hb hts inlX12 hown hK hP 0 rfl rfl 2 (Nat.le_of_ble_eq_true rfl) w_5_157 rfl dX12_isHere_31 ?_
        refine lv_istore_n (lv' := [(2, .int (nI pa2_2)), (0, .ref mm), (1, .ref h1)]) hx hb dX12_isHere_34 rfl hl (by decide) rfl (fun ls hl => ?_)
        have lp_15 : ∀ (n_16 : Nat) (kk : Nat) (H : Heap) (locs : List Loc) (ls : Array Slot), pe - kk < n_16 → (pa2_2 ≤ kk) → (kk ≤ pe) → (ext qL tb pe kk = ext qL tb pe pa2_2) → va_P D vwCl [ro_ mm 12 (mo g (nI ta) (nI pa2_2) (nI pe) pd (nI pb) pp pf pg pn rt rn (nI cd) sn (nI il) tk am at_ aa 0 0 (-1) wt wy 0 (nI rm) (nI ud) (nI nu) sd (nI qn) (nI qw) qo (nI qb) (nI qp) qa (nI qi) (nI oc)), ra_N (g 0) cI 1600 tb, ra_I h1 cC L (cw wv)] H → va_D A [ro_ mm 12 (mo g (nI ta) (nI pa2_2) (nI pe) pd (nI pb) pp pf pg pn rt rn (nI cd) sn (nI il) tk am at_ aa 0 0 (-1) wt wy 0 (nI rm) (nI ud) (nI nu) sd (nI qn) (nI qw) qo (nI qb) (nI qp) qa (nI qi) (nI oc)), ra_N (g 0) cI 1600 tb, ra_I h1 cC L (cw wv)] → va_S A s.heap H locs → lv_has ls 4 [(2, .int (nI kk)), (0, .ref mm), (1, .ref h1)] → W p l e { frames := 1, cells := 0, slots := 0, locals := 20 } s m ([.ref mm, .ref h1] : List Value).toArray below meth c H locs 0 0 (MQ below (skI D (skT cI cJ cC cZ cS) (fun (r : Int32) (u : va_W) => ∃ (b : Nat), ∃ (pa2 : Nat), pa ≤ pa2 ∧ pa2 ≤ pe ∧ stay tb pe pa pa2 ∧ (b = 0 ∨ (b = 1 ∧ pb = 0 ∧ pa2 + L ≤ pe)) ∧ ((pb = 0 ∧ pa2 = sk tb pe pa) ∨ (¬ pb = 0 ∧ pa2 = pa)) ∧ ((b = 0 ∧ (hide (pb = 0 → isW tb pe wv (cuO tb pe pa pd) = false))) ∨ (b = 1 ∧ pb = 0 ∧ isW tb pe wv (cuO tb pe pa pd) = true)) ∧ r = nI b ∧ u = [ro_ mm 12 (mo g (nI ta) (nI pa2) (nI pe) pd (nI pb) pp pf pg pn rt rn (nI cd) sn (nI il) tk am at_ aa 0 0 (-1) wt wy 0 (nI rm) (nI ud) (nI nu) sd (nI qn) (nI qw) qo (nI qb) (nI qp) qa (nI qi) (nI oc)), ra_N (g 0) cI 1600 tb, ra_I h1 cC L (cw wv)]) A) ([.ref mm, .ref h1] : List Value).toArray s 0 0 A) (F0 m 35 ls []) := by
          intro n_16
          induction n_16 with
          | zero => intro kk H locs ls hm; exact absurd hm (Nat.not_lt_zero _)
          | succ n_16 ih_lp_15 =>
            intro kk H locs ls hm hkk1 hkk2 hkx hP hD hS hl
            refine lv_iload_n hx hb dX12_isHere_35 rfl (lv_at hl 0 rfl) ?_
            refine lv_aload_n hx hb dX12_isHere_36 rfl (lv_at hl 1 rfl) ?_
            refine sk_get (v := .int (nI pe)) (C := RX12) (T := TX12) (N := 92) hx hb hts inlX12 hown hK hP 0 rfl rfl 3 (Nat.le_of_ble_eq_true rfl) w_5_158 rfl dX12_isHere_37 ?_
            refine lv_icmp_ge (tgt := 61) hx hb dX12_isHere_40 (by decide) (fun c_17 => ?_) (fun c_17 => ?_)
            · have c_17 : pe ≤ kk := (nle pe kk (by omega) (by omega)).mp c_17
              have hke2 : kk = ext qL tb pe (sk tb pe pa) := by rw [← hsk_8]; exact ext_fin hkx (by rw [qL_t]; omega)
              refine lv_iload_n hx hb dX12_isHere_61 rfl (lv_at hl 0 rfl) ?_
              refine lv_aload_n hx hb dX12_isHere_62 rfl (lv_at hl 1 rfl) ?_
              refine sk_get (v := .int (nI pa2_2)) (C := RX12) (T := TX12) (N := 92) hx hb hts inlX12 hown hK hP 0 rfl rfl 2 (Nat.le_of_ble_eq_true rfl) w_5_157 rfl dX12_isHere_63 ?_
              refine lv_isub hx hb dX12_isHere_66 ?_
              refine sk_top (nI (kk - pa2_2)) (nsub kk pa2_2 (by omega)) ?_
              refine lv_aload_n hx hb dX12_isHere_67 rfl (lv_at hl 2 rfl) ?_
              refine va_alen (v := nI L) hx hb hK.1 hP 2 2 rfl rfl rfl dX12_isHere_68 ?_
              refine lv_icmp_eq (tgt := 74) hx hb dX12_isHere_69 (by decide) (fun c_18 => ?_) (fun c_18 => ?_)
              · have c_18 : kk - pa2_2 = L := (neq (kk - pa2_2) L (by omega) (by omega)).mp c_18
                refine lv_iconst (v := 0) hx hb dX12_isHere_74 ic_0 ?_
                refine lv_istore_n (lv' := [(3, .int 0), (2, .int (nI kk)), (0, .ref mm), (1, .ref h1)]) hx hb dX12_isHere_75 rfl hl (by decide) rfl (fun ls hl => ?_)
                have lp_19 : ∀ (n_20 : Nat) (i : Nat) (H : Heap) (locs : List Loc) (ls : Array Slot), L - i < n_20 → (i ≤ L) → (∀ j, j < i → tb (pa2_2 + j) = wv.getD j 0) → va_P D vwCl [ro_ mm 12 (mo g (nI ta) (nI pa2_2) (nI pe) pd (nI pb) pp pf pg pn rt rn (nI cd) sn (nI il) tk am at_ aa 0 0 (-1) wt wy 0 (nI rm) (nI ud) (nI nu) sd (nI qn) (nI qw) qo (nI qb) (nI qp) qa (nI qi) (nI oc)), ra_N (g 0) cI 1600 tb, ra_I h1 cC L (cw wv)] H → va_D A [ro_ mm 12 (mo g (nI ta) (nI pa2_2) (nI pe) pd (nI pb) pp pf pg pn rt rn (nI cd) sn (nI il) tk am at_ aa 0 0 (-1) wt wy 0 (nI rm) (nI ud) (nI nu) sd (nI qn) (nI qw) qo (nI qb) (nI qp) qa (nI qi) (nI oc)), ra_N (g 0) cI 1600 tb, ra_I h1 cC L (cw wv)] → va_S A s.heap H locs → lv_has ls 4 [(3, .int (nI i)), (2, .int (nI kk)), (0, .ref mm), (1, .ref h1)] → W p l e { frames := 1, cells := 0, slots := 0, locals := 20 } s m ([.ref mm, .ref h1] : List Value).toArray below meth c H locs 0 0 (MQ below (skI D (skT cI cJ cC cZ cS) (fun (r : Int32) (u : va_W) => ∃ (b : Nat), ∃ (pa2 : Nat), pa ≤ pa2 ∧ pa2 ≤ pe ∧ stay tb pe pa pa2 ∧ (b = 0 ∨ (b = 1 ∧ pb = 0 ∧ pa2 + L ≤ pe)) ∧ ((pb = 0 ∧ pa2 = sk tb pe pa) ∨ (¬ pb = 0 ∧ pa2 = pa)) ∧ ((b = 0 ∧ (hide (pb = 0 → isW tb pe wv (cuO tb pe pa pd) = false))) ∨ (b = 1 ∧ pb = 0 ∧ isW tb pe wv (cuO tb pe pa pd) = true)) ∧ r = nI b ∧ u = [ro_ mm 12 (mo g (nI ta) (nI pa2) (nI pe) pd (nI pb) pp pf pg pn rt rn (nI cd) sn (nI il) tk am at_ aa 0 0 (-1) wt wy 0 (nI rm) (nI ud) (nI nu) sd (nI qn) (nI qw) qo (nI qb) (nI qp) qa (nI qi) (nI oc)), ra_N (g 0) cI 1600 tb, ra_I h1 cC L (cw wv)]) A) ([.ref mm, .ref h1] : List Value).toArray s 0 0 A) (F0 m 76 ls []) := by
                  intro n_20
                  induction n_20 with
                  | zero => intro i H locs ls hm; exact absurd hm (Nat.not_lt_zero _)
                  | succ n_20 ih_lp_19 =>
                    intro i H locs ls hm hi hal hP hD hS hl
                    refine lv_iload_n hx hb dX12_isHere_76 rfl (lv_at hl 0 rfl) ?_
                    refine lv_aload_n hx hb dX12_isHere_77 rfl (lv_at hl 3 rfl) ?_
                    refine va_alen (v := nI L) hx hb hK.1 hP 2 2 rfl rfl rfl dX12_isHere_78 ?_
                    refine lv_icmp_ge (tgt := 107) hx hb dX12_isHere_79 (by decide) (fun c_21 => ?_) (fun c_21 => ?_)
                    · have c_21 : L ≤ i := (nle L i (by omega) (by omega)).mp c_21
                      refine lv_iconst (v := 1) hx hb dX12_isHere_107 ic_1 ?_
                      exact sk_iret hx hb hr rfl hlocks hK hP hD hS (⟨1, pa2_2, hpa2_4, hpa3_5, hst_7, by omega, (Or.inl ⟨by omega, hsk_8⟩), (Or.inr ⟨rfl, by omega, isW_yes (c := (cuO tb pe pa pd)) hlt hql (cu_f hnd) hke2 (by show kk - sk tb pe pa = wv.length; rw [← hsk_8]; omega) (fun j hj => by show tb (sk tb pe pa + j) = wv.getD j 0; rw [← hsk_8]; exact hal j (by omega))⟩), rfl, rfl⟩) (Nat.le_of_ble_eq_true rfl) (Nat.le_of_ble_eq_true rfl) dX12_isHere_108
                    · have c_21 : ¬ (L ≤ i) := fun h => c_21 ((nle L i (by omega) (by omega)).mpr h)
                      refine lv_aload_n hx hb dX12_isHere_82 rfl (lv_at hl 2 rfl) ?_
                      refine sk_get (v := .ref (g 0)) (C := RX12) (T := TX12) (N := 92) hx hb hts inlX12 hown hK hP 0 rfl rfl 0 (Nat.le_of_ble_eq_true rfl) w_5_155 rfl dX12_isHere_83 ?_
                      refine lv_aload_n hx hb dX12_isHere_86 rfl (lv_at hl 2 rfl) ?_
                      refine sk_get (v := .int (nI pa2_2)) (C := RX12) (T := TX12) (N := 92) hx hb hts inlX12 hown hK hP 0 rfl rfl 2 (Nat.le_of_ble_eq_true rfl) w_5_157 rfl dX12_isHere_87 ?_
                      refine lv_iload_n hx hb dX12_isHere_90 rfl (lv_at hl 0 rfl) ?_
                      refine lv_iadd hx hb dX12_isHere_91 ?_
                      refine sk_top (nI (pa2_2 + i)) (nI_add pa2_2 i) ?_
                      refine va_iald hx hb hK.1 hP 1 0 rfl rfl (vin (pa2_2 + i) 1600 (by omega) (Nat.le_of_ble_eq_true rfl)) dX12_isHere_92 ?_
                      refine sk_top (nI (tb (pa2_2 + i))) (nrd tb (pa2_2 + i) (by omega)) ?_
                      have hb_22 := htb (pa2_2 + i)
                      refine lv_aload_n hx hb dX12_isHere_93 rfl (lv_at hl 3 rfl) ?_
                      refine lv_iload_n hx hb dX12_isHere_94 rfl (lv_at hl 0 rfl) ?_
                      refine va_cald hx hb hK.1 hP 2 2 rfl rfl (vin i L (by omega) (by omega)) dX12_isHere_95 ?_
                      refine lv_topi (fun v_23 ev_23 => ?_)
                      refine lv_icmp_eq (tgt := 101) hx hb dX12_isHere_96 (by decide) (fun c_24 => ?_) (fun c_24 => ?_)
                      · skip
                        refine lv_iinc (v := nI (i + 1)) (lv' := [(3, .int (nI (i + 1))), (2, .int (nI kk)), (0, .ref mm), (1, .ref h1)]) hx hb dX12_isHere_101 hl (k := 0) rfl (ninc i 1 (by decide)) (by decide) rfl (fun ls hl => ?_)
                        refine lv_goto (tgt := 76) hx hb dX12_isHere_104 (by decide) ?_
                        exact ih_lp_19 (i + 1) _ _ _ (by omega) (by omega) (al_s hal ((cw_eq ev_23 (by omega) hwb (by omega)).mp c_24)) hP hD hS (lv_sub hl [0, 1, 2, 3] rfl)
                      · have hne := fun hq => c_24 ((cw_eq ev_23 (by omega) hwb (by omega)).mpr hq)
                        refine lv_iconst (v := 0) hx hb dX12_isHere_99 ic_0 ?_
                        exact sk_iret hx hb hr rfl hlocks hK hP hD hS (⟨0, pa2_2, hpa2_4, hpa3_5, hst_7, by omega, (Or.inl ⟨by omega, hsk_8⟩), (Or.inl ⟨rfl, fun _ => isW_ne (c := (cuO tb pe pa pd)) (i := i) hke2 (by show kk - sk tb pe pa = wv.length; rw [← hsk_8]; omega) (by omega) (by show ¬ tb (sk tb pe pa + i) = wv.getD i 0; rw [← hsk_8]; exact hne)⟩), rfl, rfl⟩) (Nat.le_of_ble_eq_true rfl) (Nat.le_of_ble_eq_true rfl) dX12_isHere_100
                exact lp_19 (L - 0 + 1) 0 _ _ _ (Nat.lt_succ_self _) (by omega) (fun j hj => absurd hj (by omega)) hP hD hS (lv_sub hl [0, 1, 2, 3] rfl)
              · have c_18 : ¬ (kk - pa2_2 = L) := fun h => c_18 ((neq (kk - pa2_2) L (by omega) (by omega)).mpr h)
                refine lv_iconst (v := 0) hx hb dX12_isHere_72 ic_0 ?_
                exact sk_iret hx hb hr rfl hlocks hK hP hD hS (⟨0, pa2_2, hpa2_4, hpa3_5, hst_7, by omega, (Or.inl ⟨by omega, hsk_8⟩), (Or.inl ⟨rfl, fun _ => isW_len (c := (cuO tb pe pa pd)) hke2 (by show ¬ kk - sk tb pe pa = wv.length; rw [← hsk_8]; omega)⟩), rfl, rfl⟩) (Nat.le_of_ble_eq_true rfl) (Nat.le_of_ble_eq_true rfl) dX12_isHere_73
            · have c_17 : ¬ (pe ≤ kk) := fun h => c_17 ((nle pe kk (by omega) (by omega)).mpr h)
              refine lv_aload_n hx hb dX12_isHere_43 rfl (lv_at hl 1 rfl) ?_
              refine sk_get (v := .ref (g 0)) (C := RX12) (T := TX12) (N := 92) hx hb hts inlX12 hown hK hP 0 rfl rfl 0 (Nat.le_of_ble_eq_true rfl) w_5_155 rfl dX12_isHere_44 ?_
              refine lv_iload_n hx hb dX12_isHere_47 rfl (lv_at hl 0 rfl) ?_
              refine va_iald hx hb hK.1 hP 1 0 rfl rfl (vin kk 1600 (by omega) (Nat.le_of_ble_eq_true rfl)) dX12_isHere_48 ?_
              refine sk_top (nI (tb kk)) (nrd tb kk (by omega)) ?_
              have hb_25 := htb kk
              refine sk_Si (n := 1) (rest := []) (wr := [ro_ mm 12 (mo g (nI ta) (nI pa2_2) (nI pe) pd (nI pb) pp pf pg pn rt rn (nI cd) sn (nI il) tk am at_ aa 0 0 (-1) wt wy 0 (nI rm) (nI ud) (nI nu) sd (nI qn) (nI qw) qo (nI qb) (nI qp) qa (nI qi) (nI oc)), ra_N (g 0) cI 1600 tb, ra_I h1 cC L (cw wv)]) ⟨hx, hb, hml, hown, hts⟩ hl.1 (c_em_isLetterN l D cI cJ cC cZ cS (tb kk) (by omega)) w_6_226 w_6_227 w_1_14 w_6_228 hd_X12_isLetter_1 ⟨⟨(Nat.le_of_ble_eq_true rfl), (Nat.le_of_ble_eq_true rfl)⟩, (Nat.le_of_ble_eq_true rfl), (Nat.le_of_ble_eq_true rfl)⟩ hK hP hD hS hA [] [0, 1, 2] rfl rfl (by decide +kernel) (by decide +kernel) (by decide +kernel) rfl rfl (Nat.le_of_ble_eq_true rfl) dX12_isHere_49 (fun r_27 u H locs hw hP hD hS => ?_)
              obtain ⟨b_26, hb1_28, rfl, rfl⟩ := hw
              refine o_re (ws' := [ro_ mm 12 (mo g (nI ta) (nI pa2_2) (nI pe) pd (nI pb) pp pf pg pn rt rn (nI cd) sn (nI il) tk am at_ aa 0 0 (-1) wt wy 0 (nI rm) (nI ud) (nI nu) sd (nI qn) (nI qw) qo (nI qb) (nI qp) qa (nI qi) (nI oc)), ra_N (g 0) cI 1600 tb, ra_I h1 cC L (cw wv)]) hP hD rfl (fun hP hD => ?_)
              refine lv_if_eq (tgt := 61) hx hb dX12_isHere_52 (by decide) (fun c_29 => ?_) (fun c_29 => ?_)
              · have c_29 : b_26 = 0 := (neq b_26 0 (by omega) (Nat.le_of_ble_eq_true rfl)).mp c_29
                have hke2 : kk = ext qL tb pe (sk tb pe pa) := by rw [← hsk_8]; exact ext_fin hkx (by rw [qL_t]; omega)
                refine lv_iload_n hx hb dX12_isHere_61 rfl (lv_at hl 0 rfl) ?_
                refine lv_aload_n hx hb dX12_isHere_62 rfl (lv_at hl 1 rfl) ?_
                refine sk_get (v := .int (nI pa2_2)) (C := RX12) (T := TX12) (N := 92) hx hb hts inlX12 hown hK hP 0 rfl rfl 2 (Nat.le_of_ble_eq_true rfl) w_5_157 rfl dX12_isHere_63 ?_
                refine lv_isub hx hb dX12_isHere_66 ?_
                refine sk_top (nI (kk - pa2_2)) (nsub kk pa2_2 (by omega)) ?_
                refine lv_aload_n hx hb dX12_isHere_67 rfl (lv_at hl 2 rfl) ?_
                refine va_alen (v := nI L) hx hb hK.1 hP 2 2 rfl rfl rfl dX12_isHere_68 ?_
                refine lv_icmp_eq (tgt := 74) hx hb dX12_isHere_69 (by decide) (fun c_30 => ?_) (fun c_30 => ?_)
                · have c_30 : kk - pa2_2 = L := (neq (kk - pa2_2) L (by omega) (by omega)).mp c_30
                  refine lv_iconst (v := 0) hx hb dX12_isHere_74 ic_0 ?_
                  refine lv_istore_n (lv' := [(3, .int 0), (2, .int (nI kk)), (0, .ref mm), (1, .ref h1)]) hx hb dX12_isHere_75 rfl hl (by decide) rfl (fun ls hl => ?_)
                  have lp_31 : ∀ (n_32 : Nat) (i : Nat) (H : Heap) (locs : List Loc) (ls : Array Slot), L - i < n_32 → (i ≤ L) → (∀ j, j < i → tb (pa2_2 + j) = wv.getD j 0) → va_P D vwCl [ro_ mm 12 (mo g (nI ta) (nI pa2_2) (nI pe) pd (nI pb) pp pf pg pn rt rn (nI cd) sn (nI il) tk am at_ aa 0 0 (-1) wt wy 0 (nI rm) (nI ud) (nI nu) sd (nI qn) (nI qw) qo (nI qb) (nI qp) qa (nI qi) (nI oc)), ra_N (g 0) cI 1600 tb, ra_I h1 cC L (cw wv)] H → va_D A [ro_ mm 12 (mo g (nI ta) (nI pa2_2) (nI pe) pd (nI pb) pp pf pg pn rt rn (nI cd) sn (nI il) tk am at_ aa 0 0 (-1) wt wy 0 (nI rm) (nI ud) (nI nu) sd (nI qn) (nI qw) qo (nI qb) (nI qp) qa (nI qi) (nI oc)), ra_N (g 0) cI 1600 tb, ra_I h1 cC L (cw wv)] → va_S A s.heap H locs → lv_has ls 4 [(3, .int (nI i)), (2, .int (nI kk)), (0, .ref mm), (1, .ref h1)] → W p l e { frames := 1, cells := 0, slots := 0, locals := 20 } s m ([.ref mm, .ref h1] : List Value).toArray below meth c H locs 0 0 (MQ below (skI D (skT cI cJ cC cZ cS) (fun (r : Int32) (u : va_W) => ∃ (b : Nat), ∃ (pa2 : Nat), pa ≤ pa2 ∧ pa2 ≤ pe ∧ stay tb pe pa pa2 ∧ (b = 0 ∨ (b = 1 ∧ pb = 0 ∧ pa2 + L ≤ pe)) ∧ ((pb = 0 ∧ pa2 = sk tb pe pa) ∨ (¬ pb = 0 ∧ pa2 = pa)) ∧ ((b = 0 ∧ (hide (pb = 0 → isW tb pe wv (cuO tb pe pa pd) = false))) ∨ (b = 1 ∧ pb = 0 ∧ isW tb pe wv (cuO tb pe pa pd) = true)) ∧ r = nI b ∧ u = [ro_ mm 12 (mo g (nI ta) (nI pa2) (nI pe) pd (nI pb) pp pf pg pn rt rn (nI cd) sn (nI il) tk am at_ aa 0 0 (-1) wt wy 0 (nI rm) (nI ud) (nI nu) sd (nI qn) (nI qw) qo (nI qb) (nI qp) qa (nI qi) (nI oc)), ra_N (g 0) cI 1600 tb, ra_I h1 cC L (cw wv)]) A) ([.ref mm, .ref h1] : List Value).toArray s 0 0 A) (F0 m 76 ls []) := by
                    intro n_32
                    induction n_32 with
                    | zero => intro i H locs ls hm; exact absurd hm (Nat.not_lt_zero _)
                    | succ n_32 ih_lp_31 =>
                      intro i H locs ls hm hi hal hP hD hS hl
                      refine lv_iload_n hx hb dX12_isHere_76 rfl (lv_at hl 0 rfl) ?_
                      refine lv_aload_n hx hb dX12_isHere_77 rfl (lv_at hl 3 rfl) ?_
                      refine va_alen (v := nI L) hx hb hK.1 hP 2 2 rfl rfl rfl dX12_isHere_78 ?_
                      refine lv_icmp_ge (tgt := 107) hx hb dX12_isHere_79 (by decide) (fun c_33 => ?_) (fun c_33 => ?_)
                      · have c_33 : L ≤ i := (nle L i (by omega) (by omega)).mp c_33
                        refine lv_iconst (v := 1) hx hb dX12_isHere_107 ic_1 ?_
                        exact sk_iret hx hb hr rfl hlocks hK hP hD hS (⟨1, pa2_2, hpa2_4, hpa3_5, hst_7, by omega, (Or.inl ⟨by omega, hsk_8⟩), (Or.inr ⟨rfl, by omega, isW_yes (c := (cuO tb pe pa pd)) hlt hql (cu_f hnd) hke2 (by show kk - sk tb pe pa = wv.length; rw [← hsk_8]; omega) (fun j hj => by show tb (sk tb pe pa + j) = wv.getD j 0; rw [← hsk_8]; exact hal j (by omega))⟩), rfl, rfl⟩) (Nat.le_of_ble_eq_true rfl) (Nat.le_of_ble_eq_true rfl) dX12_isHere_108
                      · have c_33 : ¬ (L ≤ i) := fun h => c_33 ((nle L i (by omega) (by omega)).mpr h)
                        refine lv_aload_n hx hb dX12_isHere_82 rfl (lv_at hl 2 rfl) ?_
                        refine sk_get (v := .ref (g 0)) (C := RX12) (T := TX12) (N := 92) hx hb hts inlX12 hown hK hP 0 rfl rfl 0 (Nat.le_of_ble_eq_true rfl) w_5_155 rfl dX12_isHere_83 ?_
                        refine lv_aload_n hx hb dX12_isHere_86 rfl (lv_at hl 2 rfl) ?_
                        refine sk_get (v := .int (nI pa2_2)) (C := RX12) (T := TX12) (N := 92) hx hb hts inlX12 hown hK hP 0 rfl rfl 2 (Nat.le_of_ble_eq_true rfl) w_5_157 rfl dX12_isHere_87 ?_
                        refine lv_iload_n hx hb dX12_isHere_90 rfl (lv_at hl 0 rfl) ?_
                        refine lv_iadd hx hb dX12_isHere_91 ?_
                        refine sk_top (nI (pa2_2 + i)) (nI_add pa2_2 i) ?_
                        refine va_iald hx hb hK.1 hP 1 0 rfl rfl (vin (pa2_2 + i) 1600 (by omega) (Nat.le_of_ble_eq_true rfl)) dX12_isHere_92 ?_
                        refine sk_top (nI (tb (pa2_2 + i))) (nrd tb (pa2_2 + i) (by omega)) ?_
                        have hb_34 := htb (pa2_2 + i)
                        refine lv_aload_n hx hb dX12_isHere_93 rfl (lv_at hl 3 rfl) ?_
                        refine lv_iload_n hx hb dX12_isHere_94 rfl (lv_at hl 0 rfl) ?_
                        refine va_cald hx hb hK.1 hP 2 2 rfl rfl (vin i L (by omega) (by omega)) dX12_isHere_95 ?_
                        refine lv_topi (fun v_35 ev_35 => ?_)
                        refine lv_icmp_eq (tgt := 101) hx hb dX12_isHere_96 (by decide) (fun c_36 => ?_) (fun c_36 => ?_)
                        · skip
                          refine lv_iinc (v := nI (i + 1)) (lv' := [(3, .int (nI (i + 1))), (2, .int (nI kk)), (0, .ref mm), (1, .ref h1)]) hx hb dX12_isHere_101 hl (k := 0) rfl (ninc i 1 (by decide)) (by decide) rfl (fun ls hl => ?_)
                          refine lv_goto (tgt := 76) hx hb dX12_isHere_104 (by decide) ?_
                          exact ih_lp_31 (i + 1) _ _ _ (by omega) (by omega) (al_s hal ((cw_eq ev_35 (by omega) hwb (by omega)).mp c_36)) hP hD hS (lv_sub hl [0, 1, 2, 3] rfl)
                        · have hne := fun hq => c_36 ((cw_eq ev_35 (by omega) hwb (by omega)).mpr hq)
                          refine lv_iconst (v := 0) hx hb dX12_isHere_99 ic_0 ?_
                          exact sk_iret hx hb hr rfl hlocks hK hP hD hS (⟨0, pa2_2, hpa2_4, hpa3_5, hst_7, by omega, (Or.inl ⟨by omega, hsk_8⟩), (Or.inl ⟨rfl, fun _ => isW_ne (c := (cuO tb pe pa pd)) (i := i) hke2 (by show kk - sk tb pe pa = wv.length; rw [← hsk_8]; omega) (by omega) (by show ¬ tb (sk tb pe pa + i) = wv.getD i 0; rw [← hsk_8]; exact hne)⟩), rfl, rfl⟩) (Nat.le_of_ble_eq_true rfl) (Nat.le_of_ble_eq_true rfl) dX12_isHere_100
                  exact lp_31 (L - 0 + 1) 0 _ _ _ (Nat.lt_succ_self _) (by omega) (fun j hj => absurd hj (by omega)) hP hD hS (lv_sub hl [0, 1, 2, 3] rfl)
                · have c_30 : ¬ (kk - pa2_2 = L) := fun h => c_30 ((neq (kk - pa2_2) L (by omega) (by omega)).mpr h)
                  refine lv_iconst (v := 0) hx hb dX12_isHere_72 ic_0 ?_
                  exact sk_iret hx hb hr rfl hlocks hK hP hD hS (⟨0, pa2_2, hpa2_4, hpa3_5, hst_7, by omega, (Or.inl ⟨by omega, hsk_8⟩), (Or.inl ⟨rfl, fun _ => isW_len (c := (cuO tb pe pa pd)) hke2 (by show ¬ kk - sk tb pe pa = wv.length; rw [← hsk_8]; omega)⟩), rfl, rfl⟩) (Nat.le_of_ble_eq_true rfl) (Nat.le_of_ble_eq_true rfl) dX12_isHere_73
              · have c_29 : ¬ (b_26 = 0) := fun h => c_29 ((neq b_26 0 (by omega) (Nat.le_of_ble_eq_true rfl)).mpr h)
                refine lv_iinc (v := nI (kk + 1)) (lv' := [(2, .int (nI (kk + 1))), (0, .ref mm), (1, .ref h1)]) hx hb dX12_isHere_55 hl (k := 0) rfl (ninc kk 1 (by decide)) (by decide) rfl (fun ls hl => ?_)
                refine lv_goto (tgt := 35) hx hb dX12_isHere_58 (by decide) ?_
                exact ih_lp_15 (kk + 1) _ _ _ (by omega) (by omega) (by omega) (ext_nxt hkx (by omega) (qL_t.mpr (by omega))) hP hD hS (lv_sub hl [0, 1, 2] rfl)
        exact lp_15 (pe - pa2_2 + 1) pa2_2 _ _ _ (Nat.lt_succ_self _) (by omega) hpa3_5 rfl hP hD hS (lv_sub hl [0, 1, 2] rfl)
      · skip
        refine lv_iconst (v := 0) hx hb dX12_isHere_28 ic_0 ?_
        exact sk_iret hx hb hr rfl hlocks hK hP hD hS (⟨0, pa2_2, hpa2_4, hpa3_5, hst_7, by omega, (Or.inl ⟨by omega, hsk_8⟩), (Or.inl ⟨rfl, fun _ => isW_fl (by rw [← hsk_8]; exact c_14.symm)⟩), rfl, rfl⟩) (Nat.le_of_ble_eq_true rfl) (Nat.le_of_ble_eq_true rfl) dX12_isHere_29
set_option maxHeartbeats 4000000 in
set_option maxRecDepth 100000 in
theorem c_em_takes (l : Launch) (D : va_G) (cI cJ cC cZ cS : ClassId) (mm : Nat) (g : Nat → Nat) (ta : Nat) (pa : Nat) (pe : Nat) (pd : Int32) (pb : Nat) (pp : Int32) (pf : Int32) (pg : Int32) (pn : Int32) (rt : Int32) (rn : Int32) (cd : Nat) (sn : Int32) (il : Nat) (tk : Int32) (am : Int32) (at_ : Int32) (aa : Int32) (wt : Int32) (wy : Int64) (rm : Nat) (ud : Nat) (nu : Nat) (sd : Int64) (qn : Nat) (qw : Nat) (qo : Int32) (qb : Nat) (qp : Nat) (qa : Int64) (qi : Nat) (oc : Nat) (tb : Nat → Nat) (h1 : Nat) (L : Nat) (wv : List Nat) (og : Except Err Cur) (hpa : pa ≤ pe) (hpe : pe ≤ 1600) (hpb : pb ≤ 5) (hL : 1 ≤ L) (hL2 : L ≤ 10) (hwl : wv.length = L) (hwb : ∀ j, wv.getD j 0 ≤ 255) (hO : moO tb pe og pa pd pb pp) (htb : ∀ j, tb j ≤ 255) : skM l yX12_takes cX12_takes 2 (some .boolean) 2 43 0 0 D (skT cI cJ cC cZ cS) [.ref mm, .ref h1] [ro_ mm 12 (mo g (nI ta) (nI pa) (nI pe) pd (nI pb) pp pf pg pn rt rn (nI cd) sn (nI il) tk am at_ aa 0 0 (-1) wt wy 0 (nI rm) (nI ud) (nI nu) sd (nI qn) (nI qw) qo (nI qb) (nI qp) qa (nI qi) (nI oc)), ra_N (g 0) cI 1600 tb, ra_I h1 cC L (cw wv)] (skI D (skT cI cJ cC cZ cS) (fun (r : Int32) (u : va_W) => ∃ (b : Nat), ∃ (pa2 : Nat), ∃ (pd2 : Int32), pa ≤ pa2 ∧ pa2 ≤ pe ∧ (b = 0 ∨ (b = 1 ∧ pb = 0 ∧ pa + L ≤ pa2)) ∧ (hide ((b = 0 ∧ (pb = 0 → pa2 = sk tb pe pa ∧ isW tb pe wv (cuO tb pe pa pd) = false) ∧ moO tb pe og pa2 pd2 pb pp) ∨ (b = 1 ∧ pb = 0 ∧ isW tb pe wv (cuO tb pe pa pd) = true ∧ moO tb pe (bindR og (nxF tb pe)) pa2 pd2 pb pp))) ∧ r = nI b ∧ u = [ro_ mm 12 (mo g (nI ta) (nI pa2) (nI pe) pd2 (nI pb) pp pf pg pn rt rn (nI cd) sn (nI il) tk am at_ aa 0 0 (-1) wt wy 0 (nI rm) (nI ud) (nI nu) sd (nI qn) (nI qw) qo (nI qb) (nI qp) qa (nI qi) (nI oc)), ra_N (g 0) cI 1600 tb, ra_I h1 cC L (cw wv)])) := by
  refine skM_of pf_X12_takes (Nat.le_of_ble_eq_true rfl) ?_
  intro p e s m below meth c A ls E hP hD hl
  refine skE_el E (fun hx hb hr hml hlocks hin hown hts hK hA => ?_)
  have hown : s.vm.findClass RX12 = some m.cls := hown
  have hS : va_S A s.heap s.heap [] := va_S.rf
  have hl : lv_has ls 2 [(0, .ref mm), (1, .ref h1)] := hl
  refine lv_aload_n hx hb dX12_takes_0 rfl (lv_at hl 0 rfl) ?_
  refine lv_aload_n hx hb dX12_takes_1 rfl (lv_at hl 1 rfl) ?_
  refine sk_Vi (q0 := 0) (n := 1) (rest := []) (wr := fmR om_3_7 _) ⟨hx, hb, hml, hown, hts⟩ hl.1 (c_em_isHere l D cI cJ cC cZ cS mm g ta pa pe pd pb pp pf pg pn rt rn cd sn il tk am at_ aa wt wy rm ud nu sd qn qw qo qb qp qa qi oc tb h1 L wv hpa hpe hpb hL hL2 hwl hwb htb) w_6_218 w_6_220 w_0_44 w_1_14 w_6_221 hd_X12_isHere_1 ⟨⟨(Nat.le_of_ble_eq_true rfl), (Nat.le_of_ble_eq_true rfl)⟩, (Nat.le_of_ble_eq_true rfl), (Nat.le_of_ble_eq_true rfl)⟩ hK hP hD hS hA (fmT om_3_7 0) (fmF om_3_7 0) (fm_C1 rfl rfl) (fm_R rfl rfl) (fm_nT om_3_7 0) (fm_nF om_3_7 0) (fm_di om_3_7 0) rfl rfl rfl rfl (Nat.le_of_ble_eq_true rfl) dX12_takes_2 (fun r_3 u H locs hw hP hD hS => ?_)
  refine exE hw (fun b_1 hw1 => exE hw1 (fun pa2_2 hw2 => anE hw2 (fun hpa2_4 hw3 => anE hw3 (fun hpa3_5 hw4 => anE hw4 (fun hst_6 hw5 => anE hw5 (fun hb1_7 hw6 => anE hw6 (fun hsk_8 hw7 => anE hw7 (fun hW_9 hw8 => anE hw8 (fun er_11 eu_10 => ?_)))))))))
  clear hw hw1 hw2 hw3 hw4 hw5 hw6 hw7 hw8
  subst er_11
  refine o_mgE (ws' := [ro_ mm 12 (mo g (nI ta) (nI pa2_2) (nI pe) pd (nI pb) pp pf pg pn rt rn (nI cd) sn (nI il) tk am at_ aa 0 0 (-1) wt wy 0 (nI rm) (nI ud) (nI nu) sd (nI qn) (nI qw) qo (nI qb) (nI qp) qa (nI qi) (nI oc)), ra_N (g 0) cI 1600 tb, ra_I h1 cC L (cw wv)]) eu_10 hP hD rfl (fun hP hD => ?_)
  refine lv_if_ne (tgt := 10) hx hb dX12_takes_5 (by decide) (fun c_12 => ?_) (fun c_12 => ?_)
  · have c_12 : ¬ (b_1 = 0) := fun h => c_12 ((neq b_1 0 (by omega) (Nat.le_of_ble_eq_true rfl)).mpr h)
    refine lv_aload_n hx hb dX12_takes_10 rfl (lv_at hl 0 rfl) ?_
    refine lv_dup hx hb dX12_takes_11 rfl ?_
    refine sk_get (v := .int (nI pa2_2)) (C := RX12) (T := TX12) (N := 92) hx hb hts inlX12 hown hK hP 0 rfl rfl 2 (Nat.le_of_ble_eq_true rfl) w_5_157 rfl dX12_takes_12 ?_
    refine lv_aload_n hx hb dX12_takes_15 rfl (lv_at hl 1 rfl) ?_
    refine va_alen (v := nI L) hx hb hK.1 hP 2 2 rfl rfl rfl dX12_takes_16 ?_
    refine lv_iadd hx hb dX12_takes_17 ?_
    refine sk_top (nI (pa2_2 + L)) (nI_add pa2_2 L) ?_
    refine sk_put (ws' := [ro_ mm 12 (mo g (nI ta) (nI (pa2_2 + L)) (nI pe) pd (nI pb) pp pf pg pn rt rn (nI cd) sn (nI il) tk am at_ aa 0 0 (-1) wt wy 0 (nI rm) (nI ud) (nI nu) sd (nI qn) (nI qw) qo (nI qb) (nI qp) qa (nI qi) (nI oc)), ra_N (g 0) cI 1600 tb, ra_I h1 cC L (cw wv)]) (C := RX12) (T := TX12) (N := 92) (v := .int (nI (pa2_2 + L))) hx hb hts inlX12 tyX12 tyX12_ok nmX12 hown hK hP hD hS 0 rfl rfl 2 (Nat.le_of_ble_eq_true rfl) w_5_157 rfl rfl rfl (Nat.le_of_ble_eq_true rfl) rfl dX12_takes_18 (fun H locs hP hD hS => ?_)
    refine lv_aload_n hx hb dX12_takes_21 rfl (lv_at hl 0 rfl) ?_
    refine lv_aload_n hx hb dX12_takes_22 rfl (lv_at hl 0 rfl) ?_
    refine sk_get (v := .int (nI (pa2_2 + L))) (C := RX12) (T := TX12) (N := 92) hx hb hts inlX12 hown hK hP 0 rfl rfl 2 (Nat.le_of_ble_eq_true rfl) w_5_157 rfl dX12_takes_23 ?_
    refine sk_put (ws' := [ro_ mm 12 (mo g (nI ta) (nI (pa2_2 + L)) (nI pe) (nI (pa2_2 + L)) (nI pb) pp pf pg pn rt rn (nI cd) sn (nI il) tk am at_ aa 0 0 (-1) wt wy 0 (nI rm) (nI ud) (nI nu) sd (nI qn) (nI qw) qo (nI qb) (nI qp) qa (nI qi) (nI oc)), ra_N (g 0) cI 1600 tb, ra_I h1 cC L (cw wv)]) (C := RX12) (T := TX12) (N := 92) (v := .int (nI (pa2_2 + L))) hx hb hts inlX12 tyX12 tyX12_ok nmX12 hown hK hP hD hS 0 rfl rfl 4 (Nat.le_of_ble_eq_true rfl) w_5_159 rfl rfl rfl (Nat.le_of_ble_eq_true rfl) rfl dX12_takes_26 (fun H locs hP hD hS => ?_)
    refine lv_iconst (v := 1) hx hb dX12_takes_29 ic_1 ?_
    exact sk_iret hx hb hr rfl hlocks hK hP hD hS (⟨1, pa2_2 + L, nI (pa2_2 + L), by omega, by omega, by omega, (Or.inr ⟨rfl, by omega, (rr_1 hW_9 (by omega)).2, mo_takeW hO (by omega) hpe (rr_1 hW_9 (by omega)).2 (by rw [(hsk_8.resolve_right (fun z => z.1 (by omega))).2, hwl]) rfl⟩), rfl, rfl⟩) (Nat.le_of_ble_eq_true rfl) (Nat.le_of_ble_eq_true rfl) dX12_takes_30
  · have c_12 : b_1 = 0 := (neq b_1 0 (by omega) (Nat.le_of_ble_eq_true rfl)).mp c_12
    refine lv_iconst (v := 0) hx hb dX12_takes_8 ic_0 ?_
    exact sk_iret hx hb hr rfl hlocks hK hP hD hS (⟨0, pa2_2, pd, hpa2_4, hpa3_5, by omega, (Or.inl ⟨rfl, fun hq => ⟨(hsk_8.resolve_right (fun z => z.1 hq)).2, rr_0 hW_9 (by omega) hq⟩, mo_here hO hsk_8⟩), rfl, rfl⟩) (Nat.le_of_ble_eq_true rfl) (Nat.le_of_ble_eq_true rfl) dX12_takes_9
set_option maxHeartbeats 4000000 in
set_option maxRecDepth 100000 in
theorem c_em_asks (l : Launch) (D : va_G) (cI cJ cC cZ cS : ClassId) (mm : Nat) (g : Nat → Nat) (ta : Nat) (pa : Nat) (pe : Nat) (pd : Int32) (pb : Nat) (pp : Int32) (pf : Int32) (pg : Int32) (pn : Int32) (rt : Int32) (rn : Int32) (cd : Nat) (sn : Int32) (il : Nat) (tk : Int32) (am : Int32) (at_ : Int32) (aa : Int32) (wt : Int32) (wy : Int64) (rm : Nat) (ud : Nat) (nu : Nat) (sd : Int64) (qn : Nat) (qw : Nat) (qo : Int32) (qb : Nat) (qp : Nat) (qa : Int64) (qi : Nat) (oc : Nat) (tb : Nat → Nat) (h1 : Nat) (L : Nat) (wv : List Nat) (og : Except Err Cur) (hpa : pa ≤ pe) (hpe : pe ≤ 1600) (hpb : pb ≤ 5) (hL : 1 ≤ L) (hL2 : L ≤ 10) (hwl : wv.length = L) (hwb : ∀ j, wv.getD j 0 ≤ 255) (hO : moO tb pe og pa pd pb pp) (htb : ∀ j, tb j ≤ 255) : skM l yX12_asks cX12_asks 2 none 3 64 0 0 D (skT cI cJ cC cZ cS) [.ref mm, .ref h1] [ro_ mm 12 (mo g (nI ta) (nI pa) (nI pe) pd (nI pb) pp pf pg pn rt rn (nI cd) sn (nI il) tk am at_ aa 0 0 (-1) wt wy 0 (nI rm) (nI ud) (nI nu) sd (nI qn) (nI qw) qo (nI qb) (nI qp) qa (nI qi) (nI oc)), ra_N (g 0) cI 1600 tb, ra_I h1 cC L (cw wv)] (skV D (skT cI cJ cC cZ cS) (fun (u : va_W) => ∃ (pa2 : Nat), ∃ (pd2 : Int32), ∃ (pb2 : Nat), ∃ (pp2 : Int32), pa ≤ pa2 ∧ pa2 ≤ pe ∧ pb2 ≤ 5 ∧ (¬ pb2 = 0 ∨ (pb = 0 ∧ pa + L ≤ pa2)) ∧ moO tb pe (bindR og (wordP tb pe wv)) pa2 pd2 pb2 pp2 ∧ u = [ro_ mm 12 (mo g (nI ta) (nI pa2) (nI pe) pd2 (nI pb2) pp2 pf pg pn rt rn (nI cd) sn (nI il) tk am at_ aa 0 0 (-1) wt wy 0 (nI rm) (nI ud) (nI nu) sd (nI qn) (nI qw) qo (nI qb) (nI qp) qa (nI qi) (nI oc)), ra_N (g 0) cI 1600 tb, ra_I h1 cC L (cw wv)])) := by
  refine skM_of pf_X12_asks (Nat.le_of_ble_eq_true rfl) ?_
  intro p e s m below meth c A ls E hP hD hl
  refine skE_el E (fun hx hb hr hml hlocks hin hown hts hK hA => ?_)
  have hown : s.vm.findClass RX12 = some m.cls := hown
  have hS : va_S A s.heap s.heap [] := va_S.rf
  have hl : lv_has ls 2 [(0, .ref mm), (1, .ref h1)] := hl
  refine lv_aload_n hx hb dX12_asks_0 rfl (lv_at hl 0 rfl) ?_
  refine sk_get (v := .int (nI pb)) (C := RX12) (T := TX12) (N := 92) hx hb hts inlX12 hown hK hP 0 rfl rfl 5 (Nat.le_of_ble_eq_true rfl) w_5_160 rfl dX12_asks_1 ?_
  refine lv_if_ne (tgt := 24) hx hb dX12_asks_4 (by decide) (fun c_1 => ?_) (fun c_1 => ?_)
  · have c_1 : ¬ (pb = 0) := fun h => c_1 ((neq pb 0 (by omega) (Nat.le_of_ble_eq_true rfl)).mpr h)
    exact sk_vret hx hb hr hlocks hK hP hD hS (⟨pa, pd, pb, pp, by omega, hpa, hpb, by omega, mo_er hO c_1, rfl⟩) (Nat.le_of_ble_eq_true rfl) (Nat.le_of_ble_eq_true rfl) dX12_asks_24
  · have c_1 : pb = 0 := (neq pb 0 (by omega) (Nat.le_of_ble_eq_true rfl)).mp c_1
    refine lv_aload_n hx hb dX12_asks_7 rfl (lv_at hl 0 rfl) ?_
    refine lv_aload_n hx hb dX12_asks_8 rfl (lv_at hl 1 rfl) ?_
    refine sk_Vi (q0 := 0) (n := 1) (rest := []) (wr := fmR om_3_7 _) ⟨hx, hb, hml, hown, hts⟩ hl.1 (c_em_takes l D cI cJ cC cZ cS mm g ta pa pe pd pb pp pf pg pn rt rn cd sn il tk am at_ aa wt wy rm ud nu sd qn qw qo qb qp qa qi oc tb h1 L wv og hpa hpe hpb hL hL2 hwl hwb hO htb) w_6_214 w_6_216 w_0_43 w_1_14 w_6_217 hd_X12_takes_1 ⟨⟨(Nat.le_of_ble_eq_true rfl), (Nat.le_of_ble_eq_true rfl)⟩, (Nat.le_of_ble_eq_true rfl), (Nat.le_of_ble_eq_true rfl)⟩ hK hP hD hS hA (fmT om_3_7 0) (fmF om_3_7 0) (fm_C1 rfl rfl) (fm_R rfl rfl) (fm_nT om_3_7 0) (fm_nF om_3_7 0) (fm_di om_3_7 0) rfl rfl rfl rfl (Nat.le_of_ble_eq_true rfl) dX12_asks_9 (fun r_5 u H locs hw hP hD hS => ?_)
    refine exE hw (fun b_2 hw1 => exE hw1 (fun pa2_3 hw2 => exE hw2 (fun pd2_4 hw3 => anE hw3 (fun hpa2_6 hw4 => anE hw4 (fun hpa3_7 hw5 => anE hw5 (fun hb1_8 hw6 => anE hw6 (fun hT_9 hw7 => anE hw7 (fun er_11 eu_10 => ?_))))))))
    clear hw hw1 hw2 hw3 hw4 hw5 hw6 hw7
    subst er_11
    refine o_mgE (ws' := [ro_ mm 12 (mo g (nI ta) (nI pa2_3) (nI pe) pd2_4 (nI pb) pp pf pg pn rt rn (nI cd) sn (nI il) tk am at_ aa 0 0 (-1) wt wy 0 (nI rm) (nI ud) (nI nu) sd (nI qn) (nI qw) qo (nI qb) (nI qp) qa (nI qi) (nI oc)), ra_N (g 0) cI 1600 tb, ra_I h1 cC L (cw wv)]) eu_10 hP hD rfl (fun hP hD => ?_)
    refine lv_if_ne (tgt := 24) hx hb dX12_asks_12 (by decide) (fun c_12 => ?_) (fun c_12 => ?_)
    · have c_12 : ¬ (b_2 = 0) := fun h => c_12 ((neq b_2 0 (by omega) (Nat.le_of_ble_eq_true rfl)).mpr h)
      exact sk_vret hx hb hr hlocks hK hP hD hS (⟨pa2_3, pd2_4, pb, pp, hpa2_6, hpa3_7, hpb, by omega, mo_swap hO (fun _ => (mo_asks2 (rr_1 hT_9 (by omega)).2.1).symm) (rr_1 hT_9 (by omega)).2.2, rfl⟩) (Nat.le_of_ble_eq_true rfl) (Nat.le_of_ble_eq_true rfl) dX12_asks_24
    · have c_12 : b_2 = 0 := (neq b_2 0 (by omega) (Nat.le_of_ble_eq_true rfl)).mp c_12
      refine lv_aload_n hx hb dX12_asks_15 rfl (lv_at hl 0 rfl) ?_
      refine lv_iconst (v := 1) hx hb dX12_asks_16 ic_1 ?_
      refine lv_aload_n hx hb dX12_asks_17 rfl (lv_at hl 0 rfl) ?_
      refine sk_get (v := .int (nI pa2_3)) (C := RX12) (T := TX12) (N := 92) hx hb hts inlX12 hown hK hP 0 rfl rfl 2 (Nat.le_of_ble_eq_true rfl) w_5_157 rfl dX12_asks_18 ?_
      refine sk_Vv (q0 := 0) (n := 2) (rest := []) (wr := fmR om_3_4 _) ⟨hx, hb, hml, hown, hts⟩ hl.1 (c_em_fail l D cI cJ cC cZ cS mm g ta pa2_3 pe pd2_4 pb pp pf pg pn rt rn cd sn il tk am at_ aa wt wy rm ud nu sd qn qw qo qb qp qa qi oc 1 (nI pa2_3) hpb (by omega) (by omega)) w_6_229 w_6_231 w_0_46 w_1_14 w_6_232 hd_X12_fail_2 ⟨⟨(Nat.le_of_ble_eq_true rfl), (Nat.le_of_ble_eq_true rfl)⟩, (Nat.le_of_ble_eq_true rfl), (Nat.le_of_ble_eq_true rfl)⟩ hK hP hD hS hA (fmT om_3_4 0) (fmF om_3_4 0) (fm_C1 rfl rfl) (fm_R rfl rfl) (fm_nT om_3_4 0) (fm_nF om_3_4 0) (fm_di om_3_4 0) rfl rfl rfl rfl (Nat.le_of_ble_eq_true rfl) dX12_asks_21 (fun u H locs hw hP hD hS => ?_)
      refine exE hw (fun pb2_13 hw1 => exE hw1 (fun pp2_14 hw2 => anE hw2 (fun hpb2_15 hw3 => anE hw3 (fun hpb3_16 hw4 => anE hw4 (fun hfl_17 eu_18 => ?_)))))
      clear hw hw1 hw2 hw3 hw4
      refine o_mgE (ws' := [ro_ mm 12 (mo g (nI ta) (nI pa2_3) (nI pe) pd2_4 (nI pb2_13) pp2_14 pf pg pn rt rn (nI cd) sn (nI il) tk am at_ aa 0 0 (-1) wt wy 0 (nI rm) (nI ud) (nI nu) sd (nI qn) (nI qw) qo (nI qb) (nI qp) qa (nI qi) (nI oc)), ra_N (g 0) cI 1600 tb, ra_I h1 cC L (cw wv)]) eu_18 hP hD rfl (fun hP hD => ?_)
      exact sk_vret hx hb hr hlocks hK hP hD hS (⟨pa2_3, pd2_4, pb2_13, pp2_14, hpa2_6, hpa3_7, hpb2_15, by omega, (by have hq := (hT_9.resolve_right (fun z => absurd z.1 (by omega))).2.1 (by omega); have hf := (hfl_17.resolve_right (fun z => z.1 (by omega))).2; rw [hf.1, hf.2, hq.1]; exact mo_fail hO (by omega) (by decide) (by decide) (mo_asks1 hq.2)), rfl⟩) (Nat.le_of_ble_eq_true rfl) (Nat.le_of_ble_eq_true rfl) dX12_asks_24
set_option maxHeartbeats 4000000 in
set_option maxRecDepth 100000 in
theorem c_em_takesSign (l : Launch) (D : va_G) (cI cJ cC cZ cS : ClassId) (mm : Nat) (g : Nat → Nat) (ta : Nat) (pa : Nat) (pe : Nat) (pd : Int32) (pb : Nat) (pp : Int32) (pf : Int32) (pg : Int32) (pn : Int32) (rt : Int32) (rn : Int32) (cd : Nat) (sn : Int32) (il : Nat) (tk : Int32) (am : Int32) (at_ : Int32) (aa : Int32) (wt : Int32) (wy : Int64) (rm : Nat) (ud : Nat) (nu : Nat) (sd : Int64) (qn : Nat) (qw : Nat) (qo : Int32) (qb : Nat) (qp : Nat) (qa : Int64) (qi : Nat) (oc : Nat) (w : Nat) (tb : Nat → Nat) (og : Except Err Cur) (hpa : pa ≤ pe) (hpe : pe ≤ 1600) (hpb : pb ≤ 5) (hw : w ≤ 255) (hws : w < 256 ∧ ¬ (97 ≤ w ∧ w ≤ 122) ∧ ¬ (48 ≤ w ∧ w ≤ 57)) (hO : moO tb pe og pa pd pb pp) (htb : ∀ j, tb j ≤ 255) : skM l yX12_takesSign cX12_takesSign 2 (some .boolean) 1 20 0 0 D (skT cI cJ cC cZ cS) [.ref mm, .int (nI w)] [ro_ mm 12 (mo g (nI ta) (nI pa) (nI pe) pd (nI pb) pp pf pg pn rt rn (nI cd) sn (nI il) tk am at_ aa 0 0 (-1) wt wy 0 (nI rm) (nI ud) (nI nu) sd (nI qn) (nI qw) qo (nI qb) (nI qp) qa (nI qi) (nI oc)), ra_N (g 0) cI 1600 tb] (skI D (skT cI cJ cC cZ cS) (fun (r : Int32) (u : va_W) => ∃ (b : Nat), ∃ (pa2 : Nat), pa ≤ pa2 ∧ pa2 ≤ pe ∧ (b = 0 ∨ (b = 1 ∧ pb = 0 ∧ pa + 1 ≤ pa2)) ∧ (hide ((b = 0 ∧ (pb = 0 → pa2 = sk tb pe pa ∧ ¬ isS tb pe w (cuO tb pe pa pd) = true) ∧ moO tb pe og pa2 pd pb pp) ∨ (b = 1 ∧ pb = 0 ∧ isS tb pe w (cuO tb pe pa pd) = true ∧ moO tb pe (bindR og (nxF tb pe)) pa2 pd pb pp ∧ pa2 = sk tb pe pa + 1))) ∧ r = nI b ∧ u = [ro_ mm 12 (mo g (nI ta) (nI pa2) (nI pe) pd (nI pb) pp pf pg pn rt rn (nI cd) sn (nI il) tk am at_ aa 0 0 (-1) wt wy 0 (nI rm) (nI ud) (nI nu) sd (nI qn) (nI qw) qo (nI qb) (nI qp) qa (nI qi) (nI oc)), ra_N (g 0) cI 1600 tb])) := by
  refine skM_of pf_X12_takesSign (Nat.le_of_ble_eq_true rfl) ?_
  intro p e s m below meth c A ls E hP hD hl
  refine skE_el E (fun hx hb hr hml hlocks hin hown hts hK hA => ?_)
  have hown : s.vm.findClass RX12 = some m.cls := hown
  have hS : va_S A s.heap s.heap [] := va_S.rf
  have hl : lv_has ls 2 [(0, .ref mm), (1, .int (nI w))] := hl
  refine lv_aload_n hx hb dX12_takesSign_0 rfl (lv_at hl 0 rfl) ?_
  refine sk_get (v := .int (nI pb)) (C := RX12) (T := TX12) (N := 92) hx hb hts inlX12 hown hK hP 0 rfl rfl 5 (Nat.le_of_ble_eq_true rfl) w_5_160 rfl dX12_takesSign_1 ?_
  refine lv_if_ne (tgt := 15) hx hb dX12_takesSign_4 (by decide) (fun c_1 => ?_) (fun c_1 => ?_)
  · have c_1 : ¬ (pb = 0) := fun h => c_1 ((neq pb 0 (by omega) (Nat.le_of_ble_eq_true rfl)).mpr h)
    refine lv_iconst (v := 0) hx hb dX12_takesSign_15 ic_0 ?_
    exact sk_iret hx hb hr rfl hlocks hK hP hD hS (⟨0, pa, by omega, hpa, by omega, (Or.inl ⟨rfl, fun hq => absurd hq c_1, hO⟩), rfl, rfl⟩) (Nat.le_of_ble_eq_true rfl) (Nat.le_of_ble_eq_true rfl) dX12_takesSign_16
  · have c_1 : pb = 0 := (neq pb 0 (by omega) (Nat.le_of_ble_eq_true rfl)).mp c_1
    refine lv_aload_n hx hb dX12_takesSign_7 rfl (lv_at hl 0 rfl) ?_
    refine sk_Vi (q0 := 0) (n := 0) (rest := []) (wr := fmR om_2_3 _) ⟨hx, hb, hml, hown, hts⟩ hl.1 (c_em_look l D cI cJ cC cZ cS mm g ta pa pe pd pb pp pf pg pn rt rn cd sn il tk am at_ aa wt wy rm ud nu sd qn qw qo qb qp qa qi oc tb hpa hpe htb) w_6_222 w_6_224 w_0_45 w_1_14 w_6_225 hd_X12_look_0 ⟨⟨(Nat.le_of_ble_eq_true rfl), (Nat.le_of_ble_eq_true rfl)⟩, (Nat.le_of_ble_eq_true rfl), (Nat.le_of_ble_eq_true rfl)⟩ hK hP hD hS hA (fmT om_2_3 0) (fmF om_2_3 0) (fm_C1 rfl rfl) (fm_R rfl rfl) (fm_nT om_2_3 0) (fm_nF om_2_3 0) (fm_di om_2_3 0) rfl rfl rfl rfl (Nat.le_of_ble_eq_true rfl) dX12_takesSign_8 (fun r_3 u H locs hw hP hD hS => ?_)
    refine exE hw (fun pa2_2 hw1 => anE hw1 (fun hpa2_4 hw2 => anE hw2 (fun hpa3_5 hw3 => anE hw3 (fun hlk_6 hw4 => anE hw4 (fun hst_7 hw5 => anE hw5 (fun hsk_8 eu_9 => ?_))))))
    clear hw hw1 hw2 hw3 hw4 hw5
    refine o_mgE (ws' := [ro_ mm 12 (mo g (nI ta) (nI pa2_2) (nI pe) pd (nI pb) pp pf pg pn rt rn (nI cd) sn (nI il) tk am at_ aa 0 0 (-1) wt wy 0 (nI rm) (nI ud) (nI nu) sd (nI qn) (nI qw) qo (nI qb) (nI qp) qa (nI qi) (nI oc)), ra_N (g 0) cI 1600 tb]) eu_9 hP hD rfl (fun hP hD => ?_)
    refine lv_iload_n hx hb dX12_takesSign_11 rfl (lv_at hl 1 rfl) ?_
    refine lv_icmp_eq (tgt := 17) hx hb dX12_takesSign_12 (by decide) (fun c_10 => ?_) (fun c_10 => ?_)
    · have hq_11 := lk_at hlk_6 htb (w := w) (by omega) c_10
      refine lv_aload_n hx hb dX12_takesSign_17 rfl (lv_at hl 0 rfl) ?_
      refine lv_dup hx hb dX12_takesSign_18 rfl ?_
      refine sk_get (v := .int (nI pa2_2)) (C := RX12) (T := TX12) (N := 92) hx hb hts inlX12 hown hK hP 0 rfl rfl 2 (Nat.le_of_ble_eq_true rfl) w_5_157 rfl dX12_takesSign_19 ?_
      refine lv_iconst (v := 1) hx hb dX12_takesSign_22 ic_1 ?_
      refine lv_iadd hx hb dX12_takesSign_23 ?_
      refine sk_top (nI (pa2_2 + 1)) (nI_add pa2_2 1) ?_
      refine sk_put (ws' := [ro_ mm 12 (mo g (nI ta) (nI (pa2_2 + 1)) (nI pe) pd (nI pb) pp pf pg pn rt rn (nI cd) sn (nI il) tk am at_ aa 0 0 (-1) wt wy 0 (nI rm) (nI ud) (nI nu) sd (nI qn) (nI qw) qo (nI qb) (nI qp) qa (nI qi) (nI oc)), ra_N (g 0) cI 1600 tb]) (C := RX12) (T := TX12) (N := 92) (v := .int (nI (pa2_2 + 1))) hx hb hts inlX12 tyX12 tyX12_ok nmX12 hown hK hP hD hS 0 rfl rfl 2 (Nat.le_of_ble_eq_true rfl) w_5_157 rfl rfl rfl (Nat.le_of_ble_eq_true rfl) rfl dX12_takesSign_24 (fun H locs hP hD hS => ?_)
      refine lv_iconst (v := 1) hx hb dX12_takesSign_27 ic_1 ?_
      exact sk_iret hx hb hr rfl hlocks hK hP hD hS (⟨1, pa2_2 + 1, by omega, by omega, by omega, (Or.inr ⟨rfl, by omega, isS_cu.mpr (by have hq := (lk_S htb hw hlk_6).mp c_10; rw [hsk_8] at hq; exact hq), mo_takeS hO (by omega) hpe (by have hq := (lk_S htb hw hlk_6).mp c_10; rw [hsk_8] at hq; exact hq) hws (by rw [hsk_8]) rfl, by rw [hsk_8]⟩), rfl, rfl⟩) (Nat.le_of_ble_eq_true rfl) (Nat.le_of_ble_eq_true rfl) dX12_takesSign_28
    · skip
      refine lv_iconst (v := 0) hx hb dX12_takesSign_15 ic_0 ?_
      exact sk_iret hx hb hr rfl hlocks hK hP hD hS (⟨0, pa2_2, hpa2_4, hpa3_5, by omega, (Or.inl ⟨rfl, fun _ => ⟨hsk_8, fun hq => c_10 ((lk_S htb hw hlk_6).mpr (by rw [hsk_8]; exact isS_cu.mp hq))⟩, by rw [hsk_8]; exact mo_look hO⟩), rfl, rfl⟩) (Nat.le_of_ble_eq_true rfl) (Nat.le_of_ble_eq_true rfl) dX12_takesSign_16
set_option maxHeartbeats 4000000 in
set_option maxRecDepth 100000 in
theorem c_em_asksSign (l : Launch) (D : va_G) (cI cJ cC cZ cS : ClassId) (mm : Nat) (g : Nat → Nat) (ta : Nat) (pa : Nat) (pe : Nat) (pd : Int32) (pb : Nat) (pp : Int32) (pf : Int32) (pg : Int32) (pn : Int32) (rt : Int32) (rn : Int32) (cd : Nat) (sn : Int32) (il : Nat) (tk : Int32) (am : Int32) (at_ : Int32) (aa : Int32) (wt : Int32) (wy : Int64) (rm : Nat) (ud : Nat) (nu : Nat) (sd : Int64) (qn : Nat) (qw : Nat) (qo : Int32) (qb : Nat) (qp : Nat) (qa : Int64) (qi : Nat) (oc : Nat) (w : Nat) (tb : Nat → Nat) (og : Except Err Cur) (hpa : pa ≤ pe) (hpe : pe ≤ 1600) (hpb : pb ≤ 5) (hw : w ≤ 255) (hws : w < 256 ∧ ¬ (97 ≤ w ∧ w ≤ 122) ∧ ¬ (48 ≤ w ∧ w ≤ 57)) (hO : moO tb pe og pa pd pb pp) (htb : ∀ j, tb j ≤ 255) : skM l yX12_asksSign cX12_asksSign 2 none 2 41 0 0 D (skT cI cJ cC cZ cS) [.ref mm, .int (nI w)] [ro_ mm 12 (mo g (nI ta) (nI pa) (nI pe) pd (nI pb) pp pf pg pn rt rn (nI cd) sn (nI il) tk am at_ aa 0 0 (-1) wt wy 0 (nI rm) (nI ud) (nI nu) sd (nI qn) (nI qw) qo (nI qb) (nI qp) qa (nI qi) (nI oc)), ra_N (g 0) cI 1600 tb] (skV D (skT cI cJ cC cZ cS) (fun (u : va_W) => ∃ (pa2 : Nat), ∃ (pb2 : Nat), ∃ (pp2 : Int32), pa ≤ pa2 ∧ pa2 ≤ pe ∧ pb2 ≤ 5 ∧ (¬ pb2 = 0 ∨ (pb = 0 ∧ pa + 1 ≤ pa2)) ∧ moO tb pe (bindR og (signP tb pe w)) pa2 pd pb2 pp2 ∧ u = [ro_ mm 12 (mo g (nI ta) (nI pa2) (nI pe) pd (nI pb2) pp2 pf pg pn rt rn (nI cd) sn (nI il) tk am at_ aa 0 0 (-1) wt wy 0 (nI rm) (nI ud) (nI nu) sd (nI qn) (nI qw) qo (nI qb) (nI qp) qa (nI qi) (nI oc)), ra_N (g 0) cI 1600 tb])) := by
  refine skM_of pf_X12_asksSign (Nat.le_of_ble_eq_true rfl) ?_
  intro p e s m below meth c A ls E hP hD hl
  refine skE_el E (fun hx hb hr hml hlocks hin hown hts hK hA => ?_)
  have hown : s.vm.findClass RX12 = some m.cls := hown
  have hS : va_S A s.heap s.heap [] := va_S.rf
  have hl : lv_has ls 2 [(0, .ref mm), (1, .int (nI w))] := hl
  refine lv_aload_n hx hb dX12_asksSign_0 rfl (lv_at hl 0 rfl) ?_
  refine sk_get (v := .int (nI pb)) (C := RX12) (T := TX12) (N := 92) hx hb hts inlX12 hown hK hP 0 rfl rfl 5 (Nat.le_of_ble_eq_true rfl) w_5_160 rfl dX12_asksSign_1 ?_
  refine lv_if_ne (tgt := 24) hx hb dX12_asksSign_4 (by decide) (fun c_1 => ?_) (fun c_1 => ?_)
  · have c_1 : ¬ (pb = 0) := fun h => c_1 ((neq pb 0 (by omega) (Nat.le_of_ble_eq_true rfl)).mpr h)
    exact sk_vret hx hb hr hlocks hK hP hD hS (⟨pa, pb, pp, by omega, hpa, hpb, by omega, mo_er hO c_1, rfl⟩) (Nat.le_of_ble_eq_true rfl) (Nat.le_of_ble_eq_true rfl) dX12_asksSign_24
  · have c_1 : pb = 0 := (neq pb 0 (by omega) (Nat.le_of_ble_eq_true rfl)).mp c_1
    refine lv_aload_n hx hb dX12_asksSign_7 rfl (lv_at hl 0 rfl) ?_
    refine lv_iload_n hx hb dX12_asksSign_8 rfl (lv_at hl 1 rfl) ?_
    refine sk_Vi (q0 := 0) (n := 1) (rest := []) (wr := fmR om_2_3 _) ⟨hx, hb, hml, hown, hts⟩ hl.1 (c_em_takesSign l D cI cJ cC cZ cS mm g ta pa pe pd pb pp pf pg pn rt rn cd sn il tk am at_ aa wt wy rm ud nu sd qn qw qo qb qp qa qi oc w tb og hpa hpe hpb hw hws hO htb) w_7_7 w_7_9 w_0_49 w_1_14 w_7_10 hd_X12_takesSign_1 ⟨⟨(Nat.le_of_ble_eq_true rfl), (Nat.le_of_ble_eq_true rfl)⟩, (Nat.le_of_ble_eq_true rfl), (Nat.le_of_ble_eq_true rfl)⟩ hK hP hD hS hA (fmT om_2_3 0) (fmF om_2_3 0) (fm_C1 rfl rfl) (fm_R rfl rfl) (fm_nT om_2_3 0) (fm_nF om_2_3 0) (fm_di om_2_3 0) rfl rfl rfl rfl (Nat.le_of_ble_eq_true rfl) dX12_asksSign_9 (fun r_4 u H locs hw hP hD hS => ?_)
    refine exE hw (fun b_2 hw1 => exE hw1 (fun pa2_3 hw2 => anE hw2 (fun hpa2_5 hw3 => anE hw3 (fun hpa3_6 hw4 => anE hw4 (fun hb1_7 hw5 => anE hw5 (fun hT_8 hw6 => anE hw6 (fun er_10 eu_9 => ?_)))))))
    clear hw hw1 hw2 hw3 hw4 hw5 hw6
    subst er_10
    refine o_mgE (ws' := [ro_ mm 12 (mo g (nI ta) (nI pa2_3) (nI pe) pd (nI pb) pp pf pg pn rt rn (nI cd) sn (nI il) tk am at_ aa 0 0 (-1) wt wy 0 (nI rm) (nI ud) (nI nu) sd (nI qn) (nI qw) qo (nI qb) (nI qp) qa (nI qi) (nI oc)), ra_N (g 0) cI 1600 tb]) eu_9 hP hD rfl (fun hP hD => ?_)
    refine lv_if_ne (tgt := 24) hx hb dX12_asksSign_12 (by decide) (fun c_11 => ?_) (fun c_11 => ?_)
    · have c_11 : ¬ (b_2 = 0) := fun h => c_11 ((neq b_2 0 (by omega) (Nat.le_of_ble_eq_true rfl)).mpr h)
      exact sk_vret hx hb hr hlocks hK hP hD hS (⟨pa2_3, pb, pp, hpa2_5, hpa3_6, hpb, by omega, mo_swap hO (fun _ => (signP_t (rr_1 hT_8 (by omega)).2.1).symm) (rr_1 hT_8 (by omega)).2.2.1, rfl⟩) (Nat.le_of_ble_eq_true rfl) (Nat.le_of_ble_eq_true rfl) dX12_asksSign_24
    · have c_11 : b_2 = 0 := (neq b_2 0 (by omega) (Nat.le_of_ble_eq_true rfl)).mp c_11
      refine lv_aload_n hx hb dX12_asksSign_15 rfl (lv_at hl 0 rfl) ?_
      refine lv_iconst (v := 1) hx hb dX12_asksSign_16 ic_1 ?_
      refine lv_aload_n hx hb dX12_asksSign_17 rfl (lv_at hl 0 rfl) ?_
      refine sk_get (v := .int (nI pa2_3)) (C := RX12) (T := TX12) (N := 92) hx hb hts inlX12 hown hK hP 0 rfl rfl 2 (Nat.le_of_ble_eq_true rfl) w_5_157 rfl dX12_asksSign_18 ?_
      refine sk_Vv (q0 := 0) (n := 2) (rest := []) (wr := fmR om_2_2 _) ⟨hx, hb, hml, hown, hts⟩ hl.1 (c_em_fail l D cI cJ cC cZ cS mm g ta pa2_3 pe pd pb pp pf pg pn rt rn cd sn il tk am at_ aa wt wy rm ud nu sd qn qw qo qb qp qa qi oc 1 (nI pa2_3) hpb (by omega) (by omega)) w_6_229 w_6_231 w_0_46 w_1_14 w_6_232 hd_X12_fail_2 ⟨⟨(Nat.le_of_ble_eq_true rfl), (Nat.le_of_ble_eq_true rfl)⟩, (Nat.le_of_ble_eq_true rfl), (Nat.le_of_ble_eq_true rfl)⟩ hK hP hD hS hA (fmT om_2_2 0) (fmF om_2_2 0) (fm_C1 rfl rfl) (fm_R rfl rfl) (fm_nT om_2_2 0) (fm_nF om_2_2 0) (fm_di om_2_2 0) rfl rfl rfl rfl (Nat.le_of_ble_eq_true rfl) dX12_asksSign_21 (fun u H locs hw hP hD hS => ?_)
      refine exE hw (fun pb2_12 hw1 => exE hw1 (fun pp2_13 hw2 => anE hw2 (fun hpb2_14 hw3 => anE hw3 (fun hpb3_15 hw4 => anE hw4 (fun hfl_16 eu_17 => ?_)))))
      clear hw hw1 hw2 hw3 hw4
      refine o_mgE (ws' := [ro_ mm 12 (mo g (nI ta) (nI pa2_3) (nI pe) pd (nI pb2_12) pp2_13 pf pg pn rt rn (nI cd) sn (nI il) tk am at_ aa 0 0 (-1) wt wy 0 (nI rm) (nI ud) (nI nu) sd (nI qn) (nI qw) qo (nI qb) (nI qp) qa (nI qi) (nI oc)), ra_N (g 0) cI 1600 tb]) eu_17 hP hD rfl (fun hP hD => ?_)
      exact sk_vret hx hb hr hlocks hK hP hD hS (⟨pa2_3, pb2_12, pp2_13, hpa2_5, hpa3_6, hpb2_14, by omega, (by have hq := (hT_8.resolve_right (fun z => absurd z.1 (by omega))).2.1 (by omega); have hf := (hfl_16.resolve_right (fun z => z.1 (by omega))).2; rw [hf.1, hf.2, hq.1]; exact mo_fail hO (by omega) (by decide) (by decide) (signP_f hq.2)), rfl⟩) (Nat.le_of_ble_eq_true rfl) (Nat.le_of_ble_eq_true rfl) dX12_asksSign_24
theorem i2l_ge {a b : Nat} (ha : a < 2147483648) (hb : b < 2147483648) (h : a ≤ b) : Int32.toInt64 (nI a) ≤ Int32.toInt64 (nI b) := by
  rw [Int64.le_iff_toInt_le, lgv a ha, lgv b hb]
  omega
set_option maxHeartbeats 4000000 in
set_option maxRecDepth 100000 in
theorem c_em_isInY (l : Launch) (D : va_G) (cI cJ cC cZ cS : ClassId) (v : Int64) (y : Int64) (z : Int64)  : skM l yX12_isIn cX12_isIn 6 (some .boolean) 0 0 0 0 D (skT cI cJ cC cZ cS) [.long v, .long y, .long z] [] (skI D (skT cI cJ cC cZ cS) (fun (r : Int32) (u : va_W) => ∃ (b : Nat), ((b = 0 ∧ ¬ (y ≤ v ∧ v ≤ z)) ∨ (b = 1 ∧ y ≤ v ∧ v ≤ z)) ∧ r = nI b ∧ u = [])) := by
  refine skM_of pf_X12_isIn (Nat.le_of_ble_eq_true rfl) ?_
  intro p e s m below meth c A ls E hP hD hl
  refine skE_el E (fun hx hb hr hml hlocks hin hown hts hK hA => ?_)
  have hown : s.vm.findClass RX12 = some m.cls := hown
  have hS : va_S A s.heap s.heap [] := va_S.rf
  have hl : lv_has ls 6 [(0, .long v), (2, .long y), (4, .long z)] := hl
  refine lv_lload_n hx hb dX12_isIn_0 rfl (lv_at hl 0 rfl) ?_
  refine lv_lload_n hx hb dX12_isIn_1 rfl (lv_at hl 1 rfl) ?_
  refine W.lcmp hx hb dX12_isIn_2 ?_
  refine lv_if_lt (tgt := 17) hx hb dX12_isIn_3 (by decide) (fun c_1 => ?_) (fun c_1 => ?_)
  · skip
    refine lv_iconst (v := 0) hx hb dX12_isIn_17 ic_0 ?_
    exact sk_iret hx hb hr rfl hlocks hK hP hD hS (⟨0, Or.inl ⟨rfl, fun q => absurd q.1 (Int64.not_le.mpr ((lg_cmp_lt _ _).mp c_1))⟩, rfl, rfl⟩) (Nat.le_of_ble_eq_true rfl) (Nat.le_of_ble_eq_true rfl) dX12_isIn_18
  · skip
    refine lv_lload_n hx hb dX12_isIn_6 rfl (lv_at hl 0 rfl) ?_
    refine lv_lload hx hb dX12_isIn_7 (lv_at hl 2 rfl) ?_
    refine W.lcmp hx hb dX12_isIn_9 ?_
    refine lv_if_gt (tgt := 17) hx hb dX12_isIn_10 (by decide) (fun c_2 => ?_) (fun c_2 => ?_)
    · skip
      refine lv_iconst (v := 0) hx hb dX12_isIn_17 ic_0 ?_
      exact sk_iret hx hb hr rfl hlocks hK hP hD hS (⟨0, Or.inl ⟨rfl, fun q => absurd q.2 (Int64.not_le.mpr ((lg_cmp_gt _ _).mp c_2))⟩, rfl, rfl⟩) (Nat.le_of_ble_eq_true rfl) (Nat.le_of_ble_eq_true rfl) dX12_isIn_18
    · skip
      refine lv_iconst (v := 1) hx hb dX12_isIn_13 ic_1 ?_
      refine lv_goto (tgt := 18) hx hb dX12_isIn_14 (by decide) ?_
      exact sk_iret hx hb hr rfl hlocks hK hP hD hS (⟨1, Or.inr ⟨rfl, lg_ge c_1, lg_le c_2⟩, rfl, rfl⟩) (Nat.le_of_ble_eq_true rfl) (Nat.le_of_ble_eq_true rfl) dX12_isIn_18
set_option maxHeartbeats 4000000 in
set_option maxRecDepth 100000 in
theorem c_em_number (l : Launch) (D : va_G) (cI cJ cC cZ cS : ClassId) (mm : Nat) (g : Nat → Nat) (ta : Nat) (pa : Nat) (pe : Nat) (pd : Int32) (pb : Nat) (pp : Int32) (pf : Int32) (pg : Int32) (pn : Int32) (rt : Int32) (rn : Int32) (cd : Nat) (sn : Int32) (il : Nat) (tk : Int32) (am : Int32) (at_ : Int32) (aa : Int32) (wt : Int32) (wy : Int64) (rm : Nat) (ud : Nat) (nu : Nat) (sd : Int64) (qn : Nat) (qw : Nat) (qo : Int32) (qb : Nat) (qp : Nat) (qa : Int64) (qi : Nat) (oc : Nat) (lo : Nat) (hi : Nat) (tb : Nat → Nat) (og : Except Err Cur) (hpa : pa ≤ pe) (hpe : pe ≤ 1600) (hpb : pb ≤ 5) (hlo : lo ≤ 9999) (hhi : hi ≤ 9999) (hO : moO tb pe og pa pd pb pp) (htb : ∀ j, tb j ≤ 255) : skM l yX12_number cX12_number 5 (some .int) 1 25 0 0 D (skT cI cJ cC cZ cS) [.ref mm, .int (nI lo), .int (nI hi)] [ro_ mm 12 (mo g (nI ta) (nI pa) (nI pe) pd (nI pb) pp pf pg pn rt rn (nI cd) sn (nI il) tk am at_ aa 0 0 (-1) wt wy 0 (nI rm) (nI ud) (nI nu) sd (nI qn) (nI qw) qo (nI qb) (nI qp) qa (nI qi) (nI oc)), ra_N (g 0) cI 1600 tb] (skI D (skT cI cJ cC cZ cS) (fun (r : Int32) (u : va_W) => ∃ (nv : Nat), ∃ (pa2 : Nat), ∃ (pd2 : Int32), ∃ (pb2 : Nat), ∃ (pp2 : Int32), ∃ (pn2 : Int32), pa ≤ pa2 ∧ pa2 ≤ pe ∧ pb2 ≤ 5 ∧ (¬ pb2 = 0 ∨ (pb = 0 ∧ pa + 1 ≤ pa2 ∧ lo ≤ nv ∧ nv ≤ hi)) ∧ nv ≤ 9999 ∧ moO tb pe (bindR og (nmF tb pe lo hi)) pa2 pd2 pb2 pp2 ∧ nvO tb pe lo hi og nv ∧ (pb2 = 0 → pn2 = nI (sk tb pe pa)) ∧ r = nI nv ∧ u = [ro_ mm 12 (mo g (nI ta) (nI pa2) (nI pe) pd2 (nI pb2) pp2 pf pg pn2 rt rn (nI cd) sn (nI il) tk am at_ aa 0 0 (-1) wt wy 0 (nI rm) (nI ud) (nI nu) sd (nI qn) (nI qw) qo (nI qb) (nI qp) qa (nI qi) (nI oc)), ra_N (g 0) cI 1600 tb])) := by
  refine skM_of pf_X12_number (Nat.le_of_ble_eq_true rfl) ?_
  intro p e s m below meth c A ls E hP hD hl
  refine skE_el E (fun hx hb hr hml hlocks hin hown hts hK hA => ?_)
  have hown : s.vm.findClass RX12 = some m.cls := hown
  have hS : va_S A s.heap s.heap [] := va_S.rf
  have hl : lv_has ls 5 [(0, .ref mm), (1, .int (nI lo)), (2, .int (nI hi))] := hl
  refine lv_aload_n hx hb dX12_number_0 rfl (lv_at hl 0 rfl) ?_
  refine sk_get (v := .int (nI pb)) (C := RX12) (T := TX12) (N := 92) hx hb hts inlX12 hown hK hP 0 rfl rfl 5 (Nat.le_of_ble_eq_true rfl) w_5_160 rfl dX12_number_1 ?_
  refine lv_if_eq (tgt := 9) hx hb dX12_number_4 (by decide) (fun c_1 => ?_) (fun c_1 => ?_)
  · have c_1 : pb = 0 := (neq pb 0 (by omega) (Nat.le_of_ble_eq_true rfl)).mp c_1
    refine lv_aload_n hx hb dX12_number_9 rfl (lv_at hl 0 rfl) ?_
    refine sk_Vi (q0 := 0) (n := 0) (rest := []) (wr := fmR om_2_3 _) ⟨hx, hb, hml, hown, hts⟩ hl.1 (c_em_look l D cI cJ cC cZ cS mm g ta pa pe pd pb pp pf pg pn rt rn cd sn il tk am at_ aa wt wy rm ud nu sd qn qw qo qb qp qa qi oc tb hpa hpe htb) w_6_222 w_6_224 w_0_45 w_1_14 w_6_225 hd_X12_look_0 ⟨⟨(Nat.le_of_ble_eq_true rfl), (Nat.le_of_ble_eq_true rfl)⟩, (Nat.le_of_ble_eq_true rfl), (Nat.le_of_ble_eq_true rfl)⟩ hK hP hD hS hA (fmT om_2_3 0) (fmF om_2_3 0) (fm_C1 rfl rfl) (fm_R rfl rfl) (fm_nT om_2_3 0) (fm_nF om_2_3 0) (fm_di om_2_3 0) rfl rfl rfl rfl (Nat.le_of_ble_eq_true rfl) dX12_number_10 (fun r_3 u H locs hw hP hD hS => ?_)
    refine exE hw (fun pa2_2 hw1 => anE hw1 (fun hpa2_4 hw2 => anE hw2 (fun hpa3_5 hw3 => anE hw3 (fun hlk_6 hw4 => anE hw4 (fun hst_7 hw5 => anE hw5 (fun hsk_8 eu_9 => ?_))))))
    clear hw hw1 hw2 hw3 hw4 hw5
    refine o_mgE (ws' := [ro_ mm 12 (mo g (nI ta) (nI pa2_2) (nI pe) pd (nI pb) pp pf pg pn rt rn (nI cd) sn (nI il) tk am at_ aa 0 0 (-1) wt wy 0 (nI rm) (nI ud) (nI nu) sd (nI qn) (nI qw) qo (nI qb) (nI qp) qa (nI qi) (nI oc)), ra_N (g 0) cI 1600 tb]) eu_9 hP hD rfl (fun hP hD => ?_)
    refine sk_Si (n := 1) (rest := []) (wr := [ro_ mm 12 (mo g (nI ta) (nI pa2_2) (nI pe) pd (nI pb) pp pf pg pn rt rn (nI cd) sn (nI il) tk am at_ aa 0 0 (-1) wt wy 0 (nI rm) (nI ud) (nI nu) sd (nI qn) (nI qw) qo (nI qb) (nI qp) qa (nI qi) (nI oc)), ra_N (g 0) cI 1600 tb]) ⟨hx, hb, hml, hown, hts⟩ hl.1 (c_em_isDigitX l D cI cJ cC cZ cS r_3) w_6_237 w_6_238 w_1_14 w_6_239 hd_X12_isDigit_1 ⟨⟨(Nat.le_of_ble_eq_true rfl), (Nat.le_of_ble_eq_true rfl)⟩, (Nat.le_of_ble_eq_true rfl), (Nat.le_of_ble_eq_true rfl)⟩ hK hP hD hS hA [] [0, 1] rfl rfl (by decide +kernel) (by decide +kernel) (by decide +kernel) rfl rfl (Nat.le_of_ble_eq_true rfl) dX12_number_13 (fun r_11 u H locs hw hP hD hS => ?_)
    obtain ⟨b_10, hb1_12, rfl, rfl⟩ := hw
    refine o_re (ws' := [ro_ mm 12 (mo g (nI ta) (nI pa2_2) (nI pe) pd (nI pb) pp pf pg pn rt rn (nI cd) sn (nI il) tk am at_ aa 0 0 (-1) wt wy 0 (nI rm) (nI ud) (nI nu) sd (nI qn) (nI qw) qo (nI qb) (nI qp) qa (nI qi) (nI oc)), ra_N (g 0) cI 1600 tb]) hP hD rfl (fun hP hD => ?_)
    refine lv_if_eq (tgt := 30) hx hb dX12_number_16 (by decide) (fun c_13 => ?_) (fun c_13 => ?_)
    · have c_13 : b_10 = 0 := (neq b_10 0 (by omega) (Nat.le_of_ble_eq_true rfl)).mp c_13
      refine lv_aload_n hx hb dX12_number_30 rfl (lv_at hl 0 rfl) ?_
      refine lv_iconst (v := 1) hx hb dX12_number_31 ic_1 ?_
      refine lv_aload_n hx hb dX12_number_32 rfl (lv_at hl 0 rfl) ?_
      refine sk_get (v := .int (nI pa2_2)) (C := RX12) (T := TX12) (N := 92) hx hb hts inlX12 hown hK hP 0 rfl rfl 2 (Nat.le_of_ble_eq_true rfl) w_5_157 rfl dX12_number_33 ?_
      refine sk_Vv (q0 := 0) (n := 2) (rest := []) (wr := fmR om_2_2 _) ⟨hx, hb, hml, hown, hts⟩ hl.1 (c_em_fail l D cI cJ cC cZ cS mm g ta pa2_2 pe pd pb pp pf pg pn rt rn cd sn il tk am at_ aa wt wy rm ud nu sd qn qw qo qb qp qa qi oc 1 (nI pa2_2) hpb (by omega) (by omega)) w_6_229 w_6_231 w_0_46 w_1_14 w_6_232 hd_X12_fail_2 ⟨⟨(Nat.le_of_ble_eq_true rfl), (Nat.le_of_ble_eq_true rfl)⟩, (Nat.le_of_ble_eq_true rfl), (Nat.le_of_ble_eq_true rfl)⟩ hK hP hD hS hA (fmT om_2_2 0) (fmF om_2_2 0) (fm_C1 rfl rfl) (fm_R rfl rfl) (fm_nT om_2_2 0) (fm_nF om_2_2 0) (fm_di om_2_2 0) rfl rfl rfl rfl (Nat.le_of_ble_eq_true rfl) dX12_number_36 (fun u H locs hw hP hD hS => ?_)
      refine exE hw (fun pb2_14 hw1 => exE hw1 (fun pp2_15 hw2 => anE hw2 (fun hpb2_16 hw3 => anE hw3 (fun hpb3_17 hw4 => anE hw4 (fun hfl_18 eu_19 => ?_)))))
      clear hw hw1 hw2 hw3 hw4
      refine o_mgE (ws' := [ro_ mm 12 (mo g (nI ta) (nI pa2_2) (nI pe) pd (nI pb2_14) pp2_15 pf pg pn rt rn (nI cd) sn (nI il) tk am at_ aa 0 0 (-1) wt wy 0 (nI rm) (nI ud) (nI nu) sd (nI qn) (nI qw) qo (nI qb) (nI qp) qa (nI qi) (nI oc)), ra_N (g 0) cI 1600 tb]) eu_19 hP hD rfl (fun hP hD => ?_)
      refine lv_iconst (v := 0) hx hb dX12_number_39 ic_0 ?_
      exact sk_iret hx hb hr rfl hlocks hK hP hD hS (⟨0, pa2_2, pd, pb2_14, pp2_15, pn, hpa2_4, hpa3_5, hpb2_16, by omega, by omega, (by have hf := (hfl_18.resolve_right (fun z => z.1 (by omega))).2; rw [hf.1, hf.2, hsk_8]; exact mo_fail hO (by omega) (by decide) (by decide) (nm_no (lo := lo) (hi := hi) (fun hq => rr_0 hb1_12 (by omega) ((lk_D htb hlk_6).mpr (by rw [hsk_8]; exact ⟨hq.1, hq.2.1⟩))))), nv_bad hO (by omega) (nm_no (lo := lo) (hi := hi) (fun hq => rr_0 hb1_12 (by omega) ((lk_D htb hlk_6).mpr (by rw [hsk_8]; exact ⟨hq.1, hq.2.1⟩)))), (fun hq => absurd hq (by omega)), rfl, rfl⟩) (Nat.le_of_ble_eq_true rfl) (Nat.le_of_ble_eq_true rfl) dX12_number_40
    · have c_13 : ¬ (b_10 = 0) := fun h => c_13 ((neq b_10 0 (by omega) (Nat.le_of_ble_eq_true rfl)).mpr h)
      have hdq := (lk_D htb hlk_6).mp (rr_1 hb1_12 (by omega))
      have hdg := qD_t.mp hdq.2
      refine lv_aload_n hx hb dX12_number_19 rfl (lv_at hl 0 rfl) ?_
      refine sk_get (v := .int (nI pa2_2)) (C := RX12) (T := TX12) (N := 92) hx hb hts inlX12 hown hK hP 0 rfl rfl 2 (Nat.le_of_ble_eq_true rfl) w_5_157 rfl dX12_number_20 ?_
      refine lv_aload_n hx hb dX12_number_23 rfl (lv_at hl 0 rfl) ?_
      refine sk_get (v := .int pd) (C := RX12) (T := TX12) (N := 92) hx hb hts inlX12 hown hK hP 0 rfl rfl 4 (Nat.le_of_ble_eq_true rfl) w_5_159 rfl dX12_number_24 ?_
      refine lv_icmp_ne (tgt := 41) hx hb dX12_number_27 (by decide) (fun c_20 => ?_) (fun c_20 => ?_)
      · have hcN : (cuO tb pe pa pd).1 < pe ∧ qD (tb (cuO tb pe pa pd).1) = true ∧ (cuO tb pe pa pd).2 = false := ⟨by show sk tb pe pa < pe; rw [← hsk_8]; exact hdq.1, by show qD (tb (sk tb pe pa)) = true; rw [← hsk_8]; exact hdq.2, cu_f (by rw [← hsk_8]; exact fun hq => c_20 hq.symm)⟩
        refine lv_aload_n hx hb dX12_number_41 rfl (lv_at hl 0 rfl) ?_
        refine sk_get (v := .int (nI pa2_2)) (C := RX12) (T := TX12) (N := 92) hx hb hts inlX12 hown hK hP 0 rfl rfl 2 (Nat.le_of_ble_eq_true rfl) w_5_157 rfl dX12_number_42 ?_
        refine lv_istore_n (lv' := [(3, .int (nI pa2_2)), (0, .ref mm), (1, .int (nI lo)), (2, .int (nI hi))]) hx hb dX12_number_45 rfl hl (by decide) rfl (fun ls hl => ?_)
        refine lv_iconst (v := 0) hx hb dX12_number_46 ic_0 ?_
        refine lv_istore (lv' := [(4, .int 0), (3, .int (nI pa2_2)), (0, .ref mm), (1, .int (nI lo)), (2, .int (nI hi))]) hx hb dX12_number_47 hl (by decide) rfl (fun ls hl => ?_)
        have lp_21 : ∀ (n_22 : Nat) (v : Nat) (za : Nat) (H : Heap) (locs : List Loc) (ls : Array Slot), pe - za < n_22 → (pa2_2 ≤ za) → (za ≤ pe) → ((za = pa2_2 + 0 ∧ v ≤ 0) ∨ (za = pa2_2 + 1 ∧ v ≤ 9) ∨ (za = pa2_2 + 2 ∧ v ≤ 99) ∨ (za = pa2_2 + 3 ∧ v ≤ 999) ∨ (za = pa2_2 + 4 ∧ v ≤ 9999)) → (ext qD tb pe za = ext qD tb pe pa2_2) → (v = vd tb pa2_2 (za - pa2_2)) → va_P D vwCl [ro_ mm 12 (mo g (nI ta) (nI za) (nI pe) pd (nI pb) pp pf pg pn rt rn (nI cd) sn (nI il) tk am at_ aa 0 0 (-1) wt wy 0 (nI rm) (nI ud) (nI nu) sd (nI qn) (nI qw) qo (nI qb) (nI qp) qa (nI qi) (nI oc)), ra_N (g 0) cI 1600 tb] H → va_D A [ro_ mm 12 (mo g (nI ta) (nI za) (nI pe) pd (nI pb) pp pf pg pn rt rn (nI cd) sn (nI il) tk am at_ aa 0 0 (-1) wt wy 0 (nI rm) (nI ud) (nI nu) sd (nI qn) (nI qw) qo (nI qb) (nI qp) qa (nI qi) (nI oc)), ra_N (g 0) cI 1600 tb] → va_S A s.heap H locs → lv_has ls 5 [(4, .int (nI v)), (3, .int (nI pa2_2)), (0, .ref mm), (1, .int (nI lo)), (2, .int (nI hi))] → W p l e { frames := 1, cells := 0, slots := 0, locals := 25 } s m ([.ref mm, .int (nI lo), .int (nI hi)] : List Value).toArray below meth c H locs 0 0 (MQ below (skI D (skT cI cJ cC cZ cS) (fun (r : Int32) (u : va_W) => ∃ (nv : Nat), ∃ (pa2 : Nat), ∃ (pd2 : Int32), ∃ (pb2 : Nat), ∃ (pp2 : Int32), ∃ (pn2 : Int32), pa ≤ pa2 ∧ pa2 ≤ pe ∧ pb2 ≤ 5 ∧ (¬ pb2 = 0 ∨ (pb = 0 ∧ pa + 1 ≤ pa2 ∧ lo ≤ nv ∧ nv ≤ hi)) ∧ nv ≤ 9999 ∧ moO tb pe (bindR og (nmF tb pe lo hi)) pa2 pd2 pb2 pp2 ∧ nvO tb pe lo hi og nv ∧ (pb2 = 0 → pn2 = nI (sk tb pe pa)) ∧ r = nI nv ∧ u = [ro_ mm 12 (mo g (nI ta) (nI pa2) (nI pe) pd2 (nI pb2) pp2 pf pg pn2 rt rn (nI cd) sn (nI il) tk am at_ aa 0 0 (-1) wt wy 0 (nI rm) (nI ud) (nI nu) sd (nI qn) (nI qw) qo (nI qb) (nI qp) qa (nI qi) (nI oc)), ra_N (g 0) cI 1600 tb]) A) ([.ref mm, .int (nI lo), .int (nI hi)] : List Value).toArray s 0 0 A) (F0 m 49 ls []) := by
          intro n_22
          induction n_22 with
          | zero => intro v za H locs ls hm; exact absurd hm (Nat.not_lt_zero _)
          | succ n_22 ih_lp_21 =>
            intro v za H locs ls hm hza1 hza2 hv hze hvd hP hD hS hl
            refine lv_aload_n hx hb dX12_number_49 rfl (lv_at hl 2 rfl) ?_
            refine sk_get (v := .int (nI za)) (C := RX12) (T := TX12) (N := 92) hx hb hts inlX12 hown hK hP 0 rfl rfl 2 (Nat.le_of_ble_eq_true rfl) w_5_157 rfl dX12_number_50 ?_
            refine lv_aload_n hx hb dX12_number_53 rfl (lv_at hl 2 rfl) ?_
            refine sk_get (v := .int (nI pe)) (C := RX12) (T := TX12) (N := 92) hx hb hts inlX12 hown hK hP 0 rfl rfl 3 (Nat.le_of_ble_eq_true rfl) w_5_158 rfl dX12_number_54 ?_
            refine lv_icmp_ge (tgt := 129) hx hb dX12_number_57 (by decide) (fun c_23 => ?_) (fun c_23 => ?_)
            · have c_23 : pe ≤ za := (nle pe za (by omega) (by omega)).mp c_23
              have hzx : za = ext qD tb pe (sk tb pe pa) := by rw [← hsk_8]; exact ext_fin hze (by omega)
              refine lv_aload_n hx hb dX12_number_129 rfl (lv_at hl 2 rfl) ?_
              refine lv_aload_n hx hb dX12_number_130 rfl (lv_at hl 2 rfl) ?_
              refine sk_get (v := .int (nI za)) (C := RX12) (T := TX12) (N := 92) hx hb hts inlX12 hown hK hP 0 rfl rfl 2 (Nat.le_of_ble_eq_true rfl) w_5_157 rfl dX12_number_131 ?_
              refine sk_put (ws' := [ro_ mm 12 (mo g (nI ta) (nI za) (nI pe) (nI za) (nI pb) pp pf pg pn rt rn (nI cd) sn (nI il) tk am at_ aa 0 0 (-1) wt wy 0 (nI rm) (nI ud) (nI nu) sd (nI qn) (nI qw) qo (nI qb) (nI qp) qa (nI qi) (nI oc)), ra_N (g 0) cI 1600 tb]) (C := RX12) (T := TX12) (N := 92) (v := .int (nI za)) hx hb hts inlX12 tyX12 tyX12_ok nmX12 hown hK hP hD hS 0 rfl rfl 4 (Nat.le_of_ble_eq_true rfl) w_5_159 rfl rfl rfl (Nat.le_of_ble_eq_true rfl) rfl dX12_number_134 (fun H locs hP hD hS => ?_)
              refine lv_aload_n hx hb dX12_number_137 rfl (lv_at hl 2 rfl) ?_
              refine lv_iload_n hx hb dX12_number_138 rfl (lv_at hl 1 rfl) ?_
              refine sk_put (ws' := [ro_ mm 12 (mo g (nI ta) (nI za) (nI pe) (nI za) (nI pb) pp pf pg (nI pa2_2) rt rn (nI cd) sn (nI il) tk am at_ aa 0 0 (-1) wt wy 0 (nI rm) (nI ud) (nI nu) sd (nI qn) (nI qw) qo (nI qb) (nI qp) qa (nI qi) (nI oc)), ra_N (g 0) cI 1600 tb]) (C := RX12) (T := TX12) (N := 92) (v := .int (nI pa2_2)) hx hb hts inlX12 tyX12 tyX12_ok nmX12 hown hK hP hD hS 0 rfl rfl 10 (Nat.le_of_ble_eq_true rfl) w_5_165 rfl rfl rfl (Nat.le_of_ble_eq_true rfl) rfl dX12_number_139 (fun H locs hP hD hS => ?_)
              refine lv_iload hx hb dX12_number_142 (lv_at hl 0 rfl) ?_
              refine lv_i2l hx hb dX12_number_144 rfl ?_
              refine lv_iload_n hx hb dX12_number_145 rfl (lv_at hl 3 rfl) ?_
              refine lv_i2l hx hb dX12_number_146 rfl ?_
              refine lv_iload_n hx hb dX12_number_147 rfl (lv_at hl 4 rfl) ?_
              refine lv_i2l hx hb dX12_number_148 rfl ?_
              refine sk_Si (n := 3) (rest := []) (wr := [ro_ mm 12 (mo g (nI ta) (nI za) (nI pe) (nI za) (nI pb) pp pf pg (nI pa2_2) rt rn (nI cd) sn (nI il) tk am at_ aa 0 0 (-1) wt wy 0 (nI rm) (nI ud) (nI nu) sd (nI qn) (nI qw) qo (nI qb) (nI qp) qa (nI qi) (nI oc)), ra_N (g 0) cI 1600 tb]) ⟨hx, hb, hml, hown, hts⟩ hl.1 (c_em_isInY l D cI cJ cC cZ cS (Int32.toInt64 (nI v)) (Int32.toInt64 (nI lo)) (Int32.toInt64 (nI hi))) w_7_0 w_7_1 w_1_14 w_7_2 hd_X12_isIn_3 ⟨⟨(Nat.le_of_ble_eq_true rfl), (Nat.le_of_ble_eq_true rfl)⟩, (Nat.le_of_ble_eq_true rfl), (Nat.le_of_ble_eq_true rfl)⟩ hK hP hD hS hA [] [0, 1] rfl rfl (by decide +kernel) (by decide +kernel) (by decide +kernel) rfl rfl (Nat.le_of_ble_eq_true rfl) dX12_number_149 (fun r_25 u H locs hw hP hD hS => ?_)
              obtain ⟨b_24, hb1_26, rfl, rfl⟩ := hw
              refine o_re (ws' := [ro_ mm 12 (mo g (nI ta) (nI za) (nI pe) (nI za) (nI pb) pp pf pg (nI pa2_2) rt rn (nI cd) sn (nI il) tk am at_ aa 0 0 (-1) wt wy 0 (nI rm) (nI ud) (nI nu) sd (nI qn) (nI qw) qo (nI qb) (nI qp) qa (nI qi) (nI oc)), ra_N (g 0) cI 1600 tb]) hP hD rfl (fun hP hD => ?_)
              refine lv_if_ne (tgt := 161) hx hb dX12_number_152 (by decide) (fun c_27 => ?_) (fun c_27 => ?_)
              · have c_27 : ¬ (b_24 = 0) := fun h => c_27 ((neq b_24 0 (by omega) (Nat.le_of_ble_eq_true rfl)).mpr h)
                have hr_ := (hb1_26.resolve_left (fun hq => absurd hq.1 (by omega))).2
                have hlo2 := i2l_le (by omega) (by omega) hr_.1
                have hhi2 := i2l_le (by omega) (by omega) hr_.2
                refine lv_iload hx hb dX12_number_161 (lv_at hl 0 rfl) ?_
                exact sk_iret hx hb hr rfl hlocks hK hP hD hS (⟨v, za, nI za, pb, pp, nI pa2_2, by omega, hza2, hpb, by omega, by omega, (mo_nxW hO (by omega) hpe (by rw [te_n (tb := tb) (n := pe) (z := sk tb pe pa) (qLD hcN.2.1) hcN.2.1]; exact hzx) (by rw [show qD (tb (sk tb pe pa)) = true from hcN.2.1, Bool.or_true]) hcN.1 (nm_okF (nm_ok hcN (show ¬ 4 < ext qD tb pe (sk tb pe pa) - sk tb pe pa by rw [← hzx, ← hsk_8]; omega) (show v = vd tb (sk tb pe pa) (ext qD tb pe (sk tb pe pa) - sk tb pe pa) by rw [← hzx, ← hsk_8]; exact hvd) ⟨by omega, by omega⟩))), nv_of hO (by omega) (nm_ok hcN (show ¬ 4 < ext qD tb pe (sk tb pe pa) - sk tb pe pa by rw [← hzx, ← hsk_8]; omega) (show v = vd tb (sk tb pe pa) (ext qD tb pe (sk tb pe pa) - sk tb pe pa) by rw [← hzx, ← hsk_8]; exact hvd) ⟨by omega, by omega⟩), (fun _ => by rw [← hsk_8]), rfl, rfl⟩) (Nat.le_of_ble_eq_true rfl) (Nat.le_of_ble_eq_true rfl) dX12_number_163
              · have c_27 : b_24 = 0 := (neq b_24 0 (by omega) (Nat.le_of_ble_eq_true rfl)).mp c_27
                have hr_ : ¬ (lo ≤ v ∧ v ≤ hi) := fun hq => (rr_0 hb1_26 (by omega)) ⟨i2l_ge (by omega) (by omega) hq.1, i2l_ge (by omega) (by omega) hq.2⟩
                refine lv_aload_n hx hb dX12_number_155 rfl (lv_at hl 2 rfl) ?_
                refine lv_iconst (v := 2) hx hb dX12_number_156 ic_2 ?_
                refine lv_iload_n hx hb dX12_number_157 rfl (lv_at hl 1 rfl) ?_
                refine sk_Vv (q0 := 0) (n := 2) (rest := []) (wr := fmR om_2_2 _) ⟨hx, hb, hml, hown, hts⟩ hl.1 (c_em_fail l D cI cJ cC cZ cS mm g ta za pe (nI za) pb pp pf pg (nI pa2_2) rt rn cd sn il tk am at_ aa wt wy rm ud nu sd qn qw qo qb qp qa qi oc 2 (nI pa2_2) hpb (by omega) (by omega)) w_6_229 w_6_231 w_0_46 w_1_14 w_6_232 hd_X12_fail_2 ⟨⟨(Nat.le_of_ble_eq_true rfl), (Nat.le_of_ble_eq_true rfl)⟩, (Nat.le_of_ble_eq_true rfl), (Nat.le_of_ble_eq_true rfl)⟩ hK hP hD hS hA (fmT om_2_2 0) (fmF om_2_2 0) (fm_C1 rfl rfl) (fm_R rfl rfl) (fm_nT om_2_2 0) (fm_nF om_2_2 0) (fm_di om_2_2 0) rfl rfl rfl rfl (Nat.le_of_ble_eq_true rfl) dX12_number_158 (fun u H locs hw hP hD hS => ?_)
                refine exE hw (fun pb2_28 hw1 => exE hw1 (fun pp2_29 hw2 => anE hw2 (fun hpb2_30 hw3 => anE hw3 (fun hpb3_31 hw4 => anE hw4 (fun hfl_32 eu_33 => ?_)))))
                clear hw hw1 hw2 hw3 hw4
                refine o_mgE (ws' := [ro_ mm 12 (mo g (nI ta) (nI za) (nI pe) (nI za) (nI pb2_28) pp2_29 pf pg (nI pa2_2) rt rn (nI cd) sn (nI il) tk am at_ aa 0 0 (-1) wt wy 0 (nI rm) (nI ud) (nI nu) sd (nI qn) (nI qw) qo (nI qb) (nI qp) qa (nI qi) (nI oc)), ra_N (g 0) cI 1600 tb]) eu_33 hP hD rfl (fun hP hD => ?_)
                refine lv_iload hx hb dX12_number_161 (lv_at hl 0 rfl) ?_
                exact sk_iret hx hb hr rfl hlocks hK hP hD hS (⟨v, za, nI za, pb2_28, pp2_29, nI pa2_2, by omega, hza2, hpb2_30, by omega, by omega, (by have hf := (hfl_32.resolve_right (fun z => z.1 (by omega))).2; rw [hf.1, hf.2, hsk_8]; exact mo_fail hO (by omega) (by decide) (by decide) (nm_out hcN (show ¬ 4 < ext qD tb pe (sk tb pe pa) - sk tb pe pa by rw [← hzx, ← hsk_8]; omega) (show v = vd tb (sk tb pe pa) (ext qD tb pe (sk tb pe pa) - sk tb pe pa) by rw [← hzx, ← hsk_8]; exact hvd) hr_)), nv_bad hO (by omega) (nm_out hcN (show ¬ 4 < ext qD tb pe (sk tb pe pa) - sk tb pe pa by rw [← hzx, ← hsk_8]; omega) (show v = vd tb (sk tb pe pa) (ext qD tb pe (sk tb pe pa) - sk tb pe pa) by rw [← hzx, ← hsk_8]; exact hvd) hr_), (fun hq => absurd hq (by omega)), rfl, rfl⟩) (Nat.le_of_ble_eq_true rfl) (Nat.le_of_ble_eq_true rfl) dX12_number_163
            · have c_23 : ¬ (pe ≤ za) := fun h => c_23 ((nle pe za (by omega) (by omega)).mpr h)
              refine lv_aload_n hx hb dX12_number_60 rfl (lv_at hl 2 rfl) ?_
              refine sk_get (v := .ref (g 0)) (C := RX12) (T := TX12) (N := 92) hx hb hts inlX12 hown hK hP 0 rfl rfl 0 (Nat.le_of_ble_eq_true rfl) w_5_155 rfl dX12_number_61 ?_
              refine lv_aload_n hx hb dX12_number_64 rfl (lv_at hl 2 rfl) ?_
              refine sk_get (v := .int (nI za)) (C := RX12) (T := TX12) (N := 92) hx hb hts inlX12 hown hK hP 0 rfl rfl 2 (Nat.le_of_ble_eq_true rfl) w_5_157 rfl dX12_number_65 ?_
              refine va_iald hx hb hK.1 hP 1 0 rfl rfl (vin za 1600 (by omega) (Nat.le_of_ble_eq_true rfl)) dX12_number_68 ?_
              refine sk_top (nI (tb za)) (nrd tb za (by omega)) ?_
              have hb_34 := htb za
              refine sk_Si (n := 1) (rest := []) (wr := [ro_ mm 12 (mo g (nI ta) (nI za) (nI pe) pd (nI pb) pp pf pg pn rt rn (nI cd) sn (nI il) tk am at_ aa 0 0 (-1) wt wy 0 (nI rm) (nI ud) (nI nu) sd (nI qn) (nI qw) qo (nI qb) (nI qp) qa (nI qi) (nI oc)), ra_N (g 0) cI 1600 tb]) ⟨hx, hb, hml, hown, hts⟩ hl.1 (c_em_isDigitN l D cI cJ cC cZ cS (tb za) (by omega)) w_6_237 w_6_238 w_1_14 w_6_239 hd_X12_isDigit_1 ⟨⟨(Nat.le_of_ble_eq_true rfl), (Nat.le_of_ble_eq_true rfl)⟩, (Nat.le_of_ble_eq_true rfl), (Nat.le_of_ble_eq_true rfl)⟩ hK hP hD hS hA [] [0, 1] rfl rfl (by decide +kernel) (by decide +kernel) (by decide +kernel) rfl rfl (Nat.le_of_ble_eq_true rfl) dX12_number_69 (fun r_36 u H locs hw hP hD hS => ?_)
              obtain ⟨b_35, hb1_37, rfl, rfl⟩ := hw
              refine o_re (ws' := [ro_ mm 12 (mo g (nI ta) (nI za) (nI pe) pd (nI pb) pp pf pg pn rt rn (nI cd) sn (nI il) tk am at_ aa 0 0 (-1) wt wy 0 (nI rm) (nI ud) (nI nu) sd (nI qn) (nI qw) qo (nI qb) (nI qp) qa (nI qi) (nI oc)), ra_N (g 0) cI 1600 tb]) hP hD rfl (fun hP hD => ?_)
              refine lv_if_eq (tgt := 129) hx hb dX12_number_72 (by decide) (fun c_38 => ?_) (fun c_38 => ?_)
              · have c_38 : b_35 = 0 := (neq b_35 0 (by omega) (Nat.le_of_ble_eq_true rfl)).mp c_38
                have hne : ¬ za = pa2_2 := fun q => absurd hdg (by rw [← q]; omega)
                have hzx : za = ext qD tb pe (sk tb pe pa) := by rw [← hsk_8]; exact ext_fin hze (by rw [qD_t]; omega)
                refine lv_aload_n hx hb dX12_number_129 rfl (lv_at hl 2 rfl) ?_
                refine lv_aload_n hx hb dX12_number_130 rfl (lv_at hl 2 rfl) ?_
                refine sk_get (v := .int (nI za)) (C := RX12) (T := TX12) (N := 92) hx hb hts inlX12 hown hK hP 0 rfl rfl 2 (Nat.le_of_ble_eq_true rfl) w_5_157 rfl dX12_number_131 ?_
                refine sk_put (ws' := [ro_ mm 12 (mo g (nI ta) (nI za) (nI pe) (nI za) (nI pb) pp pf pg pn rt rn (nI cd) sn (nI il) tk am at_ aa 0 0 (-1) wt wy 0 (nI rm) (nI ud) (nI nu) sd (nI qn) (nI qw) qo (nI qb) (nI qp) qa (nI qi) (nI oc)), ra_N (g 0) cI 1600 tb]) (C := RX12) (T := TX12) (N := 92) (v := .int (nI za)) hx hb hts inlX12 tyX12 tyX12_ok nmX12 hown hK hP hD hS 0 rfl rfl 4 (Nat.le_of_ble_eq_true rfl) w_5_159 rfl rfl rfl (Nat.le_of_ble_eq_true rfl) rfl dX12_number_134 (fun H locs hP hD hS => ?_)
                refine lv_aload_n hx hb dX12_number_137 rfl (lv_at hl 2 rfl) ?_
                refine lv_iload_n hx hb dX12_number_138 rfl (lv_at hl 1 rfl) ?_
                refine sk_put (ws' := [ro_ mm 12 (mo g (nI ta) (nI za) (nI pe) (nI za) (nI pb) pp pf pg (nI pa2_2) rt rn (nI cd) sn (nI il) tk am at_ aa 0 0 (-1) wt wy 0 (nI rm) (nI ud) (nI nu) sd (nI qn) (nI qw) qo (nI qb) (nI qp) qa (nI qi) (nI oc)), ra_N (g 0) cI 1600 tb]) (C := RX12) (T := TX12) (N := 92) (v := .int (nI pa2_2)) hx hb hts inlX12 tyX12 tyX12_ok nmX12 hown hK hP hD hS 0 rfl rfl 10 (Nat.le_of_ble_eq_true rfl) w_5_165 rfl rfl rfl (Nat.le_of_ble_eq_true rfl) rfl dX12_number_139 (fun H locs hP hD hS => ?_)
                refine lv_iload hx hb dX12_number_142 (lv_at hl 0 rfl) ?_
                refine lv_i2l hx hb dX12_number_144 rfl ?_
                refine lv_iload_n hx hb dX12_number_145 rfl (lv_at hl 3 rfl) ?_
                refine lv_i2l hx hb dX12_number_146 rfl ?_
                refine lv_iload_n hx hb dX12_number_147 rfl (lv_at hl 4 rfl) ?_
                refine lv_i2l hx hb dX12_number_148 rfl ?_
                refine sk_Si (n := 3) (rest := []) (wr := [ro_ mm 12 (mo g (nI ta) (nI za) (nI pe) (nI za) (nI pb) pp pf pg (nI pa2_2) rt rn (nI cd) sn (nI il) tk am at_ aa 0 0 (-1) wt wy 0 (nI rm) (nI ud) (nI nu) sd (nI qn) (nI qw) qo (nI qb) (nI qp) qa (nI qi) (nI oc)), ra_N (g 0) cI 1600 tb]) ⟨hx, hb, hml, hown, hts⟩ hl.1 (c_em_isInY l D cI cJ cC cZ cS (Int32.toInt64 (nI v)) (Int32.toInt64 (nI lo)) (Int32.toInt64 (nI hi))) w_7_0 w_7_1 w_1_14 w_7_2 hd_X12_isIn_3 ⟨⟨(Nat.le_of_ble_eq_true rfl), (Nat.le_of_ble_eq_true rfl)⟩, (Nat.le_of_ble_eq_true rfl), (Nat.le_of_ble_eq_true rfl)⟩ hK hP hD hS hA [] [0, 1] rfl rfl (by decide +kernel) (by decide +kernel) (by decide +kernel) rfl rfl (Nat.le_of_ble_eq_true rfl) dX12_number_149 (fun r_40 u H locs hw hP hD hS => ?_)
                obtain ⟨b_39, hb1_41, rfl, rfl⟩ := hw
                refine o_re (ws' := [ro_ mm 12 (mo g (nI ta) (nI za) (nI pe) (nI za) (nI pb) pp pf pg (nI pa2_2) rt rn (nI cd) sn (nI il) tk am at_ aa 0 0 (-1) wt wy 0 (nI rm) (nI ud) (nI nu) sd (nI qn) (nI qw) qo (nI qb) (nI qp) qa (nI qi) (nI oc)), ra_N (g 0) cI 1600 tb]) hP hD rfl (fun hP hD => ?_)
                refine lv_if_ne (tgt := 161) hx hb dX12_number_152 (by decide) (fun c_42 => ?_) (fun c_42 => ?_)
                · have c_42 : ¬ (b_39 = 0) := fun h => c_42 ((neq b_39 0 (by omega) (Nat.le_of_ble_eq_true rfl)).mpr h)
                  have hr_ := (hb1_41.resolve_left (fun hq => absurd hq.1 (by omega))).2
                  have hlo2 := i2l_le (by omega) (by omega) hr_.1
                  have hhi2 := i2l_le (by omega) (by omega) hr_.2
                  refine lv_iload hx hb dX12_number_161 (lv_at hl 0 rfl) ?_
                  exact sk_iret hx hb hr rfl hlocks hK hP hD hS (⟨v, za, nI za, pb, pp, nI pa2_2, by omega, hza2, hpb, by omega, by omega, (mo_nxW hO (by omega) hpe (by rw [te_n (tb := tb) (n := pe) (z := sk tb pe pa) (qLD hcN.2.1) hcN.2.1]; exact hzx) (by rw [show qD (tb (sk tb pe pa)) = true from hcN.2.1, Bool.or_true]) hcN.1 (nm_okF (nm_ok hcN (show ¬ 4 < ext qD tb pe (sk tb pe pa) - sk tb pe pa by rw [← hzx, ← hsk_8]; omega) (show v = vd tb (sk tb pe pa) (ext qD tb pe (sk tb pe pa) - sk tb pe pa) by rw [← hzx, ← hsk_8]; exact hvd) ⟨by omega, by omega⟩))), nv_of hO (by omega) (nm_ok hcN (show ¬ 4 < ext qD tb pe (sk tb pe pa) - sk tb pe pa by rw [← hzx, ← hsk_8]; omega) (show v = vd tb (sk tb pe pa) (ext qD tb pe (sk tb pe pa) - sk tb pe pa) by rw [← hzx, ← hsk_8]; exact hvd) ⟨by omega, by omega⟩), (fun _ => by rw [← hsk_8]), rfl, rfl⟩) (Nat.le_of_ble_eq_true rfl) (Nat.le_of_ble_eq_true rfl) dX12_number_163
                · have c_42 : b_39 = 0 := (neq b_39 0 (by omega) (Nat.le_of_ble_eq_true rfl)).mp c_42
                  have hr_ : ¬ (lo ≤ v ∧ v ≤ hi) := fun hq => (rr_0 hb1_41 (by omega)) ⟨i2l_ge (by omega) (by omega) hq.1, i2l_ge (by omega) (by omega) hq.2⟩
                  refine lv_aload_n hx hb dX12_number_155 rfl (lv_at hl 2 rfl) ?_
                  refine lv_iconst (v := 2) hx hb dX12_number_156 ic_2 ?_
                  refine lv_iload_n hx hb dX12_number_157 rfl (lv_at hl 1 rfl) ?_
                  refine sk_Vv (q0 := 0) (n := 2) (rest := []) (wr := fmR om_2_2 _) ⟨hx, hb, hml, hown, hts⟩ hl.1 (c_em_fail l D cI cJ cC cZ cS mm g ta za pe (nI za) pb pp pf pg (nI pa2_2) rt rn cd sn il tk am at_ aa wt wy rm ud nu sd qn qw qo qb qp qa qi oc 2 (nI pa2_2) hpb (by omega) (by omega)) w_6_229 w_6_231 w_0_46 w_1_14 w_6_232 hd_X12_fail_2 ⟨⟨(Nat.le_of_ble_eq_true rfl), (Nat.le_of_ble_eq_true rfl)⟩, (Nat.le_of_ble_eq_true rfl), (Nat.le_of_ble_eq_true rfl)⟩ hK hP hD hS hA (fmT om_2_2 0) (fmF om_2_2 0) (fm_C1 rfl rfl) (fm_R rfl rfl) (fm_nT om_2_2 0) (fm_nF om_2_2 0) (fm_di om_2_2 0) rfl rfl rfl rfl (Nat.le_of_ble_eq_true rfl) dX12_number_158 (fun u H locs hw hP hD hS => ?_)
                  refine exE hw (fun pb2_43 hw1 => exE hw1 (fun pp2_44 hw2 => anE hw2 (fun hpb2_45 hw3 => anE hw3 (fun hpb3_46 hw4 => anE hw4 (fun hfl_47 eu_48 => ?_)))))
                  clear hw hw1 hw2 hw3 hw4
                  refine o_mgE (ws' := [ro_ mm 12 (mo g (nI ta) (nI za) (nI pe) (nI za) (nI pb2_43) pp2_44 pf pg (nI pa2_2) rt rn (nI cd) sn (nI il) tk am at_ aa 0 0 (-1) wt wy 0 (nI rm) (nI ud) (nI nu) sd (nI qn) (nI qw) qo (nI qb) (nI qp) qa (nI qi) (nI oc)), ra_N (g 0) cI 1600 tb]) eu_48 hP hD rfl (fun hP hD => ?_)
                  refine lv_iload hx hb dX12_number_161 (lv_at hl 0 rfl) ?_
                  exact sk_iret hx hb hr rfl hlocks hK hP hD hS (⟨v, za, nI za, pb2_43, pp2_44, nI pa2_2, by omega, hza2, hpb2_45, by omega, by omega, (by have hf := (hfl_47.resolve_right (fun z => z.1 (by omega))).2; rw [hf.1, hf.2, hsk_8]; exact mo_fail hO (by omega) (by decide) (by decide) (nm_out hcN (show ¬ 4 < ext qD tb pe (sk tb pe pa) - sk tb pe pa by rw [← hzx, ← hsk_8]; omega) (show v = vd tb (sk tb pe pa) (ext qD tb pe (sk tb pe pa) - sk tb pe pa) by rw [← hzx, ← hsk_8]; exact hvd) hr_)), nv_bad hO (by omega) (nm_out hcN (show ¬ 4 < ext qD tb pe (sk tb pe pa) - sk tb pe pa by rw [← hzx, ← hsk_8]; omega) (show v = vd tb (sk tb pe pa) (ext qD tb pe (sk tb pe pa) - sk tb pe pa) by rw [← hzx, ← hsk_8]; exact hvd) hr_), (fun hq => absurd hq (by omega)), rfl, rfl⟩) (Nat.le_of_ble_eq_true rfl) (Nat.le_of_ble_eq_true rfl) dX12_number_163
              · have c_38 : ¬ (b_35 = 0) := fun h => c_38 ((neq b_35 0 (by omega) (Nat.le_of_ble_eq_true rfl)).mpr h)
                refine lv_aload_n hx hb dX12_number_75 rfl (lv_at hl 2 rfl) ?_
                refine sk_get (v := .int (nI za)) (C := RX12) (T := TX12) (N := 92) hx hb hts inlX12 hown hK hP 0 rfl rfl 2 (Nat.le_of_ble_eq_true rfl) w_5_157 rfl dX12_number_76 ?_
                refine lv_iload_n hx hb dX12_number_79 rfl (lv_at hl 1 rfl) ?_
                refine lv_isub hx hb dX12_number_80 ?_
                refine sk_top (nI (za - pa2_2)) (nsub za pa2_2 (by omega)) ?_
                refine lv_iconst (v := 4) hx hb dX12_number_81 ic_4 ?_
                refine lv_icmp_ne (tgt := 96) hx hb dX12_number_82 (by decide) (fun c_49 => ?_) (fun c_49 => ?_)
                · have c_49 : ¬ (za - pa2_2 = 4) := fun h => c_49 ((neq (za - pa2_2) 4 (by omega) (Nat.le_of_ble_eq_true rfl)).mpr h)
                  refine lv_bipush (v := 10) hx hb dX12_number_96 (by decide) ?_
                  refine lv_iload hx hb dX12_number_98 (lv_at hl 0 rfl) ?_
                  refine lv_imul hx hb dX12_number_100 ?_
                  refine sk_top (nI (10 * v)) (nmul 10 v) ?_
                  refine lv_aload_n hx hb dX12_number_101 rfl (lv_at hl 2 rfl) ?_
                  refine sk_get (v := .ref (g 0)) (C := RX12) (T := TX12) (N := 92) hx hb hts inlX12 hown hK hP 0 rfl rfl 0 (Nat.le_of_ble_eq_true rfl) w_5_155 rfl dX12_number_102 ?_
                  refine lv_aload_n hx hb dX12_number_105 rfl (lv_at hl 2 rfl) ?_
                  refine sk_get (v := .int (nI za)) (C := RX12) (T := TX12) (N := 92) hx hb hts inlX12 hown hK hP 0 rfl rfl 2 (Nat.le_of_ble_eq_true rfl) w_5_157 rfl dX12_number_106 ?_
                  refine va_iald hx hb hK.1 hP 1 0 rfl rfl (vin za 1600 (by omega) (Nat.le_of_ble_eq_true rfl)) dX12_number_109 ?_
                  refine sk_top (nI (tb za)) (nrd tb za (by omega)) ?_
                  have hb_50 := htb za
                  refine lv_iadd hx hb dX12_number_110 ?_
                  refine sk_top (nI (10 * v + (tb za))) (nI_add (10 * v) (tb za)) ?_
                  refine lv_bipush (v := 48) hx hb dX12_number_111 (by decide) ?_
                  refine lv_isub hx hb dX12_number_113 ?_
                  refine sk_top (nI (10 * v + (tb za) - 48)) (nsub (10 * v + (tb za)) 48 (by omega)) ?_
                  refine lv_istore (lv' := [(4, .int (nI (10 * v + (tb za) - 48))), (3, .int (nI pa2_2)), (0, .ref mm), (1, .int (nI lo)), (2, .int (nI hi))]) hx hb dX12_number_114 hl (by decide) rfl (fun ls hl => ?_)
                  refine lv_aload_n hx hb dX12_number_116 rfl (lv_at hl 2 rfl) ?_
                  refine lv_dup hx hb dX12_number_117 rfl ?_
                  refine sk_get (v := .int (nI za)) (C := RX12) (T := TX12) (N := 92) hx hb hts inlX12 hown hK hP 0 rfl rfl 2 (Nat.le_of_ble_eq_true rfl) w_5_157 rfl dX12_number_118 ?_
                  refine lv_iconst (v := 1) hx hb dX12_number_121 ic_1 ?_
                  refine lv_iadd hx hb dX12_number_122 ?_
                  refine sk_top (nI (za + 1)) (nI_add za 1) ?_
                  refine sk_put (ws' := [ro_ mm 12 (mo g (nI ta) (nI (za + 1)) (nI pe) pd (nI pb) pp pf pg pn rt rn (nI cd) sn (nI il) tk am at_ aa 0 0 (-1) wt wy 0 (nI rm) (nI ud) (nI nu) sd (nI qn) (nI qw) qo (nI qb) (nI qp) qa (nI qi) (nI oc)), ra_N (g 0) cI 1600 tb]) (C := RX12) (T := TX12) (N := 92) (v := .int (nI (za + 1))) hx hb hts inlX12 tyX12 tyX12_ok nmX12 hown hK hP hD hS 0 rfl rfl 2 (Nat.le_of_ble_eq_true rfl) w_5_157 rfl rfl rfl (Nat.le_of_ble_eq_true rfl) rfl dX12_number_123 (fun H locs hP hD hS => ?_)
                  refine lv_goto (tgt := 49) hx hb dX12_number_126 (by decide) ?_
                  exact ih_lp_21 (10 * v + (tb za) - 48) (za + 1) _ _ _ (by omega) (by omega) (by omega) (by omega) (ext_nxt hze (by omega) (qD_t.mpr (by omega))) (vd_s (by omega) hvd (by omega)) hP hD hS (lv_sub hl [0, 1, 2, 3, 4] rfl)
                · have c_49 : za - pa2_2 = 4 := (neq (za - pa2_2) 4 (by omega) (Nat.le_of_ble_eq_true rfl)).mp c_49
                  refine lv_aload_n hx hb dX12_number_85 rfl (lv_at hl 2 rfl) ?_
                  refine lv_iconst (v := 1) hx hb dX12_number_86 ic_1 ?_
                  refine lv_aload_n hx hb dX12_number_87 rfl (lv_at hl 2 rfl) ?_
                  refine sk_get (v := .int (nI za)) (C := RX12) (T := TX12) (N := 92) hx hb hts inlX12 hown hK hP 0 rfl rfl 2 (Nat.le_of_ble_eq_true rfl) w_5_157 rfl dX12_number_88 ?_
                  refine sk_Vv (q0 := 0) (n := 2) (rest := []) (wr := fmR om_2_2 _) ⟨hx, hb, hml, hown, hts⟩ hl.1 (c_em_fail l D cI cJ cC cZ cS mm g ta za pe pd pb pp pf pg pn rt rn cd sn il tk am at_ aa wt wy rm ud nu sd qn qw qo qb qp qa qi oc 1 (nI za) hpb (by omega) (by omega)) w_6_229 w_6_231 w_0_46 w_1_14 w_6_232 hd_X12_fail_2 ⟨⟨(Nat.le_of_ble_eq_true rfl), (Nat.le_of_ble_eq_true rfl)⟩, (Nat.le_of_ble_eq_true rfl), (Nat.le_of_ble_eq_true rfl)⟩ hK hP hD hS hA (fmT om_2_2 0) (fmF om_2_2 0) (fm_C1 rfl rfl) (fm_R rfl rfl) (fm_nT om_2_2 0) (fm_nF om_2_2 0) (fm_di om_2_2 0) rfl rfl rfl rfl (Nat.le_of_ble_eq_true rfl) dX12_number_91 (fun u H locs hw hP hD hS => ?_)
                  refine exE hw (fun pb2_51 hw1 => exE hw1 (fun pp2_52 hw2 => anE hw2 (fun hpb2_53 hw3 => anE hw3 (fun hpb3_54 hw4 => anE hw4 (fun hfl_55 eu_56 => ?_)))))
                  clear hw hw1 hw2 hw3 hw4
                  refine o_mgE (ws' := [ro_ mm 12 (mo g (nI ta) (nI za) (nI pe) pd (nI pb2_51) pp2_52 pf pg pn rt rn (nI cd) sn (nI il) tk am at_ aa 0 0 (-1) wt wy 0 (nI rm) (nI ud) (nI nu) sd (nI qn) (nI qw) qo (nI qb) (nI qp) qa (nI qi) (nI oc)), ra_N (g 0) cI 1600 tb]) eu_56 hP hD rfl (fun hP hD => ?_)
                  refine lv_iconst (v := 0) hx hb dX12_number_94 ic_0 ?_
                  exact sk_iret hx hb hr rfl hlocks hK hP hD hS (⟨0, za, pd, pb2_51, pp2_52, pn, by omega, hza2, hpb2_53, by omega, by omega, (by have hf := (hfl_55.resolve_right (fun z => z.1 (by omega))).2; rw [hf.1, hf.2, show za = sk tb pe pa + 4 by rw [← hsk_8]; omega]; exact mo_fail hO (by omega) (by decide) (by decide) (nm_many (lo := lo) (hi := hi) hcN (show 4 < ext qD tb pe (sk tb pe pa) - sk tb pe pa by have hgt := ext_gt (show za < pe by omega) (qD_t.mpr (show 48 ≤ tb za ∧ tb za ≤ 57 by omega)); rw [← hsk_8]; rw [hze] at hgt; omega))), nv_bad hO (by omega) (nm_many (lo := lo) (hi := hi) hcN (show 4 < ext qD tb pe (sk tb pe pa) - sk tb pe pa by have hgt := ext_gt (show za < pe by omega) (qD_t.mpr (show 48 ≤ tb za ∧ tb za ≤ 57 by omega)); rw [← hsk_8]; rw [hze] at hgt; omega)), (fun hq => absurd hq (by omega)), rfl, rfl⟩) (Nat.le_of_ble_eq_true rfl) (Nat.le_of_ble_eq_true rfl) dX12_number_95
        exact lp_21 (pe - pa2_2 + 1) 0 pa2_2 _ _ _ (Nat.lt_succ_self _) (by omega) hpa3_5 (by omega) rfl (by rw [Nat.sub_self]; rfl) hP hD hS (lv_sub hl [0, 1, 2, 3, 4] rfl)
      · skip
        refine lv_aload_n hx hb dX12_number_30 rfl (lv_at hl 0 rfl) ?_
        refine lv_iconst (v := 1) hx hb dX12_number_31 ic_1 ?_
        refine lv_aload_n hx hb dX12_number_32 rfl (lv_at hl 0 rfl) ?_
        refine sk_get (v := .int (nI pa2_2)) (C := RX12) (T := TX12) (N := 92) hx hb hts inlX12 hown hK hP 0 rfl rfl 2 (Nat.le_of_ble_eq_true rfl) w_5_157 rfl dX12_number_33 ?_
        refine sk_Vv (q0 := 0) (n := 2) (rest := []) (wr := fmR om_2_2 _) ⟨hx, hb, hml, hown, hts⟩ hl.1 (c_em_fail l D cI cJ cC cZ cS mm g ta pa2_2 pe pd pb pp pf pg pn rt rn cd sn il tk am at_ aa wt wy rm ud nu sd qn qw qo qb qp qa qi oc 1 (nI pa2_2) hpb (by omega) (by omega)) w_6_229 w_6_231 w_0_46 w_1_14 w_6_232 hd_X12_fail_2 ⟨⟨(Nat.le_of_ble_eq_true rfl), (Nat.le_of_ble_eq_true rfl)⟩, (Nat.le_of_ble_eq_true rfl), (Nat.le_of_ble_eq_true rfl)⟩ hK hP hD hS hA (fmT om_2_2 0) (fmF om_2_2 0) (fm_C1 rfl rfl) (fm_R rfl rfl) (fm_nT om_2_2 0) (fm_nF om_2_2 0) (fm_di om_2_2 0) rfl rfl rfl rfl (Nat.le_of_ble_eq_true rfl) dX12_number_36 (fun u H locs hw hP hD hS => ?_)
        refine exE hw (fun pb2_57 hw1 => exE hw1 (fun pp2_58 hw2 => anE hw2 (fun hpb2_59 hw3 => anE hw3 (fun hpb3_60 hw4 => anE hw4 (fun hfl_61 eu_62 => ?_)))))
        clear hw hw1 hw2 hw3 hw4
        refine o_mgE (ws' := [ro_ mm 12 (mo g (nI ta) (nI pa2_2) (nI pe) pd (nI pb2_57) pp2_58 pf pg pn rt rn (nI cd) sn (nI il) tk am at_ aa 0 0 (-1) wt wy 0 (nI rm) (nI ud) (nI nu) sd (nI qn) (nI qw) qo (nI qb) (nI qp) qa (nI qi) (nI oc)), ra_N (g 0) cI 1600 tb]) eu_62 hP hD rfl (fun hP hD => ?_)
        refine lv_iconst (v := 0) hx hb dX12_number_39 ic_0 ?_
        exact sk_iret hx hb hr rfl hlocks hK hP hD hS (⟨0, pa2_2, pd, pb2_57, pp2_58, pn, hpa2_4, hpa3_5, hpb2_59, by omega, by omega, (by have hf := (hfl_61.resolve_right (fun z => z.1 (by omega))).2; rw [hf.1, hf.2, hsk_8]; exact mo_fail hO (by omega) (by decide) (by decide) (nm_no (lo := lo) (hi := hi) (fun hq => by have h9 := hq.2.2; unfold cuO at h9; rw [← hsk_8, c_20] at h9; simp at h9))), nv_bad hO (by omega) (nm_no (lo := lo) (hi := hi) (fun hq => by have h9 := hq.2.2; unfold cuO at h9; rw [← hsk_8, c_20] at h9; simp at h9)), (fun hq => absurd hq (by omega)), rfl, rfl⟩) (Nat.le_of_ble_eq_true rfl) (Nat.le_of_ble_eq_true rfl) dX12_number_40
  · have c_1 : ¬ (pb = 0) := fun h => c_1 ((neq pb 0 (by omega) (Nat.le_of_ble_eq_true rfl)).mpr h)
    refine lv_iconst (v := 0) hx hb dX12_number_7 ic_0 ?_
    exact sk_iret hx hb hr rfl hlocks hK hP hD hS (⟨0, pa, pd, pb, pp, pn, by omega, hpa, hpb, by omega, by omega, mo_er hO c_1, nv_er hO c_1, (fun hq => absurd hq c_1), rfl, rfl⟩) (Nat.le_of_ble_eq_true rfl) (Nat.le_of_ble_eq_true rfl) dX12_number_8
def pw11 (k : Nat) : List Nat := (wParts ++ [wWeeks]).getD k []
def whO (tb : Nat → Nat) (n : Nat) (c : Cur) (pb : Nat) (r : Int32) : Prop := (r = -1 ∧ (pb = 0 → ∀ j, j < 11 → isW tb n (pw11 j) c = false)) ∨ ∃ k, k < 11 ∧ r = nI k ∧ pb = 0 ∧ isW tb n (pw11 k) c = true
theorem cu_step {tb : Nat → Nat} {n a a2 pb : Nat} {pd : Int32} {X : Cur} (h : pb = 0 → cuO tb n a pd = X) (hs : (pb = 0 ∧ a2 = sk tb n a) ∨ (¬ pb = 0 ∧ a2 = a)) : pb = 0 → cuO tb n a2 pd = X := fun hb => by
  rcases hs with ⟨-, rfl⟩ | ⟨q, -⟩
  · rw [cuO_sk]; exact h hb
  · exact absurd hb q
theorem wh_n {tb : Nat → Nat} {n a pb b : Nat} {pd : Int32} {X : Cur} {w : List Nat} (h : pb = 0 → cuO tb n a pd = X) (hw : (b = 0 ∧ (pb = 0 → isW tb n w (cuO tb n a pd) = false)) ∨ (b = 1 ∧ pb = 0 ∧ isW tb n w (cuO tb n a pd) = true)) (hb : b = 0) : pb = 0 → isW tb n w X = false := fun q => by
  rw [← h q]; exact rr_0 hw hb q
theorem wh_y {tb : Nat → Nat} {n a pb b : Nat} {pd : Int32} {X : Cur} {w : List Nat} (h : pb = 0 → cuO tb n a pd = X) (hw : (b = 0 ∧ (pb = 0 → isW tb n w (cuO tb n a pd) = false)) ∨ (b = 1 ∧ pb = 0 ∧ isW tb n w (cuO tb n a pd) = true)) (hb : ¬ b = 0) : pb = 0 ∧ isW tb n w X = true := by
  have q := rr_1 hw hb
  exact ⟨q.1, by rw [← h q.1]; exact q.2⟩
theorem wh_all {tb : Nat → Nat} {n pb : Nat} {X : Cur} (h0 : pb = 0 → isW tb n (pw11 0) X = false) (h1 : pb = 0 → isW tb n (pw11 1) X = false) (h2 : pb = 0 → isW tb n (pw11 2) X = false) (h3 : pb = 0 → isW tb n (pw11 3) X = false) (h4 : pb = 0 → isW tb n (pw11 4) X = false) (h5 : pb = 0 → isW tb n (pw11 5) X = false) (h6 : pb = 0 → isW tb n (pw11 6) X = false) (h7 : pb = 0 → isW tb n (pw11 7) X = false) (h8 : pb = 0 → isW tb n (pw11 8) X = false) (h9 : pb = 0 → isW tb n (pw11 9) X = false) (h10 : pb = 0 → isW tb n (pw11 10) X = false) : pb = 0 → ∀ j, j < 11 → isW tb n (pw11 j) X = false := fun q j hj => by
  match j, hj with
  | 0, _ => exact h0 q
  | 1, _ => exact h1 q
  | 2, _ => exact h2 q
  | 3, _ => exact h3 q
  | 4, _ => exact h4 q
  | 5, _ => exact h5 q
  | 6, _ => exact h6 q
  | 7, _ => exact h7 q
  | 8, _ => exact h8 q
  | 9, _ => exact h9 q
  | 10, _ => exact h10 q
  | n + 11, h => exact absurd h (by omega)
def woO (tb : Nat → Nat) (n kn lo hi : Nat) (c : Cur) (pb : Nat) (r : Int32) : Prop := (r = -1 ∧ (pb = 0 → ∀ j, lo ≤ j → j < hi → j < 11 → isW tb n (pw11 j) c = true → allow kn j = false)) ∨ ∃ k, lo ≤ k ∧ k < hi ∧ k < 11 ∧ r = nI k ∧ pb = 0 ∧ isW tb n (pw11 k) c = true ∧ allow kn k = true
theorem pw_nd : ∀ k, k < 11 → ∀ j, j < 11 → ¬ k = j → ¬ pw11 k = pw11 j := by decide +kernel
theorem wo_0 {tb : Nat → Nat} {n kn lo hi pb : Nat} {c : Cur} (h : whO tb n c pb (-1)) : woO tb n kn lo hi c pb (-1) := by
  rcases h with ⟨-, h⟩ | ⟨k, h1, h2, -⟩
  · exact Or.inl ⟨rfl, fun q j _ _ hj hw => by rw [h q j hj] at hw; cases hw⟩
  · have := i_eq h2
    rw [i_m1, i_nI (by omega)] at this
    omega
theorem wo_1 {tb : Nat → Nat} {n kn lo hi pb k : Nat} {c : Cur} (hk : k < 2147483648) (h : whO tb n c pb (nI k)) (hn : ¬ (lo ≤ k ∧ k < hi ∧ allow kn k = true)) : woO tb n kn lo hi c pb (-1) := by
  rcases h with ⟨h1, -⟩ | ⟨k2, h1, h2, h3, h4⟩
  · have := i_eq h1
    rw [i_m1, i_nI hk] at this
    omega
  · have e : k = k2 := (nI_eq (by omega) (by omega)).mp h2
    subst e
    refine Or.inl ⟨rfl, fun q j hj1 hj2 hj3 hw => ?_⟩
    by_cases e : k = j
    · subst e
      cases ha : allow kn k with
      | false => rfl
      | true => exact absurd ⟨hj1, hj2, ha⟩ hn
    · exact absurd hw (isW_one h4 (pw_nd k h1 j hj3 e))
theorem wo_2 {tb : Nat → Nat} {n kn lo hi pb k : Nat} {c : Cur} (hk : k < 2147483648) (h : whO tb n c pb (nI k)) (h1 : lo ≤ k) (h2 : k < hi) (ha : allow kn k = true) : woO tb n kn lo hi c pb (nI k) := by
  rcases h with ⟨h3, -⟩ | ⟨k2, h3, h4, h5, h6⟩
  · have := i_eq h3
    rw [i_m1, i_nI hk] at this
    omega
  · have e : k = k2 := (nI_eq (by omega) (by omega)).mp h4
    subst e
    exact Or.inr ⟨k, h1, h2, h3, rfl, h5, h6, ha⟩
theorem wo_none {tb : Nat → Nat} {n kn pb : Nat} {c : Cur} (h : woO tb n kn 0 10 c pb (-1)) (hb : pb = 0) : partIx tb n kn c = none := by
  rcases h with ⟨-, h⟩ | ⟨k, -, -, h3, h4, -⟩
  · unfold partIx
    rw [List.find?_eq_none]
    intro j hj
    have hj := List.mem_range.mp hj
    rw [Bool.and_eq_true]
    intro q
    have e : pw11 j = wParts.getD j [] := by
      have : ∀ j, j < 10 → pw11 j = wParts.getD j [] := by decide +kernel
      exact this j hj
    have := h hb j (by omega) hj (by omega) (by rw [e]; exact q.1)
    rw [this] at q
    cases q.2
  · have := i_eq h4
    rw [i_m1, i_nI (by omega)] at this
    omega
theorem wo_some {tb : Nat → Nat} {n kn k : Nat} {c : Cur} (hk : k < 10) (hw : isW tb n (pw11 k) c = true) (ha : allow kn k = true) : partIx tb n kn c = some k := by
  unfold partIx
  have e : ∀ j, j < 10 → pw11 j = wParts.getD j [] := by decide +kernel
  cases h : (List.range 10).find? (fun k => isW tb n (wParts.getD k []) c && allow kn k) with
  | none =>
    rw [List.find?_eq_none] at h
    exact absurd (by rw [Bool.and_eq_true, ← e k hk]; exact ⟨hw, ha⟩) (h k (List.mem_range.mpr hk))
  | some j =>
    have h1 := List.find?_some h
    have h2 := List.mem_range.mp (List.mem_of_find?_eq_some h)
    rw [Bool.and_eq_true, ← e j h2] at h1
    by_cases q : k = j
    · rw [q]
    · exact absurd h1.1 (isW_one hw (pw_nd k (by omega) j (by omega) q))
theorem wo_nw {tb : Nat → Nat} {n kn pb : Nat} {c : Cur} (h : woO tb n kn 10 11 c pb (-1)) (hb : pb = 0) : ¬ (kn = 2 ∧ isW tb n wWeeks c = true) := fun q => by
  rcases h with ⟨-, h⟩ | ⟨k, -, -, h3, h4, -⟩
  · have := h hb 10 (by omega) (by omega) (by omega) q.2
    rw [q.1] at this
    cases this
  · have := i_eq h4
    rw [i_m1, i_nI (by omega)] at this
    omega
theorem wo_w {kn : Nat} (hk : kn ≤ 2) (ha : allow kn 10 = true) : kn = 2 := by
  match kn, hk with
  | 0, _ => cases ha
  | 1, _ => cases ha
  | 2, _ => rfl
  | n + 3, h => exact absurd h (by omega)
