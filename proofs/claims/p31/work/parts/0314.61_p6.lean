theorem dg_X12_qFact_0_0 : bqL cX12_qFact 0 [(0, [42]), (1, [42]), (2, [180, 0, 141]), (5, [182, 0, 222]), (8, [153, 0, 10]), (18, [42]), (19, [182, 1, 13]), (22, [42]), (23, [180, 0, 195]), (26, [153, 0, 4]), (30, [42]), (31, [182, 0, 207]), (34, [60]), (35, [27]), (36, [16, 60]), (38, [159, 0, 25]), (63, [42]), (64, [89]), (65, [180, 0, 201]), (68, [4]), (69, [96]), (70, [181, 0, 201]), (73, [42]), (74, [182, 1, 13]), (77, [42]), (78, [27]), (79, [16, 60]), (81, [160, 0, 8]), (84, [16, 7]), (86, [167, 0, 16]), (102, [182, 1, 242]), (105, [177]), (41, [27]), (42, [16, 62]), (44, [159, 0, 19]), (89, [27]), (90, [16, 62]), (92, [160, 0, 8]), (95, [16, 8]), (97, [167, 0, 5])] = true := by decide +kernel
theorem dX12_qFact_0 : decode cX12_qFact 0 = .ok (.aload_n 0, 1) := q_aload_n0 (bat_get dg_X12_qFact_0_0 0 rfl rfl)
theorem dX12_qFact_1 : decode cX12_qFact 1 = .ok (.aload_n 0, 1) := q_aload_n0 (bat_get dg_X12_qFact_0_0 1 rfl rfl)
theorem dX12_qFact_2 : decode cX12_qFact 2 = .ok (.getfield 141, 3) := q_getfield (bat_get dg_X12_qFact_0_0 2 rfl rfl) rfl
theorem dX12_qFact_5 : decode cX12_qFact 5 = .ok (.invokevirtual 222, 3) := q_invokevirtual (bat_get dg_X12_qFact_0_0 3 rfl rfl) rfl
theorem dX12_qFact_8 : decode cX12_qFact 8 = .ok (.ifCond .eq 10, 3) := q_ifCond_eq (bat_get dg_X12_qFact_0_0 4 rfl rfl) rfl
theorem dX12_qFact_18 : decode cX12_qFact 18 = .ok (.aload_n 0, 1) := q_aload_n0 (bat_get dg_X12_qFact_0_0 5 rfl rfl)
theorem dX12_qFact_19 : decode cX12_qFact 19 = .ok (.invokevirtual 269, 3) := q_invokevirtual (bat_get dg_X12_qFact_0_0 6 rfl rfl) rfl
theorem dX12_qFact_22 : decode cX12_qFact 22 = .ok (.aload_n 0, 1) := q_aload_n0 (bat_get dg_X12_qFact_0_0 7 rfl rfl)
theorem dX12_qFact_23 : decode cX12_qFact 23 = .ok (.getfield 195, 3) := q_getfield (bat_get dg_X12_qFact_0_0 8 rfl rfl) rfl
theorem dX12_qFact_26 : decode cX12_qFact 26 = .ok (.ifCond .eq 4, 3) := q_ifCond_eq (bat_get dg_X12_qFact_0_0 9 rfl rfl) rfl
theorem dX12_qFact_30 : decode cX12_qFact 30 = .ok (.aload_n 0, 1) := q_aload_n0 (bat_get dg_X12_qFact_0_0 10 rfl rfl)
theorem dX12_qFact_31 : decode cX12_qFact 31 = .ok (.invokevirtual 207, 3) := q_invokevirtual (bat_get dg_X12_qFact_0_0 11 rfl rfl) rfl
theorem dX12_qFact_34 : decode cX12_qFact 34 = .ok (.istore_n 1, 1) := q_istore_n1 (bat_get dg_X12_qFact_0_0 12 rfl rfl)
theorem dX12_qFact_35 : decode cX12_qFact 35 = .ok (.iload_n 1, 1) := q_iload_n1 (bat_get dg_X12_qFact_0_0 13 rfl rfl)
theorem dX12_qFact_36 : decode cX12_qFact 36 = .ok (.bipush 60, 2) := q_bipush (bat_get dg_X12_qFact_0_0 14 rfl rfl) rfl
theorem dX12_qFact_38 : decode cX12_qFact 38 = .ok (.if_icmp .eq 25, 3) := q_if_icmp_eq (bat_get dg_X12_qFact_0_0 15 rfl rfl) rfl
theorem dX12_qFact_63 : decode cX12_qFact 63 = .ok (.aload_n 0, 1) := q_aload_n0 (bat_get dg_X12_qFact_0_0 16 rfl rfl)
theorem dX12_qFact_64 : decode cX12_qFact 64 = .ok (.dup, 1) := q_dup (bat_get dg_X12_qFact_0_0 17 rfl rfl)
theorem dX12_qFact_65 : decode cX12_qFact 65 = .ok (.getfield 201, 3) := q_getfield (bat_get dg_X12_qFact_0_0 18 rfl rfl) rfl
theorem dX12_qFact_68 : decode cX12_qFact 68 = .ok (.iconst 1, 1) := q_iconst1 (bat_get dg_X12_qFact_0_0 19 rfl rfl)
theorem dX12_qFact_69 : decode cX12_qFact 69 = .ok (.iadd, 1) := q_iadd (bat_get dg_X12_qFact_0_0 20 rfl rfl)
theorem dX12_qFact_70 : decode cX12_qFact 70 = .ok (.putfield 201, 3) := q_putfield (bat_get dg_X12_qFact_0_0 21 rfl rfl) rfl
theorem dX12_qFact_73 : decode cX12_qFact 73 = .ok (.aload_n 0, 1) := q_aload_n0 (bat_get dg_X12_qFact_0_0 22 rfl rfl)
theorem dX12_qFact_74 : decode cX12_qFact 74 = .ok (.invokevirtual 269, 3) := q_invokevirtual (bat_get dg_X12_qFact_0_0 23 rfl rfl) rfl
theorem dX12_qFact_77 : decode cX12_qFact 77 = .ok (.aload_n 0, 1) := q_aload_n0 (bat_get dg_X12_qFact_0_0 24 rfl rfl)
theorem dX12_qFact_78 : decode cX12_qFact 78 = .ok (.iload_n 1, 1) := q_iload_n1 (bat_get dg_X12_qFact_0_0 25 rfl rfl)
theorem dX12_qFact_79 : decode cX12_qFact 79 = .ok (.bipush 60, 2) := q_bipush (bat_get dg_X12_qFact_0_0 26 rfl rfl) rfl
theorem dX12_qFact_81 : decode cX12_qFact 81 = .ok (.if_icmp .ne 8, 3) := q_if_icmp_ne (bat_get dg_X12_qFact_0_0 27 rfl rfl) rfl
theorem dX12_qFact_84 : decode cX12_qFact 84 = .ok (.bipush 7, 2) := q_bipush (bat_get dg_X12_qFact_0_0 28 rfl rfl) rfl
theorem dX12_qFact_86 : decode cX12_qFact 86 = .ok (.goto 16, 3) := q_goto (bat_get dg_X12_qFact_0_0 29 rfl rfl) rfl
theorem dX12_qFact_102 : decode cX12_qFact 102 = .ok (.invokevirtual 498, 3) := q_invokevirtual (bat_get dg_X12_qFact_0_0 30 rfl rfl) rfl
theorem dX12_qFact_105 : decode cX12_qFact 105 = .ok (.return_, 1) := q_return_ (bat_get dg_X12_qFact_0_0 31 rfl rfl)
theorem dX12_qFact_41 : decode cX12_qFact 41 = .ok (.iload_n 1, 1) := q_iload_n1 (bat_get dg_X12_qFact_0_0 32 rfl rfl)
theorem dX12_qFact_42 : decode cX12_qFact 42 = .ok (.bipush 62, 2) := q_bipush (bat_get dg_X12_qFact_0_0 33 rfl rfl) rfl
theorem dX12_qFact_44 : decode cX12_qFact 44 = .ok (.if_icmp .eq 19, 3) := q_if_icmp_eq (bat_get dg_X12_qFact_0_0 34 rfl rfl) rfl
theorem dX12_qFact_89 : decode cX12_qFact 89 = .ok (.iload_n 1, 1) := q_iload_n1 (bat_get dg_X12_qFact_0_0 35 rfl rfl)
theorem dX12_qFact_90 : decode cX12_qFact 90 = .ok (.bipush 62, 2) := q_bipush (bat_get dg_X12_qFact_0_0 36 rfl rfl) rfl
theorem dX12_qFact_92 : decode cX12_qFact 92 = .ok (.if_icmp .ne 8, 3) := q_if_icmp_ne (bat_get dg_X12_qFact_0_0 37 rfl rfl) rfl
theorem dX12_qFact_95 : decode cX12_qFact 95 = .ok (.bipush 8, 2) := q_bipush (bat_get dg_X12_qFact_0_0 38 rfl rfl) rfl
theorem dX12_qFact_97 : decode cX12_qFact 97 = .ok (.goto 5, 3) := q_goto (bat_get dg_X12_qFact_0_0 39 rfl rfl) rfl
theorem dg_X12_qFact_11_47 : bqL cX12_qFact 11 [(36, [27]), (37, [16, 61]), (39, [159, 0, 13]), (89, [16, 9]), (42, [42]), (43, [4]), (44, [42]), (45, [180, 0, 201]), (48, [182, 0, 225]), (51, [177]), (18, [177]), (0, [42]), (1, [16, 13]), (3, [182, 1, 242]), (6, [177])] = true := by decide +kernel
theorem dX12_qFact_47 : decode cX12_qFact 47 = .ok (.iload_n 1, 1) := q_iload_n1 (bat_get dg_X12_qFact_11_47 0 rfl rfl)
theorem dX12_qFact_48 : decode cX12_qFact 48 = .ok (.bipush 61, 2) := q_bipush (bat_get dg_X12_qFact_11_47 1 rfl rfl) rfl
theorem dX12_qFact_50 : decode cX12_qFact 50 = .ok (.if_icmp .eq 13, 3) := q_if_icmp_eq (bat_get dg_X12_qFact_11_47 2 rfl rfl) rfl
theorem dX12_qFact_100 : decode cX12_qFact 100 = .ok (.bipush 9, 2) := q_bipush (bat_get dg_X12_qFact_11_47 3 rfl rfl) rfl
theorem dX12_qFact_53 : decode cX12_qFact 53 = .ok (.aload_n 0, 1) := q_aload_n0 (bat_get dg_X12_qFact_11_47 4 rfl rfl)
theorem dX12_qFact_54 : decode cX12_qFact 54 = .ok (.iconst 1, 1) := q_iconst1 (bat_get dg_X12_qFact_11_47 5 rfl rfl)
theorem dX12_qFact_55 : decode cX12_qFact 55 = .ok (.aload_n 0, 1) := q_aload_n0 (bat_get dg_X12_qFact_11_47 6 rfl rfl)
theorem dX12_qFact_56 : decode cX12_qFact 56 = .ok (.getfield 201, 3) := q_getfield (bat_get dg_X12_qFact_11_47 7 rfl rfl) rfl
theorem dX12_qFact_59 : decode cX12_qFact 59 = .ok (.invokevirtual 225, 3) := q_invokevirtual (bat_get dg_X12_qFact_11_47 8 rfl rfl) rfl
theorem dX12_qFact_62 : decode cX12_qFact 62 = .ok (.return_, 1) := q_return_ (bat_get dg_X12_qFact_11_47 9 rfl rfl)
theorem dX12_qFact_29 : decode cX12_qFact 29 = .ok (.return_, 1) := q_return_ (bat_get dg_X12_qFact_11_47 10 rfl rfl)
theorem dX12_qFact_11 : decode cX12_qFact 11 = .ok (.aload_n 0, 1) := q_aload_n0 (bat_get dg_X12_qFact_11_47 11 rfl rfl)
theorem dX12_qFact_12 : decode cX12_qFact 12 = .ok (.bipush 13, 2) := q_bipush (bat_get dg_X12_qFact_11_47 12 rfl rfl) rfl
theorem dX12_qFact_14 : decode cX12_qFact 14 = .ok (.invokevirtual 498, 3) := q_invokevirtual (bat_get dg_X12_qFact_11_47 13 rfl rfl) rfl
theorem dX12_qFact_17 : decode cX12_qFact 17 = .ok (.return_, 1) := q_return_ (bat_get dg_X12_qFact_11_47 14 rfl rfl)
theorem w_5_222 : (Cond.fieldLink RX12 141 "SameKeeperModel" "allAsked" "[C") ∈ wsL_law := sk_mem (ck_5 _ (List.mem_of_getElem? (i := 222) rfl)) rfl
theorem w_7_27 : (Cond.methodLink RX12 269 yX12_qSums) ∈ wsL_law := sk_mem (ck_7 _ (List.mem_of_getElem? (i := 27) rfl)) rfl
theorem w_7_29 : (Cond.instanceMethod yX12_qSums) ∈ wsL_law := sk_mem (ck_7 _ (List.mem_of_getElem? (i := 29) rfl)) rfl
theorem w_0_54 : (Cond.selects RX12 yX12_qSums yX12_qSums) ∈ wsL_law := sk_mem (ck_0 _ (List.mem_of_getElem? (i := 54) rfl)) rfl
theorem w_8_178 : (Cond.code yX12_qFact cX12_qFact 2 none) ∈ wsL_law := sk_mem (ck_8 _ (List.mem_of_getElem? (i := 178) rfl)) rfl
def om_18_30001 : List Bool := true :: true :: false :: false :: false :: false :: false :: false :: false :: false :: false :: false :: false :: false :: false :: false :: false :: true :: []
def om_18_3fffe : List Bool := true :: true :: true :: true :: true :: true :: true :: true :: true :: true :: true :: true :: true :: true :: true :: true :: true :: false :: []
def om_18_30000 : List Bool := true :: true :: false :: false :: false :: false :: false :: false :: false :: false :: false :: false :: false :: false :: false :: false :: false :: false :: []
def om_18_28000 : List Bool := true :: false :: true :: false :: false :: false :: false :: false :: false :: false :: false :: false :: false :: false :: false :: false :: false :: false :: []
def om_18_20000 : List Bool := true :: false :: false :: false :: false :: false :: false :: false :: false :: false :: false :: false :: false :: false :: false :: false :: false :: false :: []
theorem hd_X12_qSums_0 : skD yX12_qSums 0 := by decide +kernel
theorem dg_X12_qHasSquare_0_0 : bqL cX12_qHasSquare 0 [(0, [3]), (1, [60]), (2, [27]), (3, [42]), (4, [180, 1, 4]), (7, [162, 0, 22]), (29, [3]), (30, [172]), (10, [42]), (11, [180, 0, 183]), (14, [27]), (15, [46]), (16, [16, 25]), (18, [160, 0, 5]), (23, [132, 1, 1]), (26, [167, 255, 232]), (21, [4]), (22, [172])] = true := by decide +kernel
theorem dX12_qHasSquare_0 : decode cX12_qHasSquare 0 = .ok (.iconst 0, 1) := q_iconst0 (bat_get dg_X12_qHasSquare_0_0 0 rfl rfl)
theorem dX12_qHasSquare_1 : decode cX12_qHasSquare 1 = .ok (.istore_n 1, 1) := q_istore_n1 (bat_get dg_X12_qHasSquare_0_0 1 rfl rfl)
theorem dX12_qHasSquare_2 : decode cX12_qHasSquare 2 = .ok (.iload_n 1, 1) := q_iload_n1 (bat_get dg_X12_qHasSquare_0_0 2 rfl rfl)
theorem dX12_qHasSquare_3 : decode cX12_qHasSquare 3 = .ok (.aload_n 0, 1) := q_aload_n0 (bat_get dg_X12_qHasSquare_0_0 3 rfl rfl)
theorem dX12_qHasSquare_4 : decode cX12_qHasSquare 4 = .ok (.getfield 260, 3) := q_getfield (bat_get dg_X12_qHasSquare_0_0 4 rfl rfl) rfl
theorem dX12_qHasSquare_7 : decode cX12_qHasSquare 7 = .ok (.if_icmp .ge 22, 3) := q_if_icmp_ge (bat_get dg_X12_qHasSquare_0_0 5 rfl rfl) rfl
theorem dX12_qHasSquare_29 : decode cX12_qHasSquare 29 = .ok (.iconst 0, 1) := q_iconst0 (bat_get dg_X12_qHasSquare_0_0 6 rfl rfl)
theorem dX12_qHasSquare_30 : decode cX12_qHasSquare 30 = .ok (.ireturn, 1) := q_ireturn (bat_get dg_X12_qHasSquare_0_0 7 rfl rfl)
theorem dX12_qHasSquare_10 : decode cX12_qHasSquare 10 = .ok (.aload_n 0, 1) := q_aload_n0 (bat_get dg_X12_qHasSquare_0_0 8 rfl rfl)
theorem dX12_qHasSquare_11 : decode cX12_qHasSquare 11 = .ok (.getfield 183, 3) := q_getfield (bat_get dg_X12_qHasSquare_0_0 9 rfl rfl) rfl
theorem dX12_qHasSquare_14 : decode cX12_qHasSquare 14 = .ok (.iload_n 1, 1) := q_iload_n1 (bat_get dg_X12_qHasSquare_0_0 10 rfl rfl)
theorem dX12_qHasSquare_15 : decode cX12_qHasSquare 15 = .ok (.iaload, 1) := q_iaload (bat_get dg_X12_qHasSquare_0_0 11 rfl rfl)
theorem dX12_qHasSquare_16 : decode cX12_qHasSquare 16 = .ok (.bipush 25, 2) := q_bipush (bat_get dg_X12_qHasSquare_0_0 12 rfl rfl) rfl
theorem dX12_qHasSquare_18 : decode cX12_qHasSquare 18 = .ok (.if_icmp .ne 5, 3) := q_if_icmp_ne (bat_get dg_X12_qHasSquare_0_0 13 rfl rfl) rfl
theorem dX12_qHasSquare_23 : decode cX12_qHasSquare 23 = .ok (.iinc 1 1, 3) := q_iinc (bat_get dg_X12_qHasSquare_0_0 14 rfl rfl) rfl
theorem dX12_qHasSquare_26 : decode cX12_qHasSquare 26 = .ok (.goto (-24), 3) := q_goto (bat_get dg_X12_qHasSquare_0_0 15 rfl rfl) rfl
theorem dX12_qHasSquare_21 : decode cX12_qHasSquare 21 = .ok (.iconst 1, 1) := q_iconst1 (bat_get dg_X12_qHasSquare_0_0 16 rfl rfl)
theorem dX12_qHasSquare_22 : decode cX12_qHasSquare 22 = .ok (.ireturn, 1) := q_ireturn (bat_get dg_X12_qHasSquare_0_0 17 rfl rfl)
theorem w_8_190 : (Cond.code yX12_qHasSquare cX12_qHasSquare 2 (some .boolean)) ∈ wsL_law := sk_mem (ck_8 _ (List.mem_of_getElem? (i := 190) rfl)) rfl
set_option maxHeartbeats 4000000 in
set_option maxRecDepth 100000 in
theorem c_m_qHasSquare (l : Launch) (D : va_G) (cI cJ cC cZ cS : ClassId) (mm : Nat) (g : Nat → Nat) (ta : Nat) (pa : Nat) (pe : Nat) (pd : Int32) (pb : Nat) (pp : Int32) (pf : Int32) (pg : Int32) (pn : Int32) (rt : Int32) (rn : Int32) (cd : Nat) (sn : Int32) (il : Nat) (tk : Int32) (am : Int32) (at_ : Int32) (aa : Int32) (wt : Int32) (wy : Int64) (rm : Nat) (ud : Nat) (nu : Nat) (sd : Int64) (qn : Nat) (qw : Nat) (qo : Int32) (qb : Nat) (qp : Nat) (qa : Int64) (qi : Nat) (oc : Nat) (qt : Nat → Nat) (hqw : qw ≤ 1700) (hqt : ∀ j, qt j ≤ 100) : skM l yX12_qHasSquare cX12_qHasSquare 2 (some .boolean) 0 0 0 0 D (skT cI cJ cC cZ cS) [.ref mm] [(mm, .inr (12, mo g (nI ta) (nI pa) (nI pe) pd (nI pb) pp pf pg pn rt rn (nI cd) sn (nI il) tk am at_ aa 0 0 (-1) wt wy 0 (nI rm) (nI ud) (nI nu) sd (nI qn) (nI qw) qo (nI qb) (nI qp) qa (nI qi) (nI oc))), (g 82, .inl (cI, 1700, .inl (fun j => nI (qt j))))] (skI D (skT cI cJ cC cZ cS) (fun (r : Int32) (u : va_W) => ∃ (b : Nat), ((b = 0 ∧ noQ qt qw) ∨ (b = 1 ∧ hasQ qt qw)) ∧ r = nI b ∧ u = [(mm, .inr (12, mo g (nI ta) (nI pa) (nI pe) pd (nI pb) pp pf pg pn rt rn (nI cd) sn (nI il) tk am at_ aa 0 0 (-1) wt wy 0 (nI rm) (nI ud) (nI nu) sd (nI qn) (nI qw) qo (nI qb) (nI qp) qa (nI qi) (nI oc))), (g 82, .inl (cI, 1700, .inl (fun j => nI (qt j))))])) := by
  refine skM_of pf_X12_qHasSquare (Nat.le_of_ble_eq_true rfl) ?_
  intro p e s m below meth c A ls E hP hD hl
  refine skE_el E (fun hx hb hr hml hlocks hin hown hts hK hA => ?_)
  have hown : s.vm.findClass RX12 = some m.cls := hown
  have hS : va_S A s.heap s.heap [] := va_S.rf
  have hl : lv_has ls 2 [(0, .ref mm)] := hl
  refine lv_iconst (v := 0) hx hb dX12_qHasSquare_0 (by decide) ?_
  refine lv_istore_n (lv' := [(1, .int 0), (0, .ref mm)]) hx hb dX12_qHasSquare_1 rfl hl (by decide) rfl (fun ls hl => ?_)
  have lp_1 : ∀ (n_2 : Nat) (i : Nat) (H : Heap) (locs : List Loc) (ls : Array Slot), qw - i < n_2 → (i ≤ qw) → (noQ qt i) → va_P D vwCl [(mm, .inr (12, mo g (nI ta) (nI pa) (nI pe) pd (nI pb) pp pf pg pn rt rn (nI cd) sn (nI il) tk am at_ aa 0 0 (-1) wt wy 0 (nI rm) (nI ud) (nI nu) sd (nI qn) (nI qw) qo (nI qb) (nI qp) qa (nI qi) (nI oc))), (g 82, .inl (cI, 1700, .inl (fun j => nI (qt j))))] H → va_D A [(mm, .inr (12, mo g (nI ta) (nI pa) (nI pe) pd (nI pb) pp pf pg pn rt rn (nI cd) sn (nI il) tk am at_ aa 0 0 (-1) wt wy 0 (nI rm) (nI ud) (nI nu) sd (nI qn) (nI qw) qo (nI qb) (nI qp) qa (nI qi) (nI oc))), (g 82, .inl (cI, 1700, .inl (fun j => nI (qt j))))] → va_S A s.heap H locs → lv_has ls 2 [(1, .int (nI i)), (0, .ref mm)] → W p l e { frames := 0, cells := 0, slots := 0, locals := 0 } s m ([.ref mm] : List Value).toArray below meth c H locs 0 0 (MQ below (skI D (skT cI cJ cC cZ cS) (fun (r : Int32) (u : va_W) => ∃ (b : Nat), ((b = 0 ∧ noQ qt qw) ∨ (b = 1 ∧ hasQ qt qw)) ∧ r = nI b ∧ u = [(mm, .inr (12, mo g (nI ta) (nI pa) (nI pe) pd (nI pb) pp pf pg pn rt rn (nI cd) sn (nI il) tk am at_ aa 0 0 (-1) wt wy 0 (nI rm) (nI ud) (nI nu) sd (nI qn) (nI qw) qo (nI qb) (nI qp) qa (nI qi) (nI oc))), (g 82, .inl (cI, 1700, .inl (fun j => nI (qt j))))]) A) ([.ref mm] : List Value).toArray s 0 0 A) (F0 m 2 ls []) := by
    intro n_2
    induction n_2 with
    | zero => intro i H locs ls hm; exact absurd hm (Nat.not_lt_zero _)
    | succ n_2 ih_lp_1 =>
      intro i H locs ls hm hi hnq hP hD hS hl
      refine lv_iload_n hx hb dX12_qHasSquare_2 rfl (lv_at hl 0 rfl) ?_
      refine lv_aload_n hx hb dX12_qHasSquare_3 rfl (lv_at hl 1 rfl) ?_
      refine sk_get (v := .int (nI qw)) (C := RX12) (T := TX12) (N := 92) hx hb hts inlX12 hown hK hP 0 rfl rfl 83 (by decide) w_5_238 rfl dX12_qHasSquare_4 ?_
      refine lv_icmp_ge (tgt := 29) hx hb dX12_qHasSquare_7 (by decide) (fun c_3 => ?_) (fun c_3 => ?_)
      · have c_3 : qw ≤ i := (nle qw i (by omega) (by omega)).mp c_3
        refine lv_iconst (v := 0) hx hb dX12_qHasSquare_29 (by decide) ?_
        exact sk_iret hx hb hr rfl hlocks hK hP hD hS (⟨0, (Or.inl ⟨rfl, noQ_le hnq (by omega)⟩), rfl, rfl⟩) (Nat.le_of_ble_eq_true rfl) (Nat.le_of_ble_eq_true rfl) dX12_qHasSquare_30
      · have c_3 : ¬ (qw ≤ i) := fun h => c_3 ((nle qw i (by omega) (by omega)).mpr h)
        refine lv_aload_n hx hb dX12_qHasSquare_10 rfl (lv_at hl 1 rfl) ?_
        refine sk_get (v := .ref (g 82)) (C := RX12) (T := TX12) (N := 92) hx hb hts inlX12 hown hK hP 0 rfl rfl 82 (by decide) w_5_237 rfl dX12_qHasSquare_11 ?_
        refine lv_iload_n hx hb dX12_qHasSquare_14 rfl (lv_at hl 0 rfl) ?_
        refine va_iald hx hb hK.1 hP 1 0 rfl rfl (vin i 1700 (by omega) (by omega)) dX12_qHasSquare_15 ?_
        refine sk_top (nI (qt i)) (nrd qt i (by omega)) ?_
        have hb_4 := hqt i
        refine lv_bipush (v := 25) hx hb dX12_qHasSquare_16 (by decide) ?_
        refine lv_icmp_ne (tgt := 23) hx hb dX12_qHasSquare_18 (by decide) (fun c_5 => ?_) (fun c_5 => ?_)
        · have c_5 : ¬ (qt i = 25) := fun h => c_5 ((neq (qt i) 25 (by omega) (by omega)).mpr h)
          refine lv_iinc (v := nI (i + 1)) (lv' := [(1, .int (nI (i + 1))), (0, .ref mm)]) hx hb dX12_qHasSquare_23 hl (k := 0) rfl (ninc i 1 (by decide)) (by decide) rfl (fun ls hl => ?_)
          refine lv_goto (tgt := 2) hx hb dX12_qHasSquare_26 (by decide) ?_
          exact ih_lp_1 (i + 1) _ _ _ (by omega) (by omega) (noQ_s hnq (by omega)) hP hD hS (lv_sub hl [0, 1] rfl)
        · have c_5 : qt i = 25 := (neq (qt i) 25 (by omega) (by omega)).mp c_5
          refine lv_iconst (v := 1) hx hb dX12_qHasSquare_21 (by decide) ?_
          exact sk_iret hx hb hr rfl hlocks hK hP hD hS (⟨1, (Or.inr ⟨rfl, hasQ_i (by omega) c_5⟩), rfl, rfl⟩) (Nat.le_of_ble_eq_true rfl) (Nat.le_of_ble_eq_true rfl) dX12_qHasSquare_22
  exact lp_1 (qw - 0 + 1) 0 _ _ _ (Nat.lt_succ_self _) (by omega) noQ_0 hP hD hS (lv_sub hl [0, 1] rfl)
