theorem dg_X12_walksTo_0_0 : bqL cX12_walksTo 0 [(0, [42]), (1, [180, 0, 63]), (4, [4]), (5, [46]), (6, [62]), (7, [3]), (8, [54, 4]), (10, [21, 4]), (12, [42]), (13, [182, 1, 59]), (16, [162, 0, 88]), (104, [177]), (19, [3]), (20, [54, 5]), (22, [42]), (23, [21, 4]), (25, [29]), (26, [21, 5]), (28, [182, 1, 122]), (31, [153, 0, 21]), (52, [42]), (53, [21, 4]), (55, [29]), (56, [21, 5]), (58, [182, 1, 122]), (61, [153, 0, 19]), (80, [132, 5, 1]), (83, [167, 255, 195]), (34, [31]), (35, [42]), (36, [180, 0, 82]), (39, [16, 10]), (41, [21, 4]), (43, [104]), (44, [21, 5]), (46, [96]), (47, [47]), (48, [148]), (49, [155, 0, 37]), (86, [42])] = true := by decide +kernel
theorem dX12_walksTo_0 : decode cX12_walksTo 0 = .ok (.aload_n 0, 1) := q_aload_n0 (bat_get dg_X12_walksTo_0_0 0 rfl rfl)
theorem dX12_walksTo_1 : decode cX12_walksTo 1 = .ok (.getfield 63, 3) := q_getfield (bat_get dg_X12_walksTo_0_0 1 rfl rfl) rfl
theorem dX12_walksTo_4 : decode cX12_walksTo 4 = .ok (.iconst 1, 1) := q_iconst1 (bat_get dg_X12_walksTo_0_0 2 rfl rfl)
theorem dX12_walksTo_5 : decode cX12_walksTo 5 = .ok (.iaload, 1) := q_iaload (bat_get dg_X12_walksTo_0_0 3 rfl rfl)
theorem dX12_walksTo_6 : decode cX12_walksTo 6 = .ok (.istore_n 3, 1) := q_istore_n3 (bat_get dg_X12_walksTo_0_0 4 rfl rfl)
theorem dX12_walksTo_7 : decode cX12_walksTo 7 = .ok (.iconst 0, 1) := q_iconst0 (bat_get dg_X12_walksTo_0_0 5 rfl rfl)
theorem dX12_walksTo_8 : decode cX12_walksTo 8 = .ok (.istore 4, 2) := q_istore (bat_get dg_X12_walksTo_0_0 6 rfl rfl)
theorem dX12_walksTo_10 : decode cX12_walksTo 10 = .ok (.iload 4, 2) := q_iload (bat_get dg_X12_walksTo_0_0 7 rfl rfl)
theorem dX12_walksTo_12 : decode cX12_walksTo 12 = .ok (.aload_n 0, 1) := q_aload_n0 (bat_get dg_X12_walksTo_0_0 8 rfl rfl)
theorem dX12_walksTo_13 : decode cX12_walksTo 13 = .ok (.invokevirtual 315, 3) := q_invokevirtual (bat_get dg_X12_walksTo_0_0 9 rfl rfl) rfl
theorem dX12_walksTo_16 : decode cX12_walksTo 16 = .ok (.if_icmp .ge 88, 3) := q_if_icmp_ge (bat_get dg_X12_walksTo_0_0 10 rfl rfl) rfl
theorem dX12_walksTo_104 : decode cX12_walksTo 104 = .ok (.return_, 1) := q_return_ (bat_get dg_X12_walksTo_0_0 11 rfl rfl)
theorem dX12_walksTo_19 : decode cX12_walksTo 19 = .ok (.iconst 0, 1) := q_iconst0 (bat_get dg_X12_walksTo_0_0 12 rfl rfl)
theorem dX12_walksTo_20 : decode cX12_walksTo 20 = .ok (.istore 5, 2) := q_istore (bat_get dg_X12_walksTo_0_0 13 rfl rfl)
theorem dX12_walksTo_22 : decode cX12_walksTo 22 = .ok (.aload_n 0, 1) := q_aload_n0 (bat_get dg_X12_walksTo_0_0 14 rfl rfl)
theorem dX12_walksTo_23 : decode cX12_walksTo 23 = .ok (.iload 4, 2) := q_iload (bat_get dg_X12_walksTo_0_0 15 rfl rfl)
theorem dX12_walksTo_25 : decode cX12_walksTo 25 = .ok (.iload_n 3, 1) := q_iload_n3 (bat_get dg_X12_walksTo_0_0 16 rfl rfl)
theorem dX12_walksTo_26 : decode cX12_walksTo 26 = .ok (.iload 5, 2) := q_iload (bat_get dg_X12_walksTo_0_0 17 rfl rfl)
theorem dX12_walksTo_28 : decode cX12_walksTo 28 = .ok (.invokevirtual 378, 3) := q_invokevirtual (bat_get dg_X12_walksTo_0_0 18 rfl rfl) rfl
theorem dX12_walksTo_31 : decode cX12_walksTo 31 = .ok (.ifCond .eq 21, 3) := q_ifCond_eq (bat_get dg_X12_walksTo_0_0 19 rfl rfl) rfl
theorem dX12_walksTo_52 : decode cX12_walksTo 52 = .ok (.aload_n 0, 1) := q_aload_n0 (bat_get dg_X12_walksTo_0_0 20 rfl rfl)
theorem dX12_walksTo_53 : decode cX12_walksTo 53 = .ok (.iload 4, 2) := q_iload (bat_get dg_X12_walksTo_0_0 21 rfl rfl)
theorem dX12_walksTo_55 : decode cX12_walksTo 55 = .ok (.iload_n 3, 1) := q_iload_n3 (bat_get dg_X12_walksTo_0_0 22 rfl rfl)
theorem dX12_walksTo_56 : decode cX12_walksTo 56 = .ok (.iload 5, 2) := q_iload (bat_get dg_X12_walksTo_0_0 23 rfl rfl)
theorem dX12_walksTo_58 : decode cX12_walksTo 58 = .ok (.invokevirtual 378, 3) := q_invokevirtual (bat_get dg_X12_walksTo_0_0 24 rfl rfl) rfl
theorem dX12_walksTo_61 : decode cX12_walksTo 61 = .ok (.ifCond .eq 19, 3) := q_ifCond_eq (bat_get dg_X12_walksTo_0_0 25 rfl rfl) rfl
theorem dX12_walksTo_80 : decode cX12_walksTo 80 = .ok (.iinc 5 1, 3) := q_iinc (bat_get dg_X12_walksTo_0_0 26 rfl rfl) rfl
theorem dX12_walksTo_83 : decode cX12_walksTo 83 = .ok (.goto (-61), 3) := q_goto (bat_get dg_X12_walksTo_0_0 27 rfl rfl) rfl
theorem dX12_walksTo_34 : decode cX12_walksTo 34 = .ok (.lload_n 1, 1) := q_lload_n1 (bat_get dg_X12_walksTo_0_0 28 rfl rfl)
theorem dX12_walksTo_35 : decode cX12_walksTo 35 = .ok (.aload_n 0, 1) := q_aload_n0 (bat_get dg_X12_walksTo_0_0 29 rfl rfl)
theorem dX12_walksTo_36 : decode cX12_walksTo 36 = .ok (.getfield 82, 3) := q_getfield (bat_get dg_X12_walksTo_0_0 30 rfl rfl) rfl
theorem dX12_walksTo_39 : decode cX12_walksTo 39 = .ok (.bipush 10, 2) := q_bipush (bat_get dg_X12_walksTo_0_0 31 rfl rfl) rfl
theorem dX12_walksTo_41 : decode cX12_walksTo 41 = .ok (.iload 4, 2) := q_iload (bat_get dg_X12_walksTo_0_0 32 rfl rfl)
theorem dX12_walksTo_43 : decode cX12_walksTo 43 = .ok (.imul, 1) := q_imul (bat_get dg_X12_walksTo_0_0 33 rfl rfl)
theorem dX12_walksTo_44 : decode cX12_walksTo 44 = .ok (.iload 5, 2) := q_iload (bat_get dg_X12_walksTo_0_0 34 rfl rfl)
theorem dX12_walksTo_46 : decode cX12_walksTo 46 = .ok (.iadd, 1) := q_iadd (bat_get dg_X12_walksTo_0_0 35 rfl rfl)
theorem dX12_walksTo_47 : decode cX12_walksTo 47 = .ok (.laload, 1) := q_laload (bat_get dg_X12_walksTo_0_0 36 rfl rfl)
theorem dX12_walksTo_48 : decode cX12_walksTo 48 = .ok (.lcmp, 1) := q_lcmp (bat_get dg_X12_walksTo_0_0 37 rfl rfl)
theorem dX12_walksTo_49 : decode cX12_walksTo 49 = .ok (.ifCond .lt 37, 3) := q_ifCond_lt (bat_get dg_X12_walksTo_0_0 38 rfl rfl) rfl
theorem dX12_walksTo_86 : decode cX12_walksTo 86 = .ok (.aload_n 0, 1) := q_aload_n0 (bat_get dg_X12_walksTo_0_0 39 rfl rfl)
theorem dg_X12_walksTo_64_87 : bqL cX12_walksTo 64 [(23, [180, 0, 89]), (26, [21, 4]), (28, [21, 5]), (30, [79]), (31, [21, 5]), (33, [62]), (34, [132, 4, 1]), (37, [167, 255, 165]), (0, [31]), (1, [42]), (2, [180, 0, 82]), (5, [16, 10]), (7, [21, 4]), (9, [104]), (10, [21, 5]), (12, [96]), (13, [47]), (14, [101]), (15, [64])] = true := by decide +kernel
theorem dX12_walksTo_87 : decode cX12_walksTo 87 = .ok (.getfield 89, 3) := q_getfield (bat_get dg_X12_walksTo_64_87 0 rfl rfl) rfl
theorem dX12_walksTo_90 : decode cX12_walksTo 90 = .ok (.iload 4, 2) := q_iload (bat_get dg_X12_walksTo_64_87 1 rfl rfl)
theorem dX12_walksTo_92 : decode cX12_walksTo 92 = .ok (.iload 5, 2) := q_iload (bat_get dg_X12_walksTo_64_87 2 rfl rfl)
theorem dX12_walksTo_94 : decode cX12_walksTo 94 = .ok (.iastore, 1) := q_iastore (bat_get dg_X12_walksTo_64_87 3 rfl rfl)
theorem dX12_walksTo_95 : decode cX12_walksTo 95 = .ok (.iload 5, 2) := q_iload (bat_get dg_X12_walksTo_64_87 4 rfl rfl)
theorem dX12_walksTo_97 : decode cX12_walksTo 97 = .ok (.istore_n 3, 1) := q_istore_n3 (bat_get dg_X12_walksTo_64_87 5 rfl rfl)
theorem dX12_walksTo_98 : decode cX12_walksTo 98 = .ok (.iinc 4 1, 3) := q_iinc (bat_get dg_X12_walksTo_64_87 6 rfl rfl) rfl
theorem dX12_walksTo_101 : decode cX12_walksTo 101 = .ok (.goto (-91), 3) := q_goto (bat_get dg_X12_walksTo_64_87 7 rfl rfl) rfl
theorem dX12_walksTo_64 : decode cX12_walksTo 64 = .ok (.lload_n 1, 1) := q_lload_n1 (bat_get dg_X12_walksTo_64_87 8 rfl rfl)
theorem dX12_walksTo_65 : decode cX12_walksTo 65 = .ok (.aload_n 0, 1) := q_aload_n0 (bat_get dg_X12_walksTo_64_87 9 rfl rfl)
theorem dX12_walksTo_66 : decode cX12_walksTo 66 = .ok (.getfield 82, 3) := q_getfield (bat_get dg_X12_walksTo_64_87 10 rfl rfl) rfl
theorem dX12_walksTo_69 : decode cX12_walksTo 69 = .ok (.bipush 10, 2) := q_bipush (bat_get dg_X12_walksTo_64_87 11 rfl rfl) rfl
theorem dX12_walksTo_71 : decode cX12_walksTo 71 = .ok (.iload 4, 2) := q_iload (bat_get dg_X12_walksTo_64_87 12 rfl rfl)
theorem dX12_walksTo_73 : decode cX12_walksTo 73 = .ok (.imul, 1) := q_imul (bat_get dg_X12_walksTo_64_87 13 rfl rfl)
theorem dX12_walksTo_74 : decode cX12_walksTo 74 = .ok (.iload 5, 2) := q_iload (bat_get dg_X12_walksTo_64_87 14 rfl rfl)
theorem dX12_walksTo_76 : decode cX12_walksTo 76 = .ok (.iadd, 1) := q_iadd (bat_get dg_X12_walksTo_64_87 15 rfl rfl)
theorem dX12_walksTo_77 : decode cX12_walksTo 77 = .ok (.laload, 1) := q_laload (bat_get dg_X12_walksTo_64_87 16 rfl rfl)
theorem dX12_walksTo_78 : decode cX12_walksTo 78 = .ok (.lsub, 1) := q_lsub (bat_get dg_X12_walksTo_64_87 17 rfl rfl)
theorem dX12_walksTo_79 : decode cX12_walksTo 79 = .ok (.lstore_n 1, 1) := q_lstore_n1 (bat_get dg_X12_walksTo_64_87 18 rfl rfl)
theorem w_7_220 : (Cond.code yX12_walksTo cX12_walksTo 6 none) ∈ wsL_law := sk_mem (ck_7 _ (List.mem_of_getElem? (i := 220) rfl)) rfl
set_option maxHeartbeats 4000000 in
set_option maxRecDepth 100000 in
theorem c_m_walksTo (l : Launch) (D : va_G) (cI cJ cC cZ cS : ClassId) (mm : Nat) (g : Nat → Nat) (ta : Nat) (pa : Nat) (pe : Nat) (pd : Int32) (pb : Nat) (pp : Int32) (pf : Int32) (pg : Int32) (pn : Int32) (rt : Int32) (rn : Int32) (cd : Nat) (sn : Int32) (il : Nat) (tk : Int32) (am : Int32) (at_ : Int32) (aa : Int32) (mt_ : Int32) (wt : Int32) (wy : Int64) (it_ : Nat) (rm : Nat) (ud : Nat) (nu : Nat) (sd : Int64) (qn : Nat) (qw : Nat) (qo : Int32) (qb : Nat) (qp : Nat) (qa : Int64) (qi : Nat) (oc : Nat) (x : Int64) (l0 : Nat) (l1 : Nat) (dm : Nat) (l3 : Nat) (nw : Nat → Int32) (yo : Nat → Int32) (yw : Nat → Int32) (be : Nat → Int64) (pt : Nat → Nat) (hdm : dm ≤ 9) (hdm1 : 1 ≤ dm) (hbe : beOk (cfN nw yw yo mt_) dm 0 be) (hwk0 : wk (cfN nw yw yo mt_) dm 0 (a0N nw) 0 x) (hnw : nowOk nw) (hpt : ∀ j, pt j ≤ 9) : skM l yX12_walksTo cX12_walksTo 6 none 3 66 0 0 D (skT cI cJ cC cZ cS) [.ref mm, .long x] [(mm, .inr (12, mo g (nI ta) (nI pa) (nI pe) pd (nI pb) pp pf pg pn rt rn (nI cd) sn (nI il) tk am at_ aa mt_ 0 (-1) wt wy (nI it_) (nI rm) (nI ud) (nI nu) sd (nI qn) (nI qw) qo (nI qb) (nI qp) qa (nI qi) (nI oc))), (g 20, .inl (cI, 4, .inl (l4 (nI l0) (nI l1) (nI dm) (nI l3)))), (g 31, .inl (cI, 120, .inl nw)), (g 37, .inl (cZ, 900, .inl yo)), (g 36, .inl (cZ, 900, .inl yw)), (g 43, .inl (cJ, 90, .inr (.inl be))), (g 46, .inl (cI, 9, .inl (fun j => nI (pt j))))] (skV D (skT cI cJ cC cZ cS) (fun (u : va_W) => ∃ (pt2 : Nat → Nat), (∀ j, pt2 j ≤ 9) ∧ u = [(mm, .inr (12, mo g (nI ta) (nI pa) (nI pe) pd (nI pb) pp pf pg pn rt rn (nI cd) sn (nI il) tk am at_ aa mt_ 0 (-1) wt wy (nI it_) (nI rm) (nI ud) (nI nu) sd (nI qn) (nI qw) qo (nI qb) (nI qp) qa (nI qi) (nI oc))), (g 20, .inl (cI, 4, .inl (l4 (nI l0) (nI l1) (nI dm) (nI l3)))), (g 31, .inl (cI, 120, .inl nw)), (g 37, .inl (cZ, 900, .inl yo)), (g 36, .inl (cZ, 900, .inl yw)), (g 43, .inl (cJ, 90, .inr (.inl be))), (g 46, .inl (cI, 9, .inl (fun j => nI (pt2 j))))])) := by
  refine skM_of pf_X12_walksTo (Nat.le_of_ble_eq_true rfl) ?_
  intro p e s m below meth c A ls E hP hD hl
  refine skE_el E (fun hx hb hr hml hlocks hin hown hts hK hA => ?_)
  have hown : s.vm.findClass RX12 = some m.cls := hown
  have hS : va_S A s.heap s.heap [] := va_S.rf
  have hl : lv_has ls 6 [(0, .ref mm), (1, .long x)] := hl
  refine lv_aload_n hx hb dX12_walksTo_0 rfl (lv_at hl 0 rfl) ?_
  refine sk_get (v := .ref (g 31)) (C := RX12) (T := TX12) (N := 92) hx hb hts inlX12 hown hK hP 0 rfl rfl 31 (by decide) w_5_186 rfl dX12_walksTo_1 ?_
  refine lv_iconst (v := 1) hx hb dX12_walksTo_4 (by decide) ?_
  refine va_iald hx hb hK.1 hP 2 0 rfl rfl (by unfold vp_in; decide) dX12_walksTo_5 ?_
  obtain ⟨k_1, hk_1, ek_1⟩ := nowOk_1 hnw
  refine sk_top (nI k_1) ek_1 ?_
  have ha0 := a0_eq ek_1 hk_1
  refine lv_istore_n (lv' := [(3, .int (nI k_1)), (0, .ref mm), (1, .long x)]) hx hb dX12_walksTo_6 rfl hl (by decide) rfl (fun ls hl => ?_)
  refine lv_iconst (v := 0) hx hb dX12_walksTo_7 (by decide) ?_
  refine lv_istore (lv' := [(4, .int 0), (3, .int (nI k_1)), (0, .ref mm), (1, .long x)]) hx hb dX12_walksTo_8 hl (by decide) rfl (fun ls hl => ?_)
  have lp_2 : ∀ (n_3 : Nat) (i : Nat) (ah : Nat) (xk : Int64) (zp : Nat → Nat) (H : Heap) (locs : List Loc) (ls : Array Slot), dm - i < n_3 → (∀ j, zp j ≤ 9) → (i ≤ dm) → (ah ≤ 9) → (i < dm → wk (cfN nw yw yo mt_) dm i ah 0 xk) → va_P D vwCl [(mm, .inr (12, mo g (nI ta) (nI pa) (nI pe) pd (nI pb) pp pf pg pn rt rn (nI cd) sn (nI il) tk am at_ aa mt_ 0 (-1) wt wy (nI it_) (nI rm) (nI ud) (nI nu) sd (nI qn) (nI qw) qo (nI qb) (nI qp) qa (nI qi) (nI oc))), (g 20, .inl (cI, 4, .inl (l4 (nI l0) (nI l1) (nI dm) (nI l3)))), (g 31, .inl (cI, 120, .inl nw)), (g 37, .inl (cZ, 900, .inl yo)), (g 36, .inl (cZ, 900, .inl yw)), (g 43, .inl (cJ, 90, .inr (.inl be))), (g 46, .inl (cI, 9, .inl (fun j => nI (zp j))))] H → va_D A [(mm, .inr (12, mo g (nI ta) (nI pa) (nI pe) pd (nI pb) pp pf pg pn rt rn (nI cd) sn (nI il) tk am at_ aa mt_ 0 (-1) wt wy (nI it_) (nI rm) (nI ud) (nI nu) sd (nI qn) (nI qw) qo (nI qb) (nI qp) qa (nI qi) (nI oc))), (g 20, .inl (cI, 4, .inl (l4 (nI l0) (nI l1) (nI dm) (nI l3)))), (g 31, .inl (cI, 120, .inl nw)), (g 37, .inl (cZ, 900, .inl yo)), (g 36, .inl (cZ, 900, .inl yw)), (g 43, .inl (cJ, 90, .inr (.inl be))), (g 46, .inl (cI, 9, .inl (fun j => nI (zp j))))] → va_S A s.heap H locs → lv_has ls 6 [(4, .int (nI i)), (3, .int (nI ah)), (0, .ref mm), (1, .long xk)] → W p l e { frames := 3, cells := 0, slots := 0, locals := 66 } s m ([.ref mm, .long x] : List Value).toArray below meth c H locs 0 0 (MQ below (skV D (skT cI cJ cC cZ cS) (fun (u : va_W) => ∃ (pt2 : Nat → Nat), (∀ j, pt2 j ≤ 9) ∧ u = [(mm, .inr (12, mo g (nI ta) (nI pa) (nI pe) pd (nI pb) pp pf pg pn rt rn (nI cd) sn (nI il) tk am at_ aa mt_ 0 (-1) wt wy (nI it_) (nI rm) (nI ud) (nI nu) sd (nI qn) (nI qw) qo (nI qb) (nI qp) qa (nI qi) (nI oc))), (g 20, .inl (cI, 4, .inl (l4 (nI l0) (nI l1) (nI dm) (nI l3)))), (g 31, .inl (cI, 120, .inl nw)), (g 37, .inl (cZ, 900, .inl yo)), (g 36, .inl (cZ, 900, .inl yw)), (g 43, .inl (cJ, 90, .inr (.inl be))), (g 46, .inl (cI, 9, .inl (fun j => nI (pt2 j))))]) A) ([.ref mm, .long x] : List Value).toArray s 0 0 A) (F0 m 10 ls []) := by
    intro n_3
    induction n_3 with
    | zero => intro i ah xk zp H locs ls hm; exact absurd hm (Nat.not_lt_zero _)
    | succ n_3 ih_lp_2 =>
      intro i ah xk zp H locs ls hm hzp hi hah hw10 hP hD hS hl
      refine lv_iload hx hb dX12_walksTo_10 (lv_at hl 0 rfl) ?_
      refine lv_aload_n hx hb dX12_walksTo_12 rfl (lv_at hl 2 rfl) ?_
      refine sk_Vi (q0 := 0) (n := 0) (rest := [.int (nI i)]) (wr := fmR om_7_60 _) ⟨hx, hb, hml, hown, hts⟩ hl.1 (c_m_dayMany l D cI cJ cC cZ cS mm g ta pa pe pd pb pp pf pg pn rt rn cd sn il tk am at_ aa mt_ 0 (-1) wt wy it_ rm ud nu sd qn qw qo qb qp qa qi oc l0 l1 dm l3) w_7_98 w_7_100 w_0_69 w_1_14 w_7_101 hd_X12_dayMany_0 ⟨⟨(Nat.le_of_ble_eq_true rfl), (Nat.le_of_ble_eq_true rfl)⟩, (Nat.le_of_ble_eq_true rfl), (Nat.le_of_ble_eq_true rfl)⟩ hK hP hD hS hA (fmT om_7_60 0) (fmF om_7_60 0) (fm_C1 rfl rfl) (fm_R rfl rfl) (fm_nT om_7_60 0) (fm_nF om_7_60 0) (fm_di om_7_60 0) rfl rfl rfl rfl (Nat.le_of_ble_eq_true rfl) dX12_walksTo_13 (fun r_4 u H locs hw hP hD hS => ?_)
      refine anE hw (fun er_6 eu_5 => ?_)
      clear hw
      subst er_6
      refine o_mgE (ws' := [(mm, .inr (12, mo g (nI ta) (nI pa) (nI pe) pd (nI pb) pp pf pg pn rt rn (nI cd) sn (nI il) tk am at_ aa mt_ 0 (-1) wt wy (nI it_) (nI rm) (nI ud) (nI nu) sd (nI qn) (nI qw) qo (nI qb) (nI qp) qa (nI qi) (nI oc))), (g 20, .inl (cI, 4, .inl (l4 (nI l0) (nI l1) (nI dm) (nI l3)))), (g 31, .inl (cI, 120, .inl nw)), (g 37, .inl (cZ, 900, .inl yo)), (g 36, .inl (cZ, 900, .inl yw)), (g 43, .inl (cJ, 90, .inr (.inl be))), (g 46, .inl (cI, 9, .inl (fun j => nI (zp j))))]) eu_5 hP hD rfl (fun hP hD => ?_)
      refine lv_icmp_ge (tgt := 104) hx hb dX12_walksTo_16 (by decide) (fun c_7 => ?_) (fun c_7 => ?_)
      · have c_7 : dm ≤ i := (nle dm i (by omega) (by omega)).mp c_7
        exact sk_vret hx hb hr hlocks hK hP hD hS (⟨zp, hzp, rfl⟩) (Nat.le_of_ble_eq_true rfl) (Nat.le_of_ble_eq_true rfl) dX12_walksTo_104
      · have c_7 : ¬ (dm ≤ i) := fun h => c_7 ((nle dm i (by omega) (by omega)).mpr h)
        refine lv_iconst (v := 0) hx hb dX12_walksTo_19 (by decide) ?_
        refine lv_istore (lv' := [(5, .int 0), (4, .int (nI i)), (3, .int (nI ah)), (0, .ref mm), (1, .long xk)]) hx hb dX12_walksTo_20 hl (by decide) rfl (fun ls hl => ?_)
        have lp_8 : ∀ (n_9 : Nat) (jm : Nat) (xk2 : Int64) (H : Heap) (locs : List Loc) (ls : Array Slot), 10 - jm < n_9 → (wk (cfN nw yw yo mt_) dm i ah jm xk2) → (jm < 10) → va_P D vwCl [(mm, .inr (12, mo g (nI ta) (nI pa) (nI pe) pd (nI pb) pp pf pg pn rt rn (nI cd) sn (nI il) tk am at_ aa mt_ 0 (-1) wt wy (nI it_) (nI rm) (nI ud) (nI nu) sd (nI qn) (nI qw) qo (nI qb) (nI qp) qa (nI qi) (nI oc))), (g 20, .inl (cI, 4, .inl (l4 (nI l0) (nI l1) (nI dm) (nI l3)))), (g 31, .inl (cI, 120, .inl nw)), (g 37, .inl (cZ, 900, .inl yo)), (g 36, .inl (cZ, 900, .inl yw)), (g 43, .inl (cJ, 90, .inr (.inl be))), (g 46, .inl (cI, 9, .inl (fun j => nI (zp j))))] H → va_D A [(mm, .inr (12, mo g (nI ta) (nI pa) (nI pe) pd (nI pb) pp pf pg pn rt rn (nI cd) sn (nI il) tk am at_ aa mt_ 0 (-1) wt wy (nI it_) (nI rm) (nI ud) (nI nu) sd (nI qn) (nI qw) qo (nI qb) (nI qp) qa (nI qi) (nI oc))), (g 20, .inl (cI, 4, .inl (l4 (nI l0) (nI l1) (nI dm) (nI l3)))), (g 31, .inl (cI, 120, .inl nw)), (g 37, .inl (cZ, 900, .inl yo)), (g 36, .inl (cZ, 900, .inl yw)), (g 43, .inl (cJ, 90, .inr (.inl be))), (g 46, .inl (cI, 9, .inl (fun j => nI (zp j))))] → va_S A s.heap H locs → lv_has ls 6 [(5, .int (nI jm)), (4, .int (nI i)), (3, .int (nI ah)), (0, .ref mm), (1, .long xk2)] → W p l e { frames := 3, cells := 0, slots := 0, locals := 66 } s m ([.ref mm, .long x] : List Value).toArray below meth c H locs 0 0 (MQ below (skV D (skT cI cJ cC cZ cS) (fun (u : va_W) => ∃ (pt2 : Nat → Nat), (∀ j, pt2 j ≤ 9) ∧ u = [(mm, .inr (12, mo g (nI ta) (nI pa) (nI pe) pd (nI pb) pp pf pg pn rt rn (nI cd) sn (nI il) tk am at_ aa mt_ 0 (-1) wt wy (nI it_) (nI rm) (nI ud) (nI nu) sd (nI qn) (nI qw) qo (nI qb) (nI qp) qa (nI qi) (nI oc))), (g 20, .inl (cI, 4, .inl (l4 (nI l0) (nI l1) (nI dm) (nI l3)))), (g 31, .inl (cI, 120, .inl nw)), (g 37, .inl (cZ, 900, .inl yo)), (g 36, .inl (cZ, 900, .inl yw)), (g 43, .inl (cJ, 90, .inr (.inl be))), (g 46, .inl (cI, 9, .inl (fun j => nI (pt2 j))))]) A) ([.ref mm, .long x] : List Value).toArray s 0 0 A) (F0 m 22 ls []) := by
          intro n_9
          induction n_9 with
          | zero => intro jm xk2 H locs ls hm; exact absurd hm (Nat.not_lt_zero _)
          | succ n_9 ih_lp_8 =>
            intro jm xk2 H locs ls hm hwk hjm hP hD hS hl
            refine lv_aload_n hx hb dX12_walksTo_22 rfl (lv_at hl 3 rfl) ?_
            refine lv_iload hx hb dX12_walksTo_23 (lv_at hl 1 rfl) ?_
            refine lv_iload_n hx hb dX12_walksTo_25 rfl (lv_at hl 2 rfl) ?_
            refine lv_iload hx hb dX12_walksTo_26 (lv_at hl 0 rfl) ?_
            refine sk_Vi (q0 := 0) (n := 3) (rest := []) (wr := fmR om_7_5c _) ⟨hx, hb, hml, hown, hts⟩ hl.1 (c_m_canFollow0 l D cI cJ cC cZ cS mm g ta pa pe pd pb pp pf pg pn rt rn cd sn il tk am at_ aa mt_ wt wy it_ rm ud nu sd qn qw qo qb qp qa qi oc i ah jm nw yo yw (by omega) (by omega) (by omega) hnw) w_7_201 w_7_203 w_0_85 w_1_14 w_7_204 hd_X12_canFollow_3 ⟨⟨(Nat.le_of_ble_eq_true rfl), (Nat.le_of_ble_eq_true rfl)⟩, (Nat.le_of_ble_eq_true rfl), (Nat.le_of_ble_eq_true rfl)⟩ hK hP hD hS hA (fmT om_7_5c 0) (fmF om_7_5c 0) (fm_C1 rfl rfl) (fm_R rfl rfl) (fm_nT om_7_5c 0) (fm_nF om_7_5c 0) (fm_di om_7_5c 0) rfl rfl rfl rfl (Nat.le_of_ble_eq_true rfl) dX12_walksTo_28 (fun r_11 u H locs hw hP hD hS => ?_)
            refine exE hw (fun b_10 hw1 => anE hw1 (fun hb1_12 hw2 => anE hw2 (fun hb2_13 hw3 => anE hw3 (fun er_15 eu_14 => ?_))))
            clear hw hw1 hw2 hw3
            subst er_15
            refine o_mgE (ws' := [(mm, .inr (12, mo g (nI ta) (nI pa) (nI pe) pd (nI pb) pp pf pg pn rt rn (nI cd) sn (nI il) tk am at_ aa mt_ 0 (-1) wt wy (nI it_) (nI rm) (nI ud) (nI nu) sd (nI qn) (nI qw) qo (nI qb) (nI qp) qa (nI qi) (nI oc))), (g 20, .inl (cI, 4, .inl (l4 (nI l0) (nI l1) (nI dm) (nI l3)))), (g 31, .inl (cI, 120, .inl nw)), (g 37, .inl (cZ, 900, .inl yo)), (g 36, .inl (cZ, 900, .inl yw)), (g 43, .inl (cJ, 90, .inr (.inl be))), (g 46, .inl (cI, 9, .inl (fun j => nI (zp j))))]) eu_14 hP hD rfl (fun hP hD => ?_)
            refine lv_if_eq (tgt := 52) hx hb dX12_walksTo_31 (by decide) (fun c_16 => ?_) (fun c_16 => ?_)
            · have c_16 : b_10 = 0 := (neq b_10 0 (by omega) (by omega)).mp c_16
              refine lv_aload_n hx hb dX12_walksTo_52 rfl (lv_at hl 3 rfl) ?_
              refine lv_iload hx hb dX12_walksTo_53 (lv_at hl 1 rfl) ?_
              refine lv_iload_n hx hb dX12_walksTo_55 rfl (lv_at hl 2 rfl) ?_
              refine lv_iload hx hb dX12_walksTo_56 (lv_at hl 0 rfl) ?_
              refine sk_Vi (q0 := 0) (n := 3) (rest := []) (wr := fmR om_7_5c _) ⟨hx, hb, hml, hown, hts⟩ hl.1 (c_m_canFollow0 l D cI cJ cC cZ cS mm g ta pa pe pd pb pp pf pg pn rt rn cd sn il tk am at_ aa mt_ wt wy it_ rm ud nu sd qn qw qo qb qp qa qi oc i ah jm nw yo yw (by omega) (by omega) (by omega) hnw) w_7_201 w_7_203 w_0_85 w_1_14 w_7_204 hd_X12_canFollow_3 ⟨⟨(Nat.le_of_ble_eq_true rfl), (Nat.le_of_ble_eq_true rfl)⟩, (Nat.le_of_ble_eq_true rfl), (Nat.le_of_ble_eq_true rfl)⟩ hK hP hD hS hA (fmT om_7_5c 0) (fmF om_7_5c 0) (fm_C1 rfl rfl) (fm_R rfl rfl) (fm_nT om_7_5c 0) (fm_nF om_7_5c 0) (fm_di om_7_5c 0) rfl rfl rfl rfl (Nat.le_of_ble_eq_true rfl) dX12_walksTo_58 (fun r_18 u H locs hw hP hD hS => ?_)
              refine exE hw (fun b_17 hw1 => anE hw1 (fun hb1_19 hw2 => anE hw2 (fun hb2_20 hw3 => anE hw3 (fun er_22 eu_21 => ?_))))
              clear hw hw1 hw2 hw3
              subst er_22
              refine o_mgE (ws' := [(mm, .inr (12, mo g (nI ta) (nI pa) (nI pe) pd (nI pb) pp pf pg pn rt rn (nI cd) sn (nI il) tk am at_ aa mt_ 0 (-1) wt wy (nI it_) (nI rm) (nI ud) (nI nu) sd (nI qn) (nI qw) qo (nI qb) (nI qp) qa (nI qi) (nI oc))), (g 20, .inl (cI, 4, .inl (l4 (nI l0) (nI l1) (nI dm) (nI l3)))), (g 31, .inl (cI, 120, .inl nw)), (g 37, .inl (cZ, 900, .inl yo)), (g 36, .inl (cZ, 900, .inl yw)), (g 43, .inl (cJ, 90, .inr (.inl be))), (g 46, .inl (cI, 9, .inl (fun j => nI (zp j))))]) eu_21 hP hD rfl (fun hP hD => ?_)
              refine lv_if_eq (tgt := 80) hx hb dX12_walksTo_61 (by decide) (fun c_23 => ?_) (fun c => absurd ((or_1 hb1_19 (fun h => c (by rw [h]; rfl))).symm.trans (or_0 hb1_12 (by omega))) (by decide))
              refine lv_iinc (v := nI (jm + 1)) (lv' := [(5, .int (nI (jm + 1))), (4, .int (nI i)), (3, .int (nI ah)), (0, .ref mm), (1, .long xk2)]) hx hb dX12_walksTo_80 hl (k := 0) rfl (ninc jm 1 (by decide)) (by decide) rfl (fun ls hl => ?_)
              refine lv_goto (tgt := 22) hx hb dX12_walksTo_83 (by decide) ?_
              exact ih_lp_8 (jm + 1) xk2 _ _ _ (by omega) (wk_no hwk (or_0 hb1_12 (by omega))) (wk_lt (wk_no hwk (or_0 hb1_12 (by omega)))) hP hD hS (lv_sub hl [0, 1, 2, 3, 4] rfl)
            · have c_16 : ¬ (b_10 = 0) := fun h => c_16 ((neq b_10 0 (by omega) (by omega)).mpr h)
              refine lv_lload_n hx hb dX12_walksTo_34 rfl (lv_at hl 4 rfl) ?_
              refine lv_aload_n hx hb dX12_walksTo_35 rfl (lv_at hl 3 rfl) ?_
              refine sk_get (v := .ref (g 43)) (C := RX12) (T := TX12) (N := 92) hx hb hts inlX12 hown hK hP 0 rfl rfl 43 (by decide) w_5_198 rfl dX12_walksTo_36 ?_
              refine lv_bipush (v := 10) hx hb dX12_walksTo_39 (by decide) ?_
              refine lv_iload hx hb dX12_walksTo_41 (lv_at hl 1 rfl) ?_
              refine lv_imul hx hb dX12_walksTo_43 ?_
              refine sk_top (nI (10 * i)) (nmul 10 i) ?_
              refine lv_iload hx hb dX12_walksTo_44 (lv_at hl 0 rfl) ?_
              refine lv_iadd hx hb dX12_walksTo_46 ?_
              refine sk_top (nI (10 * i + jm)) (nI_add (10 * i) jm) ?_
              refine va_lald hx hb hK.1 hP 5 1 rfl rfl (vin (10 * i + jm) 90 (by omega) (by omega)) dX12_walksTo_47 ?_
              refine lv_topl (fun v_24 ev_24 => ?_)
              refine W.lcmp hx hb dX12_walksTo_48 ?_
              refine lv_if_lt (tgt := 86) hx hb dX12_walksTo_49 (by decide) (fun c_25 => ?_) (fun c_25 => ?_)
              · skip
                refine lv_aload_n hx hb dX12_walksTo_86 rfl (lv_at hl 3 rfl) ?_
                refine sk_get (v := .ref (g 46)) (C := RX12) (T := TX12) (N := 92) hx hb hts inlX12 hown hK hP 0 rfl rfl 46 (by decide) w_5_201 rfl dX12_walksTo_87 ?_
                refine lv_iload hx hb dX12_walksTo_90 (lv_at hl 1 rfl) ?_
                refine lv_iload hx hb dX12_walksTo_92 (lv_at hl 0 rfl) ?_
                refine sk_iastN (k := i) (v := jm) (B := 9) (ws' := fun f_26 => [(mm, .inr (12, mo g (nI ta) (nI pa) (nI pe) pd (nI pb) pp pf pg pn rt rn (nI cd) sn (nI il) tk am at_ aa mt_ 0 (-1) wt wy (nI it_) (nI rm) (nI ud) (nI nu) sd (nI qn) (nI qw) qo (nI qb) (nI qp) qa (nI qi) (nI oc))), (g 20, .inl (cI, 4, .inl (l4 (nI l0) (nI l1) (nI dm) (nI l3)))), (g 31, .inl (cI, 120, .inl nw)), (g 37, .inl (cZ, 900, .inl yo)), (g 36, .inl (cZ, 900, .inl yw)), (g 43, .inl (cJ, 90, .inr (.inl be))), (g 46, .inl (cI, 9, .inl (fun j => nI (f_26 j))))]) hx hb hK hP hD hS 6 0 rfl rfl (by omega) (by omega) hzp (by omega) (fun _ => rfl) dX12_walksTo_94 (fun f_26 H locs hf_27 hP hD hS => ?_)
                refine lv_iload hx hb dX12_walksTo_95 (lv_at hl 0 rfl) ?_
                refine lv_istore_n (lv' := [(3, .int (nI jm)), (5, .int (nI jm)), (4, .int (nI i)), (0, .ref mm), (1, .long xk2)]) hx hb dX12_walksTo_97 rfl hl (by decide) rfl (fun ls hl => ?_)
                refine lv_iinc (v := nI (i + 1)) (lv' := [(4, .int (nI (i + 1))), (3, .int (nI jm)), (5, .int (nI jm)), (0, .ref mm), (1, .long xk2)]) hx hb dX12_walksTo_98 hl (k := 2) rfl (ninc i 1 (by decide)) (by decide) rfl (fun ls hl => ?_)
                refine lv_goto (tgt := 10) hx hb dX12_walksTo_101 (by decide) ?_
                exact ih_lp_2 (i + 1) jm xk2 f_26 _ _ _ (by omega) hf_27 (by omega) (by omega) (wk_next hwk (by omega) (be_get hbe (by omega) (by omega) (by omega) (by omega) ev_24) c_25) hP hD hS (lv_sub hl [0, 1, 3, 4] rfl)
              · skip
                refine lv_aload_n hx hb dX12_walksTo_52 rfl (lv_at hl 3 rfl) ?_
                refine lv_iload hx hb dX12_walksTo_53 (lv_at hl 1 rfl) ?_
                refine lv_iload_n hx hb dX12_walksTo_55 rfl (lv_at hl 2 rfl) ?_
                refine lv_iload hx hb dX12_walksTo_56 (lv_at hl 0 rfl) ?_
                refine sk_Vi (q0 := 0) (n := 3) (rest := []) (wr := fmR om_7_5c _) ⟨hx, hb, hml, hown, hts⟩ hl.1 (c_m_canFollow0 l D cI cJ cC cZ cS mm g ta pa pe pd pb pp pf pg pn rt rn cd sn il tk am at_ aa mt_ wt wy it_ rm ud nu sd qn qw qo qb qp qa qi oc i ah jm nw yo yw (by omega) (by omega) (by omega) hnw) w_7_201 w_7_203 w_0_85 w_1_14 w_7_204 hd_X12_canFollow_3 ⟨⟨(Nat.le_of_ble_eq_true rfl), (Nat.le_of_ble_eq_true rfl)⟩, (Nat.le_of_ble_eq_true rfl), (Nat.le_of_ble_eq_true rfl)⟩ hK hP hD hS hA (fmT om_7_5c 0) (fmF om_7_5c 0) (fm_C1 rfl rfl) (fm_R rfl rfl) (fm_nT om_7_5c 0) (fm_nF om_7_5c 0) (fm_di om_7_5c 0) rfl rfl rfl rfl (Nat.le_of_ble_eq_true rfl) dX12_walksTo_58 (fun r_29 u H locs hw hP hD hS => ?_)
                refine exE hw (fun b_28 hw1 => anE hw1 (fun hb1_30 hw2 => anE hw2 (fun hb2_31 hw3 => anE hw3 (fun er_33 eu_32 => ?_))))
                clear hw hw1 hw2 hw3
                subst er_33
                refine o_mgE (ws' := [(mm, .inr (12, mo g (nI ta) (nI pa) (nI pe) pd (nI pb) pp pf pg pn rt rn (nI cd) sn (nI il) tk am at_ aa mt_ 0 (-1) wt wy (nI it_) (nI rm) (nI ud) (nI nu) sd (nI qn) (nI qw) qo (nI qb) (nI qp) qa (nI qi) (nI oc))), (g 20, .inl (cI, 4, .inl (l4 (nI l0) (nI l1) (nI dm) (nI l3)))), (g 31, .inl (cI, 120, .inl nw)), (g 37, .inl (cZ, 900, .inl yo)), (g 36, .inl (cZ, 900, .inl yw)), (g 43, .inl (cJ, 90, .inr (.inl be))), (g 46, .inl (cI, 9, .inl (fun j => nI (zp j))))]) eu_32 hP hD rfl (fun hP hD => ?_)
                refine lv_if_eq (tgt := 80) hx hb dX12_walksTo_61 (by decide) (fun c => absurd ((or_0 hb1_30 ((neq _ 0 (by omega) (by omega)).mp c)).symm.trans (or_1 hb1_12 (by omega))) (by decide)) (fun c_34 => ?_)
                refine lv_lload_n hx hb dX12_walksTo_64 rfl (lv_at hl 4 rfl) ?_
                refine lv_aload_n hx hb dX12_walksTo_65 rfl (lv_at hl 3 rfl) ?_
                refine sk_get (v := .ref (g 43)) (C := RX12) (T := TX12) (N := 92) hx hb hts inlX12 hown hK hP 0 rfl rfl 43 (by decide) w_5_198 rfl dX12_walksTo_66 ?_
                refine lv_bipush (v := 10) hx hb dX12_walksTo_69 (by decide) ?_
                refine lv_iload hx hb dX12_walksTo_71 (lv_at hl 1 rfl) ?_
                refine lv_imul hx hb dX12_walksTo_73 ?_
                refine sk_top (nI (10 * i)) (nmul 10 i) ?_
                refine lv_iload hx hb dX12_walksTo_74 (lv_at hl 0 rfl) ?_
                refine lv_iadd hx hb dX12_walksTo_76 ?_
                refine sk_top (nI (10 * i + jm)) (nI_add (10 * i) jm) ?_
                refine va_lald hx hb hK.1 hP 5 1 rfl rfl (vin (10 * i + jm) 90 (by omega) (by omega)) dX12_walksTo_77 ?_
                refine lv_topl (fun v_35 ev_35 => ?_)
                refine lv_lsub hx hb dX12_walksTo_78 ?_
                refine lv_topl (fun v_36 ev_36 => ?_)
                refine lv_lstore_n (lv' := [(1, .long v_36), (5, .int (nI jm)), (4, .int (nI i)), (3, .int (nI ah)), (0, .ref mm)]) hx hb dX12_walksTo_79 rfl hl (by decide) rfl (fun ls hl => ?_)
                refine lv_iinc (v := nI (jm + 1)) (lv' := [(5, .int (nI (jm + 1))), (1, .long v_36), (4, .int (nI i)), (3, .int (nI ah)), (0, .ref mm)]) hx hb dX12_walksTo_80 hl (k := 1) rfl (ninc jm 1 (by decide)) (by decide) rfl (fun ls hl => ?_)
                refine lv_goto (tgt := 22) hx hb dX12_walksTo_83 (by decide) ?_
                exact ih_lp_8 (jm + 1) v_36 _ _ _ (by omega) (wk_sub hwk (by omega) (or_1 hb1_12 (by omega)) (be_get hbe (by omega) (by omega) (by omega) (by omega) ev_35) (by rw [ev_35, ← ev_24]; exact c_25) ev_36) (wk_lt (wk_sub hwk (by omega) (or_1 hb1_12 (by omega)) (be_get hbe (by omega) (by omega) (by omega) (by omega) ev_35) (by rw [ev_35, ← ev_24]; exact c_25) ev_36)) hP hD hS (lv_sub hl [0, 2, 3, 4, 1] rfl)
        exact lp_8 (10 - 0 + 1) 0 xk _ _ _ (Nat.lt_succ_self _) (hw10 (by omega)) (wk_lt (hw10 (by omega))) hP hD hS (lv_sub hl [0, 1, 2, 3, 4] rfl)
  exact lp_2 (dm - 0 + 1) 0 k_1 x pt _ _ _ (Nat.lt_succ_self _) hpt (by omega) (by omega) (fun _ => by rw [ha0]; exact hwk0) hP hD hS (lv_sub hl [0, 1, 2, 3] rfl)

