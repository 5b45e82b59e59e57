theorem dg_X12_unlike_0_0 : bqL cX12_unlike 0 [(0, [42]), (1, [180, 1, 46]), (4, [153, 0, 11]), (15, [2]), (16, [172]), (7, [27]), (8, [155, 0, 7]), (11, [28]), (12, [156, 0, 5]), (17, [42]), (18, [182, 1, 144]), (21, [27]), (22, [133]), (23, [42]), (24, [180, 1, 126]), (27, [148]), (28, [156, 0, 13]), (41, [2]), (42, [172]), (31, [28]), (32, [133]), (33, [42]), (34, [180, 1, 126]), (37, [148]), (38, [155, 0, 5]), (43, [42]), (44, [27]), (45, [133]), (46, [182, 1, 138]), (49, [3]), (50, [62]), (51, [29]), (52, [42]), (53, [182, 1, 59]), (56, [162, 0, 21]), (77, [42]), (78, [28]), (79, [133]), (80, [182, 1, 138]), (83, [3])] = true := by decide +kernel
theorem dX12_unlike_0 : decode cX12_unlike 0 = .ok (.aload_n 0, 1) := q_aload_n0 (bat_get dg_X12_unlike_0_0 0 rfl rfl)
theorem dX12_unlike_1 : decode cX12_unlike 1 = .ok (.getfield 302, 3) := q_getfield (bat_get dg_X12_unlike_0_0 1 rfl rfl) rfl
theorem dX12_unlike_4 : decode cX12_unlike 4 = .ok (.ifCond .eq 11, 3) := q_ifCond_eq (bat_get dg_X12_unlike_0_0 2 rfl rfl) rfl
theorem dX12_unlike_15 : decode cX12_unlike 15 = .ok (.iconst (-1), 1) := q_iconstm1 (bat_get dg_X12_unlike_0_0 3 rfl rfl)
theorem dX12_unlike_16 : decode cX12_unlike 16 = .ok (.ireturn, 1) := q_ireturn (bat_get dg_X12_unlike_0_0 4 rfl rfl)
theorem dX12_unlike_7 : decode cX12_unlike 7 = .ok (.iload_n 1, 1) := q_iload_n1 (bat_get dg_X12_unlike_0_0 5 rfl rfl)
theorem dX12_unlike_8 : decode cX12_unlike 8 = .ok (.ifCond .lt 7, 3) := q_ifCond_lt (bat_get dg_X12_unlike_0_0 6 rfl rfl) rfl
theorem dX12_unlike_11 : decode cX12_unlike 11 = .ok (.iload_n 2, 1) := q_iload_n2 (bat_get dg_X12_unlike_0_0 7 rfl rfl)
theorem dX12_unlike_12 : decode cX12_unlike 12 = .ok (.ifCond .ge 5, 3) := q_ifCond_ge (bat_get dg_X12_unlike_0_0 8 rfl rfl) rfl
theorem dX12_unlike_17 : decode cX12_unlike 17 = .ok (.aload_n 0, 1) := q_aload_n0 (bat_get dg_X12_unlike_0_0 9 rfl rfl)
theorem dX12_unlike_18 : decode cX12_unlike 18 = .ok (.invokevirtual 400, 3) := q_invokevirtual (bat_get dg_X12_unlike_0_0 10 rfl rfl) rfl
theorem dX12_unlike_21 : decode cX12_unlike 21 = .ok (.iload_n 1, 1) := q_iload_n1 (bat_get dg_X12_unlike_0_0 11 rfl rfl)
theorem dX12_unlike_22 : decode cX12_unlike 22 = .ok (.i2l, 1) := q_i2l (bat_get dg_X12_unlike_0_0 12 rfl rfl)
theorem dX12_unlike_23 : decode cX12_unlike 23 = .ok (.aload_n 0, 1) := q_aload_n0 (bat_get dg_X12_unlike_0_0 13 rfl rfl)
theorem dX12_unlike_24 : decode cX12_unlike 24 = .ok (.getfield 382, 3) := q_getfield (bat_get dg_X12_unlike_0_0 14 rfl rfl) rfl
theorem dX12_unlike_27 : decode cX12_unlike 27 = .ok (.lcmp, 1) := q_lcmp (bat_get dg_X12_unlike_0_0 15 rfl rfl)
theorem dX12_unlike_28 : decode cX12_unlike 28 = .ok (.ifCond .ge 13, 3) := q_ifCond_ge (bat_get dg_X12_unlike_0_0 16 rfl rfl) rfl
theorem dX12_unlike_41 : decode cX12_unlike 41 = .ok (.iconst (-1), 1) := q_iconstm1 (bat_get dg_X12_unlike_0_0 17 rfl rfl)
theorem dX12_unlike_42 : decode cX12_unlike 42 = .ok (.ireturn, 1) := q_ireturn (bat_get dg_X12_unlike_0_0 18 rfl rfl)
theorem dX12_unlike_31 : decode cX12_unlike 31 = .ok (.iload_n 2, 1) := q_iload_n2 (bat_get dg_X12_unlike_0_0 19 rfl rfl)
theorem dX12_unlike_32 : decode cX12_unlike 32 = .ok (.i2l, 1) := q_i2l (bat_get dg_X12_unlike_0_0 20 rfl rfl)
theorem dX12_unlike_33 : decode cX12_unlike 33 = .ok (.aload_n 0, 1) := q_aload_n0 (bat_get dg_X12_unlike_0_0 21 rfl rfl)
theorem dX12_unlike_34 : decode cX12_unlike 34 = .ok (.getfield 382, 3) := q_getfield (bat_get dg_X12_unlike_0_0 22 rfl rfl) rfl
theorem dX12_unlike_37 : decode cX12_unlike 37 = .ok (.lcmp, 1) := q_lcmp (bat_get dg_X12_unlike_0_0 23 rfl rfl)
theorem dX12_unlike_38 : decode cX12_unlike 38 = .ok (.ifCond .lt 5, 3) := q_ifCond_lt (bat_get dg_X12_unlike_0_0 24 rfl rfl) rfl
theorem dX12_unlike_43 : decode cX12_unlike 43 = .ok (.aload_n 0, 1) := q_aload_n0 (bat_get dg_X12_unlike_0_0 25 rfl rfl)
theorem dX12_unlike_44 : decode cX12_unlike 44 = .ok (.iload_n 1, 1) := q_iload_n1 (bat_get dg_X12_unlike_0_0 26 rfl rfl)
theorem dX12_unlike_45 : decode cX12_unlike 45 = .ok (.i2l, 1) := q_i2l (bat_get dg_X12_unlike_0_0 27 rfl rfl)
theorem dX12_unlike_46 : decode cX12_unlike 46 = .ok (.invokevirtual 394, 3) := q_invokevirtual (bat_get dg_X12_unlike_0_0 28 rfl rfl) rfl
theorem dX12_unlike_49 : decode cX12_unlike 49 = .ok (.iconst 0, 1) := q_iconst0 (bat_get dg_X12_unlike_0_0 29 rfl rfl)
theorem dX12_unlike_50 : decode cX12_unlike 50 = .ok (.istore_n 3, 1) := q_istore_n3 (bat_get dg_X12_unlike_0_0 30 rfl rfl)
theorem dX12_unlike_51 : decode cX12_unlike 51 = .ok (.iload_n 3, 1) := q_iload_n3 (bat_get dg_X12_unlike_0_0 31 rfl rfl)
theorem dX12_unlike_52 : decode cX12_unlike 52 = .ok (.aload_n 0, 1) := q_aload_n0 (bat_get dg_X12_unlike_0_0 32 rfl rfl)
theorem dX12_unlike_53 : decode cX12_unlike 53 = .ok (.invokevirtual 315, 3) := q_invokevirtual (bat_get dg_X12_unlike_0_0 33 rfl rfl) rfl
theorem dX12_unlike_56 : decode cX12_unlike 56 = .ok (.if_icmp .ge 21, 3) := q_if_icmp_ge (bat_get dg_X12_unlike_0_0 34 rfl rfl) rfl
theorem dX12_unlike_77 : decode cX12_unlike 77 = .ok (.aload_n 0, 1) := q_aload_n0 (bat_get dg_X12_unlike_0_0 35 rfl rfl)
theorem dX12_unlike_78 : decode cX12_unlike 78 = .ok (.iload_n 2, 1) := q_iload_n2 (bat_get dg_X12_unlike_0_0 36 rfl rfl)
theorem dX12_unlike_79 : decode cX12_unlike 79 = .ok (.i2l, 1) := q_i2l (bat_get dg_X12_unlike_0_0 37 rfl rfl)
theorem dX12_unlike_80 : decode cX12_unlike 80 = .ok (.invokevirtual 394, 3) := q_invokevirtual (bat_get dg_X12_unlike_0_0 38 rfl rfl) rfl
theorem dX12_unlike_83 : decode cX12_unlike 83 = .ok (.iconst 0, 1) := q_iconst0 (bat_get dg_X12_unlike_0_0 39 rfl rfl)
theorem dg_X12_unlike_59_84 : bqL cX12_unlike 59 [(25, [62]), (26, [3]), (27, [54, 4]), (29, [21, 4]), (31, [42]), (32, [182, 1, 59]), (35, [162, 0, 29]), (64, [29]), (65, [172]), (38, [42]), (39, [180, 0, 101]), (42, [21, 4]), (44, [46]), (45, [42]), (46, [180, 0, 89]), (49, [21, 4]), (51, [46]), (52, [159, 0, 6]), (58, [132, 4, 1]), (61, [167, 255, 224]), (55, [132, 3, 1]), (0, [42]), (1, [180, 0, 101]), (4, [29]), (5, [42]), (6, [180, 0, 89]), (9, [29]), (10, [46]), (11, [79]), (12, [132, 3, 1]), (15, [167, 255, 233])] = true := by decide +kernel
theorem dX12_unlike_84 : decode cX12_unlike 84 = .ok (.istore_n 3, 1) := q_istore_n3 (bat_get dg_X12_unlike_59_84 0 rfl rfl)
theorem dX12_unlike_85 : decode cX12_unlike 85 = .ok (.iconst 0, 1) := q_iconst0 (bat_get dg_X12_unlike_59_84 1 rfl rfl)
theorem dX12_unlike_86 : decode cX12_unlike 86 = .ok (.istore 4, 2) := q_istore (bat_get dg_X12_unlike_59_84 2 rfl rfl)
theorem dX12_unlike_88 : decode cX12_unlike 88 = .ok (.iload 4, 2) := q_iload (bat_get dg_X12_unlike_59_84 3 rfl rfl)
theorem dX12_unlike_90 : decode cX12_unlike 90 = .ok (.aload_n 0, 1) := q_aload_n0 (bat_get dg_X12_unlike_59_84 4 rfl rfl)
theorem dX12_unlike_91 : decode cX12_unlike 91 = .ok (.invokevirtual 315, 3) := q_invokevirtual (bat_get dg_X12_unlike_59_84 5 rfl rfl) rfl
theorem dX12_unlike_94 : decode cX12_unlike 94 = .ok (.if_icmp .ge 29, 3) := q_if_icmp_ge (bat_get dg_X12_unlike_59_84 6 rfl rfl) rfl
theorem dX12_unlike_123 : decode cX12_unlike 123 = .ok (.iload_n 3, 1) := q_iload_n3 (bat_get dg_X12_unlike_59_84 7 rfl rfl)
theorem dX12_unlike_124 : decode cX12_unlike 124 = .ok (.ireturn, 1) := q_ireturn (bat_get dg_X12_unlike_59_84 8 rfl rfl)
theorem dX12_unlike_97 : decode cX12_unlike 97 = .ok (.aload_n 0, 1) := q_aload_n0 (bat_get dg_X12_unlike_59_84 9 rfl rfl)
theorem dX12_unlike_98 : decode cX12_unlike 98 = .ok (.getfield 101, 3) := q_getfield (bat_get dg_X12_unlike_59_84 10 rfl rfl) rfl
theorem dX12_unlike_101 : decode cX12_unlike 101 = .ok (.iload 4, 2) := q_iload (bat_get dg_X12_unlike_59_84 11 rfl rfl)
theorem dX12_unlike_103 : decode cX12_unlike 103 = .ok (.iaload, 1) := q_iaload (bat_get dg_X12_unlike_59_84 12 rfl rfl)
theorem dX12_unlike_104 : decode cX12_unlike 104 = .ok (.aload_n 0, 1) := q_aload_n0 (bat_get dg_X12_unlike_59_84 13 rfl rfl)
theorem dX12_unlike_105 : decode cX12_unlike 105 = .ok (.getfield 89, 3) := q_getfield (bat_get dg_X12_unlike_59_84 14 rfl rfl) rfl
theorem dX12_unlike_108 : decode cX12_unlike 108 = .ok (.iload 4, 2) := q_iload (bat_get dg_X12_unlike_59_84 15 rfl rfl)
theorem dX12_unlike_110 : decode cX12_unlike 110 = .ok (.iaload, 1) := q_iaload (bat_get dg_X12_unlike_59_84 16 rfl rfl)
theorem dX12_unlike_111 : decode cX12_unlike 111 = .ok (.if_icmp .eq 6, 3) := q_if_icmp_eq (bat_get dg_X12_unlike_59_84 17 rfl rfl) rfl
theorem dX12_unlike_117 : decode cX12_unlike 117 = .ok (.iinc 4 1, 3) := q_iinc (bat_get dg_X12_unlike_59_84 18 rfl rfl) rfl
theorem dX12_unlike_120 : decode cX12_unlike 120 = .ok (.goto (-32), 3) := q_goto (bat_get dg_X12_unlike_59_84 19 rfl rfl) rfl
theorem dX12_unlike_114 : decode cX12_unlike 114 = .ok (.iinc 3 1, 3) := q_iinc (bat_get dg_X12_unlike_59_84 20 rfl rfl) rfl
theorem dX12_unlike_59 : decode cX12_unlike 59 = .ok (.aload_n 0, 1) := q_aload_n0 (bat_get dg_X12_unlike_59_84 21 rfl rfl)
theorem dX12_unlike_60 : decode cX12_unlike 60 = .ok (.getfield 101, 3) := q_getfield (bat_get dg_X12_unlike_59_84 22 rfl rfl) rfl
theorem dX12_unlike_63 : decode cX12_unlike 63 = .ok (.iload_n 3, 1) := q_iload_n3 (bat_get dg_X12_unlike_59_84 23 rfl rfl)
theorem dX12_unlike_64 : decode cX12_unlike 64 = .ok (.aload_n 0, 1) := q_aload_n0 (bat_get dg_X12_unlike_59_84 24 rfl rfl)
theorem dX12_unlike_65 : decode cX12_unlike 65 = .ok (.getfield 89, 3) := q_getfield (bat_get dg_X12_unlike_59_84 25 rfl rfl) rfl
theorem dX12_unlike_68 : decode cX12_unlike 68 = .ok (.iload_n 3, 1) := q_iload_n3 (bat_get dg_X12_unlike_59_84 26 rfl rfl)
theorem dX12_unlike_69 : decode cX12_unlike 69 = .ok (.iaload, 1) := q_iaload (bat_get dg_X12_unlike_59_84 27 rfl rfl)
theorem dX12_unlike_70 : decode cX12_unlike 70 = .ok (.iastore, 1) := q_iastore (bat_get dg_X12_unlike_59_84 28 rfl rfl)
theorem dX12_unlike_71 : decode cX12_unlike 71 = .ok (.iinc 3 1, 3) := q_iinc (bat_get dg_X12_unlike_59_84 29 rfl rfl) rfl
theorem dX12_unlike_74 : decode cX12_unlike 74 = .ok (.goto (-23), 3) := q_goto (bat_get dg_X12_unlike_59_84 30 rfl rfl) rfl
theorem w_5_206 : (Cond.fieldLink RX12 101 "SameKeeperModel" "other0" "[I") ∈ wsL_law := sk_mem (ck_5 _ (List.mem_of_getElem? (i := 206) rfl)) rfl
theorem w_8_72 : (Cond.code yX12_unlike cX12_unlike 5 (some .int)) ∈ wsL_law := sk_mem (ck_8 _ (List.mem_of_getElem? (i := 72) rfl)) rfl
def om_14_235c : List Bool := true :: false :: false :: false :: true :: true :: false :: true :: false :: true :: true :: true :: false :: false :: []
set_option maxHeartbeats 4000000 in
set_option maxRecDepth 100000 in
theorem c_m_unlike (l : Launch) (D : va_G) (cI cJ cC cZ cS : ClassId) (mm : Nat) (g : Nat → Nat) (ta : Nat) (pa : Nat) (pe : Nat) (pd : Int32) (pb : Nat) (pp : Int32) (pf : Int32) (pg : Int32) (pn : Int32) (rt : Int32) (rn : Int32) (cd : Nat) (sn : Int32) (il : Nat) (tk : Int32) (am : Int32) (at_ : Int32) (aa : Int32) (wt : Int32) (wy : Int64) (rm : Nat) (ud : Nat) (nu : Nat) (sd : Int64) (qn : Nat) (qw : Nat) (qo : Int32) (qb : Nat) (qp : Nat) (qa : Int64) (qi : Nat) (oc : Nat) (o : Int32) (w : Int32) (u0 : Int32) (u1 : Int32) (u2 : Int32) (u3 : Int32) (u4 : Int32) (u5 : Int32) (v0 : Int32) (v1 : Int32) (v2 : Int32) (v3 : Int32) (v4 : Int32) (v5 : Int32) (cs : Nat → Nat) (nw : Nat → Int32) (pt : Nat → Nat) (ql : Nat → Int64) (l0 : Nat) (l1 : Nat) (dm : Nat) (l3 : Nat) (ws_ : Nat → Int32) (yw : Nat → Int32) (yo : Nat → Int32) (be : Nat → Int64) (bf : Nat → Int64) (ot : Nat → Int32) (hil : il ≤ 1) (hild : il = 1 → 1 ≤ dm) (hdm : dm ≤ 9) (hp0 : progOk cs u3 v3) (hp1 : progOk cs u4 v4) (hp2 : progOk cs u5 v5) (hcs : ∀ j, cs j ≤ 20000) (hnw : nowOk nw) (hpt : ∀ j, pt j ≤ 9) : skM l yX12_unlike cX12_unlike 5 (some .int) 6 142 0 0 D (skT cI cJ cC cZ cS) [.ref mm, .int o, .int w] [(mm, .inr (12, mo g (nI ta) (nI pa) (nI pe) pd (nI pb) pp pf pg pn rt rn (nI cd) sn (nI il) tk am at_ aa 0 0 (-1) wt wy 0 (nI rm) (nI ud) (nI nu) sd (nI qn) (nI qw) qo (nI qb) (nI qp) qa (nI qi) (nI oc))), (g 24, .inl (cI, 6, .inl (l6 u0 u1 u2 u3 u4 u5))), (g 25, .inl (cI, 6, .inl (l6 v0 v1 v2 v3 v4 v5))), (g 26, .inl (cI, 3200, .inl (fun j => nI (cs j)))), (g 31, .inl (cI, 120, .inl nw)), (g 46, .inl (cI, 9, .inl (fun j => nI (pt j)))), (g 86, .inl (cJ, 1700, .inr (.inl ql))), (g 20, .inl (cI, 4, .inl (l4 (nI l0) (nI l1) (nI dm) (nI l3)))), (g 38, .inl (cI, 90, .inl ws_)), (g 36, .inl (cZ, 900, .inl yw)), (g 37, .inl (cZ, 900, .inl yo)), (g 43, .inl (cJ, 90, .inr (.inl be))), (g 44, .inl (cJ, 90, .inr (.inl bf))), (g 51, .inl (cI, 9, .inl ot))] (skI D (skT cI cJ cC cZ cS) (fun (r : Int32) (u : va_W) => ∃ (tk2 : Int32), ∃ (qp2 : Nat), ∃ (am2 : Int32), ∃ (at_2 : Int32), ∃ (aa2 : Int32), ∃ (wy2 : Int64), ∃ (pt2 : Nat → Nat), ∃ (ql2 : Nat → Int64), ∃ (ws_2 : Nat → Int32), ∃ (yw2 : Nat → Int32), ∃ (yo2 : Nat → Int32), ∃ (be2 : Nat → Int64), ∃ (bf2 : Nat → Int64), ∃ (ot2 : Nat → Int32), (∀ j, pt2 j ≤ 9) ∧ u = [(mm, .inr (12, mo g (nI ta) (nI pa) (nI pe) pd (nI pb) pp pf pg pn rt rn (nI cd) sn (nI il) tk2 am2 at_2 aa2 0 0 (-1) wt wy2 0 (nI rm) (nI ud) (nI nu) sd (nI qn) (nI qw) qo (nI qb) (nI qp2) qa (nI qi) (nI oc))), (g 24, .inl (cI, 6, .inl (l6 u0 u1 u2 u3 u4 u5))), (g 25, .inl (cI, 6, .inl (l6 v0 v1 v2 v3 v4 v5))), (g 26, .inl (cI, 3200, .inl (fun j => nI (cs j)))), (g 31, .inl (cI, 120, .inl nw)), (g 46, .inl (cI, 9, .inl (fun j => nI (pt2 j)))), (g 86, .inl (cJ, 1700, .inr (.inl ql2))), (g 20, .inl (cI, 4, .inl (l4 (nI l0) (nI l1) (nI dm) (nI l3)))), (g 38, .inl (cI, 90, .inl ws_2)), (g 36, .inl (cZ, 900, .inl yw2)), (g 37, .inl (cZ, 900, .inl yo2)), (g 43, .inl (cJ, 90, .inr (.inl be2))), (g 44, .inl (cJ, 90, .inr (.inl bf2))), (g 51, .inl (cI, 9, .inl ot2))])) := by
  refine skM_of pf_X12_unlike (Nat.le_of_ble_eq_true rfl) ?_
  intro p e s m below meth c A ls E hP hD hl
  refine skE_el E (fun hx hb hr hml hlocks hin hown hts hK hA => ?_)
  have hown : s.vm.findClass RX12 = some m.cls := hown
  have hS : va_S A s.heap s.heap [] := va_S.rf
  have hl : lv_has ls 5 [(0, .ref mm), (1, .int o), (2, .int w)] := hl
  refine lv_aload_n hx hb dX12_unlike_0 rfl (lv_at hl 0 rfl) ?_
  refine sk_get (v := .int (nI il)) (C := RX12) (T := TX12) (N := 92) hx hb hts inlX12 hown hK hP 0 rfl rfl 29 (by decide) w_5_184 rfl dX12_unlike_1 ?_
  refine lv_if_eq (tgt := 15) hx hb dX12_unlike_4 (by decide) (fun c_1 => ?_) (fun c_1 => ?_)
  · have c_1 : il = 0 := (neq il 0 (by omega) (by omega)).mp c_1
    refine lv_iconst (v := (-1)) hx hb dX12_unlike_15 (by decide) ?_
    exact sk_iret hx hb hr rfl hlocks hK hP hD hS (⟨tk, qp, am, at_, aa, wy, pt, ql, ws_, yw, yo, be, bf, ot, hpt, rfl⟩) (Nat.le_of_ble_eq_true rfl) (Nat.le_of_ble_eq_true rfl) dX12_unlike_16
  · have c_1 : ¬ (il = 0) := fun h => c_1 ((neq il 0 (by omega) (by omega)).mpr h)
    refine lv_iload_n hx hb dX12_unlike_7 rfl (lv_at hl 1 rfl) ?_
    refine lv_if_lt (tgt := 15) hx hb dX12_unlike_8 (by decide) (fun c_2 => ?_) (fun c_2 => ?_)
    · skip
      refine lv_iconst (v := (-1)) hx hb dX12_unlike_15 (by decide) ?_
      exact sk_iret hx hb hr rfl hlocks hK hP hD hS (⟨tk, qp, am, at_, aa, wy, pt, ql, ws_, yw, yo, be, bf, ot, hpt, rfl⟩) (Nat.le_of_ble_eq_true rfl) (Nat.le_of_ble_eq_true rfl) dX12_unlike_16
    · obtain ⟨k_3, hk_3, rfl⟩ := nof o c_2
      refine lv_iload_n hx hb dX12_unlike_11 rfl (lv_at hl 2 rfl) ?_
      refine lv_if_ge (tgt := 17) hx hb dX12_unlike_12 (by decide) (fun c_4 => ?_) (fun c_4 => ?_)
      · obtain ⟨k_5, hk_5, rfl⟩ := nof' w c_4
        refine lv_aload_n hx hb dX12_unlike_17 rfl (lv_at hl 0 rfl) ?_
        refine sk_Vv (q0 := 0) (n := 0) (rest := []) (wr := fmR om_14_3ffe _) ⟨hx, hb, hml, hown, hts⟩ hl.1 (c_m_laysAll l D cI cJ cC cZ cS mm g ta pa pe pd pb pp pf pg pn rt rn cd sn il tk am at_ aa 0 wt wy 0 rm ud nu sd qn qw qo qb qp qa qi oc u0 u1 u2 u3 u4 u5 v0 v1 v2 v3 v4 v5 cs nw pt ql l0 l1 dm l3 ws_ yw yo be bf (by omega) (by omega) hp0 hp1 hp2 hcs hnw hpt) w_7_189 w_7_191 w_0_82 w_1_14 w_7_192 hd_X12_laysAll_0 ⟨⟨(Nat.le_of_ble_eq_true rfl), (Nat.le_of_ble_eq_true rfl)⟩, (Nat.le_of_ble_eq_true rfl), (Nat.le_of_ble_eq_true rfl)⟩ hK hP hD hS hA (fmT om_14_3ffe 0) (fmF om_14_3ffe 0) (fm_C1 rfl rfl) (fm_R rfl rfl) (fm_nT om_14_3ffe 0) (fm_nF om_14_3ffe 0) (fm_di om_14_3ffe 0) rfl rfl rfl rfl (Nat.le_of_ble_eq_true rfl) dX12_unlike_18 (fun u H locs hw hP hD hS => ?_)
        refine exE hw (fun tk2_6 hw1 => exE hw1 (fun qp2_7 hw2 => exE hw2 (fun am2_8 hw3 => exE hw3 (fun at_2_9 hw4 => exE hw4 (fun aa2_10 hw5 => exE hw5 (fun wy2_11 hw6 => exE hw6 (fun ql2_12 hw7 => exE hw7 (fun ws_2_13 hw8 => exE hw8 (fun yw2_14 hw9 => exE hw9 (fun yo2_15 hw10 => exE hw10 (fun be2_16 hw11 => exE hw11 (fun bf2_17 hw12 => anE hw12 (fun hbe_18 hw13 => anE hw13 (fun hwy_19 eu_20 => ?_))))))))))))))
        clear hw hw1 hw2 hw3 hw4 hw5 hw6 hw7 hw8 hw9 hw10 hw11 hw12 hw13
        refine o_mgE (ws' := [(mm, .inr (12, mo g (nI ta) (nI pa) (nI pe) pd (nI pb) pp pf pg pn rt rn (nI cd) sn (nI il) tk2_6 am2_8 at_2_9 aa2_10 0 0 (-1) wt wy2_11 0 (nI rm) (nI ud) (nI nu) sd (nI qn) (nI qw) qo (nI qb) (nI qp2_7) qa (nI qi) (nI oc))), (g 24, .inl (cI, 6, .inl (l6 u0 u1 u2 u3 u4 u5))), (g 25, .inl (cI, 6, .inl (l6 v0 v1 v2 v3 v4 v5))), (g 26, .inl (cI, 3200, .inl (fun j => nI (cs j)))), (g 31, .inl (cI, 120, .inl nw)), (g 46, .inl (cI, 9, .inl (fun j => nI (pt j)))), (g 86, .inl (cJ, 1700, .inr (.inl ql2_12))), (g 20, .inl (cI, 4, .inl (l4 (nI l0) (nI l1) (nI dm) (nI l3)))), (g 38, .inl (cI, 90, .inl ws_2_13)), (g 36, .inl (cZ, 900, .inl yw2_14)), (g 37, .inl (cZ, 900, .inl yo2_15)), (g 43, .inl (cJ, 90, .inr (.inl be2_16))), (g 44, .inl (cJ, 90, .inr (.inl bf2_17))), (g 51, .inl (cI, 9, .inl ot))]) eu_20 hP hD rfl (fun hP hD => ?_)
        refine lv_iload_n hx hb dX12_unlike_21 rfl (lv_at hl 1 rfl) ?_
        refine lv_i2l hx hb dX12_unlike_22 rfl ?_
        refine lv_aload_n hx hb dX12_unlike_23 rfl (lv_at hl 0 rfl) ?_
        refine sk_get (v := .long wy2_11) (C := RX12) (T := TX12) (N := 92) hx hb hts inlX12 hown hK hP 0 rfl rfl 45 (by decide) w_5_200 rfl dX12_unlike_24 ?_
        refine W.lcmp hx hb dX12_unlike_27 ?_
        refine lv_if_ge (tgt := 41) hx hb dX12_unlike_28 (by decide) (fun c_21 => ?_) (fun c_21 => ?_)
        · skip
          refine lv_iconst (v := (-1)) hx hb dX12_unlike_41 (by decide) ?_
          exact sk_iret hx hb hr rfl hlocks hK hP hD hS (⟨tk2_6, qp2_7, am2_8, at_2_9, aa2_10, wy2_11, pt, ql2_12, ws_2_13, yw2_14, yo2_15, be2_16, bf2_17, ot, hpt, rfl⟩) (Nat.le_of_ble_eq_true rfl) (Nat.le_of_ble_eq_true rfl) dX12_unlike_42
        · skip
          refine lv_iload_n hx hb dX12_unlike_31 rfl (lv_at hl 2 rfl) ?_
          refine lv_i2l hx hb dX12_unlike_32 rfl ?_
          refine lv_aload_n hx hb dX12_unlike_33 rfl (lv_at hl 0 rfl) ?_
          refine sk_get (v := .long wy2_11) (C := RX12) (T := TX12) (N := 92) hx hb hts inlX12 hown hK hP 0 rfl rfl 45 (by decide) w_5_200 rfl dX12_unlike_34 ?_
          refine W.lcmp hx hb dX12_unlike_37 ?_
          refine lv_if_lt (tgt := 43) hx hb dX12_unlike_38 (by decide) (fun c_22 => ?_) (fun c_22 => ?_)
          · skip
            refine lv_aload_n hx hb dX12_unlike_43 rfl (lv_at hl 0 rfl) ?_
            refine lv_iload_n hx hb dX12_unlike_44 rfl (lv_at hl 1 rfl) ?_
            refine lv_i2l hx hb dX12_unlike_45 rfl ?_
            refine sk_Vv (q0 := 0) (n := 1) (rest := []) (wr := fmR om_14_235c _) ⟨hx, hb, hml, hown, hts⟩ hl.1 (c_m_walksTo l D cI cJ cC cZ cS mm g ta pa pe pd pb pp pf pg pn rt rn cd sn il tk2_6 am2_8 at_2_9 aa2_10 0 wt wy2_11 0 rm ud nu sd qn qw qo qb qp2_7 qa qi oc (Int32.toInt64 (nI k_3)) l0 l1 dm l3 nw yo2_15 yw2_14 be2_16 pt (by omega) (by omega) hbe_18 (wk_st (by omega) (ways_lt' hwy_19 (wys_le _ _ _ (by omega)) (by omega) c_21)) hnw hpt) w_7_217 w_7_219 w_0_88 w_1_14 w_7_220 hd_X12_walksTo_1 ⟨⟨(Nat.le_of_ble_eq_true rfl), (Nat.le_of_ble_eq_true rfl)⟩, (Nat.le_of_ble_eq_true rfl), (Nat.le_of_ble_eq_true rfl)⟩ hK hP hD hS hA [0, 7, 4, 10, 9, 11, 5] (fmF om_14_235c 0) rfl (fm_R rfl rfl) (by decide +kernel) (fm_nF om_14_235c 0) (by decide +kernel) rfl rfl rfl rfl (Nat.le_of_ble_eq_true rfl) dX12_unlike_46 (fun u H locs hw hP hD hS => ?_)
            refine exE hw (fun pt2_23 hw1 => anE hw1 (fun hpt2_24 eu_25 => ?_))
            clear hw hw1
            refine o_mgqE (ux := [(mm, .inr (12, mo g (nI ta) (nI pa) (nI pe) pd (nI pb) pp pf pg pn rt rn (nI cd) sn (nI il) tk2_6 am2_8 at_2_9 aa2_10 0 0 (-1) wt wy2_11 0 (nI rm) (nI ud) (nI nu) sd (nI qn) (nI qw) qo (nI qb) (nI qp2_7) qa (nI qi) (nI oc))), (g 31, .inl (cI, 120, .inl nw)), (g 46, .inl (cI, 9, .inl (fun j => nI (pt2_23 j)))), (g 20, .inl (cI, 4, .inl (l4 (nI l0) (nI l1) (nI dm) (nI l3)))), (g 36, .inl (cZ, 900, .inl yw2_14)), (g 37, .inl (cZ, 900, .inl yo2_15)), (g 43, .inl (cJ, 90, .inr (.inl be2_16)))]) (ws' := [(mm, .inr (12, mo g (nI ta) (nI pa) (nI pe) pd (nI pb) pp pf pg pn rt rn (nI cd) sn (nI il) tk2_6 am2_8 at_2_9 aa2_10 0 0 (-1) wt wy2_11 0 (nI rm) (nI ud) (nI nu) sd (nI qn) (nI qw) qo (nI qb) (nI qp2_7) qa (nI qi) (nI oc))), (g 24, .inl (cI, 6, .inl (l6 u0 u1 u2 u3 u4 u5))), (g 25, .inl (cI, 6, .inl (l6 v0 v1 v2 v3 v4 v5))), (g 26, .inl (cI, 3200, .inl (fun j => nI (cs j)))), (g 31, .inl (cI, 120, .inl nw)), (g 46, .inl (cI, 9, .inl (fun j => nI (pt2_23 j)))), (g 86, .inl (cJ, 1700, .inr (.inl ql2_12))), (g 20, .inl (cI, 4, .inl (l4 (nI l0) (nI l1) (nI dm) (nI l3)))), (g 38, .inl (cI, 90, .inl ws_2_13)), (g 36, .inl (cZ, 900, .inl yw2_14)), (g 37, .inl (cZ, 900, .inl yo2_15)), (g 43, .inl (cJ, 90, .inr (.inl be2_16))), (g 44, .inl (cJ, 90, .inr (.inl bf2_17))), (g 51, .inl (cI, 9, .inl ot))]) eu_25 [0, 2, 6, 1, 4, 3, 5] (by decide +kernel) rfl hP hD rfl (fun hP hD => ?_)
            refine lv_iconst (v := 0) hx hb dX12_unlike_49 (by decide) ?_
            refine lv_istore_n (lv' := [(3, .int 0), (0, .ref mm), (1, .int (nI k_3)), (2, .int (nI k_5))]) hx hb dX12_unlike_50 rfl hl (by decide) rfl (fun ls hl => ?_)
            have lp_26 : ∀ (n_27 : Nat) (i : Nat) (zo : Nat → Int32) (H : Heap) (locs : List Loc) (ls : Array Slot), dm - i < n_27 → (i ≤ dm) → va_P D vwCl [(mm, .inr (12, mo g (nI ta) (nI pa) (nI pe) pd (nI pb) pp pf pg pn rt rn (nI cd) sn (nI il) tk2_6 am2_8 at_2_9 aa2_10 0 0 (-1) wt wy2_11 0 (nI rm) (nI ud) (nI nu) sd (nI qn) (nI qw) qo (nI qb) (nI qp2_7) qa (nI qi) (nI oc))), (g 24, .inl (cI, 6, .inl (l6 u0 u1 u2 u3 u4 u5))), (g 25, .inl (cI, 6, .inl (l6 v0 v1 v2 v3 v4 v5))), (g 26, .inl (cI, 3200, .inl (fun j => nI (cs j)))), (g 31, .inl (cI, 120, .inl nw)), (g 46, .inl (cI, 9, .inl (fun j => nI (pt2_23 j)))), (g 86, .inl (cJ, 1700, .inr (.inl ql2_12))), (g 20, .inl (cI, 4, .inl (l4 (nI l0) (nI l1) (nI dm) (nI l3)))), (g 38, .inl (cI, 90, .inl ws_2_13)), (g 36, .inl (cZ, 900, .inl yw2_14)), (g 37, .inl (cZ, 900, .inl yo2_15)), (g 43, .inl (cJ, 90, .inr (.inl be2_16))), (g 44, .inl (cJ, 90, .inr (.inl bf2_17))), (g 51, .inl (cI, 9, .inl zo))] H → va_D A [(mm, .inr (12, mo g (nI ta) (nI pa) (nI pe) pd (nI pb) pp pf pg pn rt rn (nI cd) sn (nI il) tk2_6 am2_8 at_2_9 aa2_10 0 0 (-1) wt wy2_11 0 (nI rm) (nI ud) (nI nu) sd (nI qn) (nI qw) qo (nI qb) (nI qp2_7) qa (nI qi) (nI oc))), (g 24, .inl (cI, 6, .inl (l6 u0 u1 u2 u3 u4 u5))), (g 25, .inl (cI, 6, .inl (l6 v0 v1 v2 v3 v4 v5))), (g 26, .inl (cI, 3200, .inl (fun j => nI (cs j)))), (g 31, .inl (cI, 120, .inl nw)), (g 46, .inl (cI, 9, .inl (fun j => nI (pt2_23 j)))), (g 86, .inl (cJ, 1700, .inr (.inl ql2_12))), (g 20, .inl (cI, 4, .inl (l4 (nI l0) (nI l1) (nI dm) (nI l3)))), (g 38, .inl (cI, 90, .inl ws_2_13)), (g 36, .inl (cZ, 900, .inl yw2_14)), (g 37, .inl (cZ, 900, .inl yo2_15)), (g 43, .inl (cJ, 90, .inr (.inl be2_16))), (g 44, .inl (cJ, 90, .inr (.inl bf2_17))), (g 51, .inl (cI, 9, .inl zo))] → va_S A s.heap H locs → lv_has ls 5 [(3, .int (nI i)), (0, .ref mm), (1, .int (nI k_3)), (2, .int (nI k_5))] → W p l e { frames := 6, cells := 0, slots := 0, locals := 142 } s m ([.ref mm, .int (nI k_3), .int (nI k_5)] : List Value).toArray below meth c H locs 0 0 (MQ below (skI D (skT cI cJ cC cZ cS) (fun (r : Int32) (u : va_W) => ∃ (tk2 : Int32), ∃ (qp2 : Nat), ∃ (am2 : Int32), ∃ (at_2 : Int32), ∃ (aa2 : Int32), ∃ (wy2 : Int64), ∃ (pt2 : Nat → Nat), ∃ (ql2 : Nat → Int64), ∃ (ws_2 : Nat → Int32), ∃ (yw2 : Nat → Int32), ∃ (yo2 : Nat → Int32), ∃ (be2 : Nat → Int64), ∃ (bf2 : Nat → Int64), ∃ (ot2 : Nat → Int32), (∀ j, pt2 j ≤ 9) ∧ u = [(mm, .inr (12, mo g (nI ta) (nI pa) (nI pe) pd (nI pb) pp pf pg pn rt rn (nI cd) sn (nI il) tk2 am2 at_2 aa2 0 0 (-1) wt wy2 0 (nI rm) (nI ud) (nI nu) sd (nI qn) (nI qw) qo (nI qb) (nI qp2) qa (nI qi) (nI oc))), (g 24, .inl (cI, 6, .inl (l6 u0 u1 u2 u3 u4 u5))), (g 25, .inl (cI, 6, .inl (l6 v0 v1 v2 v3 v4 v5))), (g 26, .inl (cI, 3200, .inl (fun j => nI (cs j)))), (g 31, .inl (cI, 120, .inl nw)), (g 46, .inl (cI, 9, .inl (fun j => nI (pt2 j)))), (g 86, .inl (cJ, 1700, .inr (.inl ql2))), (g 20, .inl (cI, 4, .inl (l4 (nI l0) (nI l1) (nI dm) (nI l3)))), (g 38, .inl (cI, 90, .inl ws_2)), (g 36, .inl (cZ, 900, .inl yw2)), (g 37, .inl (cZ, 900, .inl yo2)), (g 43, .inl (cJ, 90, .inr (.inl be2))), (g 44, .inl (cJ, 90, .inr (.inl bf2))), (g 51, .inl (cI, 9, .inl ot2))]) A) ([.ref mm, .int (nI k_3), .int (nI k_5)] : List Value).toArray s 0 0 A) (F0 m 51 ls []) := by
              intro n_27
              induction n_27 with
              | zero => intro i zo H locs ls hm; exact absurd hm (Nat.not_lt_zero _)
              | succ n_27 ih_lp_26 =>
                intro i zo H locs ls hm hi hP hD hS hl
                refine lv_iload_n hx hb dX12_unlike_51 rfl (lv_at hl 0 rfl) ?_
                refine lv_aload_n hx hb dX12_unlike_52 rfl (lv_at hl 1 rfl) ?_
                refine sk_Vi (q0 := 0) (n := 0) (rest := [.int (nI i)]) (wr := fmR om_14_2040 _) ⟨hx, hb, hml, hown, hts⟩ hl.1 (c_m_dayMany l D cI cJ cC cZ cS mm g ta pa pe pd pb pp pf pg pn rt rn cd sn il tk2_6 am2_8 at_2_9 aa2_10 0 0 (-1) wt wy2_11 0 rm ud nu sd qn qw qo qb qp2_7 qa qi oc l0 l1 dm l3) w_7_98 w_7_100 w_0_69 w_1_14 w_7_101 hd_X12_dayMany_0 ⟨⟨(Nat.le_of_ble_eq_true rfl), (Nat.le_of_ble_eq_true rfl)⟩, (Nat.le_of_ble_eq_true rfl), (Nat.le_of_ble_eq_true rfl)⟩ hK hP hD hS hA (fmT om_14_2040 0) (fmF om_14_2040 0) (fm_C1 rfl rfl) (fm_R rfl rfl) (fm_nT om_14_2040 0) (fm_nF om_14_2040 0) (fm_di om_14_2040 0) rfl rfl rfl rfl (Nat.le_of_ble_eq_true rfl) dX12_unlike_53 (fun r_28 u H locs hw hP hD hS => ?_)
                refine anE hw (fun er_30 eu_29 => ?_)
                clear hw
                subst er_30
                refine o_mgE (ws' := [(mm, .inr (12, mo g (nI ta) (nI pa) (nI pe) pd (nI pb) pp pf pg pn rt rn (nI cd) sn (nI il) tk2_6 am2_8 at_2_9 aa2_10 0 0 (-1) wt wy2_11 0 (nI rm) (nI ud) (nI nu) sd (nI qn) (nI qw) qo (nI qb) (nI qp2_7) qa (nI qi) (nI oc))), (g 24, .inl (cI, 6, .inl (l6 u0 u1 u2 u3 u4 u5))), (g 25, .inl (cI, 6, .inl (l6 v0 v1 v2 v3 v4 v5))), (g 26, .inl (cI, 3200, .inl (fun j => nI (cs j)))), (g 31, .inl (cI, 120, .inl nw)), (g 46, .inl (cI, 9, .inl (fun j => nI (pt2_23 j)))), (g 86, .inl (cJ, 1700, .inr (.inl ql2_12))), (g 20, .inl (cI, 4, .inl (l4 (nI l0) (nI l1) (nI dm) (nI l3)))), (g 38, .inl (cI, 90, .inl ws_2_13)), (g 36, .inl (cZ, 900, .inl yw2_14)), (g 37, .inl (cZ, 900, .inl yo2_15)), (g 43, .inl (cJ, 90, .inr (.inl be2_16))), (g 44, .inl (cJ, 90, .inr (.inl bf2_17))), (g 51, .inl (cI, 9, .inl zo))]) eu_29 hP hD rfl (fun hP hD => ?_)
                refine lv_icmp_ge (tgt := 77) hx hb dX12_unlike_56 (by decide) (fun c_31 => ?_) (fun c_31 => ?_)
                · have c_31 : dm ≤ i := (nle dm i (by omega) (by omega)).mp c_31
                  refine lv_aload_n hx hb dX12_unlike_77 rfl (lv_at hl 1 rfl) ?_
                  refine lv_iload_n hx hb dX12_unlike_78 rfl (lv_at hl 3 rfl) ?_
                  refine lv_i2l hx hb dX12_unlike_79 rfl ?_
                  refine sk_Vv (q0 := 0) (n := 1) (rest := []) (wr := fmR om_14_235c _) ⟨hx, hb, hml, hown, hts⟩ hl.1 (c_m_walksTo l D cI cJ cC cZ cS mm g ta pa pe pd pb pp pf pg pn rt rn cd sn il tk2_6 am2_8 at_2_9 aa2_10 0 wt wy2_11 0 rm ud nu sd qn qw qo qb qp2_7 qa qi oc (Int32.toInt64 (nI k_5)) l0 l1 dm l3 nw yo2_15 yw2_14 be2_16 pt2_23 (by omega) (by omega) hbe_18 (wk_st (by omega) (ways_lt hwy_19 (wys_le _ _ _ (by omega)) (by omega) c_22)) hnw hpt2_24) w_7_217 w_7_219 w_0_88 w_1_14 w_7_220 hd_X12_walksTo_1 ⟨⟨(Nat.le_of_ble_eq_true rfl), (Nat.le_of_ble_eq_true rfl)⟩, (Nat.le_of_ble_eq_true rfl), (Nat.le_of_ble_eq_true rfl)⟩ hK hP hD hS hA [0, 7, 4, 10, 9, 11, 5] (fmF om_14_235c 0) rfl (fm_R rfl rfl) (by decide +kernel) (fm_nF om_14_235c 0) (by decide +kernel) rfl rfl rfl rfl (Nat.le_of_ble_eq_true rfl) dX12_unlike_80 (fun u H locs hw hP hD hS => ?_)
                  refine exE hw (fun pt2_32 hw1 => anE hw1 (fun hpt2_33 eu_34 => ?_))
                  clear hw hw1
                  refine o_mgqE (ux := [(mm, .inr (12, mo g (nI ta) (nI pa) (nI pe) pd (nI pb) pp pf pg pn rt rn (nI cd) sn (nI il) tk2_6 am2_8 at_2_9 aa2_10 0 0 (-1) wt wy2_11 0 (nI rm) (nI ud) (nI nu) sd (nI qn) (nI qw) qo (nI qb) (nI qp2_7) qa (nI qi) (nI oc))), (g 31, .inl (cI, 120, .inl nw)), (g 46, .inl (cI, 9, .inl (fun j => nI (pt2_32 j)))), (g 20, .inl (cI, 4, .inl (l4 (nI l0) (nI l1) (nI dm) (nI l3)))), (g 36, .inl (cZ, 900, .inl yw2_14)), (g 37, .inl (cZ, 900, .inl yo2_15)), (g 43, .inl (cJ, 90, .inr (.inl be2_16)))]) (ws' := [(mm, .inr (12, mo g (nI ta) (nI pa) (nI pe) pd (nI pb) pp pf pg pn rt rn (nI cd) sn (nI il) tk2_6 am2_8 at_2_9 aa2_10 0 0 (-1) wt wy2_11 0 (nI rm) (nI ud) (nI nu) sd (nI qn) (nI qw) qo (nI qb) (nI qp2_7) qa (nI qi) (nI oc))), (g 24, .inl (cI, 6, .inl (l6 u0 u1 u2 u3 u4 u5))), (g 25, .inl (cI, 6, .inl (l6 v0 v1 v2 v3 v4 v5))), (g 26, .inl (cI, 3200, .inl (fun j => nI (cs j)))), (g 31, .inl (cI, 120, .inl nw)), (g 46, .inl (cI, 9, .inl (fun j => nI (pt2_32 j)))), (g 86, .inl (cJ, 1700, .inr (.inl ql2_12))), (g 20, .inl (cI, 4, .inl (l4 (nI l0) (nI l1) (nI dm) (nI l3)))), (g 38, .inl (cI, 90, .inl ws_2_13)), (g 36, .inl (cZ, 900, .inl yw2_14)), (g 37, .inl (cZ, 900, .inl yo2_15)), (g 43, .inl (cJ, 90, .inr (.inl be2_16))), (g 44, .inl (cJ, 90, .inr (.inl bf2_17))), (g 51, .inl (cI, 9, .inl zo))]) eu_34 [0, 2, 6, 1, 4, 3, 5] (by decide +kernel) rfl hP hD rfl (fun hP hD => ?_)
                  refine lv_iconst (v := 0) hx hb dX12_unlike_83 (by decide) ?_
                  refine lv_istore_n (lv' := [(3, .int 0), (0, .ref mm), (1, .int (nI k_3)), (2, .int (nI k_5))]) hx hb dX12_unlike_84 rfl hl (by decide) rfl (fun ls hl => ?_)
                  refine lv_iconst (v := 0) hx hb dX12_unlike_85 (by decide) ?_
                  refine lv_istore (lv' := [(4, .int 0), (3, .int 0), (0, .ref mm), (1, .int (nI k_3)), (2, .int (nI k_5))]) hx hb dX12_unlike_86 hl (by decide) rfl (fun ls hl => ?_)
                  have lp_35 : ∀ (n_36 : Nat) (i : Nat) (un : Int32) (H : Heap) (locs : List Loc) (ls : Array Slot), dm - i < n_36 → (i ≤ dm) → va_P D vwCl [(mm, .inr (12, mo g (nI ta) (nI pa) (nI pe) pd (nI pb) pp pf pg pn rt rn (nI cd) sn (nI il) tk2_6 am2_8 at_2_9 aa2_10 0 0 (-1) wt wy2_11 0 (nI rm) (nI ud) (nI nu) sd (nI qn) (nI qw) qo (nI qb) (nI qp2_7) qa (nI qi) (nI oc))), (g 24, .inl (cI, 6, .inl (l6 u0 u1 u2 u3 u4 u5))), (g 25, .inl (cI, 6, .inl (l6 v0 v1 v2 v3 v4 v5))), (g 26, .inl (cI, 3200, .inl (fun j => nI (cs j)))), (g 31, .inl (cI, 120, .inl nw)), (g 46, .inl (cI, 9, .inl (fun j => nI (pt2_32 j)))), (g 86, .inl (cJ, 1700, .inr (.inl ql2_12))), (g 20, .inl (cI, 4, .inl (l4 (nI l0) (nI l1) (nI dm) (nI l3)))), (g 38, .inl (cI, 90, .inl ws_2_13)), (g 36, .inl (cZ, 900, .inl yw2_14)), (g 37, .inl (cZ, 900, .inl yo2_15)), (g 43, .inl (cJ, 90, .inr (.inl be2_16))), (g 44, .inl (cJ, 90, .inr (.inl bf2_17))), (g 51, .inl (cI, 9, .inl zo))] H → va_D A [(mm, .inr (12, mo g (nI ta) (nI pa) (nI pe) pd (nI pb) pp pf pg pn rt rn (nI cd) sn (nI il) tk2_6 am2_8 at_2_9 aa2_10 0 0 (-1) wt wy2_11 0 (nI rm) (nI ud) (nI nu) sd (nI qn) (nI qw) qo (nI qb) (nI qp2_7) qa (nI qi) (nI oc))), (g 24, .inl (cI, 6, .inl (l6 u0 u1 u2 u3 u4 u5))), (g 25, .inl (cI, 6, .inl (l6 v0 v1 v2 v3 v4 v5))), (g 26, .inl (cI, 3200, .inl (fun j => nI (cs j)))), (g 31, .inl (cI, 120, .inl nw)), (g 46, .inl (cI, 9, .inl (fun j => nI (pt2_32 j)))), (g 86, .inl (cJ, 1700, .inr (.inl ql2_12))), (g 20, .inl (cI, 4, .inl (l4 (nI l0) (nI l1) (nI dm) (nI l3)))), (g 38, .inl (cI, 90, .inl ws_2_13)), (g 36, .inl (cZ, 900, .inl yw2_14)), (g 37, .inl (cZ, 900, .inl yo2_15)), (g 43, .inl (cJ, 90, .inr (.inl be2_16))), (g 44, .inl (cJ, 90, .inr (.inl bf2_17))), (g 51, .inl (cI, 9, .inl zo))] → va_S A s.heap H locs → lv_has ls 5 [(4, .int (nI i)), (3, .int un), (0, .ref mm), (1, .int (nI k_3)), (2, .int (nI k_5))] → W p l e { frames := 6, cells := 0, slots := 0, locals := 142 } s m ([.ref mm, .int (nI k_3), .int (nI k_5)] : List Value).toArray below meth c H locs 0 0 (MQ below (skI D (skT cI cJ cC cZ cS) (fun (r : Int32) (u : va_W) => ∃ (tk2 : Int32), ∃ (qp2 : Nat), ∃ (am2 : Int32), ∃ (at_2 : Int32), ∃ (aa2 : Int32), ∃ (wy2 : Int64), ∃ (pt2 : Nat → Nat), ∃ (ql2 : Nat → Int64), ∃ (ws_2 : Nat → Int32), ∃ (yw2 : Nat → Int32), ∃ (yo2 : Nat → Int32), ∃ (be2 : Nat → Int64), ∃ (bf2 : Nat → Int64), ∃ (ot2 : Nat → Int32), (∀ j, pt2 j ≤ 9) ∧ u = [(mm, .inr (12, mo g (nI ta) (nI pa) (nI pe) pd (nI pb) pp pf pg pn rt rn (nI cd) sn (nI il) tk2 am2 at_2 aa2 0 0 (-1) wt wy2 0 (nI rm) (nI ud) (nI nu) sd (nI qn) (nI qw) qo (nI qb) (nI qp2) qa (nI qi) (nI oc))), (g 24, .inl (cI, 6, .inl (l6 u0 u1 u2 u3 u4 u5))), (g 25, .inl (cI, 6, .inl (l6 v0 v1 v2 v3 v4 v5))), (g 26, .inl (cI, 3200, .inl (fun j => nI (cs j)))), (g 31, .inl (cI, 120, .inl nw)), (g 46, .inl (cI, 9, .inl (fun j => nI (pt2 j)))), (g 86, .inl (cJ, 1700, .inr (.inl ql2))), (g 20, .inl (cI, 4, .inl (l4 (nI l0) (nI l1) (nI dm) (nI l3)))), (g 38, .inl (cI, 90, .inl ws_2)), (g 36, .inl (cZ, 900, .inl yw2)), (g 37, .inl (cZ, 900, .inl yo2)), (g 43, .inl (cJ, 90, .inr (.inl be2))), (g 44, .inl (cJ, 90, .inr (.inl bf2))), (g 51, .inl (cI, 9, .inl ot2))]) A) ([.ref mm, .int (nI k_3), .int (nI k_5)] : List Value).toArray s 0 0 A) (F0 m 88 ls []) := by
                    intro n_36
                    induction n_36 with
                    | zero => intro i un H locs ls hm; exact absurd hm (Nat.not_lt_zero _)
                    | succ n_36 ih_lp_35 =>
                      intro i un H locs ls hm hi hP hD hS hl
                      refine lv_iload hx hb dX12_unlike_88 (lv_at hl 0 rfl) ?_
                      refine lv_aload_n hx hb dX12_unlike_90 rfl (lv_at hl 2 rfl) ?_
                      refine sk_Vi (q0 := 0) (n := 0) (rest := [.int (nI i)]) (wr := fmR om_14_2040 _) ⟨hx, hb, hml, hown, hts⟩ hl.1 (c_m_dayMany l D cI cJ cC cZ cS mm g ta pa pe pd pb pp pf pg pn rt rn cd sn il tk2_6 am2_8 at_2_9 aa2_10 0 0 (-1) wt wy2_11 0 rm ud nu sd qn qw qo qb qp2_7 qa qi oc l0 l1 dm l3) w_7_98 w_7_100 w_0_69 w_1_14 w_7_101 hd_X12_dayMany_0 ⟨⟨(Nat.le_of_ble_eq_true rfl), (Nat.le_of_ble_eq_true rfl)⟩, (Nat.le_of_ble_eq_true rfl), (Nat.le_of_ble_eq_true rfl)⟩ hK hP hD hS hA (fmT om_14_2040 0) (fmF om_14_2040 0) (fm_C1 rfl rfl) (fm_R rfl rfl) (fm_nT om_14_2040 0) (fm_nF om_14_2040 0) (fm_di om_14_2040 0) rfl rfl rfl rfl (Nat.le_of_ble_eq_true rfl) dX12_unlike_91 (fun r_37 u H locs hw hP hD hS => ?_)
                      refine anE hw (fun er_39 eu_38 => ?_)
                      clear hw
                      subst er_39
                      refine o_mgE (ws' := [(mm, .inr (12, mo g (nI ta) (nI pa) (nI pe) pd (nI pb) pp pf pg pn rt rn (nI cd) sn (nI il) tk2_6 am2_8 at_2_9 aa2_10 0 0 (-1) wt wy2_11 0 (nI rm) (nI ud) (nI nu) sd (nI qn) (nI qw) qo (nI qb) (nI qp2_7) qa (nI qi) (nI oc))), (g 24, .inl (cI, 6, .inl (l6 u0 u1 u2 u3 u4 u5))), (g 25, .inl (cI, 6, .inl (l6 v0 v1 v2 v3 v4 v5))), (g 26, .inl (cI, 3200, .inl (fun j => nI (cs j)))), (g 31, .inl (cI, 120, .inl nw)), (g 46, .inl (cI, 9, .inl (fun j => nI (pt2_32 j)))), (g 86, .inl (cJ, 1700, .inr (.inl ql2_12))), (g 20, .inl (cI, 4, .inl (l4 (nI l0) (nI l1) (nI dm) (nI l3)))), (g 38, .inl (cI, 90, .inl ws_2_13)), (g 36, .inl (cZ, 900, .inl yw2_14)), (g 37, .inl (cZ, 900, .inl yo2_15)), (g 43, .inl (cJ, 90, .inr (.inl be2_16))), (g 44, .inl (cJ, 90, .inr (.inl bf2_17))), (g 51, .inl (cI, 9, .inl zo))]) eu_38 hP hD rfl (fun hP hD => ?_)
                      refine lv_icmp_ge (tgt := 123) hx hb dX12_unlike_94 (by decide) (fun c_40 => ?_) (fun c_40 => ?_)
                      · have c_40 : dm ≤ i := (nle dm i (by omega) (by omega)).mp c_40
                        refine lv_iload_n hx hb dX12_unlike_123 rfl (lv_at hl 1 rfl) ?_
                        exact sk_iret hx hb hr rfl hlocks hK hP hD hS (⟨tk2_6, qp2_7, am2_8, at_2_9, aa2_10, wy2_11, pt2_32, ql2_12, ws_2_13, yw2_14, yo2_15, be2_16, bf2_17, zo, hpt2_33, rfl⟩) (Nat.le_of_ble_eq_true rfl) (Nat.le_of_ble_eq_true rfl) dX12_unlike_124
                      · have c_40 : ¬ (dm ≤ i) := fun h => c_40 ((nle dm i (by omega) (by omega)).mpr h)
                        refine lv_aload_n hx hb dX12_unlike_97 rfl (lv_at hl 2 rfl) ?_
                        refine sk_get (v := .ref (g 51)) (C := RX12) (T := TX12) (N := 92) hx hb hts inlX12 hown hK hP 0 rfl rfl 51 (by decide) w_5_206 rfl dX12_unlike_98 ?_
                        refine lv_iload hx hb dX12_unlike_101 (lv_at hl 0 rfl) ?_
                        refine va_iald hx hb hK.1 hP 13 0 rfl rfl (vin i 9 (by omega) (by omega)) dX12_unlike_103 ?_
                        refine lv_topi (fun v_41 ev_41 => ?_)
                        refine lv_aload_n hx hb dX12_unlike_104 rfl (lv_at hl 2 rfl) ?_
                        refine sk_get (v := .ref (g 46)) (C := RX12) (T := TX12) (N := 92) hx hb hts inlX12 hown hK hP 0 rfl rfl 46 (by decide) w_5_201 rfl dX12_unlike_105 ?_
                        refine lv_iload hx hb dX12_unlike_108 (lv_at hl 0 rfl) ?_
                        refine va_iald hx hb hK.1 hP 5 0 rfl rfl (vin i 9 (by omega) (by omega)) dX12_unlike_110 ?_
                        refine sk_top (nI (pt2_32 i)) (nrd pt2_32 i (by omega)) ?_
                        have hb_42 := hpt2_33 i
                        refine lv_icmp_eq (tgt := 117) hx hb dX12_unlike_111 (by decide) (fun c_43 => ?_) (fun c_43 => ?_)
                        · skip
                          refine lv_iinc (v := nI (i + 1)) (lv' := [(4, .int (nI (i + 1))), (3, .int un), (0, .ref mm), (1, .int (nI k_3)), (2, .int (nI k_5))]) hx hb dX12_unlike_117 hl (k := 0) rfl (ninc i 1 (by decide)) (by decide) rfl (fun ls hl => ?_)
                          refine lv_goto (tgt := 88) hx hb dX12_unlike_120 (by decide) ?_
                          exact ih_lp_35 (i + 1) un _ _ _ (by omega) (by omega) hP hD hS (lv_sub hl [0, 1, 2, 3, 4] rfl)
                        · skip
                          refine lv_iinc (v := un + 1) (lv' := [(3, .int (un + 1)), (4, .int (nI i)), (0, .ref mm), (1, .int (nI k_3)), (2, .int (nI k_5))]) hx hb dX12_unlike_114 hl (k := 1) rfl rfl (by decide) rfl (fun ls hl => ?_)
                          refine lv_iinc (v := nI (i + 1)) (lv' := [(4, .int (nI (i + 1))), (3, .int (un + 1)), (0, .ref mm), (1, .int (nI k_3)), (2, .int (nI k_5))]) hx hb dX12_unlike_117 hl (k := 1) rfl (ninc i 1 (by decide)) (by decide) rfl (fun ls hl => ?_)
                          refine lv_goto (tgt := 88) hx hb dX12_unlike_120 (by decide) ?_
                          exact ih_lp_35 (i + 1) (un + 1) _ _ _ (by omega) (by omega) hP hD hS (lv_sub hl [0, 1, 2, 3, 4] rfl)
                  exact lp_35 (dm - 0 + 1) 0 0 _ _ _ (Nat.lt_succ_self _) (by omega) hP hD hS (lv_sub hl [0, 1, 2, 3, 4] rfl)
                · have c_31 : ¬ (dm ≤ i) := fun h => c_31 ((nle dm i (by omega) (by omega)).mpr h)
                  refine lv_aload_n hx hb dX12_unlike_59 rfl (lv_at hl 1 rfl) ?_
                  refine sk_get (v := .ref (g 51)) (C := RX12) (T := TX12) (N := 92) hx hb hts inlX12 hown hK hP 0 rfl rfl 51 (by decide) w_5_206 rfl dX12_unlike_60 ?_
                  refine lv_iload_n hx hb dX12_unlike_63 rfl (lv_at hl 0 rfl) ?_
                  refine lv_aload_n hx hb dX12_unlike_64 rfl (lv_at hl 1 rfl) ?_
                  refine sk_get (v := .ref (g 46)) (C := RX12) (T := TX12) (N := 92) hx hb hts inlX12 hown hK hP 0 rfl rfl 46 (by decide) w_5_201 rfl dX12_unlike_65 ?_
                  refine lv_iload_n hx hb dX12_unlike_68 rfl (lv_at hl 0 rfl) ?_
                  refine va_iald hx hb hK.1 hP 5 0 rfl rfl (vin i 9 (by omega) (by omega)) dX12_unlike_69 ?_
                  refine sk_top (nI (pt2_23 i)) (nrd pt2_23 i (by omega)) ?_
                  have hb_44 := hpt2_24 i
                  refine sk_iastO (ws' := fun f_45 => [(mm, .inr (12, mo g (nI ta) (nI pa) (nI pe) pd (nI pb) pp pf pg pn rt rn (nI cd) sn (nI il) tk2_6 am2_8 at_2_9 aa2_10 0 0 (-1) wt wy2_11 0 (nI rm) (nI ud) (nI nu) sd (nI qn) (nI qw) qo (nI qb) (nI qp2_7) qa (nI qi) (nI oc))), (g 24, .inl (cI, 6, .inl (l6 u0 u1 u2 u3 u4 u5))), (g 25, .inl (cI, 6, .inl (l6 v0 v1 v2 v3 v4 v5))), (g 26, .inl (cI, 3200, .inl (fun j => nI (cs j)))), (g 31, .inl (cI, 120, .inl nw)), (g 46, .inl (cI, 9, .inl (fun j => nI (pt2_23 j)))), (g 86, .inl (cJ, 1700, .inr (.inl ql2_12))), (g 20, .inl (cI, 4, .inl (l4 (nI l0) (nI l1) (nI dm) (nI l3)))), (g 38, .inl (cI, 90, .inl ws_2_13)), (g 36, .inl (cZ, 900, .inl yw2_14)), (g 37, .inl (cZ, 900, .inl yo2_15)), (g 43, .inl (cJ, 90, .inr (.inl be2_16))), (g 44, .inl (cJ, 90, .inr (.inl bf2_17))), (g 51, .inl (cI, 9, .inl f_45))]) hx hb hK hP hD hS 13 0 rfl rfl (vin i 9 (by omega) (by omega)) (fun _ => rfl) dX12_unlike_70 (fun f_45 H locs hP hD hS => ?_)
                  refine lv_iinc (v := nI (i + 1)) (lv' := [(3, .int (nI (i + 1))), (0, .ref mm), (1, .int (nI k_3)), (2, .int (nI k_5))]) hx hb dX12_unlike_71 hl (k := 0) rfl (ninc i 1 (by decide)) (by decide) rfl (fun ls hl => ?_)
                  refine lv_goto (tgt := 51) hx hb dX12_unlike_74 (by decide) ?_
                  exact ih_lp_26 (i + 1) f_45 _ _ _ (by omega) (by omega) hP hD hS (lv_sub hl [0, 1, 2, 3] rfl)
            exact lp_26 (dm - 0 + 1) 0 ot _ _ _ (Nat.lt_succ_self _) (by omega) hP hD hS (lv_sub hl [0, 1, 2, 3] rfl)
          · skip
            refine lv_iconst (v := (-1)) hx hb dX12_unlike_41 (by decide) ?_
            exact sk_iret hx hb hr rfl hlocks hK hP hD hS (⟨tk2_6, qp2_7, am2_8, at_2_9, aa2_10, wy2_11, pt, ql2_12, ws_2_13, yw2_14, yo2_15, be2_16, bf2_17, ot, hpt, rfl⟩) (Nat.le_of_ble_eq_true rfl) (Nat.le_of_ble_eq_true rfl) dX12_unlike_42
      · skip
        refine lv_iconst (v := (-1)) hx hb dX12_unlike_15 (by decide) ?_
        exact sk_iret hx hb hr rfl hlocks hK hP hD hS (⟨tk, qp, am, at_, aa, wy, pt, ql, ws_, yw, yo, be, bf, ot, hpt, rfl⟩) (Nat.le_of_ble_eq_true rfl) (Nat.le_of_ble_eq_true rfl) dX12_unlike_16

