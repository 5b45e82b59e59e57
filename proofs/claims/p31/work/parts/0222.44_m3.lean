theorem dg_X12_isMuteNow_0_0 : bqL cX12_isMuteNow 0 [(0, [42]), (1, [27]), (2, [182, 1, 103]), (5, [154, 0, 15]), (20, [4]), (21, [167, 0, 4]), (25, [172]), (8, [42]), (9, [180, 1, 106]), (12, [27]), (13, [122]), (14, [4]), (15, [126]), (16, [4]), (17, [160, 0, 7]), (24, [3])] = true := by decide +kernel
theorem dX12_isMuteNow_0 : decode cX12_isMuteNow 0 = .ok (.aload_n 0, 1) := q_aload_n0 (bat_get dg_X12_isMuteNow_0_0 0 rfl rfl)
theorem dX12_isMuteNow_1 : decode cX12_isMuteNow 1 = .ok (.iload_n 1, 1) := q_iload_n1 (bat_get dg_X12_isMuteNow_0_0 1 rfl rfl)
theorem dX12_isMuteNow_2 : decode cX12_isMuteNow 2 = .ok (.invokevirtual 359, 3) := q_invokevirtual (bat_get dg_X12_isMuteNow_0_0 2 rfl rfl) rfl
theorem dX12_isMuteNow_5 : decode cX12_isMuteNow 5 = .ok (.ifCond .ne 15, 3) := q_ifCond_ne (bat_get dg_X12_isMuteNow_0_0 3 rfl rfl) rfl
theorem dX12_isMuteNow_20 : decode cX12_isMuteNow 20 = .ok (.iconst 1, 1) := q_iconst1 (bat_get dg_X12_isMuteNow_0_0 4 rfl rfl)
theorem dX12_isMuteNow_21 : decode cX12_isMuteNow 21 = .ok (.goto 4, 3) := q_goto (bat_get dg_X12_isMuteNow_0_0 5 rfl rfl) rfl
theorem dX12_isMuteNow_25 : decode cX12_isMuteNow 25 = .ok (.ireturn, 1) := q_ireturn (bat_get dg_X12_isMuteNow_0_0 6 rfl rfl)
theorem dX12_isMuteNow_8 : decode cX12_isMuteNow 8 = .ok (.aload_n 0, 1) := q_aload_n0 (bat_get dg_X12_isMuteNow_0_0 7 rfl rfl)
theorem dX12_isMuteNow_9 : decode cX12_isMuteNow 9 = .ok (.getfield 362, 3) := q_getfield (bat_get dg_X12_isMuteNow_0_0 8 rfl rfl) rfl
theorem dX12_isMuteNow_12 : decode cX12_isMuteNow 12 = .ok (.iload_n 1, 1) := q_iload_n1 (bat_get dg_X12_isMuteNow_0_0 9 rfl rfl)
theorem dX12_isMuteNow_13 : decode cX12_isMuteNow 13 = .ok (.ishr, 1) := q_ishr (bat_get dg_X12_isMuteNow_0_0 10 rfl rfl)
theorem dX12_isMuteNow_14 : decode cX12_isMuteNow 14 = .ok (.iconst 1, 1) := q_iconst1 (bat_get dg_X12_isMuteNow_0_0 11 rfl rfl)
theorem dX12_isMuteNow_15 : decode cX12_isMuteNow 15 = .ok (.iand, 1) := q_iand (bat_get dg_X12_isMuteNow_0_0 12 rfl rfl)
theorem dX12_isMuteNow_16 : decode cX12_isMuteNow 16 = .ok (.iconst 1, 1) := q_iconst1 (bat_get dg_X12_isMuteNow_0_0 13 rfl rfl)
theorem dX12_isMuteNow_17 : decode cX12_isMuteNow 17 = .ok (.if_icmp .ne 7, 3) := q_if_icmp_ne (bat_get dg_X12_isMuteNow_0_0 14 rfl rfl) rfl
theorem dX12_isMuteNow_24 : decode cX12_isMuteNow 24 = .ok (.iconst 0, 1) := q_iconst0 (bat_get dg_X12_isMuteNow_0_0 15 rfl rfl)
theorem w_5_194 : (Cond.fieldLink RX12 362 "SameKeeperModel" "muteToo" "I") ∈ wsL_law := sk_mem (ck_5 _ (List.mem_of_getElem? (i := 194) rfl)) rfl
theorem w_7_208 : (Cond.code yX12_isMuteNow cX12_isMuteNow 2 (some .boolean)) ∈ wsL_law := sk_mem (ck_7 _ (List.mem_of_getElem? (i := 208) rfl)) rfl
set_option maxHeartbeats 4000000 in
set_option maxRecDepth 100000 in
theorem c_m_isMuteNow (l : Launch) (D : va_G) (cI cJ cC cZ cS : ClassId) (mm : Nat) (g : Nat → Nat) (ta : Nat) (pa : Nat) (pe : Nat) (pd : Int32) (pb : Nat) (pp : Int32) (pf : Int32) (pg : Int32) (pn : Int32) (rt : Int32) (rn : Int32) (cd : Nat) (sn : Int32) (il : Nat) (tk : Int32) (am : Int32) (at_ : Int32) (aa : Int32) (mt_ : Int32) (bh : Nat) (wd : Int32) (wt : Int32) (wy : Int64) (it_ : Nat) (rm : Nat) (ud : Nat) (nu : Nat) (sd : Int64) (qn : Nat) (qw : Nat) (qo : Int32) (qb : Nat) (qp : Nat) (qa : Int64) (qi : Nat) (oc : Nat) (d : Nat) (nw : Nat → Int32) (hd : d < 9) (hnw : nowOk nw) : skM l yX12_isMuteNow cX12_isMuteNow 2 (some .boolean) 1 21 0 0 D (skT cI cJ cC cZ cS) [.ref mm, .int (nI d)] [(mm, .inr (12, mo g (nI ta) (nI pa) (nI pe) pd (nI pb) pp pf pg pn rt rn (nI cd) sn (nI il) tk am at_ aa mt_ (nI bh) wd wt wy (nI it_) (nI rm) (nI ud) (nI nu) sd (nI qn) (nI qw) qo (nI qb) (nI qp) qa (nI qi) (nI oc))), (g 31, .inl (cI, 120, .inl nw))] (skI D (skT cI cJ cC cZ cS) (fun (r : Int32) (u : va_W) => ∃ (b : Nat), ((b = 0 ∧ mtN nw mt_ d = false) ∨ (b = 1 ∧ mtN nw mt_ d = true)) ∧ b ≤ 1 ∧ r = nI b ∧ u = [(mm, .inr (12, mo g (nI ta) (nI pa) (nI pe) pd (nI pb) pp pf pg pn rt rn (nI cd) sn (nI il) tk am at_ aa mt_ (nI bh) wd wt wy (nI it_) (nI rm) (nI ud) (nI nu) sd (nI qn) (nI qw) qo (nI qb) (nI qp) qa (nI qi) (nI oc))), (g 31, .inl (cI, 120, .inl nw))])) := by
  refine skM_of pf_X12_isMuteNow (Nat.le_of_ble_eq_true rfl) ?_
  intro p e s m below meth c A ls E hP hD hl
  refine skE_el E (fun hx hb hr hml hlocks hin hown hts hK hA => ?_)
  have hown : s.vm.findClass RX12 = some m.cls := hown
  have hS : va_S A s.heap s.heap [] := va_S.rf
  have hl : lv_has ls 2 [(0, .ref mm), (1, .int (nI d))] := hl
  refine lv_aload_n hx hb dX12_isMuteNow_0 rfl (lv_at hl 0 rfl) ?_
  refine lv_iload_n hx hb dX12_isMuteNow_1 rfl (lv_at hl 1 rfl) ?_
  refine sk_Vi (q0 := 0) (n := 1) (rest := []) (wr := fmR om_2_3 _) ⟨hx, hb, hml, hown, hts⟩ hl.1 (c_m_isMute l D cI cJ cC cZ cS mm g ta pa pe pd pb pp pf pg pn rt rn cd sn il tk am at_ aa mt_ bh wd wt wy it_ rm ud nu sd qn qw qo qb qp qa qi oc d nw (by omega) hnw) w_7_106 w_7_108 w_0_71 w_1_14 w_7_109 hd_X12_isMute_1 ⟨⟨(Nat.le_of_ble_eq_true rfl), (Nat.le_of_ble_eq_true rfl)⟩, (Nat.le_of_ble_eq_true rfl), (Nat.le_of_ble_eq_true rfl)⟩ hK hP hD hS hA (fmT om_2_3 0) (fmF om_2_3 0) (fm_C1 rfl rfl) (fm_R rfl rfl) (fm_nT om_2_3 0) (fm_nF om_2_3 0) (fm_di om_2_3 0) rfl rfl rfl rfl (Nat.le_of_ble_eq_true rfl) dX12_isMuteNow_2 (fun r_2 u H locs hw hP hD hS => ?_)
  refine exE hw (fun b_1 hw1 => anE hw1 (fun hb1_3 hw2 => anE hw2 (fun hb2_4 hw3 => anE hw3 (fun er_6 eu_5 => ?_))))
  clear hw hw1 hw2 hw3
  subst er_6
  refine o_mgE (ws' := [(mm, .inr (12, mo g (nI ta) (nI pa) (nI pe) pd (nI pb) pp pf pg pn rt rn (nI cd) sn (nI il) tk am at_ aa mt_ (nI bh) wd wt wy (nI it_) (nI rm) (nI ud) (nI nu) sd (nI qn) (nI qw) qo (nI qb) (nI qp) qa (nI qi) (nI oc))), (g 31, .inl (cI, 120, .inl nw))]) eu_5 hP hD rfl (fun hP hD => ?_)
  refine lv_if_ne (tgt := 20) hx hb dX12_isMuteNow_5 (by decide) (fun c_7 => ?_) (fun c_7 => ?_)
  · have c_7 : ¬ (b_1 = 0) := fun h => c_7 ((neq b_1 0 (by omega) (by omega)).mpr h)
    refine lv_iconst (v := 1) hx hb dX12_isMuteNow_20 (by decide) ?_
    refine lv_goto (tgt := 25) hx hb dX12_isMuteNow_21 (by decide) ?_
    exact sk_iret hx hb hr rfl hlocks hK hP hD hS (⟨1, Or.inr ⟨rfl, mt_1 (or_1 hb1_3 (by omega))⟩, by omega, rfl, rfl⟩) (Nat.le_of_ble_eq_true rfl) (Nat.le_of_ble_eq_true rfl) dX12_isMuteNow_25
  · have c_7 : b_1 = 0 := (neq b_1 0 (by omega) (by omega)).mp c_7
    refine lv_aload_n hx hb dX12_isMuteNow_8 rfl (lv_at hl 0 rfl) ?_
    refine sk_get (v := .int mt_) (C := RX12) (T := TX12) (N := 92) hx hb hts inlX12 hown hK hP 0 rfl rfl 39 (by decide) w_5_194 rfl dX12_isMuteNow_9 ?_
    refine lv_iload_n hx hb dX12_isMuteNow_12 rfl (lv_at hl 1 rfl) ?_
    refine lv_ishr hx hb dX12_isMuteNow_13 ?_
    refine lv_topi (fun v_8 ev_8 => ?_)
    refine lv_iconst (v := 1) hx hb dX12_isMuteNow_14 (by decide) ?_
    refine lv_iand hx hb dX12_isMuteNow_15 ?_
    refine lv_topi (fun v_9 ev_9 => ?_)
    refine lv_iconst (v := 1) hx hb dX12_isMuteNow_16 (by decide) ?_
    refine lv_icmp_ne (tgt := 24) hx hb dX12_isMuteNow_17 (by decide) (fun c_10 => ?_) (fun c_10 => ?_)
    · skip
      refine lv_iconst (v := 0) hx hb dX12_isMuteNow_24 (by decide) ?_
      exact sk_iret hx hb hr rfl hlocks hK hP hD hS (⟨0, Or.inl ⟨rfl, mt_0 (or_0 hb1_3 (by omega)) (by rw [← ev_8, ← ev_9]; exact c_10)⟩, by omega, rfl, rfl⟩) (Nat.le_of_ble_eq_true rfl) (Nat.le_of_ble_eq_true rfl) dX12_isMuteNow_25
    · skip
      refine lv_iconst (v := 1) hx hb dX12_isMuteNow_20 (by decide) ?_
      refine lv_goto (tgt := 25) hx hb dX12_isMuteNow_21 (by decide) ?_
      exact sk_iret hx hb hr rfl hlocks hK hP hD hS (⟨1, Or.inr ⟨rfl, mt_2 (by rw [← ev_8, ← ev_9]; exact c_10)⟩, by omega, rfl, rfl⟩) (Nat.le_of_ble_eq_true rfl) (Nat.le_of_ble_eq_true rfl) dX12_isMuteNow_25
theorem dg_X12_isLeft_0_0 : bqL cX12_isLeft 0 [(0, [42]), (1, [180, 0, 79]), (4, [27]), (5, [160, 0, 23]), (28, [42]), (29, [180, 1, 112]), (32, [154, 0, 5]), (37, [3]), (38, [62]), (39, [29]), (40, [42]), (41, [180, 1, 56]), (44, [162, 0, 55]), (99, [4]), (100, [172]), (47, [42]), (48, [180, 0, 104]), (51, [5]), (52, [29]), (53, [104]), (54, [46]), (55, [27]), (56, [160, 0, 37]), (93, [132, 3, 1]), (96, [167, 255, 199]), (59, [42]), (60, [27]), (61, [182, 1, 103]), (64, [154, 0, 27]), (91, [3]), (92, [172]), (67, [42]), (68, [180, 0, 76]), (71, [16, 10]), (73, [27]), (74, [104]), (75, [28]), (76, [96]), (77, [46]), (78, [42])] = true := by decide +kernel
theorem dX12_isLeft_0 : decode cX12_isLeft 0 = .ok (.aload_n 0, 1) := q_aload_n0 (bat_get dg_X12_isLeft_0_0 0 rfl rfl)
theorem dX12_isLeft_1 : decode cX12_isLeft 1 = .ok (.getfield 79, 3) := q_getfield (bat_get dg_X12_isLeft_0_0 1 rfl rfl) rfl
theorem dX12_isLeft_4 : decode cX12_isLeft 4 = .ok (.iload_n 1, 1) := q_iload_n1 (bat_get dg_X12_isLeft_0_0 2 rfl rfl)
theorem dX12_isLeft_5 : decode cX12_isLeft 5 = .ok (.if_icmp .ne 23, 3) := q_if_icmp_ne (bat_get dg_X12_isLeft_0_0 3 rfl rfl) rfl
theorem dX12_isLeft_28 : decode cX12_isLeft 28 = .ok (.aload_n 0, 1) := q_aload_n0 (bat_get dg_X12_isLeft_0_0 4 rfl rfl)
theorem dX12_isLeft_29 : decode cX12_isLeft 29 = .ok (.getfield 368, 3) := q_getfield (bat_get dg_X12_isLeft_0_0 5 rfl rfl) rfl
theorem dX12_isLeft_32 : decode cX12_isLeft 32 = .ok (.ifCond .ne 5, 3) := q_ifCond_ne (bat_get dg_X12_isLeft_0_0 6 rfl rfl) rfl
theorem dX12_isLeft_37 : decode cX12_isLeft 37 = .ok (.iconst 0, 1) := q_iconst0 (bat_get dg_X12_isLeft_0_0 7 rfl rfl)
theorem dX12_isLeft_38 : decode cX12_isLeft 38 = .ok (.istore_n 3, 1) := q_istore_n3 (bat_get dg_X12_isLeft_0_0 8 rfl rfl)
theorem dX12_isLeft_39 : decode cX12_isLeft 39 = .ok (.iload_n 3, 1) := q_iload_n3 (bat_get dg_X12_isLeft_0_0 9 rfl rfl)
theorem dX12_isLeft_40 : decode cX12_isLeft 40 = .ok (.aload_n 0, 1) := q_aload_n0 (bat_get dg_X12_isLeft_0_0 10 rfl rfl)
theorem dX12_isLeft_41 : decode cX12_isLeft 41 = .ok (.getfield 312, 3) := q_getfield (bat_get dg_X12_isLeft_0_0 11 rfl rfl) rfl
theorem dX12_isLeft_44 : decode cX12_isLeft 44 = .ok (.if_icmp .ge 55, 3) := q_if_icmp_ge (bat_get dg_X12_isLeft_0_0 12 rfl rfl) rfl
theorem dX12_isLeft_99 : decode cX12_isLeft 99 = .ok (.iconst 1, 1) := q_iconst1 (bat_get dg_X12_isLeft_0_0 13 rfl rfl)
theorem dX12_isLeft_100 : decode cX12_isLeft 100 = .ok (.ireturn, 1) := q_ireturn (bat_get dg_X12_isLeft_0_0 14 rfl rfl)
theorem dX12_isLeft_47 : decode cX12_isLeft 47 = .ok (.aload_n 0, 1) := q_aload_n0 (bat_get dg_X12_isLeft_0_0 15 rfl rfl)
theorem dX12_isLeft_48 : decode cX12_isLeft 48 = .ok (.getfield 104, 3) := q_getfield (bat_get dg_X12_isLeft_0_0 16 rfl rfl) rfl
theorem dX12_isLeft_51 : decode cX12_isLeft 51 = .ok (.iconst 2, 1) := q_iconst2 (bat_get dg_X12_isLeft_0_0 17 rfl rfl)
theorem dX12_isLeft_52 : decode cX12_isLeft 52 = .ok (.iload_n 3, 1) := q_iload_n3 (bat_get dg_X12_isLeft_0_0 18 rfl rfl)
theorem dX12_isLeft_53 : decode cX12_isLeft 53 = .ok (.imul, 1) := q_imul (bat_get dg_X12_isLeft_0_0 19 rfl rfl)
theorem dX12_isLeft_54 : decode cX12_isLeft 54 = .ok (.iaload, 1) := q_iaload (bat_get dg_X12_isLeft_0_0 20 rfl rfl)
theorem dX12_isLeft_55 : decode cX12_isLeft 55 = .ok (.iload_n 1, 1) := q_iload_n1 (bat_get dg_X12_isLeft_0_0 21 rfl rfl)
theorem dX12_isLeft_56 : decode cX12_isLeft 56 = .ok (.if_icmp .ne 37, 3) := q_if_icmp_ne (bat_get dg_X12_isLeft_0_0 22 rfl rfl) rfl
theorem dX12_isLeft_93 : decode cX12_isLeft 93 = .ok (.iinc 3 1, 3) := q_iinc (bat_get dg_X12_isLeft_0_0 23 rfl rfl) rfl
theorem dX12_isLeft_96 : decode cX12_isLeft 96 = .ok (.goto (-57), 3) := q_goto (bat_get dg_X12_isLeft_0_0 24 rfl rfl) rfl
theorem dX12_isLeft_59 : decode cX12_isLeft 59 = .ok (.aload_n 0, 1) := q_aload_n0 (bat_get dg_X12_isLeft_0_0 25 rfl rfl)
theorem dX12_isLeft_60 : decode cX12_isLeft 60 = .ok (.iload_n 1, 1) := q_iload_n1 (bat_get dg_X12_isLeft_0_0 26 rfl rfl)
theorem dX12_isLeft_61 : decode cX12_isLeft 61 = .ok (.invokevirtual 359, 3) := q_invokevirtual (bat_get dg_X12_isLeft_0_0 27 rfl rfl) rfl
theorem dX12_isLeft_64 : decode cX12_isLeft 64 = .ok (.ifCond .ne 27, 3) := q_ifCond_ne (bat_get dg_X12_isLeft_0_0 28 rfl rfl) rfl
theorem dX12_isLeft_91 : decode cX12_isLeft 91 = .ok (.iconst 0, 1) := q_iconst0 (bat_get dg_X12_isLeft_0_0 29 rfl rfl)
theorem dX12_isLeft_92 : decode cX12_isLeft 92 = .ok (.ireturn, 1) := q_ireturn (bat_get dg_X12_isLeft_0_0 30 rfl rfl)
theorem dX12_isLeft_67 : decode cX12_isLeft 67 = .ok (.aload_n 0, 1) := q_aload_n0 (bat_get dg_X12_isLeft_0_0 31 rfl rfl)
theorem dX12_isLeft_68 : decode cX12_isLeft 68 = .ok (.getfield 76, 3) := q_getfield (bat_get dg_X12_isLeft_0_0 32 rfl rfl) rfl
theorem dX12_isLeft_71 : decode cX12_isLeft 71 = .ok (.bipush 10, 2) := q_bipush (bat_get dg_X12_isLeft_0_0 33 rfl rfl) rfl
theorem dX12_isLeft_73 : decode cX12_isLeft 73 = .ok (.iload_n 1, 1) := q_iload_n1 (bat_get dg_X12_isLeft_0_0 34 rfl rfl)
theorem dX12_isLeft_74 : decode cX12_isLeft 74 = .ok (.imul, 1) := q_imul (bat_get dg_X12_isLeft_0_0 35 rfl rfl)
theorem dX12_isLeft_75 : decode cX12_isLeft 75 = .ok (.iload_n 2, 1) := q_iload_n2 (bat_get dg_X12_isLeft_0_0 36 rfl rfl)
theorem dX12_isLeft_76 : decode cX12_isLeft 76 = .ok (.iadd, 1) := q_iadd (bat_get dg_X12_isLeft_0_0 37 rfl rfl)
theorem dX12_isLeft_77 : decode cX12_isLeft 77 = .ok (.iaload, 1) := q_iaload (bat_get dg_X12_isLeft_0_0 38 rfl rfl)
theorem dX12_isLeft_78 : decode cX12_isLeft 78 = .ok (.aload_n 0, 1) := q_aload_n0 (bat_get dg_X12_isLeft_0_0 39 rfl rfl)
theorem dg_X12_isLeft_8_79 : bqL cX12_isLeft 8 [(71, [180, 0, 104]), (74, [5]), (75, [29]), (76, [104]), (77, [4]), (78, [96]), (79, [46]), (80, [159, 0, 5]), (27, [4]), (28, [172]), (0, [42]), (1, [180, 0, 76]), (4, [16, 10]), (6, [27]), (7, [104]), (8, [28]), (9, [96]), (10, [46]), (11, [42]), (12, [180, 1, 109]), (15, [159, 0, 5]), (18, [3]), (19, [172])] = true := by decide +kernel
theorem dX12_isLeft_79 : decode cX12_isLeft 79 = .ok (.getfield 104, 3) := q_getfield (bat_get dg_X12_isLeft_8_79 0 rfl rfl) rfl
theorem dX12_isLeft_82 : decode cX12_isLeft 82 = .ok (.iconst 2, 1) := q_iconst2 (bat_get dg_X12_isLeft_8_79 1 rfl rfl)
theorem dX12_isLeft_83 : decode cX12_isLeft 83 = .ok (.iload_n 3, 1) := q_iload_n3 (bat_get dg_X12_isLeft_8_79 2 rfl rfl)
theorem dX12_isLeft_84 : decode cX12_isLeft 84 = .ok (.imul, 1) := q_imul (bat_get dg_X12_isLeft_8_79 3 rfl rfl)
theorem dX12_isLeft_85 : decode cX12_isLeft 85 = .ok (.iconst 1, 1) := q_iconst1 (bat_get dg_X12_isLeft_8_79 4 rfl rfl)
theorem dX12_isLeft_86 : decode cX12_isLeft 86 = .ok (.iadd, 1) := q_iadd (bat_get dg_X12_isLeft_8_79 5 rfl rfl)
theorem dX12_isLeft_87 : decode cX12_isLeft 87 = .ok (.iaload, 1) := q_iaload (bat_get dg_X12_isLeft_8_79 6 rfl rfl)
theorem dX12_isLeft_88 : decode cX12_isLeft 88 = .ok (.if_icmp .eq 5, 3) := q_if_icmp_eq (bat_get dg_X12_isLeft_8_79 7 rfl rfl) rfl
theorem dX12_isLeft_35 : decode cX12_isLeft 35 = .ok (.iconst 1, 1) := q_iconst1 (bat_get dg_X12_isLeft_8_79 8 rfl rfl)
theorem dX12_isLeft_36 : decode cX12_isLeft 36 = .ok (.ireturn, 1) := q_ireturn (bat_get dg_X12_isLeft_8_79 9 rfl rfl)
theorem dX12_isLeft_8 : decode cX12_isLeft 8 = .ok (.aload_n 0, 1) := q_aload_n0 (bat_get dg_X12_isLeft_8_79 10 rfl rfl)
theorem dX12_isLeft_9 : decode cX12_isLeft 9 = .ok (.getfield 76, 3) := q_getfield (bat_get dg_X12_isLeft_8_79 11 rfl rfl) rfl
theorem dX12_isLeft_12 : decode cX12_isLeft 12 = .ok (.bipush 10, 2) := q_bipush (bat_get dg_X12_isLeft_8_79 12 rfl rfl) rfl
theorem dX12_isLeft_14 : decode cX12_isLeft 14 = .ok (.iload_n 1, 1) := q_iload_n1 (bat_get dg_X12_isLeft_8_79 13 rfl rfl)
theorem dX12_isLeft_15 : decode cX12_isLeft 15 = .ok (.imul, 1) := q_imul (bat_get dg_X12_isLeft_8_79 14 rfl rfl)
theorem dX12_isLeft_16 : decode cX12_isLeft 16 = .ok (.iload_n 2, 1) := q_iload_n2 (bat_get dg_X12_isLeft_8_79 15 rfl rfl)
theorem dX12_isLeft_17 : decode cX12_isLeft 17 = .ok (.iadd, 1) := q_iadd (bat_get dg_X12_isLeft_8_79 16 rfl rfl)
theorem dX12_isLeft_18 : decode cX12_isLeft 18 = .ok (.iaload, 1) := q_iaload (bat_get dg_X12_isLeft_8_79 17 rfl rfl)
theorem dX12_isLeft_19 : decode cX12_isLeft 19 = .ok (.aload_n 0, 1) := q_aload_n0 (bat_get dg_X12_isLeft_8_79 18 rfl rfl)
theorem dX12_isLeft_20 : decode cX12_isLeft 20 = .ok (.getfield 365, 3) := q_getfield (bat_get dg_X12_isLeft_8_79 19 rfl rfl) rfl
theorem dX12_isLeft_23 : decode cX12_isLeft 23 = .ok (.if_icmp .eq 5, 3) := q_if_icmp_eq (bat_get dg_X12_isLeft_8_79 20 rfl rfl) rfl
