theorem dg_X12_isMuteNow_0_0 : bqL cX12_isMuteNow 0 [(0, [42]), (1, [27]), (2, [182, 1, 103]), (5, [154, 0, 15]), (20, [4]), (21, [167, 0, 4]), (25, [172]), (8, [42]), (9, [180, 1, 106]), (12, [27]), (13, [122]), (14, [4]), (15, [126]), (16, [4]), (17, [160, 0, 7]), (24, [3])] = true := by decide +kernel
theorem dX12_isMuteNow_0 : decode cX12_isMuteNow 0 = .ok (.aload_n 0, 1) := q_aload_n0 (bat_get dg_X12_isMuteNow_0_0 0 rfl rfl)
theorem dX12_isMuteNow_1 : decode cX12_isMuteNow 1 = .ok (.iload_n 1, 1) := q_iload_n1 (bat_get dg_X12_isMuteNow_0_0 1 rfl rfl)
theorem dX12_isMuteNow_2 : decode cX12_isMuteNow 2 = .ok (.invokevirtual 359, 3) := q_invokevirtual (bat_get dg_X12_isMuteNow_0_0 2 rfl rfl) rfl
theorem dX12_isMuteNow_5 : decode cX12_isMuteNow 5 = .ok (.ifCond .ne 15, 3) := q_ifCond_ne (bat_get dg_X12_isMuteNow_0_0 3 rfl rfl) rfl
theorem dX12_isMuteNow_20 : decode cX12_isMuteNow 20 = .ok (.iconst 1, 1) := q_iconst1 (bat_get dg_X12_isMuteNow_0_0 4 rfl rfl)
theorem dX12_isMuteNow_21 : decode cX12_isMuteNow 21 = .ok (.goto 4, 3) := q_goto (bat_get dg_X12_isMuteNow_0_0 5 rfl rfl) rfl
theorem dX12_isMuteNow_25 : decode cX12_isMuteNow 25 = .ok (.ireturn, 1) := q_ireturn (bat_get dg_X12_isMuteNow_0_0 6 rfl rfl)
theorem dX12_isMuteNow_8 : decode cX12_isMuteNow 8 = .ok (.aload_n 0, 1) := q_aload_n0 (bat_get dg_X12_isMuteNow_0_0 7 rfl rfl)
theorem dX12_isMuteNow_9 : decode cX12_isMuteNow 9 = .ok (.getfield 362, 3) := q_getfield (bat_get dg_X12_isMuteNow_0_0 8 rfl rfl) rfl
theorem dX12_isMuteNow_12 : decode cX12_isMuteNow 12 = .ok (.iload_n 1, 1) := q_iload_n1 (bat_get dg_X12_isMuteNow_0_0 9 rfl rfl)
theorem dX12_isMuteNow_13 : decode cX12_isMuteNow 13 = .ok (.ishr, 1) := q_ishr (bat_get dg_X12_isMuteNow_0_0 10 rfl rfl)
theorem dX12_isMuteNow_14 : decode cX12_isMuteNow 14 = .ok (.iconst 1, 1) := q_iconst1 (bat_get dg_X12_isMuteNow_0_0 11 rfl rfl)
theorem dX12_isMuteNow_15 : decode cX12_isMuteNow 15 = .ok (.iand, 1) := q_iand (bat_get dg_X12_isMuteNow_0_0 12 rfl rfl)
theorem dX12_isMuteNow_16 : decode cX12_isMuteNow 16 = .ok (.iconst 1, 1) := q_iconst1 (bat_get dg_X12_isMuteNow_0_0 13 rfl rfl)
theorem dX12_isMuteNow_17 : decode cX12_isMuteNow 17 = .ok (.if_icmp .ne 7, 3) := q_if_icmp_ne (bat_get dg_X12_isMuteNow_0_0 14 rfl rfl) rfl
theorem dX12_isMuteNow_24 : decode cX12_isMuteNow 24 = .ok (.iconst 0, 1) := q_iconst0 (bat_get dg_X12_isMuteNow_0_0 15 rfl rfl)
theorem w_5_194 : (Cond.fieldLink RX12 362 "SameKeeperModel" "muteToo" "I") ∈ wsL_law := sk_mem (ck_5 _ (List.mem_of_getElem? (i := 194) rfl)) rfl
theorem w_7_208 : (Cond.code yX12_isMuteNow cX12_isMuteNow 2 (some .boolean)) ∈ wsL_law := sk_mem (ck_7 _ (List.mem_of_getElem? (i := 208) rfl)) rfl
set_option maxHeartbeats 4000000 in
set_option maxRecDepth 100000 in
theorem c_m_isMuteNow (l : Launch) (D : va_G) (cI cJ cC cZ cS : ClassId) (mm : Nat) (g : Nat → Nat) (ta : Nat) (pa : Nat) (pe : Nat) (pd : Int32) (pb : Nat) (pp : Int32) (pf : Int32) (pg : Int32) (pn : Int32) (rt : Int32) (rn : Int32) (cd : Nat) (sn : Int32) (il : Nat) (tk : Int32) (am : Int32) (at_ : Int32) (aa : Int32) (mt_ : Int32) (bh : Nat) (wd : Int32) (wt : Int32) (wy : Int64) (it_ : Nat) (rm : Nat) (ud : Nat) (nu : Nat) (sd : Int64) (qn : Nat) (qw : Nat) (qo : Int32) (qb : Nat) (qp : Nat) (qa : Int64) (qi : Nat) (oc : Nat) (d : Nat) (nw : Nat → Int32) (hd : d < 9) (hnw : nowOk nw) : skM l yX12_isMuteNow cX12_isMuteNow 2 (some .boolean) 1 21 0 0 D (skT cI cJ cC cZ cS) [.ref mm, .int (nI d)] [ro_ mm 12 (mo g (nI ta) (nI pa) (nI pe) pd (nI pb) pp pf pg pn rt rn (nI cd) sn (nI il) tk am at_ aa mt_ (nI bh) wd wt wy (nI it_) (nI rm) (nI ud) (nI nu) sd (nI qn) (nI qw) qo (nI qb) (nI qp) qa (nI qi) (nI oc)), ra_I (g 31) cI 120 nw] (skI D (skT cI cJ cC cZ cS) (fun (r : Int32) (u : va_W) => ∃ (b : Nat), ((b = 0 ∧ mtN nw mt_ d = false) ∨ (b = 1 ∧ mtN nw mt_ d = true)) ∧ b ≤ 1 ∧ r = nI b ∧ u = [ro_ mm 12 (mo g (nI ta) (nI pa) (nI pe) pd (nI pb) pp pf pg pn rt rn (nI cd) sn (nI il) tk am at_ aa mt_ (nI bh) wd wt wy (nI it_) (nI rm) (nI ud) (nI nu) sd (nI qn) (nI qw) qo (nI qb) (nI qp) qa (nI qi) (nI oc)), ra_I (g 31) cI 120 nw])) := by
  refine skM_of pf_X12_isMuteNow (Nat.le_of_ble_eq_true rfl) ?_
  intro p e s m below meth c A ls E hP hD hl
  refine skE_el E (fun hx hb hr hml hlocks hin hown hts hK hA => ?_)
  have hown : s.vm.findClass RX12 = some m.cls := hown
  have hS : va_S A s.heap s.heap [] := va_S.rf
  have hl : lv_has ls 2 [(0, .ref mm), (1, .int (nI d))] := hl
  refine lv_aload_n hx hb dX12_isMuteNow_0 rfl (lv_at hl 0 rfl) ?_
  refine lv_iload_n hx hb dX12_isMuteNow_1 rfl (lv_at hl 1 rfl) ?_
  refine sk_Vi (q0 := 0) (n := 1) (rest := []) (wr := fmR om_2_3 _) ⟨hx, hb, hml, hown, hts⟩ hl.1 (c_m_isMute l D cI cJ cC cZ cS mm g ta pa pe pd pb pp pf pg pn rt rn cd sn il tk am at_ aa mt_ bh wd wt wy it_ rm ud nu sd qn qw qo qb qp qa qi oc d nw hd hnw) w_7_106 w_7_108 w_0_71 w_1_14 w_7_109 hd_X12_isMute_1 ⟨⟨(Nat.le_of_ble_eq_true rfl), (Nat.le_of_ble_eq_true rfl)⟩, (Nat.le_of_ble_eq_true rfl), (Nat.le_of_ble_eq_true rfl)⟩ hK hP hD hS hA (fmT om_2_3 0) (fmF om_2_3 0) (fm_C1 rfl rfl) (fm_R rfl rfl) (fm_nT om_2_3 0) (fm_nF om_2_3 0) (fm_di om_2_3 0) rfl rfl rfl rfl (Nat.le_of_ble_eq_true rfl) dX12_isMuteNow_2 (fun r_2 u H locs hw hP hD hS => ?_)
  refine exE hw (fun b_1 hw1 => anE hw1 (fun hb1_3 hw2 => anE hw2 (fun hb2_4 hw3 => anE hw3 (fun er_6 eu_5 => ?_))))
  clear hw hw1 hw2 hw3
  subst er_6
  refine o_mgE (ws' := [ro_ mm 12 (mo g (nI ta) (nI pa) (nI pe) pd (nI pb) pp pf pg pn rt rn (nI cd) sn (nI il) tk am at_ aa mt_ (nI bh) wd wt wy (nI it_) (nI rm) (nI ud) (nI nu) sd (nI qn) (nI qw) qo (nI qb) (nI qp) qa (nI qi) (nI oc)), ra_I (g 31) cI 120 nw]) eu_5 hP hD rfl (fun hP hD => ?_)
  refine lv_if_ne (tgt := 20) hx hb dX12_isMuteNow_5 (by decide) (fun c_7 => ?_) (fun c_7 => ?_)
  · have c_7 : ¬ (b_1 = 0) := fun h => c_7 ((neq b_1 0 (by omega) (Nat.le_of_ble_eq_true rfl)).mpr h)
    refine lv_iconst (v := 1) hx hb dX12_isMuteNow_20 ic_1 ?_
    refine lv_goto (tgt := 25) hx hb dX12_isMuteNow_21 (by decide) ?_
    exact sk_iret hx hb hr rfl hlocks hK hP hD hS (⟨1, Or.inr ⟨rfl, mt_1 (or_1 hb1_3 (by omega))⟩, by omega, rfl, rfl⟩) (Nat.le_of_ble_eq_true rfl) (Nat.le_of_ble_eq_true rfl) dX12_isMuteNow_25
  · have c_7 : b_1 = 0 := (neq b_1 0 (by omega) (Nat.le_of_ble_eq_true rfl)).mp c_7
    refine lv_aload_n hx hb dX12_isMuteNow_8 rfl (lv_at hl 0 rfl) ?_
    refine sk_get (v := .int mt_) (C := RX12) (T := TX12) (N := 92) hx hb hts inlX12 hown hK hP 0 rfl rfl 39 (Nat.le_of_ble_eq_true rfl) w_5_194 rfl dX12_isMuteNow_9 ?_
    refine lv_iload_n hx hb dX12_isMuteNow_12 rfl (lv_at hl 1 rfl) ?_
    refine lv_ishr hx hb dX12_isMuteNow_13 ?_
    refine lv_topi (fun v_8 ev_8 => ?_)
    refine lv_iconst (v := 1) hx hb dX12_isMuteNow_14 ic_1 ?_
    refine lv_iand hx hb dX12_isMuteNow_15 ?_
    refine lv_topi (fun v_9 ev_9 => ?_)
    refine lv_iconst (v := 1) hx hb dX12_isMuteNow_16 ic_1 ?_
    refine lv_icmp_ne (tgt := 24) hx hb dX12_isMuteNow_17 (by decide) (fun c_10 => ?_) (fun c_10 => ?_)
    · skip
      refine lv_iconst (v := 0) hx hb dX12_isMuteNow_24 ic_0 ?_
      exact sk_iret hx hb hr rfl hlocks hK hP hD hS (⟨0, Or.inl ⟨rfl, mt_0 (or_0 hb1_3 (by omega)) (by rw [← ev_8, ← ev_9]; exact c_10)⟩, by omega, rfl, rfl⟩) (Nat.le_of_ble_eq_true rfl) (Nat.le_of_ble_eq_true rfl) dX12_isMuteNow_25
    · skip
      refine lv_iconst (v := 1) hx hb dX12_isMuteNow_20 ic_1 ?_
      refine lv_goto (tgt := 25) hx hb dX12_isMuteNow_21 (by decide) ?_
      exact sk_iret hx hb hr rfl hlocks hK hP hD hS (⟨1, Or.inr ⟨rfl, mt_2 (by rw [← ev_8, ← ev_9]; exact c_10)⟩, by omega, rfl, rfl⟩) (Nat.le_of_ble_eq_true rfl) (Nat.le_of_ble_eq_true rfl) dX12_isMuteNow_25
theorem dg_X12_isLeft_0_0 : bqL cX12_isLeft 0 [(0, [42]), (1, [180, 0, 79]), (4, [27]), (5, [160, 0, 23]), (28, [42]), (29, [180, 1, 112]), (32, [154, 0, 5]), (37, [3]), (38, [62]), (39, [29]), (40, [42]), (41, [180, 1, 56]), (44, [162, 0, 55]), (99, [4]), (100, [172]), (47, [42]), (48, [180, 0, 104]), (51, [5]), (52, [29]), (53, [104]), (54, [46]), (55, [27]), (56, [160, 0, 37]), (93, [132, 3, 1]), (96, [167, 255, 199]), (59, [42]), (60, [27]), (61, [182, 1, 103]), (64, [154, 0, 27]), (91, [3]), (92, [172]), (67, [42]), (68, [180, 0, 76]), (71, [16, 10]), (73, [27]), (74, [104]), (75, [28]), (76, [96]), (77, [46]), (78, [42])] = true := by decide +kernel
theorem dX12_isLeft_0 : decode cX12_isLeft 0 = .ok (.aload_n 0, 1) := q_aload_n0 (bat_get dg_X12_isLeft_0_0 0 rfl rfl)
theorem dX12_isLeft_1 : decode cX12_isLeft 1 = .ok (.getfield 79, 3) := q_getfield (bat_get dg_X12_isLeft_0_0 1 rfl rfl) rfl
theorem dX12_isLeft_4 : decode cX12_isLeft 4 = .ok (.iload_n 1, 1) := q_iload_n1 (bat_get dg_X12_isLeft_0_0 2 rfl rfl)
theorem dX12_isLeft_5 : decode cX12_isLeft 5 = .ok (.if_icmp .ne 23, 3) := q_if_icmp_ne (bat_get dg_X12_isLeft_0_0 3 rfl rfl) rfl
theorem dX12_isLeft_28 : decode cX12_isLeft 28 = .ok (.aload_n 0, 1) := q_aload_n0 (bat_get dg_X12_isLeft_0_0 4 rfl rfl)
theorem dX12_isLeft_29 : decode cX12_isLeft 29 = .ok (.getfield 368, 3) := q_getfield (bat_get dg_X12_isLeft_0_0 5 rfl rfl) rfl
theorem dX12_isLeft_32 : decode cX12_isLeft 32 = .ok (.ifCond .ne 5, 3) := q_ifCond_ne (bat_get dg_X12_isLeft_0_0 6 rfl rfl) rfl
theorem dX12_isLeft_37 : decode cX12_isLeft 37 = .ok (.iconst 0, 1) := q_iconst0 (bat_get dg_X12_isLeft_0_0 7 rfl rfl)
theorem dX12_isLeft_38 : decode cX12_isLeft 38 = .ok (.istore_n 3, 1) := q_istore_n3 (bat_get dg_X12_isLeft_0_0 8 rfl rfl)
theorem dX12_isLeft_39 : decode cX12_isLeft 39 = .ok (.iload_n 3, 1) := q_iload_n3 (bat_get dg_X12_isLeft_0_0 9 rfl rfl)
theorem dX12_isLeft_40 : decode cX12_isLeft 40 = .ok (.aload_n 0, 1) := q_aload_n0 (bat_get dg_X12_isLeft_0_0 10 rfl rfl)
theorem dX12_isLeft_41 : decode cX12_isLeft 41 = .ok (.getfield 312, 3) := q_getfield (bat_get dg_X12_isLeft_0_0 11 rfl rfl) rfl
theorem dX12_isLeft_44 : decode cX12_isLeft 44 = .ok (.if_icmp .ge 55, 3) := q_if_icmp_ge (bat_get dg_X12_isLeft_0_0 12 rfl rfl) rfl
theorem dX12_isLeft_99 : decode cX12_isLeft 99 = .ok (.iconst 1, 1) := q_iconst1 (bat_get dg_X12_isLeft_0_0 13 rfl rfl)
theorem dX12_isLeft_100 : decode cX12_isLeft 100 = .ok (.ireturn, 1) := q_ireturn (bat_get dg_X12_isLeft_0_0 14 rfl rfl)
theorem dX12_isLeft_47 : decode cX12_isLeft 47 = .ok (.aload_n 0, 1) := q_aload_n0 (bat_get dg_X12_isLeft_0_0 15 rfl rfl)
theorem dX12_isLeft_48 : decode cX12_isLeft 48 = .ok (.getfield 104, 3) := q_getfield (bat_get dg_X12_isLeft_0_0 16 rfl rfl) rfl
theorem dX12_isLeft_51 : decode cX12_isLeft 51 = .ok (.iconst 2, 1) := q_iconst2 (bat_get dg_X12_isLeft_0_0 17 rfl rfl)
theorem dX12_isLeft_52 : decode cX12_isLeft 52 = .ok (.iload_n 3, 1) := q_iload_n3 (bat_get dg_X12_isLeft_0_0 18 rfl rfl)
theorem dX12_isLeft_53 : decode cX12_isLeft 53 = .ok (.imul, 1) := q_imul (bat_get dg_X12_isLeft_0_0 19 rfl rfl)
theorem dX12_isLeft_54 : decode cX12_isLeft 54 = .ok (.iaload, 1) := q_iaload (bat_get dg_X12_isLeft_0_0 20 rfl rfl)
theorem dX12_isLeft_55 : decode cX12_isLeft 55 = .ok (.iload_n 1, 1) := q_iload_n1 (bat_get dg_X12_isLeft_0_0 21 rfl rfl)
theorem dX12_isLeft_56 : decode cX12_isLeft 56 = .ok (.if_icmp .ne 37, 3) := q_if_icmp_ne (bat_get dg_X12_isLeft_0_0 22 rfl rfl) rfl
theorem dX12_isLeft_93 : decode cX12_isLeft 93 = .ok (.iinc 3 1, 3) := q_iinc (bat_get dg_X12_isLeft_0_0 23 rfl rfl) rfl
theorem dX12_isLeft_96 : decode cX12_isLeft 96 = .ok (.goto (-57), 3) := q_goto (bat_get dg_X12_isLeft_0_0 24 rfl rfl) rfl
theorem dX12_isLeft_59 : decode cX12_isLeft 59 = .ok (.aload_n 0, 1) := q_aload_n0 (bat_get dg_X12_isLeft_0_0 25 rfl rfl)
theorem dX12_isLeft_60 : decode cX12_isLeft 60 = .ok (.iload_n 1, 1) := q_iload_n1 (bat_get dg_X12_isLeft_0_0 26 rfl rfl)
theorem dX12_isLeft_61 : decode cX12_isLeft 61 = .ok (.invokevirtual 359, 3) := q_invokevirtual (bat_get dg_X12_isLeft_0_0 27 rfl rfl) rfl
theorem dX12_isLeft_64 : decode cX12_isLeft 64 = .ok (.ifCond .ne 27, 3) := q_ifCond_ne (bat_get dg_X12_isLeft_0_0 28 rfl rfl) rfl
theorem dX12_isLeft_91 : decode cX12_isLeft 91 = .ok (.iconst 0, 1) := q_iconst0 (bat_get dg_X12_isLeft_0_0 29 rfl rfl)
theorem dX12_isLeft_92 : decode cX12_isLeft 92 = .ok (.ireturn, 1) := q_ireturn (bat_get dg_X12_isLeft_0_0 30 rfl rfl)
theorem dX12_isLeft_67 : decode cX12_isLeft 67 = .ok (.aload_n 0, 1) := q_aload_n0 (bat_get dg_X12_isLeft_0_0 31 rfl rfl)
theorem dX12_isLeft_68 : decode cX12_isLeft 68 = .ok (.getfield 76, 3) := q_getfield (bat_get dg_X12_isLeft_0_0 32 rfl rfl) rfl
theorem dX12_isLeft_71 : decode cX12_isLeft 71 = .ok (.bipush 10, 2) := q_bipush (bat_get dg_X12_isLeft_0_0 33 rfl rfl) rfl
theorem dX12_isLeft_73 : decode cX12_isLeft 73 = .ok (.iload_n 1, 1) := q_iload_n1 (bat_get dg_X12_isLeft_0_0 34 rfl rfl)
theorem dX12_isLeft_74 : decode cX12_isLeft 74 = .ok (.imul, 1) := q_imul (bat_get dg_X12_isLeft_0_0 35 rfl rfl)
theorem dX12_isLeft_75 : decode cX12_isLeft 75 = .ok (.iload_n 2, 1) := q_iload_n2 (bat_get dg_X12_isLeft_0_0 36 rfl rfl)
theorem dX12_isLeft_76 : decode cX12_isLeft 76 = .ok (.iadd, 1) := q_iadd (bat_get dg_X12_isLeft_0_0 37 rfl rfl)
theorem dX12_isLeft_77 : decode cX12_isLeft 77 = .ok (.iaload, 1) := q_iaload (bat_get dg_X12_isLeft_0_0 38 rfl rfl)
theorem dX12_isLeft_78 : decode cX12_isLeft 78 = .ok (.aload_n 0, 1) := q_aload_n0 (bat_get dg_X12_isLeft_0_0 39 rfl rfl)
theorem dg_X12_isLeft_8_79 : bqL cX12_isLeft 8 [(71, [180, 0, 104]), (74, [5]), (75, [29]), (76, [104]), (77, [4]), (78, [96]), (79, [46]), (80, [159, 0, 5]), (27, [4]), (28, [172]), (0, [42]), (1, [180, 0, 76]), (4, [16, 10]), (6, [27]), (7, [104]), (8, [28]), (9, [96]), (10, [46]), (11, [42]), (12, [180, 1, 109]), (15, [159, 0, 5]), (18, [3]), (19, [172])] = true := by decide +kernel
theorem dX12_isLeft_79 : decode cX12_isLeft 79 = .ok (.getfield 104, 3) := q_getfield (bat_get dg_X12_isLeft_8_79 0 rfl rfl) rfl
theorem dX12_isLeft_82 : decode cX12_isLeft 82 = .ok (.iconst 2, 1) := q_iconst2 (bat_get dg_X12_isLeft_8_79 1 rfl rfl)
theorem dX12_isLeft_83 : decode cX12_isLeft 83 = .ok (.iload_n 3, 1) := q_iload_n3 (bat_get dg_X12_isLeft_8_79 2 rfl rfl)
theorem dX12_isLeft_84 : decode cX12_isLeft 84 = .ok (.imul, 1) := q_imul (bat_get dg_X12_isLeft_8_79 3 rfl rfl)
theorem dX12_isLeft_85 : decode cX12_isLeft 85 = .ok (.iconst 1, 1) := q_iconst1 (bat_get dg_X12_isLeft_8_79 4 rfl rfl)
theorem dX12_isLeft_86 : decode cX12_isLeft 86 = .ok (.iadd, 1) := q_iadd (bat_get dg_X12_isLeft_8_79 5 rfl rfl)
theorem dX12_isLeft_87 : decode cX12_isLeft 87 = .ok (.iaload, 1) := q_iaload (bat_get dg_X12_isLeft_8_79 6 rfl rfl)
theorem dX12_isLeft_88 : decode cX12_isLeft 88 = .ok (.if_icmp .eq 5, 3) := q_if_icmp_eq (bat_get dg_X12_isLeft_8_79 7 rfl rfl) rfl
theorem dX12_isLeft_35 : decode cX12_isLeft 35 = .ok (.iconst 1, 1) := q_iconst1 (bat_get dg_X12_isLeft_8_79 8 rfl rfl)
theorem dX12_isLeft_36 : decode cX12_isLeft 36 = .ok (.ireturn, 1) := q_ireturn (bat_get dg_X12_isLeft_8_79 9 rfl rfl)
theorem dX12_isLeft_8 : decode cX12_isLeft 8 = .ok (.aload_n 0, 1) := q_aload_n0 (bat_get dg_X12_isLeft_8_79 10 rfl rfl)
theorem dX12_isLeft_9 : decode cX12_isLeft 9 = .ok (.getfield 76, 3) := q_getfield (bat_get dg_X12_isLeft_8_79 11 rfl rfl) rfl
theorem dX12_isLeft_12 : decode cX12_isLeft 12 = .ok (.bipush 10, 2) := q_bipush (bat_get dg_X12_isLeft_8_79 12 rfl rfl) rfl
theorem dX12_isLeft_14 : decode cX12_isLeft 14 = .ok (.iload_n 1, 1) := q_iload_n1 (bat_get dg_X12_isLeft_8_79 13 rfl rfl)
theorem dX12_isLeft_15 : decode cX12_isLeft 15 = .ok (.imul, 1) := q_imul (bat_get dg_X12_isLeft_8_79 14 rfl rfl)
theorem dX12_isLeft_16 : decode cX12_isLeft 16 = .ok (.iload_n 2, 1) := q_iload_n2 (bat_get dg_X12_isLeft_8_79 15 rfl rfl)
theorem dX12_isLeft_17 : decode cX12_isLeft 17 = .ok (.iadd, 1) := q_iadd (bat_get dg_X12_isLeft_8_79 16 rfl rfl)
theorem dX12_isLeft_18 : decode cX12_isLeft 18 = .ok (.iaload, 1) := q_iaload (bat_get dg_X12_isLeft_8_79 17 rfl rfl)
theorem dX12_isLeft_19 : decode cX12_isLeft 19 = .ok (.aload_n 0, 1) := q_aload_n0 (bat_get dg_X12_isLeft_8_79 18 rfl rfl)
theorem dX12_isLeft_20 : decode cX12_isLeft 20 = .ok (.getfield 365, 3) := q_getfield (bat_get dg_X12_isLeft_8_79 19 rfl rfl) rfl
theorem dX12_isLeft_23 : decode cX12_isLeft 23 = .ok (.if_icmp .eq 5, 3) := q_if_icmp_eq (bat_get dg_X12_isLeft_8_79 20 rfl rfl) rfl
theorem dX12_isLeft_26 : decode cX12_isLeft 26 = .ok (.iconst 0, 1) := q_iconst0 (bat_get dg_X12_isLeft_8_79 21 rfl rfl)
theorem dX12_isLeft_27 : decode cX12_isLeft 27 = .ok (.ireturn, 1) := q_ireturn (bat_get dg_X12_isLeft_8_79 22 rfl rfl)
theorem w_5_196 : (Cond.fieldLink RX12 79 "SameKeeperModel" "wordDay" "I") ∈ wsL_law := sk_mem (ck_5 _ (List.mem_of_getElem? (i := 196) rfl)) rfl
theorem w_5_195 : (Cond.fieldLink RX12 368 "SameKeeperModel" "byHeard" "Z") ∈ wsL_law := sk_mem (ck_5 _ (List.mem_of_getElem? (i := 195) rfl)) rfl
theorem w_5_207 : (Cond.fieldLink RX12 312 "SameKeeperModel" "rowMany" "I") ∈ wsL_law := sk_mem (ck_5 _ (List.mem_of_getElem? (i := 207) rfl)) rfl
theorem w_5_208 : (Cond.fieldLink RX12 104 "SameKeeperModel" "rows" "[I") ∈ wsL_law := sk_mem (ck_5 _ (List.mem_of_getElem? (i := 208) rfl)) rfl
theorem w_5_197 : (Cond.fieldLink RX12 365 "SameKeeperModel" "wordTold" "I") ∈ wsL_law := sk_mem (ck_5 _ (List.mem_of_getElem? (i := 197) rfl)) rfl
theorem w_7_212 : (Cond.code yX12_isLeft cX12_isLeft 4 (some .boolean)) ∈ wsL_law := sk_mem (ck_7 _ (List.mem_of_getElem? (i := 212) rfl)) rfl
set_option maxHeartbeats 4000000 in
set_option maxRecDepth 100000 in
theorem c_m_isLeft (l : Launch) (D : va_G) (cI cJ cC cZ cS : ClassId) (mm : Nat) (g : Nat → Nat) (ta : Nat) (pa : Nat) (pe : Nat) (pd : Int32) (pb : Nat) (pp : Int32) (pf : Int32) (pg : Int32) (pn : Int32) (rt : Int32) (rn : Int32) (cd : Nat) (sn : Int32) (il : Nat) (tk : Int32) (am : Int32) (at_ : Int32) (aa : Int32) (mt_ : Int32) (bh : Nat) (wd : Int32) (wt : Int32) (wy : Int64) (it_ : Nat) (rm : Nat) (ud : Nat) (nu : Nat) (sd : Int64) (qn : Nat) (qw : Nat) (qo : Int32) (qb : Nat) (qp : Nat) (qa : Int64) (qi : Nat) (oc : Nat) (d : Nat) (o : Nat) (nw : Nat → Int32) (ws_ : Nat → Int32) (rw_ : Nat → Int32) (hd : d < 9) (ho : o < 10) (hrm : rm ≤ 16) (hbh : bh ≤ 1) (hnw : nowOk nw) : skM l yX12_isLeft cX12_isLeft 4 (some .boolean) 1 21 0 0 D (skT cI cJ cC cZ cS) [.ref mm, .int (nI d), .int (nI o)] [ro_ mm 12 (mo g (nI ta) (nI pa) (nI pe) pd (nI pb) pp pf pg pn rt rn (nI cd) sn (nI il) tk am at_ aa mt_ (nI bh) wd wt wy (nI it_) (nI rm) (nI ud) (nI nu) sd (nI qn) (nI qw) qo (nI qb) (nI qp) qa (nI qi) (nI oc)), ra_I (g 31) cI 120 nw, ra_I (g 38) cI 90 ws_, ra_I (g 53) cI 32 rw_] (skI D (skT cI cJ cC cZ cS) (fun (r : Int32) (u : va_W) => ∃ (b : Nat), b ≤ 1 ∧ r = nI b ∧ u = [ro_ mm 12 (mo g (nI ta) (nI pa) (nI pe) pd (nI pb) pp pf pg pn rt rn (nI cd) sn (nI il) tk am at_ aa mt_ (nI bh) wd wt wy (nI it_) (nI rm) (nI ud) (nI nu) sd (nI qn) (nI qw) qo (nI qb) (nI qp) qa (nI qi) (nI oc)), ra_I (g 31) cI 120 nw, ra_I (g 38) cI 90 ws_, ra_I (g 53) cI 32 rw_])) := by
  refine skM_of pf_X12_isLeft (Nat.le_of_ble_eq_true rfl) ?_
  intro p e s m below meth c A ls E hP hD hl
  refine skE_el E (fun hx hb hr hml hlocks hin hown hts hK hA => ?_)
  have hown : s.vm.findClass RX12 = some m.cls := hown
  have hS : va_S A s.heap s.heap [] := va_S.rf
  have hl : lv_has ls 4 [(0, .ref mm), (1, .int (nI d)), (2, .int (nI o))] := hl
  refine lv_aload_n hx hb dX12_isLeft_0 rfl (lv_at hl 0 rfl) ?_
  refine sk_get (v := .int wd) (C := RX12) (T := TX12) (N := 92) hx hb hts inlX12 hown hK hP 0 rfl rfl 41 (Nat.le_of_ble_eq_true rfl) w_5_196 rfl dX12_isLeft_1 ?_
  refine lv_iload_n hx hb dX12_isLeft_4 rfl (lv_at hl 1 rfl) ?_
  refine lv_icmp_ne (tgt := 28) hx hb dX12_isLeft_5 (by decide) (fun c_1 => ?_) (fun c_1 => ?_)
  · skip
    refine lv_aload_n hx hb dX12_isLeft_28 rfl (lv_at hl 0 rfl) ?_
    refine sk_get (v := .int (nI bh)) (C := RX12) (T := TX12) (N := 92) hx hb hts inlX12 hown hK hP 0 rfl rfl 40 (Nat.le_of_ble_eq_true rfl) w_5_195 rfl dX12_isLeft_29 ?_
    refine lv_if_ne (tgt := 37) hx hb dX12_isLeft_32 (by decide) (fun c_2 => ?_) (fun c_2 => ?_)
    · have c_2 : ¬ (bh = 0) := fun h => c_2 ((neq bh 0 (by omega) (Nat.le_of_ble_eq_true rfl)).mpr h)
      refine lv_iconst (v := 0) hx hb dX12_isLeft_37 ic_0 ?_
      refine lv_istore_n (lv' := [(3, .int 0), (0, .ref mm), (1, .int (nI d)), (2, .int (nI o))]) hx hb dX12_isLeft_38 rfl hl (by decide) rfl (fun ls hl => ?_)
      have lp_3 : ∀ (n_4 : Nat) (i : Nat) (H : Heap) (locs : List Loc) (ls : Array Slot), 17 - i < n_4 → (i ≤ 16) → va_P D vwCl [ro_ mm 12 (mo g (nI ta) (nI pa) (nI pe) pd (nI pb) pp pf pg pn rt rn (nI cd) sn (nI il) tk am at_ aa mt_ (nI bh) wd wt wy (nI it_) (nI rm) (nI ud) (nI nu) sd (nI qn) (nI qw) qo (nI qb) (nI qp) qa (nI qi) (nI oc)), ra_I (g 31) cI 120 nw, ra_I (g 38) cI 90 ws_, ra_I (g 53) cI 32 rw_] H → va_D A [ro_ mm 12 (mo g (nI ta) (nI pa) (nI pe) pd (nI pb) pp pf pg pn rt rn (nI cd) sn (nI il) tk am at_ aa mt_ (nI bh) wd wt wy (nI it_) (nI rm) (nI ud) (nI nu) sd (nI qn) (nI qw) qo (nI qb) (nI qp) qa (nI qi) (nI oc)), ra_I (g 31) cI 120 nw, ra_I (g 38) cI 90 ws_, ra_I (g 53) cI 32 rw_] → va_S A s.heap H locs → lv_has ls 4 [(3, .int (nI i)), (0, .ref mm), (1, .int (nI d)), (2, .int (nI o))] → W p l e { frames := 1, cells := 0, slots := 0, locals := 21 } s m ([.ref mm, .int (nI d), .int (nI o)] : List Value).toArray below meth c H locs 0 0 (MQ below (skI D (skT cI cJ cC cZ cS) (fun (r : Int32) (u : va_W) => ∃ (b : Nat), b ≤ 1 ∧ r = nI b ∧ u = [ro_ mm 12 (mo g (nI ta) (nI pa) (nI pe) pd (nI pb) pp pf pg pn rt rn (nI cd) sn (nI il) tk am at_ aa mt_ (nI bh) wd wt wy (nI it_) (nI rm) (nI ud) (nI nu) sd (nI qn) (nI qw) qo (nI qb) (nI qp) qa (nI qi) (nI oc)), ra_I (g 31) cI 120 nw, ra_I (g 38) cI 90 ws_, ra_I (g 53) cI 32 rw_]) A) ([.ref mm, .int (nI d), .int (nI o)] : List Value).toArray s 0 0 A) (F0 m 39 ls []) := by
        intro n_4
        induction n_4 with
        | zero => intro i H locs ls hm; exact absurd hm (Nat.not_lt_zero _)
        | succ n_4 ih_lp_3 =>
          intro i H locs ls hm hi hP hD hS hl
          refine lv_iload_n hx hb dX12_isLeft_39 rfl (lv_at hl 0 rfl) ?_
          refine lv_aload_n hx hb dX12_isLeft_40 rfl (lv_at hl 1 rfl) ?_
          refine sk_get (v := .int (nI rm)) (C := RX12) (T := TX12) (N := 92) hx hb hts inlX12 hown hK hP 0 rfl rfl 52 (Nat.le_of_ble_eq_true rfl) w_5_207 rfl dX12_isLeft_41 ?_
          refine lv_icmp_ge (tgt := 99) hx hb dX12_isLeft_44 (by decide) (fun c_5 => ?_) (fun c_5 => ?_)
          · have c_5 : rm ≤ i := (nle rm i (by omega) (by omega)).mp c_5
            refine lv_iconst (v := 1) hx hb dX12_isLeft_99 ic_1 ?_
            exact sk_iret hx hb hr rfl hlocks hK hP hD hS (⟨1, by omega, rfl, rfl⟩) (Nat.le_of_ble_eq_true rfl) (Nat.le_of_ble_eq_true rfl) dX12_isLeft_100
          · have c_5 : ¬ (rm ≤ i) := fun h => c_5 ((nle rm i (by omega) (by omega)).mpr h)
            refine lv_aload_n hx hb dX12_isLeft_47 rfl (lv_at hl 1 rfl) ?_
            refine sk_get (v := .ref (g 53)) (C := RX12) (T := TX12) (N := 92) hx hb hts inlX12 hown hK hP 0 rfl rfl 53 (Nat.le_of_ble_eq_true rfl) w_5_208 rfl dX12_isLeft_48 ?_
            refine lv_iconst (v := 2) hx hb dX12_isLeft_51 ic_2 ?_
            refine lv_iload_n hx hb dX12_isLeft_52 rfl (lv_at hl 0 rfl) ?_
            refine lv_imul hx hb dX12_isLeft_53 ?_
            refine sk_top (nI (2 * i)) (nmul 2 i) ?_
            refine va_iald hx hb hK.1 hP 3 0 rfl rfl (vin (2 * i) 32 (by omega) (Nat.le_of_ble_eq_true rfl)) dX12_isLeft_54 ?_
            refine lv_topi (fun v_6 ev_6 => ?_)
            refine lv_iload_n hx hb dX12_isLeft_55 rfl (lv_at hl 2 rfl) ?_
            refine lv_icmp_ne (tgt := 93) hx hb dX12_isLeft_56 (by decide) (fun c_7 => ?_) (fun c_7 => ?_)
            · skip
              refine lv_iinc (v := nI (i + 1)) (lv' := [(3, .int (nI (i + 1))), (0, .ref mm), (1, .int (nI d)), (2, .int (nI o))]) hx hb dX12_isLeft_93 hl (k := 0) rfl (ninc i 1 (by decide)) (by decide) rfl (fun ls hl => ?_)
              refine lv_goto (tgt := 39) hx hb dX12_isLeft_96 (by decide) ?_
              exact ih_lp_3 (i + 1) _ _ _ (by omega) (by omega) hP hD hS (lv_sub hl [0, 1, 2, 3] rfl)
            · skip
              refine lv_aload_n hx hb dX12_isLeft_59 rfl (lv_at hl 1 rfl) ?_
              refine lv_iload_n hx hb dX12_isLeft_60 rfl (lv_at hl 2 rfl) ?_
              refine sk_Vi (q0 := 0) (n := 1) (rest := []) (wr := fmR om_4_c _) ⟨hx, hb, hml, hown, hts⟩ hl.1 (c_m_isMute l D cI cJ cC cZ cS mm g ta pa pe pd pb pp pf pg pn rt rn cd sn il tk am at_ aa mt_ bh wd wt wy it_ rm ud nu sd qn qw qo qb qp qa qi oc d nw hd hnw) w_7_106 w_7_108 w_0_71 w_1_14 w_7_109 hd_X12_isMute_1 ⟨⟨(Nat.le_of_ble_eq_true rfl), (Nat.le_of_ble_eq_true rfl)⟩, (Nat.le_of_ble_eq_true rfl), (Nat.le_of_ble_eq_true rfl)⟩ hK hP hD hS hA (fmT om_4_c 0) (fmF om_4_c 0) (fm_C1 rfl rfl) (fm_R rfl rfl) (fm_nT om_4_c 0) (fm_nF om_4_c 0) (fm_di om_4_c 0) rfl rfl rfl rfl (Nat.le_of_ble_eq_true rfl) dX12_isLeft_61 (fun r_9 u H locs hw hP hD hS => ?_)
              refine exE hw (fun b_8 hw1 => anE hw1 (fun hb1_10 hw2 => anE hw2 (fun hb2_11 hw3 => anE hw3 (fun er_13 eu_12 => ?_))))
              clear hw hw1 hw2 hw3
              subst er_13
              refine o_mgE (ws' := [ro_ mm 12 (mo g (nI ta) (nI pa) (nI pe) pd (nI pb) pp pf pg pn rt rn (nI cd) sn (nI il) tk am at_ aa mt_ (nI bh) wd wt wy (nI it_) (nI rm) (nI ud) (nI nu) sd (nI qn) (nI qw) qo (nI qb) (nI qp) qa (nI qi) (nI oc)), ra_I (g 31) cI 120 nw, ra_I (g 38) cI 90 ws_, ra_I (g 53) cI 32 rw_]) eu_12 hP hD rfl (fun hP hD => ?_)
              refine lv_if_ne (tgt := 91) hx hb dX12_isLeft_64 (by decide) (fun c_14 => ?_) (fun c_14 => ?_)
              · have c_14 : ¬ (b_8 = 0) := fun h => c_14 ((neq b_8 0 (by omega) (Nat.le_of_ble_eq_true rfl)).mpr h)
                refine lv_iconst (v := 0) hx hb dX12_isLeft_91 ic_0 ?_
                exact sk_iret hx hb hr rfl hlocks hK hP hD hS (⟨0, by omega, rfl, rfl⟩) (Nat.le_of_ble_eq_true rfl) (Nat.le_of_ble_eq_true rfl) dX12_isLeft_92
              · have c_14 : b_8 = 0 := (neq b_8 0 (by omega) (Nat.le_of_ble_eq_true rfl)).mp c_14
                refine lv_aload_n hx hb dX12_isLeft_67 rfl (lv_at hl 1 rfl) ?_
                refine sk_get (v := .ref (g 38)) (C := RX12) (T := TX12) (N := 92) hx hb hts inlX12 hown hK hP 0 rfl rfl 38 (Nat.le_of_ble_eq_true rfl) w_5_193 rfl dX12_isLeft_68 ?_
                refine lv_bipush (v := 10) hx hb dX12_isLeft_71 (by decide) ?_
                refine lv_iload_n hx hb dX12_isLeft_73 rfl (lv_at hl 2 rfl) ?_
                refine lv_imul hx hb dX12_isLeft_74 ?_
                refine sk_top (nI (10 * d)) (nmul 10 d) ?_
                refine lv_iload_n hx hb dX12_isLeft_75 rfl (lv_at hl 3 rfl) ?_
                refine lv_iadd hx hb dX12_isLeft_76 ?_
                refine sk_top (nI (10 * d + o)) (nI_add (10 * d) o) ?_
                refine va_iald hx hb hK.1 hP 2 0 rfl rfl (vin (10 * d + o) 90 (by omega) (Nat.le_of_ble_eq_true rfl)) dX12_isLeft_77 ?_
                refine lv_topi (fun v_15 ev_15 => ?_)
                refine lv_aload_n hx hb dX12_isLeft_78 rfl (lv_at hl 1 rfl) ?_
                refine sk_get (v := .ref (g 53)) (C := RX12) (T := TX12) (N := 92) hx hb hts inlX12 hown hK hP 0 rfl rfl 53 (Nat.le_of_ble_eq_true rfl) w_5_208 rfl dX12_isLeft_79 ?_
                refine lv_iconst (v := 2) hx hb dX12_isLeft_82 ic_2 ?_
                refine lv_iload_n hx hb dX12_isLeft_83 rfl (lv_at hl 0 rfl) ?_
                refine lv_imul hx hb dX12_isLeft_84 ?_
                refine sk_top (nI (2 * i)) (nmul 2 i) ?_
                refine lv_iconst (v := 1) hx hb dX12_isLeft_85 ic_1 ?_
                refine lv_iadd hx hb dX12_isLeft_86 ?_
                refine sk_top (nI (2 * i + 1)) (nI_add (2 * i) 1) ?_
                refine va_iald hx hb hK.1 hP 3 0 rfl rfl (vin (2 * i + 1) 32 (by omega) (Nat.le_of_ble_eq_true rfl)) dX12_isLeft_87 ?_
                refine lv_topi (fun v_16 ev_16 => ?_)
                refine lv_icmp_eq (tgt := 93) hx hb dX12_isLeft_88 (by decide) (fun c_17 => ?_) (fun c_17 => ?_)
                · skip
                  refine lv_iinc (v := nI (i + 1)) (lv' := [(3, .int (nI (i + 1))), (0, .ref mm), (1, .int (nI d)), (2, .int (nI o))]) hx hb dX12_isLeft_93 hl (k := 0) rfl (ninc i 1 (by decide)) (by decide) rfl (fun ls hl => ?_)
                  refine lv_goto (tgt := 39) hx hb dX12_isLeft_96 (by decide) ?_
                  exact ih_lp_3 (i + 1) _ _ _ (by omega) (by omega) hP hD hS (lv_sub hl [0, 1, 2, 3] rfl)
                · skip
                  refine lv_iconst (v := 0) hx hb dX12_isLeft_91 ic_0 ?_
                  exact sk_iret hx hb hr rfl hlocks hK hP hD hS (⟨0, by omega, rfl, rfl⟩) (Nat.le_of_ble_eq_true rfl) (Nat.le_of_ble_eq_true rfl) dX12_isLeft_92
      exact lp_3 (17 - 0 + 1) 0 _ _ _ (Nat.lt_succ_self _) (by omega) hP hD hS (lv_sub hl [0, 1, 2, 3] rfl)
    · have c_2 : bh = 0 := (neq bh 0 (by omega) (Nat.le_of_ble_eq_true rfl)).mp c_2
      refine lv_iconst (v := 1) hx hb dX12_isLeft_35 ic_1 ?_
      exact sk_iret hx hb hr rfl hlocks hK hP hD hS (⟨1, by omega, rfl, rfl⟩) (Nat.le_of_ble_eq_true rfl) (Nat.le_of_ble_eq_true rfl) dX12_isLeft_36
  · skip
    refine lv_aload_n hx hb dX12_isLeft_8 rfl (lv_at hl 0 rfl) ?_
    refine sk_get (v := .ref (g 38)) (C := RX12) (T := TX12) (N := 92) hx hb hts inlX12 hown hK hP 0 rfl rfl 38 (Nat.le_of_ble_eq_true rfl) w_5_193 rfl dX12_isLeft_9 ?_
    refine lv_bipush (v := 10) hx hb dX12_isLeft_12 (by decide) ?_
    refine lv_iload_n hx hb dX12_isLeft_14 rfl (lv_at hl 1 rfl) ?_
    refine lv_imul hx hb dX12_isLeft_15 ?_
    refine sk_top (nI (10 * d)) (nmul 10 d) ?_
    refine lv_iload_n hx hb dX12_isLeft_16 rfl (lv_at hl 2 rfl) ?_
    refine lv_iadd hx hb dX12_isLeft_17 ?_
    refine sk_top (nI (10 * d + o)) (nI_add (10 * d) o) ?_
    refine va_iald hx hb hK.1 hP 2 0 rfl rfl (vin (10 * d + o) 90 (by omega) (Nat.le_of_ble_eq_true rfl)) dX12_isLeft_18 ?_
    refine lv_topi (fun v_18 ev_18 => ?_)
    refine lv_aload_n hx hb dX12_isLeft_19 rfl (lv_at hl 0 rfl) ?_
    refine sk_get (v := .int wt) (C := RX12) (T := TX12) (N := 92) hx hb hts inlX12 hown hK hP 0 rfl rfl 42 (Nat.le_of_ble_eq_true rfl) w_5_197 rfl dX12_isLeft_20 ?_
    refine lv_icmp_eq (tgt := 28) hx hb dX12_isLeft_23 (by decide) (fun c_19 => ?_) (fun c_19 => ?_)
    · skip
      refine lv_aload_n hx hb dX12_isLeft_28 rfl (lv_at hl 0 rfl) ?_
      refine sk_get (v := .int (nI bh)) (C := RX12) (T := TX12) (N := 92) hx hb hts inlX12 hown hK hP 0 rfl rfl 40 (Nat.le_of_ble_eq_true rfl) w_5_195 rfl dX12_isLeft_29 ?_
      refine lv_if_ne (tgt := 37) hx hb dX12_isLeft_32 (by decide) (fun c_20 => ?_) (fun c_20 => ?_)
      · have c_20 : ¬ (bh = 0) := fun h => c_20 ((neq bh 0 (by omega) (Nat.le_of_ble_eq_true rfl)).mpr h)
        refine lv_iconst (v := 0) hx hb dX12_isLeft_37 ic_0 ?_
        refine lv_istore_n (lv' := [(3, .int 0), (0, .ref mm), (1, .int (nI d)), (2, .int (nI o))]) hx hb dX12_isLeft_38 rfl hl (by decide) rfl (fun ls hl => ?_)
        have lp_21 : ∀ (n_22 : Nat) (i : Nat) (H : Heap) (locs : List Loc) (ls : Array Slot), 17 - i < n_22 → (i ≤ 16) → va_P D vwCl [ro_ mm 12 (mo g (nI ta) (nI pa) (nI pe) pd (nI pb) pp pf pg pn rt rn (nI cd) sn (nI il) tk am at_ aa mt_ (nI bh) wd wt wy (nI it_) (nI rm) (nI ud) (nI nu) sd (nI qn) (nI qw) qo (nI qb) (nI qp) qa (nI qi) (nI oc)), ra_I (g 31) cI 120 nw, ra_I (g 38) cI 90 ws_, ra_I (g 53) cI 32 rw_] H → va_D A [ro_ mm 12 (mo g (nI ta) (nI pa) (nI pe) pd (nI pb) pp pf pg pn rt rn (nI cd) sn (nI il) tk am at_ aa mt_ (nI bh) wd wt wy (nI it_) (nI rm) (nI ud) (nI nu) sd (nI qn) (nI qw) qo (nI qb) (nI qp) qa (nI qi) (nI oc)), ra_I (g 31) cI 120 nw, ra_I (g 38) cI 90 ws_, ra_I (g 53) cI 32 rw_] → va_S A s.heap H locs → lv_has ls 4 [(3, .int (nI i)), (0, .ref mm), (1, .int (nI d)), (2, .int (nI o))] → W p l e { frames := 1, cells := 0, slots := 0, locals := 21 } s m ([.ref mm, .int (nI d), .int (nI o)] : List Value).toArray below meth c H locs 0 0 (MQ below (skI D (skT cI cJ cC cZ cS) (fun (r : Int32) (u : va_W) => ∃ (b : Nat), b ≤ 1 ∧ r = nI b ∧ u = [ro_ mm 12 (mo g (nI ta) (nI pa) (nI pe) pd (nI pb) pp pf pg pn rt rn (nI cd) sn (nI il) tk am at_ aa mt_ (nI bh) wd wt wy (nI it_) (nI rm) (nI ud) (nI nu) sd (nI qn) (nI qw) qo (nI qb) (nI qp) qa (nI qi) (nI oc)), ra_I (g 31) cI 120 nw, ra_I (g 38) cI 90 ws_, ra_I (g 53) cI 32 rw_]) A) ([.ref mm, .int (nI d), .int (nI o)] : List Value).toArray s 0 0 A) (F0 m 39 ls []) := by
          intro n_22
          induction n_22 with
          | zero => intro i H locs ls hm; exact absurd hm (Nat.not_lt_zero _)
          | succ n_22 ih_lp_21 =>
            intro i H locs ls hm hi hP hD hS hl
            refine lv_iload_n hx hb dX12_isLeft_39 rfl (lv_at hl 0 rfl) ?_
            refine lv_aload_n hx hb dX12_isLeft_40 rfl (lv_at hl 1 rfl) ?_
            refine sk_get (v := .int (nI rm)) (C := RX12) (T := TX12) (N := 92) hx hb hts inlX12 hown hK hP 0 rfl rfl 52 (Nat.le_of_ble_eq_true rfl) w_5_207 rfl dX12_isLeft_41 ?_
            refine lv_icmp_ge (tgt := 99) hx hb dX12_isLeft_44 (by decide) (fun c_23 => ?_) (fun c_23 => ?_)
            · have c_23 : rm ≤ i := (nle rm i (by omega) (by omega)).mp c_23
              refine lv_iconst (v := 1) hx hb dX12_isLeft_99 ic_1 ?_
              exact sk_iret hx hb hr rfl hlocks hK hP hD hS (⟨1, by omega, rfl, rfl⟩) (Nat.le_of_ble_eq_true rfl) (Nat.le_of_ble_eq_true rfl) dX12_isLeft_100
            · have c_23 : ¬ (rm ≤ i) := fun h => c_23 ((nle rm i (by omega) (by omega)).mpr h)
              refine lv_aload_n hx hb dX12_isLeft_47 rfl (lv_at hl 1 rfl) ?_
              refine sk_get (v := .ref (g 53)) (C := RX12) (T := TX12) (N := 92) hx hb hts inlX12 hown hK hP 0 rfl rfl 53 (Nat.le_of_ble_eq_true rfl) w_5_208 rfl dX12_isLeft_48 ?_
              refine lv_iconst (v := 2) hx hb dX12_isLeft_51 ic_2 ?_
              refine lv_iload_n hx hb dX12_isLeft_52 rfl (lv_at hl 0 rfl) ?_
              refine lv_imul hx hb dX12_isLeft_53 ?_
              refine sk_top (nI (2 * i)) (nmul 2 i) ?_
              refine va_iald hx hb hK.1 hP 3 0 rfl rfl (vin (2 * i) 32 (by omega) (Nat.le_of_ble_eq_true rfl)) dX12_isLeft_54 ?_
              refine lv_topi (fun v_24 ev_24 => ?_)
              refine lv_iload_n hx hb dX12_isLeft_55 rfl (lv_at hl 2 rfl) ?_
              refine lv_icmp_ne (tgt := 93) hx hb dX12_isLeft_56 (by decide) (fun c_25 => ?_) (fun c_25 => ?_)
              · skip
                refine lv_iinc (v := nI (i + 1)) (lv' := [(3, .int (nI (i + 1))), (0, .ref mm), (1, .int (nI d)), (2, .int (nI o))]) hx hb dX12_isLeft_93 hl (k := 0) rfl (ninc i 1 (by decide)) (by decide) rfl (fun ls hl => ?_)
                refine lv_goto (tgt := 39) hx hb dX12_isLeft_96 (by decide) ?_
                exact ih_lp_21 (i + 1) _ _ _ (by omega) (by omega) hP hD hS (lv_sub hl [0, 1, 2, 3] rfl)
              · skip
                refine lv_aload_n hx hb dX12_isLeft_59 rfl (lv_at hl 1 rfl) ?_
                refine lv_iload_n hx hb dX12_isLeft_60 rfl (lv_at hl 2 rfl) ?_
                refine sk_Vi (q0 := 0) (n := 1) (rest := []) (wr := fmR om_4_c _) ⟨hx, hb, hml, hown, hts⟩ hl.1 (c_m_isMute l D cI cJ cC cZ cS mm g ta pa pe pd pb pp pf pg pn rt rn cd sn il tk am at_ aa mt_ bh wd wt wy it_ rm ud nu sd qn qw qo qb qp qa qi oc d nw hd hnw) w_7_106 w_7_108 w_0_71 w_1_14 w_7_109 hd_X12_isMute_1 ⟨⟨(Nat.le_of_ble_eq_true rfl), (Nat.le_of_ble_eq_true rfl)⟩, (Nat.le_of_ble_eq_true rfl), (Nat.le_of_ble_eq_true rfl)⟩ hK hP hD hS hA (fmT om_4_c 0) (fmF om_4_c 0) (fm_C1 rfl rfl) (fm_R rfl rfl) (fm_nT om_4_c 0) (fm_nF om_4_c 0) (fm_di om_4_c 0) rfl rfl rfl rfl (Nat.le_of_ble_eq_true rfl) dX12_isLeft_61 (fun r_27 u H locs hw hP hD hS => ?_)
                refine exE hw (fun b_26 hw1 => anE hw1 (fun hb1_28 hw2 => anE hw2 (fun hb2_29 hw3 => anE hw3 (fun er_31 eu_30 => ?_))))
                clear hw hw1 hw2 hw3
                subst er_31
                refine o_mgE (ws' := [ro_ mm 12 (mo g (nI ta) (nI pa) (nI pe) pd (nI pb) pp pf pg pn rt rn (nI cd) sn (nI il) tk am at_ aa mt_ (nI bh) wd wt wy (nI it_) (nI rm) (nI ud) (nI nu) sd (nI qn) (nI qw) qo (nI qb) (nI qp) qa (nI qi) (nI oc)), ra_I (g 31) cI 120 nw, ra_I (g 38) cI 90 ws_, ra_I (g 53) cI 32 rw_]) eu_30 hP hD rfl (fun hP hD => ?_)
                refine lv_if_ne (tgt := 91) hx hb dX12_isLeft_64 (by decide) (fun c_32 => ?_) (fun c_32 => ?_)
                · have c_32 : ¬ (b_26 = 0) := fun h => c_32 ((neq b_26 0 (by omega) (Nat.le_of_ble_eq_true rfl)).mpr h)
                  refine lv_iconst (v := 0) hx hb dX12_isLeft_91 ic_0 ?_
                  exact sk_iret hx hb hr rfl hlocks hK hP hD hS (⟨0, by omega, rfl, rfl⟩) (Nat.le_of_ble_eq_true rfl) (Nat.le_of_ble_eq_true rfl) dX12_isLeft_92
                · have c_32 : b_26 = 0 := (neq b_26 0 (by omega) (Nat.le_of_ble_eq_true rfl)).mp c_32
                  refine lv_aload_n hx hb dX12_isLeft_67 rfl (lv_at hl 1 rfl) ?_
                  refine sk_get (v := .ref (g 38)) (C := RX12) (T := TX12) (N := 92) hx hb hts inlX12 hown hK hP 0 rfl rfl 38 (Nat.le_of_ble_eq_true rfl) w_5_193 rfl dX12_isLeft_68 ?_
                  refine lv_bipush (v := 10) hx hb dX12_isLeft_71 (by decide) ?_
                  refine lv_iload_n hx hb dX12_isLeft_73 rfl (lv_at hl 2 rfl) ?_
                  refine lv_imul hx hb dX12_isLeft_74 ?_
                  refine sk_top (nI (10 * d)) (nmul 10 d) ?_
                  refine lv_iload_n hx hb dX12_isLeft_75 rfl (lv_at hl 3 rfl) ?_
                  refine lv_iadd hx hb dX12_isLeft_76 ?_
                  refine sk_top (nI (10 * d + o)) (nI_add (10 * d) o) ?_
                  refine va_iald hx hb hK.1 hP 2 0 rfl rfl (vin (10 * d + o) 90 (by omega) (Nat.le_of_ble_eq_true rfl)) dX12_isLeft_77 ?_
                  refine lv_topi (fun v_33 ev_33 => ?_)
                  refine lv_aload_n hx hb dX12_isLeft_78 rfl (lv_at hl 1 rfl) ?_
                  refine sk_get (v := .ref (g 53)) (C := RX12) (T := TX12) (N := 92) hx hb hts inlX12 hown hK hP 0 rfl rfl 53 (Nat.le_of_ble_eq_true rfl) w_5_208 rfl dX12_isLeft_79 ?_
                  refine lv_iconst (v := 2) hx hb dX12_isLeft_82 ic_2 ?_
                  refine lv_iload_n hx hb dX12_isLeft_83 rfl (lv_at hl 0 rfl) ?_
                  refine lv_imul hx hb dX12_isLeft_84 ?_
                  refine sk_top (nI (2 * i)) (nmul 2 i) ?_
                  refine lv_iconst (v := 1) hx hb dX12_isLeft_85 ic_1 ?_
                  refine lv_iadd hx hb dX12_isLeft_86 ?_
                  refine sk_top (nI (2 * i + 1)) (nI_add (2 * i) 1) ?_
                  refine va_iald hx hb hK.1 hP 3 0 rfl rfl (vin (2 * i + 1) 32 (by omega) (Nat.le_of_ble_eq_true rfl)) dX12_isLeft_87 ?_
                  refine lv_topi (fun v_34 ev_34 => ?_)
                  refine lv_icmp_eq (tgt := 93) hx hb dX12_isLeft_88 (by decide) (fun c_35 => ?_) (fun c_35 => ?_)
                  · skip
                    refine lv_iinc (v := nI (i + 1)) (lv' := [(3, .int (nI (i + 1))), (0, .ref mm), (1, .int (nI d)), (2, .int (nI o))]) hx hb dX12_isLeft_93 hl (k := 0) rfl (ninc i 1 (by decide)) (by decide) rfl (fun ls hl => ?_)
                    refine lv_goto (tgt := 39) hx hb dX12_isLeft_96 (by decide) ?_
                    exact ih_lp_21 (i + 1) _ _ _ (by omega) (by omega) hP hD hS (lv_sub hl [0, 1, 2, 3] rfl)
                  · skip
                    refine lv_iconst (v := 0) hx hb dX12_isLeft_91 ic_0 ?_
                    exact sk_iret hx hb hr rfl hlocks hK hP hD hS (⟨0, by omega, rfl, rfl⟩) (Nat.le_of_ble_eq_true rfl) (Nat.le_of_ble_eq_true rfl) dX12_isLeft_92
        exact lp_21 (17 - 0 + 1) 0 _ _ _ (Nat.lt_succ_self _) (by omega) hP hD hS (lv_sub hl [0, 1, 2, 3] rfl)
      · have c_20 : bh = 0 := (neq bh 0 (by omega) (Nat.le_of_ble_eq_true rfl)).mp c_20
        refine lv_iconst (v := 1) hx hb dX12_isLeft_35 ic_1 ?_
        exact sk_iret hx hb hr rfl hlocks hK hP hD hS (⟨1, by omega, rfl, rfl⟩) (Nat.le_of_ble_eq_true rfl) (Nat.le_of_ble_eq_true rfl) dX12_isLeft_36
    · skip
      refine lv_iconst (v := 0) hx hb dX12_isLeft_26 ic_0 ?_
      exact sk_iret hx hb hr rfl hlocks hK hP hD hS (⟨0, by omega, rfl, rfl⟩) (Nat.le_of_ble_eq_true rfl) (Nat.le_of_ble_eq_true rfl) dX12_isLeft_27
theorem dg_X12_canFollow_0_0 : bqL cX12_canFollow 0 [(0, [16, 100]), (2, [27]), (3, [104]), (4, [16, 10]), (6, [28]), (7, [104]), (8, [96]), (9, [29]), (10, [96]), (11, [54, 4]), (13, [42]), (14, [27]), (15, [182, 1, 115]), (18, [153, 0, 16]), (34, [42]), (35, [180, 0, 69]), (38, [21, 4]), (40, [51]), (41, [153, 0, 16]), (57, [3]), (58, [172]), (44, [42]), (45, [27]), (46, [29]), (47, [182, 1, 118]), (50, [153, 0, 7]), (53, [4]), (54, [167, 0, 4]), (21, [42]), (22, [180, 0, 73]), (25, [21, 4]), (27, [51]), (28, [153, 0, 29]), (31, [167, 0, 13])] = true := by decide +kernel
theorem dX12_canFollow_0 : decode cX12_canFollow 0 = .ok (.bipush 100, 2) := q_bipush (bat_get dg_X12_canFollow_0_0 0 rfl rfl) rfl
theorem dX12_canFollow_2 : decode cX12_canFollow 2 = .ok (.iload_n 1, 1) := q_iload_n1 (bat_get dg_X12_canFollow_0_0 1 rfl rfl)
theorem dX12_canFollow_3 : decode cX12_canFollow 3 = .ok (.imul, 1) := q_imul (bat_get dg_X12_canFollow_0_0 2 rfl rfl)
theorem dX12_canFollow_4 : decode cX12_canFollow 4 = .ok (.bipush 10, 2) := q_bipush (bat_get dg_X12_canFollow_0_0 3 rfl rfl) rfl
theorem dX12_canFollow_6 : decode cX12_canFollow 6 = .ok (.iload_n 2, 1) := q_iload_n2 (bat_get dg_X12_canFollow_0_0 4 rfl rfl)
theorem dX12_canFollow_7 : decode cX12_canFollow 7 = .ok (.imul, 1) := q_imul (bat_get dg_X12_canFollow_0_0 5 rfl rfl)
theorem dX12_canFollow_8 : decode cX12_canFollow 8 = .ok (.iadd, 1) := q_iadd (bat_get dg_X12_canFollow_0_0 6 rfl rfl)
theorem dX12_canFollow_9 : decode cX12_canFollow 9 = .ok (.iload_n 3, 1) := q_iload_n3 (bat_get dg_X12_canFollow_0_0 7 rfl rfl)
theorem dX12_canFollow_10 : decode cX12_canFollow 10 = .ok (.iadd, 1) := q_iadd (bat_get dg_X12_canFollow_0_0 8 rfl rfl)
theorem dX12_canFollow_11 : decode cX12_canFollow 11 = .ok (.istore 4, 2) := q_istore (bat_get dg_X12_canFollow_0_0 9 rfl rfl)
theorem dX12_canFollow_13 : decode cX12_canFollow 13 = .ok (.aload_n 0, 1) := q_aload_n0 (bat_get dg_X12_canFollow_0_0 10 rfl rfl)
theorem dX12_canFollow_14 : decode cX12_canFollow 14 = .ok (.iload_n 1, 1) := q_iload_n1 (bat_get dg_X12_canFollow_0_0 11 rfl rfl)
theorem dX12_canFollow_15 : decode cX12_canFollow 15 = .ok (.invokevirtual 371, 3) := q_invokevirtual (bat_get dg_X12_canFollow_0_0 12 rfl rfl) rfl
theorem dX12_canFollow_18 : decode cX12_canFollow 18 = .ok (.ifCond .eq 16, 3) := q_ifCond_eq (bat_get dg_X12_canFollow_0_0 13 rfl rfl) rfl
theorem dX12_canFollow_34 : decode cX12_canFollow 34 = .ok (.aload_n 0, 1) := q_aload_n0 (bat_get dg_X12_canFollow_0_0 14 rfl rfl)
theorem dX12_canFollow_35 : decode cX12_canFollow 35 = .ok (.getfield 69, 3) := q_getfield (bat_get dg_X12_canFollow_0_0 15 rfl rfl) rfl
theorem dX12_canFollow_38 : decode cX12_canFollow 38 = .ok (.iload 4, 2) := q_iload (bat_get dg_X12_canFollow_0_0 16 rfl rfl)
theorem dX12_canFollow_40 : decode cX12_canFollow 40 = .ok (.baload, 1) := q_baload (bat_get dg_X12_canFollow_0_0 17 rfl rfl)
theorem dX12_canFollow_41 : decode cX12_canFollow 41 = .ok (.ifCond .eq 16, 3) := q_ifCond_eq (bat_get dg_X12_canFollow_0_0 18 rfl rfl) rfl
theorem dX12_canFollow_57 : decode cX12_canFollow 57 = .ok (.iconst 0, 1) := q_iconst0 (bat_get dg_X12_canFollow_0_0 19 rfl rfl)
theorem dX12_canFollow_58 : decode cX12_canFollow 58 = .ok (.ireturn, 1) := q_ireturn (bat_get dg_X12_canFollow_0_0 20 rfl rfl)
theorem dX12_canFollow_44 : decode cX12_canFollow 44 = .ok (.aload_n 0, 1) := q_aload_n0 (bat_get dg_X12_canFollow_0_0 21 rfl rfl)
theorem dX12_canFollow_45 : decode cX12_canFollow 45 = .ok (.iload_n 1, 1) := q_iload_n1 (bat_get dg_X12_canFollow_0_0 22 rfl rfl)
theorem dX12_canFollow_46 : decode cX12_canFollow 46 = .ok (.iload_n 3, 1) := q_iload_n3 (bat_get dg_X12_canFollow_0_0 23 rfl rfl)
theorem dX12_canFollow_47 : decode cX12_canFollow 47 = .ok (.invokevirtual 374, 3) := q_invokevirtual (bat_get dg_X12_canFollow_0_0 24 rfl rfl) rfl
theorem dX12_canFollow_50 : decode cX12_canFollow 50 = .ok (.ifCond .eq 7, 3) := q_ifCond_eq (bat_get dg_X12_canFollow_0_0 25 rfl rfl) rfl
theorem dX12_canFollow_53 : decode cX12_canFollow 53 = .ok (.iconst 1, 1) := q_iconst1 (bat_get dg_X12_canFollow_0_0 26 rfl rfl)
theorem dX12_canFollow_54 : decode cX12_canFollow 54 = .ok (.goto 4, 3) := q_goto (bat_get dg_X12_canFollow_0_0 27 rfl rfl) rfl
theorem dX12_canFollow_21 : decode cX12_canFollow 21 = .ok (.aload_n 0, 1) := q_aload_n0 (bat_get dg_X12_canFollow_0_0 28 rfl rfl)
theorem dX12_canFollow_22 : decode cX12_canFollow 22 = .ok (.getfield 73, 3) := q_getfield (bat_get dg_X12_canFollow_0_0 29 rfl rfl) rfl
theorem dX12_canFollow_25 : decode cX12_canFollow 25 = .ok (.iload 4, 2) := q_iload (bat_get dg_X12_canFollow_0_0 30 rfl rfl)
theorem dX12_canFollow_27 : decode cX12_canFollow 27 = .ok (.baload, 1) := q_baload (bat_get dg_X12_canFollow_0_0 31 rfl rfl)
theorem dX12_canFollow_28 : decode cX12_canFollow 28 = .ok (.ifCond .eq 29, 3) := q_ifCond_eq (bat_get dg_X12_canFollow_0_0 32 rfl rfl) rfl
theorem dX12_canFollow_31 : decode cX12_canFollow 31 = .ok (.goto 13, 3) := q_goto (bat_get dg_X12_canFollow_0_0 33 rfl rfl) rfl
theorem w_7_205 : (Cond.methodLink RX12 371 yX12_isMuteNow) ∈ wsL_law := sk_mem (ck_7 _ (List.mem_of_getElem? (i := 205) rfl)) rfl
theorem w_7_207 : (Cond.instanceMethod yX12_isMuteNow) ∈ wsL_law := sk_mem (ck_7 _ (List.mem_of_getElem? (i := 207) rfl)) rfl
theorem w_0_86 : (Cond.selects RX12 yX12_isMuteNow yX12_isMuteNow) ∈ wsL_law := sk_mem (ck_0 _ (List.mem_of_getElem? (i := 86) rfl)) rfl
theorem w_7_209 : (Cond.methodLink RX12 374 yX12_isLeft) ∈ wsL_law := sk_mem (ck_7 _ (List.mem_of_getElem? (i := 209) rfl)) rfl
theorem w_7_211 : (Cond.instanceMethod yX12_isLeft) ∈ wsL_law := sk_mem (ck_7 _ (List.mem_of_getElem? (i := 211) rfl)) rfl
theorem w_0_87 : (Cond.selects RX12 yX12_isLeft yX12_isLeft) ∈ wsL_law := sk_mem (ck_0 _ (List.mem_of_getElem? (i := 87) rfl)) rfl
theorem w_7_204 : (Cond.code yX12_canFollow cX12_canFollow 5 (some .boolean)) ∈ wsL_law := sk_mem (ck_7 _ (List.mem_of_getElem? (i := 204) rfl)) rfl
def om_6_30 : List Bool := true :: true :: false :: false :: false :: false :: []
theorem hd_X12_isMuteNow_1 : skD yX12_isMuteNow 1 := by decide +kernel
theorem hd_X12_isLeft_2 : skD yX12_isLeft 2 := by decide +kernel
set_option maxHeartbeats 4000000 in
set_option maxRecDepth 100000 in
theorem c_m_canFollowS (l : Launch) (D : va_G) (cI cJ cC cZ cS : ClassId) (mm : Nat) (g : Nat → Nat) (ta : Nat) (pa : Nat) (pe : Nat) (pd : Int32) (pb : Nat) (pp : Int32) (pf : Int32) (pg : Int32) (pn : Int32) (rt : Int32) (rn : Int32) (cd : Nat) (sn : Int32) (il : Nat) (tk : Int32) (am : Int32) (at_ : Int32) (aa : Int32) (mt_ : Int32) (bh : Nat) (wd : Int32) (wt : Int32) (wy : Int64) (it_ : Nat) (rm : Nat) (ud : Nat) (nu : Nat) (sd : Int64) (qn : Nat) (qw : Nat) (qo : Int32) (qb : Nat) (qp : Nat) (qa : Int64) (qi : Nat) (oc : Nat) (d : Nat) (aa_ : Nat) (o : Nat) (nw : Nat → Int32) (ws_ : Nat → Int32) (rw_ : Nat → Int32) (yo : Nat → Int32) (yw : Nat → Int32) (hd : d < 9) (ho : o < 10) (ha_ : aa_ < 10) (hrm : rm ≤ 16) (hbh : bh ≤ 1) (hnw : nowOk nw) : skM l yX12_canFollow cX12_canFollow 5 (some .boolean) 2 44 0 0 D (skT cI cJ cC cZ cS) [.ref mm, .int (nI d), .int (nI aa_), .int (nI o)] [ro_ mm 12 (mo g (nI ta) (nI pa) (nI pe) pd (nI pb) pp pf pg pn rt rn (nI cd) sn (nI il) tk am at_ aa mt_ (nI bh) wd wt wy (nI it_) (nI rm) (nI ud) (nI nu) sd (nI qn) (nI qw) qo (nI qb) (nI qp) qa (nI qi) (nI oc)), ra_I (g 31) cI 120 nw, ra_I (g 38) cI 90 ws_, ra_I (g 53) cI 32 rw_, ra_I (g 37) cZ 900 yo, ra_I (g 36) cZ 900 yw] (skI D (skT cI cJ cC cZ cS) (fun (r : Int32) (u : va_W) => ∃ (b : Nat), b ≤ 1 ∧ r = nI b ∧ u = [ro_ mm 12 (mo g (nI ta) (nI pa) (nI pe) pd (nI pb) pp pf pg pn rt rn (nI cd) sn (nI il) tk am at_ aa mt_ (nI bh) wd wt wy (nI it_) (nI rm) (nI ud) (nI nu) sd (nI qn) (nI qw) qo (nI qb) (nI qp) qa (nI qi) (nI oc)), ra_I (g 31) cI 120 nw, ra_I (g 38) cI 90 ws_, ra_I (g 53) cI 32 rw_, ra_I (g 37) cZ 900 yo, ra_I (g 36) cZ 900 yw])) := by
  refine skM_of pf_X12_canFollow (Nat.le_of_ble_eq_true rfl) ?_
  intro p e s m below meth c A ls E hP hD hl
  refine skE_el E (fun hx hb hr hml hlocks hin hown hts hK hA => ?_)
  have hown : s.vm.findClass RX12 = some m.cls := hown
  have hS : va_S A s.heap s.heap [] := va_S.rf
  have hl : lv_has ls 5 [(0, .ref mm), (1, .int (nI d)), (2, .int (nI aa_)), (3, .int (nI o))] := hl
  refine lv_bipush (v := 100) hx hb dX12_canFollow_0 (by decide) ?_
  refine lv_iload_n hx hb dX12_canFollow_2 rfl (lv_at hl 1 rfl) ?_
  refine lv_imul hx hb dX12_canFollow_3 ?_
  refine sk_top (nI (100 * d)) (nmul 100 d) ?_
  refine lv_bipush (v := 10) hx hb dX12_canFollow_4 (by decide) ?_
  refine lv_iload_n hx hb dX12_canFollow_6 rfl (lv_at hl 2 rfl) ?_
  refine lv_imul hx hb dX12_canFollow_7 ?_
  refine sk_top (nI (10 * aa_)) (nmul 10 aa_) ?_
  refine lv_iadd hx hb dX12_canFollow_8 ?_
  refine sk_top (nI (100 * d + (10 * aa_))) (nI_add (100 * d) (10 * aa_)) ?_
  refine lv_iload_n hx hb dX12_canFollow_9 rfl (lv_at hl 3 rfl) ?_
  refine lv_iadd hx hb dX12_canFollow_10 ?_
  refine sk_top (nI (100 * d + (10 * aa_) + o)) (nI_add (100 * d + (10 * aa_)) o) ?_
  refine lv_istore (lv' := [(4, .int (nI (100 * d + (10 * aa_) + o))), (0, .ref mm), (1, .int (nI d)), (2, .int (nI aa_)), (3, .int (nI o))]) hx hb dX12_canFollow_11 hl (by decide) rfl (fun ls hl => ?_)
  refine lv_aload_n hx hb dX12_canFollow_13 rfl (lv_at hl 1 rfl) ?_
  refine lv_iload_n hx hb dX12_canFollow_14 rfl (lv_at hl 2 rfl) ?_
  refine sk_Vi (q0 := 0) (n := 1) (rest := []) (wr := fmR om_6_30 _) ⟨hx, hb, hml, hown, hts⟩ hl.1 (c_m_isMuteNow l D cI cJ cC cZ cS mm g ta pa pe pd pb pp pf pg pn rt rn cd sn il tk am at_ aa mt_ bh wd wt wy it_ rm ud nu sd qn qw qo qb qp qa qi oc d nw hd hnw) w_7_205 w_7_207 w_0_86 w_1_14 w_7_208 hd_X12_isMuteNow_1 ⟨⟨(Nat.le_of_ble_eq_true rfl), (Nat.le_of_ble_eq_true rfl)⟩, (Nat.le_of_ble_eq_true rfl), (Nat.le_of_ble_eq_true rfl)⟩ hK hP hD hS hA (fmT om_6_30 0) (fmF om_6_30 0) (fm_C1 rfl rfl) (fm_R rfl rfl) (fm_nT om_6_30 0) (fm_nF om_6_30 0) (fm_di om_6_30 0) rfl rfl rfl rfl (Nat.le_of_ble_eq_true rfl) dX12_canFollow_15 (fun r_2 u H locs hw hP hD hS => ?_)
  refine exE hw (fun b_1 hw1 => anE hw1 (fun hb1_3 hw2 => anE hw2 (fun hb2_4 hw3 => anE hw3 (fun er_6 eu_5 => ?_))))
  clear hw hw1 hw2 hw3
  subst er_6
  refine o_mgE (ws' := [ro_ mm 12 (mo g (nI ta) (nI pa) (nI pe) pd (nI pb) pp pf pg pn rt rn (nI cd) sn (nI il) tk am at_ aa mt_ (nI bh) wd wt wy (nI it_) (nI rm) (nI ud) (nI nu) sd (nI qn) (nI qw) qo (nI qb) (nI qp) qa (nI qi) (nI oc)), ra_I (g 31) cI 120 nw, ra_I (g 38) cI 90 ws_, ra_I (g 53) cI 32 rw_, ra_I (g 37) cZ 900 yo, ra_I (g 36) cZ 900 yw]) eu_5 hP hD rfl (fun hP hD => ?_)
  refine lv_if_eq (tgt := 34) hx hb dX12_canFollow_18 (by decide) (fun c_7 => ?_) (fun c_7 => ?_)
  · have c_7 : b_1 = 0 := (neq b_1 0 (by omega) (Nat.le_of_ble_eq_true rfl)).mp c_7
    refine lv_aload_n hx hb dX12_canFollow_34 rfl (lv_at hl 1 rfl) ?_
    refine sk_get (v := .ref (g 36)) (C := RX12) (T := TX12) (N := 92) hx hb hts inlX12 hown hK hP 0 rfl rfl 36 (Nat.le_of_ble_eq_true rfl) w_5_191 rfl dX12_canFollow_35 ?_
    refine lv_iload hx hb dX12_canFollow_38 (lv_at hl 0 rfl) ?_
    refine va_zald hx hb hK.1 hP 5 3 rfl rfl (vin (100 * d + (10 * aa_) + o) 900 (by omega) (Nat.le_of_ble_eq_true rfl)) dX12_canFollow_40 ?_
    refine lv_topi (fun v_8 ev_8 => ?_)
    refine lv_if_eq (tgt := 57) hx hb dX12_canFollow_41 (by decide) (fun c_9 => ?_) (fun c_9 => ?_)
    · skip
      refine lv_iconst (v := 0) hx hb dX12_canFollow_57 ic_0 ?_
      exact sk_iret hx hb hr rfl hlocks hK hP hD hS (⟨0, by omega, rfl, rfl⟩) (Nat.le_of_ble_eq_true rfl) (Nat.le_of_ble_eq_true rfl) dX12_canFollow_58
    · skip
      refine lv_aload_n hx hb dX12_canFollow_44 rfl (lv_at hl 1 rfl) ?_
      refine lv_iload_n hx hb dX12_canFollow_45 rfl (lv_at hl 2 rfl) ?_
      refine lv_iload_n hx hb dX12_canFollow_46 rfl (lv_at hl 4 rfl) ?_
      refine sk_Vi (q0 := 0) (n := 2) (rest := []) (wr := fmR om_6_3c _) ⟨hx, hb, hml, hown, hts⟩ hl.1 (c_m_isLeft l D cI cJ cC cZ cS mm g ta pa pe pd pb pp pf pg pn rt rn cd sn il tk am at_ aa mt_ bh wd wt wy it_ rm ud nu sd qn qw qo qb qp qa qi oc d o nw ws_ rw_ hd ho hrm hbh hnw) w_7_209 w_7_211 w_0_87 w_1_14 w_7_212 hd_X12_isLeft_2 ⟨⟨(Nat.le_of_ble_eq_true rfl), (Nat.le_of_ble_eq_true rfl)⟩, (Nat.le_of_ble_eq_true rfl), (Nat.le_of_ble_eq_true rfl)⟩ hK hP hD hS hA (fmT om_6_3c 0) (fmF om_6_3c 0) (fm_C1 rfl rfl) (fm_R rfl rfl) (fm_nT om_6_3c 0) (fm_nF om_6_3c 0) (fm_di om_6_3c 0) rfl rfl rfl rfl (Nat.le_of_ble_eq_true rfl) dX12_canFollow_47 (fun r_11 u H locs hw hP hD hS => ?_)
      refine exE hw (fun b_10 hw1 => anE hw1 (fun hb1_12 hw2 => anE hw2 (fun er_14 eu_13 => ?_)))
      clear hw hw1 hw2
      subst er_14
      refine o_mgE (ws' := [ro_ mm 12 (mo g (nI ta) (nI pa) (nI pe) pd (nI pb) pp pf pg pn rt rn (nI cd) sn (nI il) tk am at_ aa mt_ (nI bh) wd wt wy (nI it_) (nI rm) (nI ud) (nI nu) sd (nI qn) (nI qw) qo (nI qb) (nI qp) qa (nI qi) (nI oc)), ra_I (g 31) cI 120 nw, ra_I (g 38) cI 90 ws_, ra_I (g 53) cI 32 rw_, ra_I (g 37) cZ 900 yo, ra_I (g 36) cZ 900 yw]) eu_13 hP hD rfl (fun hP hD => ?_)
      refine lv_if_eq (tgt := 57) hx hb dX12_canFollow_50 (by decide) (fun c_15 => ?_) (fun c_15 => ?_)
      · have c_15 : b_10 = 0 := (neq b_10 0 (by omega) (Nat.le_of_ble_eq_true rfl)).mp c_15
        refine lv_iconst (v := 0) hx hb dX12_canFollow_57 ic_0 ?_
        exact sk_iret hx hb hr rfl hlocks hK hP hD hS (⟨0, by omega, rfl, rfl⟩) (Nat.le_of_ble_eq_true rfl) (Nat.le_of_ble_eq_true rfl) dX12_canFollow_58
      · have c_15 : ¬ (b_10 = 0) := fun h => c_15 ((neq b_10 0 (by omega) (Nat.le_of_ble_eq_true rfl)).mpr h)
        refine lv_iconst (v := 1) hx hb dX12_canFollow_53 ic_1 ?_
        refine lv_goto (tgt := 58) hx hb dX12_canFollow_54 (by decide) ?_
        exact sk_iret hx hb hr rfl hlocks hK hP hD hS (⟨1, by omega, rfl, rfl⟩) (Nat.le_of_ble_eq_true rfl) (Nat.le_of_ble_eq_true rfl) dX12_canFollow_58
  · have c_7 : ¬ (b_1 = 0) := fun h => c_7 ((neq b_1 0 (by omega) (Nat.le_of_ble_eq_true rfl)).mpr h)
    refine lv_aload_n hx hb dX12_canFollow_21 rfl (lv_at hl 1 rfl) ?_
    refine sk_get (v := .ref (g 37)) (C := RX12) (T := TX12) (N := 92) hx hb hts inlX12 hown hK hP 0 rfl rfl 37 (Nat.le_of_ble_eq_true rfl) w_5_192 rfl dX12_canFollow_22 ?_
    refine lv_iload hx hb dX12_canFollow_25 (lv_at hl 0 rfl) ?_
    refine va_zald hx hb hK.1 hP 4 3 rfl rfl (vin (100 * d + (10 * aa_) + o) 900 (by omega) (Nat.le_of_ble_eq_true rfl)) dX12_canFollow_27 ?_
    refine lv_topi (fun v_16 ev_16 => ?_)
    refine lv_if_eq (tgt := 57) hx hb dX12_canFollow_28 (by decide) (fun c_17 => ?_) (fun c_17 => ?_)
    · skip
      refine lv_iconst (v := 0) hx hb dX12_canFollow_57 ic_0 ?_
      exact sk_iret hx hb hr rfl hlocks hK hP hD hS (⟨0, by omega, rfl, rfl⟩) (Nat.le_of_ble_eq_true rfl) (Nat.le_of_ble_eq_true rfl) dX12_canFollow_58
    · skip
      refine lv_goto (tgt := 44) hx hb dX12_canFollow_31 (by decide) ?_
      refine lv_aload_n hx hb dX12_canFollow_44 rfl (lv_at hl 1 rfl) ?_
      refine lv_iload_n hx hb dX12_canFollow_45 rfl (lv_at hl 2 rfl) ?_
      refine lv_iload_n hx hb dX12_canFollow_46 rfl (lv_at hl 4 rfl) ?_
      refine sk_Vi (q0 := 0) (n := 2) (rest := []) (wr := fmR om_6_3c _) ⟨hx, hb, hml, hown, hts⟩ hl.1 (c_m_isLeft l D cI cJ cC cZ cS mm g ta pa pe pd pb pp pf pg pn rt rn cd sn il tk am at_ aa mt_ bh wd wt wy it_ rm ud nu sd qn qw qo qb qp qa qi oc d o nw ws_ rw_ hd ho hrm hbh hnw) w_7_209 w_7_211 w_0_87 w_1_14 w_7_212 hd_X12_isLeft_2 ⟨⟨(Nat.le_of_ble_eq_true rfl), (Nat.le_of_ble_eq_true rfl)⟩, (Nat.le_of_ble_eq_true rfl), (Nat.le_of_ble_eq_true rfl)⟩ hK hP hD hS hA (fmT om_6_3c 0) (fmF om_6_3c 0) (fm_C1 rfl rfl) (fm_R rfl rfl) (fm_nT om_6_3c 0) (fm_nF om_6_3c 0) (fm_di om_6_3c 0) rfl rfl rfl rfl (Nat.le_of_ble_eq_true rfl) dX12_canFollow_47 (fun r_19 u H locs hw hP hD hS => ?_)
      refine exE hw (fun b_18 hw1 => anE hw1 (fun hb1_20 hw2 => anE hw2 (fun er_22 eu_21 => ?_)))
      clear hw hw1 hw2
      subst er_22
      refine o_mgE (ws' := [ro_ mm 12 (mo g (nI ta) (nI pa) (nI pe) pd (nI pb) pp pf pg pn rt rn (nI cd) sn (nI il) tk am at_ aa mt_ (nI bh) wd wt wy (nI it_) (nI rm) (nI ud) (nI nu) sd (nI qn) (nI qw) qo (nI qb) (nI qp) qa (nI qi) (nI oc)), ra_I (g 31) cI 120 nw, ra_I (g 38) cI 90 ws_, ra_I (g 53) cI 32 rw_, ra_I (g 37) cZ 900 yo, ra_I (g 36) cZ 900 yw]) eu_21 hP hD rfl (fun hP hD => ?_)
      refine lv_if_eq (tgt := 57) hx hb dX12_canFollow_50 (by decide) (fun c_23 => ?_) (fun c_23 => ?_)
      · have c_23 : b_18 = 0 := (neq b_18 0 (by omega) (Nat.le_of_ble_eq_true rfl)).mp c_23
        refine lv_iconst (v := 0) hx hb dX12_canFollow_57 ic_0 ?_
        exact sk_iret hx hb hr rfl hlocks hK hP hD hS (⟨0, by omega, rfl, rfl⟩) (Nat.le_of_ble_eq_true rfl) (Nat.le_of_ble_eq_true rfl) dX12_canFollow_58
      · have c_23 : ¬ (b_18 = 0) := fun h => c_23 ((neq b_18 0 (by omega) (Nat.le_of_ble_eq_true rfl)).mpr h)
        refine lv_iconst (v := 1) hx hb dX12_canFollow_53 ic_1 ?_
        refine lv_goto (tgt := 58) hx hb dX12_canFollow_54 (by decide) ?_
        exact sk_iret hx hb hr rfl hlocks hK hP hD hS (⟨1, by omega, rfl, rfl⟩) (Nat.le_of_ble_eq_true rfl) (Nat.le_of_ble_eq_true rfl) dX12_canFollow_58
set_option maxHeartbeats 4000000 in
set_option maxRecDepth 100000 in
theorem c_m_isLeft0 (l : Launch) (D : va_G) (cI cJ cC cZ cS : ClassId) (mm : Nat) (g : Nat → Nat) (ta : Nat) (pa : Nat) (pe : Nat) (pd : Int32) (pb : Nat) (pp : Int32) (pf : Int32) (pg : Int32) (pn : Int32) (rt : Int32) (rn : Int32) (cd : Nat) (sn : Int32) (il : Nat) (tk : Int32) (am : Int32) (at_ : Int32) (aa : Int32) (mt_ : Int32) (wt : Int32) (wy : Int64) (it_ : Nat) (rm : Nat) (ud : Nat) (nu : Nat) (sd : Int64) (qn : Nat) (qw : Nat) (qo : Int32) (qb : Nat) (qp : Nat) (qa : Int64) (qi : Nat) (oc : Nat) (d : Nat) (o : Nat) (hd : d < 9) (ho : o < 10) : skM l yX12_isLeft cX12_isLeft 4 (some .boolean) 0 0 0 0 D (skT cI cJ cC cZ cS) [.ref mm, .int (nI d), .int (nI o)] [ro_ mm 12 (mo g (nI ta) (nI pa) (nI pe) pd (nI pb) pp pf pg pn rt rn (nI cd) sn (nI il) tk am at_ aa mt_ 0 (-1) wt wy (nI it_) (nI rm) (nI ud) (nI nu) sd (nI qn) (nI qw) qo (nI qb) (nI qp) qa (nI qi) (nI oc))] (skI D (skT cI cJ cC cZ cS) (fun (r : Int32) (u : va_W) => r = 1 ∧ u = [ro_ mm 12 (mo g (nI ta) (nI pa) (nI pe) pd (nI pb) pp pf pg pn rt rn (nI cd) sn (nI il) tk am at_ aa mt_ 0 (-1) wt wy (nI it_) (nI rm) (nI ud) (nI nu) sd (nI qn) (nI qw) qo (nI qb) (nI qp) qa (nI qi) (nI oc))])) := by
  refine skM_of pf_X12_isLeft (Nat.le_of_ble_eq_true rfl) ?_
  intro p e s m below meth c A ls E hP hD hl
  refine skE_el E (fun hx hb hr hml hlocks hin hown hts hK hA => ?_)
  have hown : s.vm.findClass RX12 = some m.cls := hown
  have hS : va_S A s.heap s.heap [] := va_S.rf
  have hl : lv_has ls 4 [(0, .ref mm), (1, .int (nI d)), (2, .int (nI o))] := hl
  refine lv_aload_n hx hb dX12_isLeft_0 rfl (lv_at hl 0 rfl) ?_
  refine sk_get (v := .int (-1)) (C := RX12) (T := TX12) (N := 92) hx hb hts inlX12 hown hK hP 0 rfl rfl 41 (Nat.le_of_ble_eq_true rfl) w_5_196 rfl dX12_isLeft_1 ?_
  refine lv_iload_n hx hb dX12_isLeft_4 rfl (lv_at hl 1 rfl) ?_
  refine lv_icmp_ne (tgt := 28) hx hb dX12_isLeft_5 (by decide) (fun c_1 => ?_) (fun c => absurd ((ieq (show (-1 : Int32).toInt = -1 by decide) (ivn d (by omega))).mp c) (by omega))
  refine lv_aload_n hx hb dX12_isLeft_28 rfl (lv_at hl 0 rfl) ?_
  refine sk_get (v := .int 0) (C := RX12) (T := TX12) (N := 92) hx hb hts inlX12 hown hK hP 0 rfl rfl 40 (Nat.le_of_ble_eq_true rfl) w_5_195 rfl dX12_isLeft_29 ?_
  refine lv_if_ne (tgt := 37) hx hb dX12_isLeft_32 (by decide) (fun c => absurd c (by decide)) (fun c_2 => ?_)
  refine lv_iconst (v := 1) hx hb dX12_isLeft_35 ic_1 ?_
  exact sk_iret hx hb hr rfl hlocks hK hP hD hS (⟨rfl, rfl⟩) (Nat.le_of_ble_eq_true rfl) (Nat.le_of_ble_eq_true rfl) dX12_isLeft_36
def om_4_8 : List Bool := true :: false :: false :: false :: []
set_option maxHeartbeats 4000000 in
set_option maxRecDepth 100000 in
theorem c_m_canFollow0 (l : Launch) (D : va_G) (cI cJ cC cZ cS : ClassId) (mm : Nat) (g : Nat → Nat) (ta : Nat) (pa : Nat) (pe : Nat) (pd : Int32) (pb : Nat) (pp : Int32) (pf : Int32) (pg : Int32) (pn : Int32) (rt : Int32) (rn : Int32) (cd : Nat) (sn : Int32) (il : Nat) (tk : Int32) (am : Int32) (at_ : Int32) (aa : Int32) (mt_ : Int32) (wt : Int32) (wy : Int64) (it_ : Nat) (rm : Nat) (ud : Nat) (nu : Nat) (sd : Int64) (qn : Nat) (qw : Nat) (qo : Int32) (qb : Nat) (qp : Nat) (qa : Int64) (qi : Nat) (oc : Nat) (d : Nat) (aa_ : Nat) (o : Nat) (nw : Nat → Int32) (yo : Nat → Int32) (yw : Nat → Int32) (hd : d < 9) (ho : o < 10) (ha_ : aa_ < 10) (hnw : nowOk nw) : skM l yX12_canFollow cX12_canFollow 5 (some .boolean) 2 42 0 0 D (skT cI cJ cC cZ cS) [.ref mm, .int (nI d), .int (nI aa_), .int (nI o)] [ro_ mm 12 (mo g (nI ta) (nI pa) (nI pe) pd (nI pb) pp pf pg pn rt rn (nI cd) sn (nI il) tk am at_ aa mt_ 0 (-1) wt wy (nI it_) (nI rm) (nI ud) (nI nu) sd (nI qn) (nI qw) qo (nI qb) (nI qp) qa (nI qi) (nI oc)), ra_I (g 31) cI 120 nw, ra_I (g 37) cZ 900 yo, ra_I (g 36) cZ 900 yw] (skI D (skT cI cJ cC cZ cS) (fun (r : Int32) (u : va_W) => ∃ (b : Nat), ((b = 0 ∧ cfN nw yw yo mt_ d aa_ o = false) ∨ (b = 1 ∧ cfN nw yw yo mt_ d aa_ o = true)) ∧ b ≤ 1 ∧ r = nI b ∧ u = [ro_ mm 12 (mo g (nI ta) (nI pa) (nI pe) pd (nI pb) pp pf pg pn rt rn (nI cd) sn (nI il) tk am at_ aa mt_ 0 (-1) wt wy (nI it_) (nI rm) (nI ud) (nI nu) sd (nI qn) (nI qw) qo (nI qb) (nI qp) qa (nI qi) (nI oc)), ra_I (g 31) cI 120 nw, ra_I (g 37) cZ 900 yo, ra_I (g 36) cZ 900 yw])) := by
  refine skM_of pf_X12_canFollow (Nat.le_of_ble_eq_true rfl) ?_
  intro p e s m below meth c A ls E hP hD hl
  refine skE_el E (fun hx hb hr hml hlocks hin hown hts hK hA => ?_)
  have hown : s.vm.findClass RX12 = some m.cls := hown
  have hS : va_S A s.heap s.heap [] := va_S.rf
  have hl : lv_has ls 5 [(0, .ref mm), (1, .int (nI d)), (2, .int (nI aa_)), (3, .int (nI o))] := hl
  refine lv_bipush (v := 100) hx hb dX12_canFollow_0 (by decide) ?_
  refine lv_iload_n hx hb dX12_canFollow_2 rfl (lv_at hl 1 rfl) ?_
  refine lv_imul hx hb dX12_canFollow_3 ?_
  refine sk_top (nI (100 * d)) (nmul 100 d) ?_
  refine lv_bipush (v := 10) hx hb dX12_canFollow_4 (by decide) ?_
  refine lv_iload_n hx hb dX12_canFollow_6 rfl (lv_at hl 2 rfl) ?_
  refine lv_imul hx hb dX12_canFollow_7 ?_
  refine sk_top (nI (10 * aa_)) (nmul 10 aa_) ?_
  refine lv_iadd hx hb dX12_canFollow_8 ?_
  refine sk_top (nI (100 * d + (10 * aa_))) (nI_add (100 * d) (10 * aa_)) ?_
  refine lv_iload_n hx hb dX12_canFollow_9 rfl (lv_at hl 3 rfl) ?_
  refine lv_iadd hx hb dX12_canFollow_10 ?_
  refine sk_top (nI (100 * d + (10 * aa_) + o)) (nI_add (100 * d + (10 * aa_)) o) ?_
  refine lv_istore (lv' := [(4, .int (nI (100 * d + (10 * aa_) + o))), (0, .ref mm), (1, .int (nI d)), (2, .int (nI aa_)), (3, .int (nI o))]) hx hb dX12_canFollow_11 hl (by decide) rfl (fun ls hl => ?_)
  refine lv_aload_n hx hb dX12_canFollow_13 rfl (lv_at hl 1 rfl) ?_
  refine lv_iload_n hx hb dX12_canFollow_14 rfl (lv_at hl 2 rfl) ?_
  refine sk_Vi (q0 := 0) (n := 1) (rest := []) (wr := fmR om_4_c _) ⟨hx, hb, hml, hown, hts⟩ hl.1 (c_m_isMuteNow l D cI cJ cC cZ cS mm g ta pa pe pd pb pp pf pg pn rt rn cd sn il tk am at_ aa mt_ 0 (-1) wt wy it_ rm ud nu sd qn qw qo qb qp qa qi oc d nw hd hnw) w_7_205 w_7_207 w_0_86 w_1_14 w_7_208 hd_X12_isMuteNow_1 ⟨⟨(Nat.le_of_ble_eq_true rfl), (Nat.le_of_ble_eq_true rfl)⟩, (Nat.le_of_ble_eq_true rfl), (Nat.le_of_ble_eq_true rfl)⟩ hK hP hD hS hA (fmT om_4_c 0) (fmF om_4_c 0) (fm_C1 rfl rfl) (fm_R rfl rfl) (fm_nT om_4_c 0) (fm_nF om_4_c 0) (fm_di om_4_c 0) rfl rfl rfl rfl (Nat.le_of_ble_eq_true rfl) dX12_canFollow_15 (fun r_2 u H locs hw hP hD hS => ?_)
  refine exE hw (fun b_1 hw1 => anE hw1 (fun hb1_3 hw2 => anE hw2 (fun hb2_4 hw3 => anE hw3 (fun er_6 eu_5 => ?_))))
  clear hw hw1 hw2 hw3
  subst er_6
  refine o_mgE (ws' := [ro_ mm 12 (mo g (nI ta) (nI pa) (nI pe) pd (nI pb) pp pf pg pn rt rn (nI cd) sn (nI il) tk am at_ aa mt_ 0 (-1) wt wy (nI it_) (nI rm) (nI ud) (nI nu) sd (nI qn) (nI qw) qo (nI qb) (nI qp) qa (nI qi) (nI oc)), ra_I (g 31) cI 120 nw, ra_I (g 37) cZ 900 yo, ra_I (g 36) cZ 900 yw]) eu_5 hP hD rfl (fun hP hD => ?_)
  refine lv_if_eq (tgt := 34) hx hb dX12_canFollow_18 (by decide) (fun c_7 => ?_) (fun c_7 => ?_)
  · have c_7 : b_1 = 0 := (neq b_1 0 (by omega) (Nat.le_of_ble_eq_true rfl)).mp c_7
    refine lv_aload_n hx hb dX12_canFollow_34 rfl (lv_at hl 1 rfl) ?_
    refine sk_get (v := .ref (g 36)) (C := RX12) (T := TX12) (N := 92) hx hb hts inlX12 hown hK hP 0 rfl rfl 36 (Nat.le_of_ble_eq_true rfl) w_5_191 rfl dX12_canFollow_35 ?_
    refine lv_iload hx hb dX12_canFollow_38 (lv_at hl 0 rfl) ?_
    refine va_zald hx hb hK.1 hP 3 3 rfl rfl (vin (100 * d + (10 * aa_) + o) 900 (by omega) (Nat.le_of_ble_eq_true rfl)) dX12_canFollow_40 ?_
    refine lv_topi (fun v_8 ev_8 => ?_)
    refine lv_if_eq (tgt := 57) hx hb dX12_canFollow_41 (by decide) (fun c_9 => ?_) (fun c_9 => ?_)
    · skip
      refine lv_iconst (v := 0) hx hb dX12_canFollow_57 ic_0 ?_
      exact sk_iret hx hb hr rfl hlocks hK hP hD hS (⟨0, Or.inl ⟨rfl, cf_wf (or_0 hb1_3 (by omega)) ev_8 c_9⟩, by omega, rfl, rfl⟩) (Nat.le_of_ble_eq_true rfl) (Nat.le_of_ble_eq_true rfl) dX12_canFollow_58
    · skip
      refine lv_aload_n hx hb dX12_canFollow_44 rfl (lv_at hl 1 rfl) ?_
      refine lv_iload_n hx hb dX12_canFollow_45 rfl (lv_at hl 2 rfl) ?_
      refine lv_iload_n hx hb dX12_canFollow_46 rfl (lv_at hl 4 rfl) ?_
      refine sk_Vi (q0 := 0) (n := 2) (rest := []) (wr := fmR om_4_8 _) ⟨hx, hb, hml, hown, hts⟩ hl.1 (c_m_isLeft0 l D cI cJ cC cZ cS mm g ta pa pe pd pb pp pf pg pn rt rn cd sn il tk am at_ aa mt_ wt wy it_ rm ud nu sd qn qw qo qb qp qa qi oc d o hd ho) w_7_209 w_7_211 w_0_87 w_1_14 w_7_212 hd_X12_isLeft_2 ⟨⟨(Nat.le_of_ble_eq_true rfl), (Nat.le_of_ble_eq_true rfl)⟩, (Nat.le_of_ble_eq_true rfl), (Nat.le_of_ble_eq_true rfl)⟩ hK hP hD hS hA (fmT om_4_8 0) (fmF om_4_8 0) (fm_C1 rfl rfl) (fm_R rfl rfl) (fm_nT om_4_8 0) (fm_nF om_4_8 0) (fm_di om_4_8 0) rfl rfl rfl rfl (Nat.le_of_ble_eq_true rfl) dX12_canFollow_47 (fun r_10 u H locs hw hP hD hS => ?_)
      refine anE hw (fun er_12 eu_11 => ?_)
      clear hw
      subst er_12
      refine o_mgE (ws' := [ro_ mm 12 (mo g (nI ta) (nI pa) (nI pe) pd (nI pb) pp pf pg pn rt rn (nI cd) sn (nI il) tk am at_ aa mt_ 0 (-1) wt wy (nI it_) (nI rm) (nI ud) (nI nu) sd (nI qn) (nI qw) qo (nI qb) (nI qp) qa (nI qi) (nI oc)), ra_I (g 31) cI 120 nw, ra_I (g 37) cZ 900 yo, ra_I (g 36) cZ 900 yw]) eu_11 hP hD rfl (fun hP hD => ?_)
      refine lv_if_eq (tgt := 57) hx hb dX12_canFollow_50 (by decide) (fun c => absurd c (by decide)) (fun c_13 => ?_)
      refine lv_iconst (v := 1) hx hb dX12_canFollow_53 ic_1 ?_
      refine lv_goto (tgt := 58) hx hb dX12_canFollow_54 (by decide) ?_
      exact sk_iret hx hb hr rfl hlocks hK hP hD hS (⟨1, Or.inr ⟨rfl, cf_wt (or_0 hb1_3 (by omega)) ev_8 c_9⟩, by omega, rfl, rfl⟩) (Nat.le_of_ble_eq_true rfl) (Nat.le_of_ble_eq_true rfl) dX12_canFollow_58
  · have c_7 : ¬ (b_1 = 0) := fun h => c_7 ((neq b_1 0 (by omega) (Nat.le_of_ble_eq_true rfl)).mpr h)
    refine lv_aload_n hx hb dX12_canFollow_21 rfl (lv_at hl 1 rfl) ?_
    refine sk_get (v := .ref (g 37)) (C := RX12) (T := TX12) (N := 92) hx hb hts inlX12 hown hK hP 0 rfl rfl 37 (Nat.le_of_ble_eq_true rfl) w_5_192 rfl dX12_canFollow_22 ?_
    refine lv_iload hx hb dX12_canFollow_25 (lv_at hl 0 rfl) ?_
    refine va_zald hx hb hK.1 hP 2 3 rfl rfl (vin (100 * d + (10 * aa_) + o) 900 (by omega) (Nat.le_of_ble_eq_true rfl)) dX12_canFollow_27 ?_
    refine lv_topi (fun v_14 ev_14 => ?_)
    refine lv_if_eq (tgt := 57) hx hb dX12_canFollow_28 (by decide) (fun c_15 => ?_) (fun c_15 => ?_)
    · skip
      refine lv_iconst (v := 0) hx hb dX12_canFollow_57 ic_0 ?_
      exact sk_iret hx hb hr rfl hlocks hK hP hD hS (⟨0, Or.inl ⟨rfl, cf_mf (or_1 hb1_3 (by omega)) ev_14 c_15⟩, by omega, rfl, rfl⟩) (Nat.le_of_ble_eq_true rfl) (Nat.le_of_ble_eq_true rfl) dX12_canFollow_58
    · skip
      refine lv_goto (tgt := 44) hx hb dX12_canFollow_31 (by decide) ?_
      refine lv_aload_n hx hb dX12_canFollow_44 rfl (lv_at hl 1 rfl) ?_
      refine lv_iload_n hx hb dX12_canFollow_45 rfl (lv_at hl 2 rfl) ?_
      refine lv_iload_n hx hb dX12_canFollow_46 rfl (lv_at hl 4 rfl) ?_
      refine sk_Vi (q0 := 0) (n := 2) (rest := []) (wr := fmR om_4_8 _) ⟨hx, hb, hml, hown, hts⟩ hl.1 (c_m_isLeft0 l D cI cJ cC cZ cS mm g ta pa pe pd pb pp pf pg pn rt rn cd sn il tk am at_ aa mt_ wt wy it_ rm ud nu sd qn qw qo qb qp qa qi oc d o hd ho) w_7_209 w_7_211 w_0_87 w_1_14 w_7_212 hd_X12_isLeft_2 ⟨⟨(Nat.le_of_ble_eq_true rfl), (Nat.le_of_ble_eq_true rfl)⟩, (Nat.le_of_ble_eq_true rfl), (Nat.le_of_ble_eq_true rfl)⟩ hK hP hD hS hA (fmT om_4_8 0) (fmF om_4_8 0) (fm_C1 rfl rfl) (fm_R rfl rfl) (fm_nT om_4_8 0) (fm_nF om_4_8 0) (fm_di om_4_8 0) rfl rfl rfl rfl (Nat.le_of_ble_eq_true rfl) dX12_canFollow_47 (fun r_16 u H locs hw hP hD hS => ?_)
      refine anE hw (fun er_18 eu_17 => ?_)
      clear hw
      subst er_18
      refine o_mgE (ws' := [ro_ mm 12 (mo g (nI ta) (nI pa) (nI pe) pd (nI pb) pp pf pg pn rt rn (nI cd) sn (nI il) tk am at_ aa mt_ 0 (-1) wt wy (nI it_) (nI rm) (nI ud) (nI nu) sd (nI qn) (nI qw) qo (nI qb) (nI qp) qa (nI qi) (nI oc)), ra_I (g 31) cI 120 nw, ra_I (g 37) cZ 900 yo, ra_I (g 36) cZ 900 yw]) eu_17 hP hD rfl (fun hP hD => ?_)
      refine lv_if_eq (tgt := 57) hx hb dX12_canFollow_50 (by decide) (fun c => absurd c (by decide)) (fun c_19 => ?_)
      refine lv_iconst (v := 1) hx hb dX12_canFollow_53 ic_1 ?_
      refine lv_goto (tgt := 58) hx hb dX12_canFollow_54 (by decide) ?_
      exact sk_iret hx hb hr rfl hlocks hK hP hD hS (⟨1, Or.inr ⟨rfl, cf_mt (or_1 hb1_3 (by omega)) ev_14 c_15⟩, by omega, rfl, rfl⟩) (Nat.le_of_ble_eq_true rfl) (Nat.le_of_ble_eq_true rfl) dX12_canFollow_58
theorem dg_X12_laysWays_0_0 : bqL cX12_laysWays 0 [(0, [42]), (1, [182, 1, 59]), (4, [4]), (5, [100]), (6, [60]), (7, [27]), (8, [61]), (9, [28]), (10, [155, 0, 101]), (111, [42]), (112, [9]), (113, [181, 1, 126]), (116, [3]), (117, [61]), (118, [28]), (119, [27]), (120, [163, 0, 128]), (248, [177]), (123, [3]), (124, [62]), (125, [29]), (126, [16, 10]), (128, [162, 0, 114]), (242, [132, 2, 1]), (245, [167, 255, 129]), (131, [28]), (132, [154, 0, 22]), (154, [9]), (155, [55, 4]), (157, [3]), (158, [54, 6]), (160, [21, 6]), (162, [16, 10]), (164, [162, 0, 43]), (207, [42]), (208, [180, 0, 86]), (211, [16, 10]), (213, [28]), (214, [104]), (215, [29])] = true := by decide +kernel
theorem dX12_laysWays_0 : decode cX12_laysWays 0 = .ok (.aload_n 0, 1) := q_aload_n0 (bat_get dg_X12_laysWays_0_0 0 rfl rfl)
theorem dX12_laysWays_1 : decode cX12_laysWays 1 = .ok (.invokevirtual 315, 3) := q_invokevirtual (bat_get dg_X12_laysWays_0_0 1 rfl rfl) rfl
theorem dX12_laysWays_4 : decode cX12_laysWays 4 = .ok (.iconst 1, 1) := q_iconst1 (bat_get dg_X12_laysWays_0_0 2 rfl rfl)
theorem dX12_laysWays_5 : decode cX12_laysWays 5 = .ok (.isub, 1) := q_isub (bat_get dg_X12_laysWays_0_0 3 rfl rfl)
theorem dX12_laysWays_6 : decode cX12_laysWays 6 = .ok (.istore_n 1, 1) := q_istore_n1 (bat_get dg_X12_laysWays_0_0 4 rfl rfl)
theorem dX12_laysWays_7 : decode cX12_laysWays 7 = .ok (.iload_n 1, 1) := q_iload_n1 (bat_get dg_X12_laysWays_0_0 5 rfl rfl)
theorem dX12_laysWays_8 : decode cX12_laysWays 8 = .ok (.istore_n 2, 1) := q_istore_n2 (bat_get dg_X12_laysWays_0_0 6 rfl rfl)
theorem dX12_laysWays_9 : decode cX12_laysWays 9 = .ok (.iload_n 2, 1) := q_iload_n2 (bat_get dg_X12_laysWays_0_0 7 rfl rfl)
theorem dX12_laysWays_10 : decode cX12_laysWays 10 = .ok (.ifCond .lt 101, 3) := q_ifCond_lt (bat_get dg_X12_laysWays_0_0 8 rfl rfl) rfl
theorem dX12_laysWays_111 : decode cX12_laysWays 111 = .ok (.aload_n 0, 1) := q_aload_n0 (bat_get dg_X12_laysWays_0_0 9 rfl rfl)
theorem dX12_laysWays_112 : decode cX12_laysWays 112 = .ok (.lconst 0, 1) := q_lconst0 (bat_get dg_X12_laysWays_0_0 10 rfl rfl)
theorem dX12_laysWays_113 : decode cX12_laysWays 113 = .ok (.putfield 382, 3) := q_putfield (bat_get dg_X12_laysWays_0_0 11 rfl rfl) rfl
theorem dX12_laysWays_116 : decode cX12_laysWays 116 = .ok (.iconst 0, 1) := q_iconst0 (bat_get dg_X12_laysWays_0_0 12 rfl rfl)
theorem dX12_laysWays_117 : decode cX12_laysWays 117 = .ok (.istore_n 2, 1) := q_istore_n2 (bat_get dg_X12_laysWays_0_0 13 rfl rfl)
theorem dX12_laysWays_118 : decode cX12_laysWays 118 = .ok (.iload_n 2, 1) := q_iload_n2 (bat_get dg_X12_laysWays_0_0 14 rfl rfl)
theorem dX12_laysWays_119 : decode cX12_laysWays 119 = .ok (.iload_n 1, 1) := q_iload_n1 (bat_get dg_X12_laysWays_0_0 15 rfl rfl)
theorem dX12_laysWays_120 : decode cX12_laysWays 120 = .ok (.if_icmp .gt 128, 3) := q_if_icmp_gt (bat_get dg_X12_laysWays_0_0 16 rfl rfl) rfl
theorem dX12_laysWays_248 : decode cX12_laysWays 248 = .ok (.return_, 1) := q_return_ (bat_get dg_X12_laysWays_0_0 17 rfl rfl)
theorem dX12_laysWays_123 : decode cX12_laysWays 123 = .ok (.iconst 0, 1) := q_iconst0 (bat_get dg_X12_laysWays_0_0 18 rfl rfl)
theorem dX12_laysWays_124 : decode cX12_laysWays 124 = .ok (.istore_n 3, 1) := q_istore_n3 (bat_get dg_X12_laysWays_0_0 19 rfl rfl)
theorem dX12_laysWays_125 : decode cX12_laysWays 125 = .ok (.iload_n 3, 1) := q_iload_n3 (bat_get dg_X12_laysWays_0_0 20 rfl rfl)
theorem dX12_laysWays_126 : decode cX12_laysWays 126 = .ok (.bipush 10, 2) := q_bipush (bat_get dg_X12_laysWays_0_0 21 rfl rfl) rfl
theorem dX12_laysWays_128 : decode cX12_laysWays 128 = .ok (.if_icmp .ge 114, 3) := q_if_icmp_ge (bat_get dg_X12_laysWays_0_0 22 rfl rfl) rfl
theorem dX12_laysWays_242 : decode cX12_laysWays 242 = .ok (.iinc 2 1, 3) := q_iinc (bat_get dg_X12_laysWays_0_0 23 rfl rfl) rfl
theorem dX12_laysWays_245 : decode cX12_laysWays 245 = .ok (.goto (-127), 3) := q_goto (bat_get dg_X12_laysWays_0_0 24 rfl rfl) rfl
theorem dX12_laysWays_131 : decode cX12_laysWays 131 = .ok (.iload_n 2, 1) := q_iload_n2 (bat_get dg_X12_laysWays_0_0 25 rfl rfl)
theorem dX12_laysWays_132 : decode cX12_laysWays 132 = .ok (.ifCond .ne 22, 3) := q_ifCond_ne (bat_get dg_X12_laysWays_0_0 26 rfl rfl) rfl
theorem dX12_laysWays_154 : decode cX12_laysWays 154 = .ok (.lconst 0, 1) := q_lconst0 (bat_get dg_X12_laysWays_0_0 27 rfl rfl)
theorem dX12_laysWays_155 : decode cX12_laysWays 155 = .ok (.lstore 4, 2) := q_lstore (bat_get dg_X12_laysWays_0_0 28 rfl rfl)
theorem dX12_laysWays_157 : decode cX12_laysWays 157 = .ok (.iconst 0, 1) := q_iconst0 (bat_get dg_X12_laysWays_0_0 29 rfl rfl)
theorem dX12_laysWays_158 : decode cX12_laysWays 158 = .ok (.istore 6, 2) := q_istore (bat_get dg_X12_laysWays_0_0 30 rfl rfl)
theorem dX12_laysWays_160 : decode cX12_laysWays 160 = .ok (.iload 6, 2) := q_iload (bat_get dg_X12_laysWays_0_0 31 rfl rfl)
theorem dX12_laysWays_162 : decode cX12_laysWays 162 = .ok (.bipush 10, 2) := q_bipush (bat_get dg_X12_laysWays_0_0 32 rfl rfl) rfl
theorem dX12_laysWays_164 : decode cX12_laysWays 164 = .ok (.if_icmp .ge 43, 3) := q_if_icmp_ge (bat_get dg_X12_laysWays_0_0 33 rfl rfl) rfl
theorem dX12_laysWays_207 : decode cX12_laysWays 207 = .ok (.aload_n 0, 1) := q_aload_n0 (bat_get dg_X12_laysWays_0_0 34 rfl rfl)
theorem dX12_laysWays_208 : decode cX12_laysWays 208 = .ok (.getfield 86, 3) := q_getfield (bat_get dg_X12_laysWays_0_0 35 rfl rfl) rfl
theorem dX12_laysWays_211 : decode cX12_laysWays 211 = .ok (.bipush 10, 2) := q_bipush (bat_get dg_X12_laysWays_0_0 36 rfl rfl) rfl
theorem dX12_laysWays_213 : decode cX12_laysWays 213 = .ok (.iload_n 2, 1) := q_iload_n2 (bat_get dg_X12_laysWays_0_0 37 rfl rfl)
theorem dX12_laysWays_214 : decode cX12_laysWays 214 = .ok (.imul, 1) := q_imul (bat_get dg_X12_laysWays_0_0 38 rfl rfl)
theorem dX12_laysWays_215 : decode cX12_laysWays 215 = .ok (.iload_n 3, 1) := q_iload_n3 (bat_get dg_X12_laysWays_0_0 39 rfl rfl)
theorem dg_X12_laysWays_135_216 : bqL cX12_laysWays 135 [(81, [96]), (82, [22, 4]), (84, [80]), (85, [28]), (86, [27]), (87, [160, 0, 14]), (101, [132, 3, 1]), (104, [167, 255, 142]), (90, [42]), (91, [89]), (92, [180, 1, 126]), (95, [22, 4]), (97, [97]), (98, [181, 1, 126]), (32, [28]), (33, [158, 0, 39]), (36, [42]), (37, [28]), (38, [21, 6]), (40, [29]), (41, [182, 1, 122]), (44, [153, 0, 22]), (66, [132, 6, 1]), (69, [167, 255, 212]), (47, [22, 4]), (49, [42]), (50, [180, 0, 86]), (53, [16, 10]), (55, [28]), (56, [4]), (57, [100]), (58, [104]), (59, [21, 6]), (61, [96]), (62, [47]), (63, [97]), (64, [55, 4]), (0, [42]), (1, [3]), (2, [42])] = true := by decide +kernel
theorem dX12_laysWays_216 : decode cX12_laysWays 216 = .ok (.iadd, 1) := q_iadd (bat_get dg_X12_laysWays_135_216 0 rfl rfl)
theorem dX12_laysWays_217 : decode cX12_laysWays 217 = .ok (.lload 4, 2) := q_lload (bat_get dg_X12_laysWays_135_216 1 rfl rfl)
theorem dX12_laysWays_219 : decode cX12_laysWays 219 = .ok (.lastore, 1) := q_lastore (bat_get dg_X12_laysWays_135_216 2 rfl rfl)
theorem dX12_laysWays_220 : decode cX12_laysWays 220 = .ok (.iload_n 2, 1) := q_iload_n2 (bat_get dg_X12_laysWays_135_216 3 rfl rfl)
theorem dX12_laysWays_221 : decode cX12_laysWays 221 = .ok (.iload_n 1, 1) := q_iload_n1 (bat_get dg_X12_laysWays_135_216 4 rfl rfl)
theorem dX12_laysWays_222 : decode cX12_laysWays 222 = .ok (.if_icmp .ne 14, 3) := q_if_icmp_ne (bat_get dg_X12_laysWays_135_216 5 rfl rfl) rfl
theorem dX12_laysWays_236 : decode cX12_laysWays 236 = .ok (.iinc 3 1, 3) := q_iinc (bat_get dg_X12_laysWays_135_216 6 rfl rfl) rfl
theorem dX12_laysWays_239 : decode cX12_laysWays 239 = .ok (.goto (-114), 3) := q_goto (bat_get dg_X12_laysWays_135_216 7 rfl rfl) rfl
theorem dX12_laysWays_225 : decode cX12_laysWays 225 = .ok (.aload_n 0, 1) := q_aload_n0 (bat_get dg_X12_laysWays_135_216 8 rfl rfl)
theorem dX12_laysWays_226 : decode cX12_laysWays 226 = .ok (.dup, 1) := q_dup (bat_get dg_X12_laysWays_135_216 9 rfl rfl)
theorem dX12_laysWays_227 : decode cX12_laysWays 227 = .ok (.getfield 382, 3) := q_getfield (bat_get dg_X12_laysWays_135_216 10 rfl rfl) rfl
theorem dX12_laysWays_230 : decode cX12_laysWays 230 = .ok (.lload 4, 2) := q_lload (bat_get dg_X12_laysWays_135_216 11 rfl rfl)
theorem dX12_laysWays_232 : decode cX12_laysWays 232 = .ok (.ladd, 1) := q_ladd (bat_get dg_X12_laysWays_135_216 12 rfl rfl)
theorem dX12_laysWays_233 : decode cX12_laysWays 233 = .ok (.putfield 382, 3) := q_putfield (bat_get dg_X12_laysWays_135_216 13 rfl rfl) rfl
theorem dX12_laysWays_167 : decode cX12_laysWays 167 = .ok (.iload_n 2, 1) := q_iload_n2 (bat_get dg_X12_laysWays_135_216 14 rfl rfl)
theorem dX12_laysWays_168 : decode cX12_laysWays 168 = .ok (.ifCond .le 39, 3) := q_ifCond_le (bat_get dg_X12_laysWays_135_216 15 rfl rfl) rfl
theorem dX12_laysWays_171 : decode cX12_laysWays 171 = .ok (.aload_n 0, 1) := q_aload_n0 (bat_get dg_X12_laysWays_135_216 16 rfl rfl)
theorem dX12_laysWays_172 : decode cX12_laysWays 172 = .ok (.iload_n 2, 1) := q_iload_n2 (bat_get dg_X12_laysWays_135_216 17 rfl rfl)
theorem dX12_laysWays_173 : decode cX12_laysWays 173 = .ok (.iload 6, 2) := q_iload (bat_get dg_X12_laysWays_135_216 18 rfl rfl)
theorem dX12_laysWays_175 : decode cX12_laysWays 175 = .ok (.iload_n 3, 1) := q_iload_n3 (bat_get dg_X12_laysWays_135_216 19 rfl rfl)
theorem dX12_laysWays_176 : decode cX12_laysWays 176 = .ok (.invokevirtual 378, 3) := q_invokevirtual (bat_get dg_X12_laysWays_135_216 20 rfl rfl) rfl
theorem dX12_laysWays_179 : decode cX12_laysWays 179 = .ok (.ifCond .eq 22, 3) := q_ifCond_eq (bat_get dg_X12_laysWays_135_216 21 rfl rfl) rfl
theorem dX12_laysWays_201 : decode cX12_laysWays 201 = .ok (.iinc 6 1, 3) := q_iinc (bat_get dg_X12_laysWays_135_216 22 rfl rfl) rfl
theorem dX12_laysWays_204 : decode cX12_laysWays 204 = .ok (.goto (-44), 3) := q_goto (bat_get dg_X12_laysWays_135_216 23 rfl rfl) rfl
theorem dX12_laysWays_182 : decode cX12_laysWays 182 = .ok (.lload 4, 2) := q_lload (bat_get dg_X12_laysWays_135_216 24 rfl rfl)
theorem dX12_laysWays_184 : decode cX12_laysWays 184 = .ok (.aload_n 0, 1) := q_aload_n0 (bat_get dg_X12_laysWays_135_216 25 rfl rfl)
theorem dX12_laysWays_185 : decode cX12_laysWays 185 = .ok (.getfield 86, 3) := q_getfield (bat_get dg_X12_laysWays_135_216 26 rfl rfl) rfl
theorem dX12_laysWays_188 : decode cX12_laysWays 188 = .ok (.bipush 10, 2) := q_bipush (bat_get dg_X12_laysWays_135_216 27 rfl rfl) rfl
theorem dX12_laysWays_190 : decode cX12_laysWays 190 = .ok (.iload_n 2, 1) := q_iload_n2 (bat_get dg_X12_laysWays_135_216 28 rfl rfl)
theorem dX12_laysWays_191 : decode cX12_laysWays 191 = .ok (.iconst 1, 1) := q_iconst1 (bat_get dg_X12_laysWays_135_216 29 rfl rfl)
theorem dX12_laysWays_192 : decode cX12_laysWays 192 = .ok (.isub, 1) := q_isub (bat_get dg_X12_laysWays_135_216 30 rfl rfl)
theorem dX12_laysWays_193 : decode cX12_laysWays 193 = .ok (.imul, 1) := q_imul (bat_get dg_X12_laysWays_135_216 31 rfl rfl)
theorem dX12_laysWays_194 : decode cX12_laysWays 194 = .ok (.iload 6, 2) := q_iload (bat_get dg_X12_laysWays_135_216 32 rfl rfl)
theorem dX12_laysWays_196 : decode cX12_laysWays 196 = .ok (.iadd, 1) := q_iadd (bat_get dg_X12_laysWays_135_216 33 rfl rfl)
theorem dX12_laysWays_197 : decode cX12_laysWays 197 = .ok (.laload, 1) := q_laload (bat_get dg_X12_laysWays_135_216 34 rfl rfl)
theorem dX12_laysWays_198 : decode cX12_laysWays 198 = .ok (.ladd, 1) := q_ladd (bat_get dg_X12_laysWays_135_216 35 rfl rfl)
theorem dX12_laysWays_199 : decode cX12_laysWays 199 = .ok (.lstore 4, 2) := q_lstore (bat_get dg_X12_laysWays_135_216 36 rfl rfl)
theorem dX12_laysWays_135 : decode cX12_laysWays 135 = .ok (.aload_n 0, 1) := q_aload_n0 (bat_get dg_X12_laysWays_135_216 37 rfl rfl)
theorem dX12_laysWays_136 : decode cX12_laysWays 136 = .ok (.iconst 0, 1) := q_iconst0 (bat_get dg_X12_laysWays_135_216 38 rfl rfl)
theorem dX12_laysWays_137 : decode cX12_laysWays 137 = .ok (.aload_n 0, 1) := q_aload_n0 (bat_get dg_X12_laysWays_135_216 39 rfl rfl)
theorem dg_X12_laysWays_13_138 : bqL cX12_laysWays 13 [(125, [180, 0, 63]), (128, [4]), (129, [46]), (130, [29]), (131, [182, 1, 122]), (134, [153, 0, 7]), (137, [10]), (138, [167, 0, 4]), (0, [3]), (1, [62]), (2, [29]), (3, [16, 10]), (5, [162, 0, 87]), (92, [132, 2, 255]), (95, [167, 255, 157]), (8, [28]), (9, [27]), (10, [160, 0, 7]), (17, [9]), (18, [55, 4]), (20, [3]), (21, [54, 6]), (23, [21, 6]), (25, [16, 10]), (27, [162, 0, 46]), (73, [42]), (74, [180, 0, 82]), (77, [16, 10]), (79, [28]), (80, [104]), (81, [29]), (82, [96]), (83, [22, 4]), (85, [80]), (86, [132, 3, 1]), (89, [167, 255, 169]), (30, [28]), (31, [27]), (32, [162, 0, 41]), (35, [42])] = true := by decide +kernel
theorem dX12_laysWays_138 : decode cX12_laysWays 138 = .ok (.getfield 63, 3) := q_getfield (bat_get dg_X12_laysWays_13_138 0 rfl rfl) rfl
theorem dX12_laysWays_141 : decode cX12_laysWays 141 = .ok (.iconst 1, 1) := q_iconst1 (bat_get dg_X12_laysWays_13_138 1 rfl rfl)
theorem dX12_laysWays_142 : decode cX12_laysWays 142 = .ok (.iaload, 1) := q_iaload (bat_get dg_X12_laysWays_13_138 2 rfl rfl)
theorem dX12_laysWays_143 : decode cX12_laysWays 143 = .ok (.iload_n 3, 1) := q_iload_n3 (bat_get dg_X12_laysWays_13_138 3 rfl rfl)
theorem dX12_laysWays_144 : decode cX12_laysWays 144 = .ok (.invokevirtual 378, 3) := q_invokevirtual (bat_get dg_X12_laysWays_13_138 4 rfl rfl) rfl
theorem dX12_laysWays_147 : decode cX12_laysWays 147 = .ok (.ifCond .eq 7, 3) := q_ifCond_eq (bat_get dg_X12_laysWays_13_138 5 rfl rfl) rfl
theorem dX12_laysWays_150 : decode cX12_laysWays 150 = .ok (.lconst 1, 1) := q_lconst1 (bat_get dg_X12_laysWays_13_138 6 rfl rfl)
theorem dX12_laysWays_151 : decode cX12_laysWays 151 = .ok (.goto 4, 3) := q_goto (bat_get dg_X12_laysWays_13_138 7 rfl rfl) rfl
theorem dX12_laysWays_13 : decode cX12_laysWays 13 = .ok (.iconst 0, 1) := q_iconst0 (bat_get dg_X12_laysWays_13_138 8 rfl rfl)
theorem dX12_laysWays_14 : decode cX12_laysWays 14 = .ok (.istore_n 3, 1) := q_istore_n3 (bat_get dg_X12_laysWays_13_138 9 rfl rfl)
theorem dX12_laysWays_15 : decode cX12_laysWays 15 = .ok (.iload_n 3, 1) := q_iload_n3 (bat_get dg_X12_laysWays_13_138 10 rfl rfl)
theorem dX12_laysWays_16 : decode cX12_laysWays 16 = .ok (.bipush 10, 2) := q_bipush (bat_get dg_X12_laysWays_13_138 11 rfl rfl) rfl
theorem dX12_laysWays_18 : decode cX12_laysWays 18 = .ok (.if_icmp .ge 87, 3) := q_if_icmp_ge (bat_get dg_X12_laysWays_13_138 12 rfl rfl) rfl
theorem dX12_laysWays_105 : decode cX12_laysWays 105 = .ok (.iinc 2 (-1), 3) := q_iinc (bat_get dg_X12_laysWays_13_138 13 rfl rfl) rfl
theorem dX12_laysWays_108 : decode cX12_laysWays 108 = .ok (.goto (-99), 3) := q_goto (bat_get dg_X12_laysWays_13_138 14 rfl rfl) rfl
theorem dX12_laysWays_21 : decode cX12_laysWays 21 = .ok (.iload_n 2, 1) := q_iload_n2 (bat_get dg_X12_laysWays_13_138 15 rfl rfl)
theorem dX12_laysWays_22 : decode cX12_laysWays 22 = .ok (.iload_n 1, 1) := q_iload_n1 (bat_get dg_X12_laysWays_13_138 16 rfl rfl)
theorem dX12_laysWays_23 : decode cX12_laysWays 23 = .ok (.if_icmp .ne 7, 3) := q_if_icmp_ne (bat_get dg_X12_laysWays_13_138 17 rfl rfl) rfl
theorem dX12_laysWays_30 : decode cX12_laysWays 30 = .ok (.lconst 0, 1) := q_lconst0 (bat_get dg_X12_laysWays_13_138 18 rfl rfl)
theorem dX12_laysWays_31 : decode cX12_laysWays 31 = .ok (.lstore 4, 2) := q_lstore (bat_get dg_X12_laysWays_13_138 19 rfl rfl)
theorem dX12_laysWays_33 : decode cX12_laysWays 33 = .ok (.iconst 0, 1) := q_iconst0 (bat_get dg_X12_laysWays_13_138 20 rfl rfl)
theorem dX12_laysWays_34 : decode cX12_laysWays 34 = .ok (.istore 6, 2) := q_istore (bat_get dg_X12_laysWays_13_138 21 rfl rfl)
theorem dX12_laysWays_36 : decode cX12_laysWays 36 = .ok (.iload 6, 2) := q_iload (bat_get dg_X12_laysWays_13_138 22 rfl rfl)
theorem dX12_laysWays_38 : decode cX12_laysWays 38 = .ok (.bipush 10, 2) := q_bipush (bat_get dg_X12_laysWays_13_138 23 rfl rfl) rfl
theorem dX12_laysWays_40 : decode cX12_laysWays 40 = .ok (.if_icmp .ge 46, 3) := q_if_icmp_ge (bat_get dg_X12_laysWays_13_138 24 rfl rfl) rfl
theorem dX12_laysWays_86 : decode cX12_laysWays 86 = .ok (.aload_n 0, 1) := q_aload_n0 (bat_get dg_X12_laysWays_13_138 25 rfl rfl)
theorem dX12_laysWays_87 : decode cX12_laysWays 87 = .ok (.getfield 82, 3) := q_getfield (bat_get dg_X12_laysWays_13_138 26 rfl rfl) rfl
theorem dX12_laysWays_90 : decode cX12_laysWays 90 = .ok (.bipush 10, 2) := q_bipush (bat_get dg_X12_laysWays_13_138 27 rfl rfl) rfl
theorem dX12_laysWays_92 : decode cX12_laysWays 92 = .ok (.iload_n 2, 1) := q_iload_n2 (bat_get dg_X12_laysWays_13_138 28 rfl rfl)
theorem dX12_laysWays_93 : decode cX12_laysWays 93 = .ok (.imul, 1) := q_imul (bat_get dg_X12_laysWays_13_138 29 rfl rfl)
theorem dX12_laysWays_94 : decode cX12_laysWays 94 = .ok (.iload_n 3, 1) := q_iload_n3 (bat_get dg_X12_laysWays_13_138 30 rfl rfl)
theorem dX12_laysWays_95 : decode cX12_laysWays 95 = .ok (.iadd, 1) := q_iadd (bat_get dg_X12_laysWays_13_138 31 rfl rfl)
theorem dX12_laysWays_96 : decode cX12_laysWays 96 = .ok (.lload 4, 2) := q_lload (bat_get dg_X12_laysWays_13_138 32 rfl rfl)
theorem dX12_laysWays_98 : decode cX12_laysWays 98 = .ok (.lastore, 1) := q_lastore (bat_get dg_X12_laysWays_13_138 33 rfl rfl)
theorem dX12_laysWays_99 : decode cX12_laysWays 99 = .ok (.iinc 3 1, 3) := q_iinc (bat_get dg_X12_laysWays_13_138 34 rfl rfl) rfl
theorem dX12_laysWays_102 : decode cX12_laysWays 102 = .ok (.goto (-87), 3) := q_goto (bat_get dg_X12_laysWays_13_138 35 rfl rfl) rfl
theorem dX12_laysWays_43 : decode cX12_laysWays 43 = .ok (.iload_n 2, 1) := q_iload_n2 (bat_get dg_X12_laysWays_13_138 36 rfl rfl)
theorem dX12_laysWays_44 : decode cX12_laysWays 44 = .ok (.iload_n 1, 1) := q_iload_n1 (bat_get dg_X12_laysWays_13_138 37 rfl rfl)
theorem dX12_laysWays_45 : decode cX12_laysWays 45 = .ok (.if_icmp .ge 41, 3) := q_if_icmp_ge (bat_get dg_X12_laysWays_13_138 38 rfl rfl) rfl
theorem dX12_laysWays_48 : decode cX12_laysWays 48 = .ok (.aload_n 0, 1) := q_aload_n0 (bat_get dg_X12_laysWays_13_138 39 rfl rfl)
theorem dg_X12_laysWays_26_49 : bqL cX12_laysWays 26 [(23, [28]), (24, [4]), (25, [96]), (26, [29]), (27, [21, 6]), (29, [182, 1, 122]), (32, [153, 0, 22]), (54, [132, 6, 1]), (57, [167, 255, 209]), (35, [22, 4]), (37, [42]), (38, [180, 0, 82]), (41, [16, 10]), (43, [28]), (44, [4]), (45, [96]), (46, [104]), (47, [21, 6]), (49, [96]), (50, [47]), (51, [97]), (52, [55, 4]), (0, [10]), (1, [167, 0, 4])] = true := by decide +kernel
theorem dX12_laysWays_49 : decode cX12_laysWays 49 = .ok (.iload_n 2, 1) := q_iload_n2 (bat_get dg_X12_laysWays_26_49 0 rfl rfl)
theorem dX12_laysWays_50 : decode cX12_laysWays 50 = .ok (.iconst 1, 1) := q_iconst1 (bat_get dg_X12_laysWays_26_49 1 rfl rfl)
theorem dX12_laysWays_51 : decode cX12_laysWays 51 = .ok (.iadd, 1) := q_iadd (bat_get dg_X12_laysWays_26_49 2 rfl rfl)
theorem dX12_laysWays_52 : decode cX12_laysWays 52 = .ok (.iload_n 3, 1) := q_iload_n3 (bat_get dg_X12_laysWays_26_49 3 rfl rfl)
theorem dX12_laysWays_53 : decode cX12_laysWays 53 = .ok (.iload 6, 2) := q_iload (bat_get dg_X12_laysWays_26_49 4 rfl rfl)
theorem dX12_laysWays_55 : decode cX12_laysWays 55 = .ok (.invokevirtual 378, 3) := q_invokevirtual (bat_get dg_X12_laysWays_26_49 5 rfl rfl) rfl
theorem dX12_laysWays_58 : decode cX12_laysWays 58 = .ok (.ifCond .eq 22, 3) := q_ifCond_eq (bat_get dg_X12_laysWays_26_49 6 rfl rfl) rfl
theorem dX12_laysWays_80 : decode cX12_laysWays 80 = .ok (.iinc 6 1, 3) := q_iinc (bat_get dg_X12_laysWays_26_49 7 rfl rfl) rfl
theorem dX12_laysWays_83 : decode cX12_laysWays 83 = .ok (.goto (-47), 3) := q_goto (bat_get dg_X12_laysWays_26_49 8 rfl rfl) rfl
theorem dX12_laysWays_61 : decode cX12_laysWays 61 = .ok (.lload 4, 2) := q_lload (bat_get dg_X12_laysWays_26_49 9 rfl rfl)
theorem dX12_laysWays_63 : decode cX12_laysWays 63 = .ok (.aload_n 0, 1) := q_aload_n0 (bat_get dg_X12_laysWays_26_49 10 rfl rfl)
theorem dX12_laysWays_64 : decode cX12_laysWays 64 = .ok (.getfield 82, 3) := q_getfield (bat_get dg_X12_laysWays_26_49 11 rfl rfl) rfl
theorem dX12_laysWays_67 : decode cX12_laysWays 67 = .ok (.bipush 10, 2) := q_bipush (bat_get dg_X12_laysWays_26_49 12 rfl rfl) rfl
theorem dX12_laysWays_69 : decode cX12_laysWays 69 = .ok (.iload_n 2, 1) := q_iload_n2 (bat_get dg_X12_laysWays_26_49 13 rfl rfl)
theorem dX12_laysWays_70 : decode cX12_laysWays 70 = .ok (.iconst 1, 1) := q_iconst1 (bat_get dg_X12_laysWays_26_49 14 rfl rfl)
theorem dX12_laysWays_71 : decode cX12_laysWays 71 = .ok (.iadd, 1) := q_iadd (bat_get dg_X12_laysWays_26_49 15 rfl rfl)
theorem dX12_laysWays_72 : decode cX12_laysWays 72 = .ok (.imul, 1) := q_imul (bat_get dg_X12_laysWays_26_49 16 rfl rfl)
theorem dX12_laysWays_73 : decode cX12_laysWays 73 = .ok (.iload 6, 2) := q_iload (bat_get dg_X12_laysWays_26_49 17 rfl rfl)
theorem dX12_laysWays_75 : decode cX12_laysWays 75 = .ok (.iadd, 1) := q_iadd (bat_get dg_X12_laysWays_26_49 18 rfl rfl)
theorem dX12_laysWays_76 : decode cX12_laysWays 76 = .ok (.laload, 1) := q_laload (bat_get dg_X12_laysWays_26_49 19 rfl rfl)
theorem dX12_laysWays_77 : decode cX12_laysWays 77 = .ok (.ladd, 1) := q_ladd (bat_get dg_X12_laysWays_26_49 20 rfl rfl)
theorem dX12_laysWays_78 : decode cX12_laysWays 78 = .ok (.lstore 4, 2) := q_lstore (bat_get dg_X12_laysWays_26_49 21 rfl rfl)
theorem dX12_laysWays_26 : decode cX12_laysWays 26 = .ok (.lconst 1, 1) := q_lconst1 (bat_get dg_X12_laysWays_26_49 22 rfl rfl)
theorem dX12_laysWays_27 : decode cX12_laysWays 27 = .ok (.goto 4, 3) := q_goto (bat_get dg_X12_laysWays_26_49 23 rfl rfl) rfl
theorem w_5_199 : (Cond.fieldLink RX12 86 "SameKeeperModel" "before" "[J") ∈ wsL_law := sk_mem (ck_5 _ (List.mem_of_getElem? (i := 199) rfl)) rfl
theorem w_7_201 : (Cond.methodLink RX12 378 yX12_canFollow) ∈ wsL_law := sk_mem (ck_7 _ (List.mem_of_getElem? (i := 201) rfl)) rfl
theorem w_7_203 : (Cond.instanceMethod yX12_canFollow) ∈ wsL_law := sk_mem (ck_7 _ (List.mem_of_getElem? (i := 203) rfl)) rfl
theorem w_0_85 : (Cond.selects RX12 yX12_canFollow yX12_canFollow) ∈ wsL_law := sk_mem (ck_0 _ (List.mem_of_getElem? (i := 85) rfl)) rfl
theorem w_5_198 : (Cond.fieldLink RX12 82 "SameKeeperModel" "behind" "[J") ∈ wsL_law := sk_mem (ck_5 _ (List.mem_of_getElem? (i := 198) rfl)) rfl
theorem w_7_200 : (Cond.code yX12_laysWays cX12_laysWays 7 none) ∈ wsL_law := sk_mem (ck_7 _ (List.mem_of_getElem? (i := 200) rfl)) rfl
def om_7_60 : List Bool := true :: true :: false :: false :: false :: false :: false :: []
def om_7_5c : List Bool := true :: false :: true :: true :: true :: false :: false :: []
theorem hd_X12_canFollow_3 : skD yX12_canFollow 3 := by decide +kernel
set_option maxHeartbeats 4000000 in
set_option maxRecDepth 100000 in
theorem c_m_laysWays0 (l : Launch) (D : va_G) (cI cJ cC cZ cS : ClassId) (mm : Nat) (g : Nat → Nat) (ta : Nat) (pa : Nat) (pe : Nat) (pd : Int32) (pb : Nat) (pp : Int32) (pf : Int32) (pg : Int32) (pn : Int32) (rt : Int32) (rn : Int32) (cd : Nat) (sn : Int32) (il : Nat) (tk : Int32) (am : Int32) (at_ : Int32) (aa : Int32) (mt_ : Int32) (wt : Int32) (wy : Int64) (it_ : Nat) (rm : Nat) (ud : Nat) (nu : Nat) (sd : Int64) (qn : Nat) (qw : Nat) (qo : Int32) (qb : Nat) (qp : Nat) (qa : Int64) (qi : Nat) (oc : Nat) (l0 : Nat) (l1 : Nat) (dm : Nat) (l3 : Nat) (nw : Nat → Int32) (yo : Nat → Int32) (yw : Nat → Int32) (be : Nat → Int64) (bf : Nat → Int64) (hdm : dm ≤ 9) (hdm1 : 1 ≤ dm) (hnw : nowOk nw) : skM l yX12_laysWays cX12_laysWays 7 none 3 66 0 0 D (skT cI cJ cC cZ cS) [.ref mm] [ro_ mm 12 (mo g (nI ta) (nI pa) (nI pe) pd (nI pb) pp pf pg pn rt rn (nI cd) sn (nI il) tk am at_ aa mt_ 0 (-1) wt wy (nI it_) (nI rm) (nI ud) (nI nu) sd (nI qn) (nI qw) qo (nI qb) (nI qp) qa (nI qi) (nI oc)), ra_I (g 20) cI 4 (l4 (nI l0) (nI l1) (nI dm) (nI l3)), ra_I (g 31) cI 120 nw, ra_I (g 37) cZ 900 yo, ra_I (g 36) cZ 900 yw, ra_J (g 43) cJ 90 be, ra_J (g 44) cJ 90 bf] (skV D (skT cI cJ cC cZ cS) (fun (u : va_W) => ∃ (wy2 : Int64), ∃ (be2 : Nat → Int64), ∃ (bf2 : Nat → Int64), beOk (cfN nw yw yo mt_) dm 0 be2 ∧ wy2 = nL (wys (cfN nw yw yo mt_) (a0N nw) (dm - 1)) ∧ u = [ro_ mm 12 (mo g (nI ta) (nI pa) (nI pe) pd (nI pb) pp pf pg pn rt rn (nI cd) sn (nI il) tk am at_ aa mt_ 0 (-1) wt wy2 (nI it_) (nI rm) (nI ud) (nI nu) sd (nI qn) (nI qw) qo (nI qb) (nI qp) qa (nI qi) (nI oc)), ra_I (g 20) cI 4 (l4 (nI l0) (nI l1) (nI dm) (nI l3)), ra_I (g 31) cI 120 nw, ra_I (g 37) cZ 900 yo, ra_I (g 36) cZ 900 yw, ra_J (g 43) cJ 90 be2, ra_J (g 44) cJ 90 bf2])) := by
  refine skM_of pf_X12_laysWays (Nat.le_of_ble_eq_true rfl) ?_
  intro p e s m below meth c A ls E hP hD hl
  refine skE_el E (fun hx hb hr hml hlocks hin hown hts hK hA => ?_)
  have hown : s.vm.findClass RX12 = some m.cls := hown
  have hS : va_S A s.heap s.heap [] := va_S.rf
  have hl : lv_has ls 7 [(0, .ref mm)] := hl
  refine lv_aload_n hx hb dX12_laysWays_0 rfl (lv_at hl 0 rfl) ?_
  refine sk_Vi (q0 := 0) (n := 0) (rest := []) (wr := fmR om_7_60 _) ⟨hx, hb, hml, hown, hts⟩ hl.1 (c_m_dayMany l D cI cJ cC cZ cS mm g ta pa pe pd pb pp pf pg pn rt rn cd sn il tk am at_ aa mt_ 0 (-1) wt wy it_ rm ud nu sd qn qw qo qb qp qa qi oc l0 l1 dm l3) w_7_98 w_7_100 w_0_69 w_1_14 w_7_101 hd_X12_dayMany_0 ⟨⟨(Nat.le_of_ble_eq_true rfl), (Nat.le_of_ble_eq_true rfl)⟩, (Nat.le_of_ble_eq_true rfl), (Nat.le_of_ble_eq_true rfl)⟩ hK hP hD hS hA (fmT om_7_60 0) (fmF om_7_60 0) (fm_C1 rfl rfl) (fm_R rfl rfl) (fm_nT om_7_60 0) (fm_nF om_7_60 0) (fm_di om_7_60 0) rfl rfl rfl rfl (Nat.le_of_ble_eq_true rfl) dX12_laysWays_1 (fun r_1 u H locs hw hP hD hS => ?_)
  refine anE hw (fun er_3 eu_2 => ?_)
  clear hw
  subst er_3
  refine o_mgE (ws' := [ro_ mm 12 (mo g (nI ta) (nI pa) (nI pe) pd (nI pb) pp pf pg pn rt rn (nI cd) sn (nI il) tk am at_ aa mt_ 0 (-1) wt wy (nI it_) (nI rm) (nI ud) (nI nu) sd (nI qn) (nI qw) qo (nI qb) (nI qp) qa (nI qi) (nI oc)), ra_I (g 20) cI 4 (l4 (nI l0) (nI l1) (nI dm) (nI l3)), ra_I (g 31) cI 120 nw, ra_I (g 37) cZ 900 yo, ra_I (g 36) cZ 900 yw, ra_J (g 43) cJ 90 be, ra_J (g 44) cJ 90 bf]) eu_2 hP hD rfl (fun hP hD => ?_)
  refine lv_iconst (v := 1) hx hb dX12_laysWays_4 ic_1 ?_
  refine lv_isub hx hb dX12_laysWays_5 ?_
  refine lv_istore_n (lv' := [(1, .int (nI dm - 1)), (0, .ref mm)]) hx hb dX12_laysWays_6 rfl hl (by decide) rfl (fun ls hl => ?_)
  refine lv_iload_n hx hb dX12_laysWays_7 rfl (lv_at hl 0 rfl) ?_
  refine lv_istore_n (lv' := [(2, .int (nI dm - 1)), (1, .int (nI dm - 1)), (0, .ref mm)]) hx hb dX12_laysWays_8 rfl hl (by decide) rfl (fun ls hl => ?_)
  have lp_4 : ∀ (n_5 : Nat) (dd : Nat) (zb : Nat → Int64) (H : Heap) (locs : List Loc) (ls : Array Slot), dd < n_5 → (dd ≤ dm) → (beOk (cfN nw yw yo mt_) dm dd zb) → va_P D vwCl [ro_ mm 12 (mo g (nI ta) (nI pa) (nI pe) pd (nI pb) pp pf pg pn rt rn (nI cd) sn (nI il) tk am at_ aa mt_ 0 (-1) wt wy (nI it_) (nI rm) (nI ud) (nI nu) sd (nI qn) (nI qw) qo (nI qb) (nI qp) qa (nI qi) (nI oc)), ra_I (g 20) cI 4 (l4 (nI l0) (nI l1) (nI dm) (nI l3)), ra_I (g 31) cI 120 nw, ra_I (g 37) cZ 900 yo, ra_I (g 36) cZ 900 yw, ra_J (g 43) cJ 90 zb, ra_J (g 44) cJ 90 bf] H → va_D A [ro_ mm 12 (mo g (nI ta) (nI pa) (nI pe) pd (nI pb) pp pf pg pn rt rn (nI cd) sn (nI il) tk am at_ aa mt_ 0 (-1) wt wy (nI it_) (nI rm) (nI ud) (nI nu) sd (nI qn) (nI qw) qo (nI qb) (nI qp) qa (nI qi) (nI oc)), ra_I (g 20) cI 4 (l4 (nI l0) (nI l1) (nI dm) (nI l3)), ra_I (g 31) cI 120 nw, ra_I (g 37) cZ 900 yo, ra_I (g 36) cZ 900 yw, ra_J (g 43) cJ 90 zb, ra_J (g 44) cJ 90 bf] → va_S A s.heap H locs → lv_has ls 7 [(2, .int (nI dd - 1)), (1, .int (nI dm - 1)), (0, .ref mm)] → W p l e { frames := 3, cells := 0, slots := 0, locals := 66 } s m ([.ref mm] : List Value).toArray below meth c H locs 0 0 (MQ below (skV D (skT cI cJ cC cZ cS) (fun (u : va_W) => ∃ (wy2 : Int64), ∃ (be2 : Nat → Int64), ∃ (bf2 : Nat → Int64), beOk (cfN nw yw yo mt_) dm 0 be2 ∧ wy2 = nL (wys (cfN nw yw yo mt_) (a0N nw) (dm - 1)) ∧ u = [ro_ mm 12 (mo g (nI ta) (nI pa) (nI pe) pd (nI pb) pp pf pg pn rt rn (nI cd) sn (nI il) tk am at_ aa mt_ 0 (-1) wt wy2 (nI it_) (nI rm) (nI ud) (nI nu) sd (nI qn) (nI qw) qo (nI qb) (nI qp) qa (nI qi) (nI oc)), ra_I (g 20) cI 4 (l4 (nI l0) (nI l1) (nI dm) (nI l3)), ra_I (g 31) cI 120 nw, ra_I (g 37) cZ 900 yo, ra_I (g 36) cZ 900 yw, ra_J (g 43) cJ 90 be2, ra_J (g 44) cJ 90 bf2]) A) ([.ref mm] : List Value).toArray s 0 0 A) (F0 m 9 ls []) := by
    intro n_5
    induction n_5 with
    | zero => intro dd zb H locs ls hm; exact absurd hm (Nat.not_lt_zero _)
    | succ n_5 ih_lp_4 =>
      intro dd zb H locs ls hm hdd hbe hP hD hS hl
      refine lv_iload_n hx hb dX12_laysWays_9 rfl (lv_at hl 0 rfl) ?_
      refine lv_if_lt (tgt := 111) hx hb dX12_laysWays_10 (by decide) (fun c_6 => ?_) (fun c_6 => ?_)
      · have c_6 : dd = 0 := npm0 dd (by omega) c_6
        refine lv_aload_n hx hb dX12_laysWays_111 rfl (lv_at hl 2 rfl) ?_
        refine lv_lconst (v := 0) hx hb dX12_laysWays_112 (by decide) ?_
        refine sk_put (ws' := [ro_ mm 12 (mo g (nI ta) (nI pa) (nI pe) pd (nI pb) pp pf pg pn rt rn (nI cd) sn (nI il) tk am at_ aa mt_ 0 (-1) wt 0 (nI it_) (nI rm) (nI ud) (nI nu) sd (nI qn) (nI qw) qo (nI qb) (nI qp) qa (nI qi) (nI oc)), ra_I (g 20) cI 4 (l4 (nI l0) (nI l1) (nI dm) (nI l3)), ra_I (g 31) cI 120 nw, ra_I (g 37) cZ 900 yo, ra_I (g 36) cZ 900 yw, ra_J (g 43) cJ 90 zb, ra_J (g 44) cJ 90 bf]) (C := RX12) (T := TX12) (N := 92) (v := .long 0) hx hb hts inlX12 tyX12 tyX12_ok nmX12 hown hK hP hD hS 0 rfl rfl 45 (Nat.le_of_ble_eq_true rfl) w_5_200 rfl rfl rfl (Nat.le_of_ble_eq_true rfl) rfl dX12_laysWays_113 (fun H locs hP hD hS => ?_)
        refine lv_iconst (v := 0) hx hb dX12_laysWays_116 ic_0 ?_
        refine lv_istore_n (lv' := [(2, .int 0), (1, .int (nI dm - 1)), (0, .ref mm)]) hx hb dX12_laysWays_117 rfl hl (by decide) rfl (fun ls hl => ?_)
        have lp_7 : ∀ (n_8 : Nat) (i : Nat) (zy : Int64) (zf : Nat → Int64) (H : Heap) (locs : List Loc) (ls : Array Slot), dm - i < n_8 → (i ≤ dm) → (bfOk (cfN nw yw yo mt_) (a0N nw) i zf) → (wyAt (cfN nw yw yo mt_) (a0N nw) dm i zy) → va_P D vwCl [ro_ mm 12 (mo g (nI ta) (nI pa) (nI pe) pd (nI pb) pp pf pg pn rt rn (nI cd) sn (nI il) tk am at_ aa mt_ 0 (-1) wt zy (nI it_) (nI rm) (nI ud) (nI nu) sd (nI qn) (nI qw) qo (nI qb) (nI qp) qa (nI qi) (nI oc)), ra_I (g 20) cI 4 (l4 (nI l0) (nI l1) (nI dm) (nI l3)), ra_I (g 31) cI 120 nw, ra_I (g 37) cZ 900 yo, ra_I (g 36) cZ 900 yw, ra_J (g 43) cJ 90 zb, ra_J (g 44) cJ 90 zf] H → va_D A [ro_ mm 12 (mo g (nI ta) (nI pa) (nI pe) pd (nI pb) pp pf pg pn rt rn (nI cd) sn (nI il) tk am at_ aa mt_ 0 (-1) wt zy (nI it_) (nI rm) (nI ud) (nI nu) sd (nI qn) (nI qw) qo (nI qb) (nI qp) qa (nI qi) (nI oc)), ra_I (g 20) cI 4 (l4 (nI l0) (nI l1) (nI dm) (nI l3)), ra_I (g 31) cI 120 nw, ra_I (g 37) cZ 900 yo, ra_I (g 36) cZ 900 yw, ra_J (g 43) cJ 90 zb, ra_J (g 44) cJ 90 zf] → va_S A s.heap H locs → lv_has ls 7 [(2, .int (nI i)), (1, .int (nI dm - 1)), (0, .ref mm)] → W p l e { frames := 3, cells := 0, slots := 0, locals := 66 } s m ([.ref mm] : List Value).toArray below meth c H locs 0 0 (MQ below (skV D (skT cI cJ cC cZ cS) (fun (u : va_W) => ∃ (wy2 : Int64), ∃ (be2 : Nat → Int64), ∃ (bf2 : Nat → Int64), beOk (cfN nw yw yo mt_) dm 0 be2 ∧ wy2 = nL (wys (cfN nw yw yo mt_) (a0N nw) (dm - 1)) ∧ u = [ro_ mm 12 (mo g (nI ta) (nI pa) (nI pe) pd (nI pb) pp pf pg pn rt rn (nI cd) sn (nI il) tk am at_ aa mt_ 0 (-1) wt wy2 (nI it_) (nI rm) (nI ud) (nI nu) sd (nI qn) (nI qw) qo (nI qb) (nI qp) qa (nI qi) (nI oc)), ra_I (g 20) cI 4 (l4 (nI l0) (nI l1) (nI dm) (nI l3)), ra_I (g 31) cI 120 nw, ra_I (g 37) cZ 900 yo, ra_I (g 36) cZ 900 yw, ra_J (g 43) cJ 90 be2, ra_J (g 44) cJ 90 bf2]) A) ([.ref mm] : List Value).toArray s 0 0 A) (F0 m 118 ls []) := by
          intro n_8
          induction n_8 with
          | zero => intro i zy zf H locs ls hm; exact absurd hm (Nat.not_lt_zero _)
          | succ n_8 ih_lp_7 =>
            intro i zy zf H locs ls hm hi hbf hzy hP hD hS hl
            refine lv_iload_n hx hb dX12_laysWays_118 rfl (lv_at hl 0 rfl) ?_
            refine lv_iload_n hx hb dX12_laysWays_119 rfl (lv_at hl 1 rfl) ?_
            refine lv_icmp_gt (tgt := 248) hx hb dX12_laysWays_120 (by decide) (fun c_9 => ?_) (fun c_9 => ?_)
            · have c_9 : ((dm : Nat) : Int) - 1 < ((i : Nat) : Int) := (ilt (ivp dm (by omega)) (ivn i (by omega))).mp c_9
              exact sk_vret hx hb hr hlocks hK hP hD hS (⟨zy, zb, zf, (be_z hbe (by omega)), wyAt_n hzy (by omega), rfl⟩) (Nat.le_of_ble_eq_true rfl) (Nat.le_of_ble_eq_true rfl) dX12_laysWays_248
            · have c_9 : ¬ (((dm : Nat) : Int) - 1 < ((i : Nat) : Int)) := fun h => c_9 ((ilt (ivp dm (by omega)) (ivn i (by omega))).mpr h)
              refine lv_iconst (v := 0) hx hb dX12_laysWays_123 ic_0 ?_
              refine lv_istore_n (lv' := [(3, .int 0), (2, .int (nI i)), (1, .int (nI dm - 1)), (0, .ref mm)]) hx hb dX12_laysWays_124 rfl hl (by decide) rfl (fun ls hl => ?_)
              have lp_10 : ∀ (n_11 : Nat) (jm : Nat) (zyb : Int64) (zg : Nat → Int64) (H : Heap) (locs : List Loc) (ls : Array Slot), 10 - jm < n_11 → (jm ≤ 10) → (bfOk2 (cfN nw yw yo mt_) (a0N nw) i jm zg) → (wyOk (cfN nw yw yo mt_) (a0N nw) dm i jm zyb) → va_P D vwCl [ro_ mm 12 (mo g (nI ta) (nI pa) (nI pe) pd (nI pb) pp pf pg pn rt rn (nI cd) sn (nI il) tk am at_ aa mt_ 0 (-1) wt zyb (nI it_) (nI rm) (nI ud) (nI nu) sd (nI qn) (nI qw) qo (nI qb) (nI qp) qa (nI qi) (nI oc)), ra_I (g 20) cI 4 (l4 (nI l0) (nI l1) (nI dm) (nI l3)), ra_I (g 31) cI 120 nw, ra_I (g 37) cZ 900 yo, ra_I (g 36) cZ 900 yw, ra_J (g 43) cJ 90 zb, ra_J (g 44) cJ 90 zg] H → va_D A [ro_ mm 12 (mo g (nI ta) (nI pa) (nI pe) pd (nI pb) pp pf pg pn rt rn (nI cd) sn (nI il) tk am at_ aa mt_ 0 (-1) wt zyb (nI it_) (nI rm) (nI ud) (nI nu) sd (nI qn) (nI qw) qo (nI qb) (nI qp) qa (nI qi) (nI oc)), ra_I (g 20) cI 4 (l4 (nI l0) (nI l1) (nI dm) (nI l3)), ra_I (g 31) cI 120 nw, ra_I (g 37) cZ 900 yo, ra_I (g 36) cZ 900 yw, ra_J (g 43) cJ 90 zb, ra_J (g 44) cJ 90 zg] → va_S A s.heap H locs → lv_has ls 7 [(3, .int (nI jm)), (2, .int (nI i)), (1, .int (nI dm - 1)), (0, .ref mm)] → W p l e { frames := 3, cells := 0, slots := 0, locals := 66 } s m ([.ref mm] : List Value).toArray below meth c H locs 0 0 (MQ below (skV D (skT cI cJ cC cZ cS) (fun (u : va_W) => ∃ (wy2 : Int64), ∃ (be2 : Nat → Int64), ∃ (bf2 : Nat → Int64), beOk (cfN nw yw yo mt_) dm 0 be2 ∧ wy2 = nL (wys (cfN nw yw yo mt_) (a0N nw) (dm - 1)) ∧ u = [ro_ mm 12 (mo g (nI ta) (nI pa) (nI pe) pd (nI pb) pp pf pg pn rt rn (nI cd) sn (nI il) tk am at_ aa mt_ 0 (-1) wt wy2 (nI it_) (nI rm) (nI ud) (nI nu) sd (nI qn) (nI qw) qo (nI qb) (nI qp) qa (nI qi) (nI oc)), ra_I (g 20) cI 4 (l4 (nI l0) (nI l1) (nI dm) (nI l3)), ra_I (g 31) cI 120 nw, ra_I (g 37) cZ 900 yo, ra_I (g 36) cZ 900 yw, ra_J (g 43) cJ 90 be2, ra_J (g 44) cJ 90 bf2]) A) ([.ref mm] : List Value).toArray s 0 0 A) (F0 m 125 ls []) := by
                intro n_11
                induction n_11 with
                | zero => intro jm zyb zg H locs ls hm; exact absurd hm (Nat.not_lt_zero _)
                | succ n_11 ih_lp_10 =>
                  intro jm zyb zg H locs ls hm hjm hbf2 hzyb hP hD hS hl
                  refine lv_iload_n hx hb dX12_laysWays_125 rfl (lv_at hl 0 rfl) ?_
                  refine lv_bipush (v := 10) hx hb dX12_laysWays_126 (by decide) ?_
                  refine lv_icmp_ge (tgt := 242) hx hb dX12_laysWays_128 (by decide) (fun c_12 => ?_) (fun c_12 => ?_)
                  · have c_12 : 10 ≤ jm := (nle 10 jm (Nat.le_of_ble_eq_true rfl) (by omega)).mp c_12
                    refine lv_iinc (v := nI (i + 1)) (lv' := [(2, .int (nI (i + 1))), (3, .int (nI jm)), (1, .int (nI dm - 1)), (0, .ref mm)]) hx hb dX12_laysWays_242 hl (k := 1) rfl (ninc i 1 (by decide)) (by decide) rfl (fun ls hl => ?_)
                    refine lv_goto (tgt := 118) hx hb dX12_laysWays_245 (by decide) ?_
                    exact ih_lp_7 (i + 1) zyb zg _ _ _ (by omega) (by omega) (bf_fin hbf2 (by omega)) (wy_fin hzyb (by omega)) hP hD hS (lv_sub hl [0, 2, 3] rfl)
                  · have c_12 : ¬ (10 ≤ jm) := fun h => c_12 ((nle 10 jm (Nat.le_of_ble_eq_true rfl) (by omega)).mpr h)
                    refine lv_iload_n hx hb dX12_laysWays_131 rfl (lv_at hl 1 rfl) ?_
                    refine lv_if_ne (tgt := 154) hx hb dX12_laysWays_132 (by decide) (fun c_13 => ?_) (fun c_13 => ?_)
                    · have c_13 : ¬ (i = 0) := fun h => c_13 ((neq i 0 (by omega) (Nat.le_of_ble_eq_true rfl)).mpr h)
                      refine lv_lconst (v := 0) hx hb dX12_laysWays_154 (by decide) ?_
                      refine lv_lstore (lv' := [(4, .long 0), (3, .int (nI jm)), (2, .int (nI i)), (1, .int (nI dm - 1)), (0, .ref mm)]) hx hb dX12_laysWays_155 hl (by decide) rfl (fun ls hl => ?_)
                      refine lv_iconst (v := 0) hx hb dX12_laysWays_157 ic_0 ?_
                      refine lv_istore (lv' := [(6, .int 0), (4, .long 0), (3, .int (nI jm)), (2, .int (nI i)), (1, .int (nI dm - 1)), (0, .ref mm)]) hx hb dX12_laysWays_158 hl (by decide) rfl (fun ls hl => ?_)
                      have lp_14 : ∀ (n_15 : Nat) (kk : Nat) (xn : Int64) (H : Heap) (locs : List Loc) (ls : Array Slot), 10 - kk < n_15 → (kk ≤ 10) → (fx (cfN nw yw yo mt_) (a0N nw) i jm kk xn) → va_P D vwCl [ro_ mm 12 (mo g (nI ta) (nI pa) (nI pe) pd (nI pb) pp pf pg pn rt rn (nI cd) sn (nI il) tk am at_ aa mt_ 0 (-1) wt zyb (nI it_) (nI rm) (nI ud) (nI nu) sd (nI qn) (nI qw) qo (nI qb) (nI qp) qa (nI qi) (nI oc)), ra_I (g 20) cI 4 (l4 (nI l0) (nI l1) (nI dm) (nI l3)), ra_I (g 31) cI 120 nw, ra_I (g 37) cZ 900 yo, ra_I (g 36) cZ 900 yw, ra_J (g 43) cJ 90 zb, ra_J (g 44) cJ 90 zg] H → va_D A [ro_ mm 12 (mo g (nI ta) (nI pa) (nI pe) pd (nI pb) pp pf pg pn rt rn (nI cd) sn (nI il) tk am at_ aa mt_ 0 (-1) wt zyb (nI it_) (nI rm) (nI ud) (nI nu) sd (nI qn) (nI qw) qo (nI qb) (nI qp) qa (nI qi) (nI oc)), ra_I (g 20) cI 4 (l4 (nI l0) (nI l1) (nI dm) (nI l3)), ra_I (g 31) cI 120 nw, ra_I (g 37) cZ 900 yo, ra_I (g 36) cZ 900 yw, ra_J (g 43) cJ 90 zb, ra_J (g 44) cJ 90 zg] → va_S A s.heap H locs → lv_has ls 7 [(6, .int (nI kk)), (4, .long xn), (3, .int (nI jm)), (2, .int (nI i)), (1, .int (nI dm - 1)), (0, .ref mm)] → W p l e { frames := 3, cells := 0, slots := 0, locals := 66 } s m ([.ref mm] : List Value).toArray below meth c H locs 0 0 (MQ below (skV D (skT cI cJ cC cZ cS) (fun (u : va_W) => ∃ (wy2 : Int64), ∃ (be2 : Nat → Int64), ∃ (bf2 : Nat → Int64), beOk (cfN nw yw yo mt_) dm 0 be2 ∧ wy2 = nL (wys (cfN nw yw yo mt_) (a0N nw) (dm - 1)) ∧ u = [ro_ mm 12 (mo g (nI ta) (nI pa) (nI pe) pd (nI pb) pp pf pg pn rt rn (nI cd) sn (nI il) tk am at_ aa mt_ 0 (-1) wt wy2 (nI it_) (nI rm) (nI ud) (nI nu) sd (nI qn) (nI qw) qo (nI qb) (nI qp) qa (nI qi) (nI oc)), ra_I (g 20) cI 4 (l4 (nI l0) (nI l1) (nI dm) (nI l3)), ra_I (g 31) cI 120 nw, ra_I (g 37) cZ 900 yo, ra_I (g 36) cZ 900 yw, ra_J (g 43) cJ 90 be2, ra_J (g 44) cJ 90 bf2]) A) ([.ref mm] : List Value).toArray s 0 0 A) (F0 m 160 ls []) := by
                        intro n_15
                        induction n_15 with
                        | zero => intro kk xn H locs ls hm; exact absurd hm (Nat.not_lt_zero _)
                        | succ n_15 ih_lp_14 =>
                          intro kk xn H locs ls hm hkk hfx hP hD hS hl
                          refine lv_iload hx hb dX12_laysWays_160 (lv_at hl 0 rfl) ?_
                          refine lv_bipush (v := 10) hx hb dX12_laysWays_162 (by decide) ?_
                          refine lv_icmp_ge (tgt := 207) hx hb dX12_laysWays_164 (by decide) (fun c_16 => ?_) (fun c_16 => ?_)
                          · have c_16 : 10 ≤ kk := (nle 10 kk (Nat.le_of_ble_eq_true rfl) (by omega)).mp c_16
                            refine lv_aload_n hx hb dX12_laysWays_207 rfl (lv_at hl 5 rfl) ?_
                            refine sk_get (v := .ref (g 44)) (C := RX12) (T := TX12) (N := 92) hx hb hts inlX12 hown hK hP 0 rfl rfl 44 (Nat.le_of_ble_eq_true rfl) w_5_199 rfl dX12_laysWays_208 ?_
                            refine lv_bipush (v := 10) hx hb dX12_laysWays_211 (by decide) ?_
                            refine lv_iload_n hx hb dX12_laysWays_213 rfl (lv_at hl 3 rfl) ?_
                            refine lv_imul hx hb dX12_laysWays_214 ?_
                            refine sk_top (nI (10 * i)) (nmul 10 i) ?_
                            refine lv_iload_n hx hb dX12_laysWays_215 rfl (lv_at hl 2 rfl) ?_
                            refine lv_iadd hx hb dX12_laysWays_216 ?_
                            refine sk_top (nI (10 * i + jm)) (nI_add (10 * i) jm) ?_
                            refine lv_lload hx hb dX12_laysWays_217 (lv_at hl 1 rfl) ?_
                            refine sk_lastP (Pr := bfOk2 (cfN nw yw yo mt_) (a0N nw) i (jm + 1)) (ws' := fun f_17 => [ro_ mm 12 (mo g (nI ta) (nI pa) (nI pe) pd (nI pb) pp pf pg pn rt rn (nI cd) sn (nI il) tk am at_ aa mt_ 0 (-1) wt zyb (nI it_) (nI rm) (nI ud) (nI nu) sd (nI qn) (nI qw) qo (nI qb) (nI qp) qa (nI qi) (nI oc)), ra_I (g 20) cI 4 (l4 (nI l0) (nI l1) (nI dm) (nI l3)), ra_I (g 31) cI 120 nw, ra_I (g 37) cZ 900 yo, ra_I (g 36) cZ 900 yw, ra_J (g 43) cJ 90 zb, ra_J (g 44) cJ 90 f_17]) hx hb hK hP hD hS 6 1 rfl rfl (vin (10 * i + jm) 90 (by omega) (Nat.le_of_ble_eq_true rfl)) (fun _ => rfl) (bf_store hbf2 (by omega) (by omega) (fx_fin hfx (by omega))) dX12_laysWays_219 (fun f_17 H locs hf_18 hP hD hS => ?_)
                            refine lv_iload_n hx hb dX12_laysWays_220 rfl (lv_at hl 3 rfl) ?_
                            refine lv_iload_n hx hb dX12_laysWays_221 rfl (lv_at hl 4 rfl) ?_
                            refine lv_icmp_ne (tgt := 236) hx hb dX12_laysWays_222 (by decide) (fun c_19 => ?_) (fun c_19 => ?_)
                            · have c_19 : ¬ (((i : Nat) : Int) = ((dm : Nat) : Int) - 1) := fun h => c_19 ((ieq (ivn i (by omega)) (ivp dm (by omega))).mpr h)
                              refine lv_iinc (v := nI (jm + 1)) (lv' := [(3, .int (nI (jm + 1))), (6, .int (nI kk)), (4, .long xn), (2, .int (nI i)), (1, .int (nI dm - 1)), (0, .ref mm)]) hx hb dX12_laysWays_236 hl (k := 2) rfl (ninc jm 1 (by decide)) (by decide) rfl (fun ls hl => ?_)
                              refine lv_goto (tgt := 125) hx hb dX12_laysWays_239 (by decide) ?_
                              exact ih_lp_10 (jm + 1) zyb f_17 _ _ _ (by omega) (by omega) hf_18 (wy_keep hzyb (by omega)) hP hD hS (lv_sub hl [0, 3, 4, 5] rfl)
                            · have c_19 : ((i : Nat) : Int) = ((dm : Nat) : Int) - 1 := (ieq (ivn i (by omega)) (ivp dm (by omega))).mp c_19
                              refine lv_aload_n hx hb dX12_laysWays_225 rfl (lv_at hl 5 rfl) ?_
                              refine lv_dup hx hb dX12_laysWays_226 rfl ?_
                              refine sk_get (v := .long zyb) (C := RX12) (T := TX12) (N := 92) hx hb hts inlX12 hown hK hP 0 rfl rfl 45 (Nat.le_of_ble_eq_true rfl) w_5_200 rfl dX12_laysWays_227 ?_
                              refine lv_lload hx hb dX12_laysWays_230 (lv_at hl 1 rfl) ?_
                              refine lv_ladd hx hb dX12_laysWays_232 ?_
                              refine lv_topl (fun v_20 ev_20 => ?_)
                              refine sk_put (ws' := [ro_ mm 12 (mo g (nI ta) (nI pa) (nI pe) pd (nI pb) pp pf pg pn rt rn (nI cd) sn (nI il) tk am at_ aa mt_ 0 (-1) wt v_20 (nI it_) (nI rm) (nI ud) (nI nu) sd (nI qn) (nI qw) qo (nI qb) (nI qp) qa (nI qi) (nI oc)), ra_I (g 20) cI 4 (l4 (nI l0) (nI l1) (nI dm) (nI l3)), ra_I (g 31) cI 120 nw, ra_I (g 37) cZ 900 yo, ra_I (g 36) cZ 900 yw, ra_J (g 43) cJ 90 zb, ra_J (g 44) cJ 90 f_17]) (C := RX12) (T := TX12) (N := 92) (v := .long v_20) hx hb hts inlX12 tyX12 tyX12_ok nmX12 hown hK hP hD hS 0 rfl rfl 45 (Nat.le_of_ble_eq_true rfl) w_5_200 rfl rfl rfl (Nat.le_of_ble_eq_true rfl) rfl dX12_laysWays_233 (fun H locs hP hD hS => ?_)
                              refine lv_iinc (v := nI (jm + 1)) (lv' := [(3, .int (nI (jm + 1))), (6, .int (nI kk)), (4, .long xn), (2, .int (nI i)), (1, .int (nI dm - 1)), (0, .ref mm)]) hx hb dX12_laysWays_236 hl (k := 2) rfl (ninc jm 1 (by decide)) (by decide) rfl (fun ls hl => ?_)
                              refine lv_goto (tgt := 125) hx hb dX12_laysWays_239 (by decide) ?_
                              exact ih_lp_10 (jm + 1) v_20 f_17 _ _ _ (by omega) (by omega) hf_18 (wy_add hzyb (fx_fin hfx (by omega)) (by omega) ev_20) hP hD hS (lv_sub hl [0, 3, 4, 5] rfl)
                          · have c_16 : ¬ (10 ≤ kk) := fun h => c_16 ((nle 10 kk (Nat.le_of_ble_eq_true rfl) (by omega)).mpr h)
                            refine lv_iload_n hx hb dX12_laysWays_167 rfl (lv_at hl 3 rfl) ?_
                            refine lv_if_le (tgt := 207) hx hb dX12_laysWays_168 (by decide) (fun c_21 => ?_) (fun c_21 => ?_)
                            · have c_21 : i ≤ 0 := (nle i 0 (by omega) (Nat.le_of_ble_eq_true rfl)).mp c_21
                              refine lv_aload_n hx hb dX12_laysWays_207 rfl (lv_at hl 5 rfl) ?_
                              refine sk_get (v := .ref (g 44)) (C := RX12) (T := TX12) (N := 92) hx hb hts inlX12 hown hK hP 0 rfl rfl 44 (Nat.le_of_ble_eq_true rfl) w_5_199 rfl dX12_laysWays_208 ?_
                              refine lv_bipush (v := 10) hx hb dX12_laysWays_211 (by decide) ?_
                              refine lv_iload_n hx hb dX12_laysWays_213 rfl (lv_at hl 3 rfl) ?_
                              refine lv_imul hx hb dX12_laysWays_214 ?_
                              refine sk_top (nI (10 * i)) (nmul 10 i) ?_
                              refine lv_iload_n hx hb dX12_laysWays_215 rfl (lv_at hl 2 rfl) ?_
                              refine lv_iadd hx hb dX12_laysWays_216 ?_
                              refine sk_top (nI (10 * i + jm)) (nI_add (10 * i) jm) ?_
                              refine lv_lload hx hb dX12_laysWays_217 (lv_at hl 1 rfl) ?_
                              refine sk_lastP (Pr := bfOk2 (cfN nw yw yo mt_) (a0N nw) i (jm + 1)) (ws' := fun f_22 => [ro_ mm 12 (mo g (nI ta) (nI pa) (nI pe) pd (nI pb) pp pf pg pn rt rn (nI cd) sn (nI il) tk am at_ aa mt_ 0 (-1) wt zyb (nI it_) (nI rm) (nI ud) (nI nu) sd (nI qn) (nI qw) qo (nI qb) (nI qp) qa (nI qi) (nI oc)), ra_I (g 20) cI 4 (l4 (nI l0) (nI l1) (nI dm) (nI l3)), ra_I (g 31) cI 120 nw, ra_I (g 37) cZ 900 yo, ra_I (g 36) cZ 900 yw, ra_J (g 43) cJ 90 zb, ra_J (g 44) cJ 90 f_22]) hx hb hK hP hD hS 6 1 rfl rfl (vin (10 * i + jm) 90 (by omega) (Nat.le_of_ble_eq_true rfl)) (fun _ => rfl) (bf_store hbf2 (by omega) (by omega) (fx_fin hfx (by omega))) dX12_laysWays_219 (fun f_22 H locs hf_23 hP hD hS => ?_)
                              refine lv_iload_n hx hb dX12_laysWays_220 rfl (lv_at hl 3 rfl) ?_
                              refine lv_iload_n hx hb dX12_laysWays_221 rfl (lv_at hl 4 rfl) ?_
                              refine lv_icmp_ne (tgt := 236) hx hb dX12_laysWays_222 (by decide) (fun c_24 => ?_) (fun c_24 => ?_)
                              · have c_24 : ¬ (((i : Nat) : Int) = ((dm : Nat) : Int) - 1) := fun h => c_24 ((ieq (ivn i (by omega)) (ivp dm (by omega))).mpr h)
                                refine lv_iinc (v := nI (jm + 1)) (lv' := [(3, .int (nI (jm + 1))), (6, .int (nI kk)), (4, .long xn), (2, .int (nI i)), (1, .int (nI dm - 1)), (0, .ref mm)]) hx hb dX12_laysWays_236 hl (k := 2) rfl (ninc jm 1 (by decide)) (by decide) rfl (fun ls hl => ?_)
                                refine lv_goto (tgt := 125) hx hb dX12_laysWays_239 (by decide) ?_
                                exact ih_lp_10 (jm + 1) zyb f_22 _ _ _ (by omega) (by omega) hf_23 (wy_keep hzyb (by omega)) hP hD hS (lv_sub hl [0, 3, 4, 5] rfl)
                              · have c_24 : ((i : Nat) : Int) = ((dm : Nat) : Int) - 1 := (ieq (ivn i (by omega)) (ivp dm (by omega))).mp c_24
                                refine lv_aload_n hx hb dX12_laysWays_225 rfl (lv_at hl 5 rfl) ?_
                                refine lv_dup hx hb dX12_laysWays_226 rfl ?_
                                refine sk_get (v := .long zyb) (C := RX12) (T := TX12) (N := 92) hx hb hts inlX12 hown hK hP 0 rfl rfl 45 (Nat.le_of_ble_eq_true rfl) w_5_200 rfl dX12_laysWays_227 ?_
                                refine lv_lload hx hb dX12_laysWays_230 (lv_at hl 1 rfl) ?_
                                refine lv_ladd hx hb dX12_laysWays_232 ?_
                                refine lv_topl (fun v_25 ev_25 => ?_)
                                refine sk_put (ws' := [ro_ mm 12 (mo g (nI ta) (nI pa) (nI pe) pd (nI pb) pp pf pg pn rt rn (nI cd) sn (nI il) tk am at_ aa mt_ 0 (-1) wt v_25 (nI it_) (nI rm) (nI ud) (nI nu) sd (nI qn) (nI qw) qo (nI qb) (nI qp) qa (nI qi) (nI oc)), ra_I (g 20) cI 4 (l4 (nI l0) (nI l1) (nI dm) (nI l3)), ra_I (g 31) cI 120 nw, ra_I (g 37) cZ 900 yo, ra_I (g 36) cZ 900 yw, ra_J (g 43) cJ 90 zb, ra_J (g 44) cJ 90 f_22]) (C := RX12) (T := TX12) (N := 92) (v := .long v_25) hx hb hts inlX12 tyX12 tyX12_ok nmX12 hown hK hP hD hS 0 rfl rfl 45 (Nat.le_of_ble_eq_true rfl) w_5_200 rfl rfl rfl (Nat.le_of_ble_eq_true rfl) rfl dX12_laysWays_233 (fun H locs hP hD hS => ?_)
                                refine lv_iinc (v := nI (jm + 1)) (lv' := [(3, .int (nI (jm + 1))), (6, .int (nI kk)), (4, .long xn), (2, .int (nI i)), (1, .int (nI dm - 1)), (0, .ref mm)]) hx hb dX12_laysWays_236 hl (k := 2) rfl (ninc jm 1 (by decide)) (by decide) rfl (fun ls hl => ?_)
                                refine lv_goto (tgt := 125) hx hb dX12_laysWays_239 (by decide) ?_
                                exact ih_lp_10 (jm + 1) v_25 f_22 _ _ _ (by omega) (by omega) hf_23 (wy_add hzyb (fx_fin hfx (by omega)) (by omega) ev_25) hP hD hS (lv_sub hl [0, 3, 4, 5] rfl)
                            · have c_21 : ¬ (i ≤ 0) := fun h => c_21 ((nle i 0 (by omega) (Nat.le_of_ble_eq_true rfl)).mpr h)
                              refine lv_aload_n hx hb dX12_laysWays_171 rfl (lv_at hl 5 rfl) ?_
                              refine lv_iload_n hx hb dX12_laysWays_172 rfl (lv_at hl 3 rfl) ?_
                              refine lv_iload hx hb dX12_laysWays_173 (lv_at hl 0 rfl) ?_
                              refine lv_iload_n hx hb dX12_laysWays_175 rfl (lv_at hl 2 rfl) ?_
                              refine sk_Vi (q0 := 0) (n := 3) (rest := []) (wr := fmR om_7_5c _) ⟨hx, hb, hml, hown, hts⟩ hl.1 (c_m_canFollow0 l D cI cJ cC cZ cS mm g ta pa pe pd pb pp pf pg pn rt rn cd sn il tk am at_ aa mt_ wt zyb it_ rm ud nu sd qn qw qo qb qp qa qi oc i kk jm nw yo yw (by omega) (by omega) (by omega) hnw) w_7_201 w_7_203 w_0_85 w_1_14 w_7_204 hd_X12_canFollow_3 ⟨⟨(Nat.le_of_ble_eq_true rfl), (Nat.le_of_ble_eq_true rfl)⟩, (Nat.le_of_ble_eq_true rfl), (Nat.le_of_ble_eq_true rfl)⟩ hK hP hD hS hA (fmT om_7_5c 0) (fmF om_7_5c 0) (fm_C1 rfl rfl) (fm_R rfl rfl) (fm_nT om_7_5c 0) (fm_nF om_7_5c 0) (fm_di om_7_5c 0) rfl rfl rfl rfl (Nat.le_of_ble_eq_true rfl) dX12_laysWays_176 (fun r_27 u H locs hw hP hD hS => ?_)
                              refine exE hw (fun b_26 hw1 => anE hw1 (fun hb1_28 hw2 => anE hw2 (fun hb2_29 hw3 => anE hw3 (fun er_31 eu_30 => ?_))))
                              clear hw hw1 hw2 hw3
                              subst er_31
                              refine o_mgE (ws' := [ro_ mm 12 (mo g (nI ta) (nI pa) (nI pe) pd (nI pb) pp pf pg pn rt rn (nI cd) sn (nI il) tk am at_ aa mt_ 0 (-1) wt zyb (nI it_) (nI rm) (nI ud) (nI nu) sd (nI qn) (nI qw) qo (nI qb) (nI qp) qa (nI qi) (nI oc)), ra_I (g 20) cI 4 (l4 (nI l0) (nI l1) (nI dm) (nI l3)), ra_I (g 31) cI 120 nw, ra_I (g 37) cZ 900 yo, ra_I (g 36) cZ 900 yw, ra_J (g 43) cJ 90 zb, ra_J (g 44) cJ 90 zg]) eu_30 hP hD rfl (fun hP hD => ?_)
                              refine lv_if_eq (tgt := 201) hx hb dX12_laysWays_179 (by decide) (fun c_32 => ?_) (fun c_32 => ?_)
                              · have c_32 : b_26 = 0 := (neq b_26 0 (by omega) (Nat.le_of_ble_eq_true rfl)).mp c_32
                                refine lv_iinc (v := nI (kk + 1)) (lv' := [(6, .int (nI (kk + 1))), (4, .long xn), (3, .int (nI jm)), (2, .int (nI i)), (1, .int (nI dm - 1)), (0, .ref mm)]) hx hb dX12_laysWays_201 hl (k := 0) rfl (ninc kk 1 (by decide)) (by decide) rfl (fun ls hl => ?_)
                                refine lv_goto (tgt := 160) hx hb dX12_laysWays_204 (by decide) ?_
                                exact ih_lp_14 (kk + 1) xn _ _ _ (by omega) (by omega) (fx_no hfx (by omega) (or_0 hb1_28 (by omega))) hP hD hS (lv_sub hl [0, 1, 2, 3, 4, 5] rfl)
                              · have c_32 : ¬ (b_26 = 0) := fun h => c_32 ((neq b_26 0 (by omega) (Nat.le_of_ble_eq_true rfl)).mpr h)
                                refine lv_lload hx hb dX12_laysWays_182 (lv_at hl 1 rfl) ?_
                                refine lv_aload_n hx hb dX12_laysWays_184 rfl (lv_at hl 5 rfl) ?_
                                refine sk_get (v := .ref (g 44)) (C := RX12) (T := TX12) (N := 92) hx hb hts inlX12 hown hK hP 0 rfl rfl 44 (Nat.le_of_ble_eq_true rfl) w_5_199 rfl dX12_laysWays_185 ?_
                                refine lv_bipush (v := 10) hx hb dX12_laysWays_188 (by decide) ?_
                                refine lv_iload_n hx hb dX12_laysWays_190 rfl (lv_at hl 3 rfl) ?_
                                refine lv_iconst (v := 1) hx hb dX12_laysWays_191 ic_1 ?_
                                refine lv_isub hx hb dX12_laysWays_192 ?_
                                refine sk_top (nI (i - 1)) (nsub i 1 (by omega)) ?_
                                refine lv_imul hx hb dX12_laysWays_193 ?_
                                refine sk_top (nI (10 * (i - 1))) (nmul 10 (i - 1)) ?_
                                refine lv_iload hx hb dX12_laysWays_194 (lv_at hl 0 rfl) ?_
                                refine lv_iadd hx hb dX12_laysWays_196 ?_
                                refine sk_top (nI (10 * (i - 1) + kk)) (nI_add (10 * (i - 1)) kk) ?_
                                refine va_lald hx hb hK.1 hP 6 1 rfl rfl (vin (10 * (i - 1) + kk) 90 (by omega) (Nat.le_of_ble_eq_true rfl)) dX12_laysWays_197 ?_
                                refine lv_topl (fun v_33 ev_33 => ?_)
                                refine lv_ladd hx hb dX12_laysWays_198 ?_
                                refine lv_topl (fun v_34 ev_34 => ?_)
                                refine lv_lstore (lv' := [(4, .long v_34), (6, .int (nI kk)), (3, .int (nI jm)), (2, .int (nI i)), (1, .int (nI dm - 1)), (0, .ref mm)]) hx hb dX12_laysWays_199 hl (by decide) rfl (fun ls hl => ?_)
                                refine lv_iinc (v := nI (kk + 1)) (lv' := [(6, .int (nI (kk + 1))), (4, .long v_34), (3, .int (nI jm)), (2, .int (nI i)), (1, .int (nI dm - 1)), (0, .ref mm)]) hx hb dX12_laysWays_201 hl (k := 1) rfl (ninc kk 1 (by decide)) (by decide) rfl (fun ls hl => ?_)
                                refine lv_goto (tgt := 160) hx hb dX12_laysWays_204 (by decide) ?_
                                exact ih_lp_14 (kk + 1) v_34 _ _ _ (by omega) (by omega) (fx_yes hfx (by omega) (or_1 hb1_28 (by omega)) (bf_get hbf2.1 (by omega) (by omega) (by omega) ev_33) ev_34) hP hD hS (lv_sub hl [0, 1, 2, 3, 4, 5] rfl)
                      exact lp_14 (10 - 0 + 1) 0 0 _ _ _ (Nat.lt_succ_self _) (by omega) (fx_3 (by omega)) hP hD hS (lv_sub hl [0, 1, 2, 3, 4, 5] rfl)
                    · have c_13 : i = 0 := (neq i 0 (by omega) (Nat.le_of_ble_eq_true rfl)).mp c_13
                      refine lv_aload_n hx hb dX12_laysWays_135 rfl (lv_at hl 3 rfl) ?_
                      refine lv_iconst (v := 0) hx hb dX12_laysWays_136 ic_0 ?_
                      refine lv_aload_n hx hb dX12_laysWays_137 rfl (lv_at hl 3 rfl) ?_
                      refine sk_get (v := .ref (g 31)) (C := RX12) (T := TX12) (N := 92) hx hb hts inlX12 hown hK hP 0 rfl rfl 31 (Nat.le_of_ble_eq_true rfl) w_5_186 rfl dX12_laysWays_138 ?_
                      refine lv_iconst (v := 1) hx hb dX12_laysWays_141 ic_1 ?_
                      refine va_iald hx hb hK.1 hP 2 0 rfl rfl (by unfold vp_in; decide) dX12_laysWays_142 ?_
                      obtain ⟨k_35, hk_35, ek_35⟩ := nowOk_1 hnw
                      refine sk_top (nI k_35) ek_35 ?_
                      refine lv_iload_n hx hb dX12_laysWays_143 rfl (lv_at hl 0 rfl) ?_
                      refine sk_Vi (q0 := 0) (n := 3) (rest := []) (wr := fmR om_7_5c _) ⟨hx, hb, hml, hown, hts⟩ hl.1 (c_m_canFollow0 l D cI cJ cC cZ cS mm g ta pa pe pd pb pp pf pg pn rt rn cd sn il tk am at_ aa mt_ wt zyb it_ rm ud nu sd qn qw qo qb qp qa qi oc 0 k_35 jm nw yo yw (by omega) (by omega) (by omega) hnw) w_7_201 w_7_203 w_0_85 w_1_14 w_7_204 hd_X12_canFollow_3 ⟨⟨(Nat.le_of_ble_eq_true rfl), (Nat.le_of_ble_eq_true rfl)⟩, (Nat.le_of_ble_eq_true rfl), (Nat.le_of_ble_eq_true rfl)⟩ hK hP hD hS hA (fmT om_7_5c 0) (fmF om_7_5c 0) (fm_C1 rfl rfl) (fm_R rfl rfl) (fm_nT om_7_5c 0) (fm_nF om_7_5c 0) (fm_di om_7_5c 0) rfl rfl rfl rfl (Nat.le_of_ble_eq_true rfl) dX12_laysWays_144 (fun r_37 u H locs hw hP hD hS => ?_)
                      refine exE hw (fun b_36 hw1 => anE hw1 (fun hb1_38 hw2 => anE hw2 (fun hb2_39 hw3 => anE hw3 (fun er_41 eu_40 => ?_))))
                      clear hw hw1 hw2 hw3
                      subst er_41
                      refine o_mgE (ws' := [ro_ mm 12 (mo g (nI ta) (nI pa) (nI pe) pd (nI pb) pp pf pg pn rt rn (nI cd) sn (nI il) tk am at_ aa mt_ 0 (-1) wt zyb (nI it_) (nI rm) (nI ud) (nI nu) sd (nI qn) (nI qw) qo (nI qb) (nI qp) qa (nI qi) (nI oc)), ra_I (g 20) cI 4 (l4 (nI l0) (nI l1) (nI dm) (nI l3)), ra_I (g 31) cI 120 nw, ra_I (g 37) cZ 900 yo, ra_I (g 36) cZ 900 yw, ra_J (g 43) cJ 90 zb, ra_J (g 44) cJ 90 zg]) eu_40 hP hD rfl (fun hP hD => ?_)
                      have ha0 := a0_eq ek_35 hk_35
                      refine lv_if_eq (tgt := 154) hx hb dX12_laysWays_147 (by decide) (fun c_42 => ?_) (fun c_42 => ?_)
                      · have c_42 : b_36 = 0 := (neq b_36 0 (by omega) (Nat.le_of_ble_eq_true rfl)).mp c_42
                        refine lv_lconst (v := 0) hx hb dX12_laysWays_154 (by decide) ?_
                        refine lv_lstore (lv' := [(4, .long 0), (3, .int (nI jm)), (2, .int (nI i)), (1, .int (nI dm - 1)), (0, .ref mm)]) hx hb dX12_laysWays_155 hl (by decide) rfl (fun ls hl => ?_)
                        refine lv_iconst (v := 0) hx hb dX12_laysWays_157 ic_0 ?_
                        refine lv_istore (lv' := [(6, .int 0), (4, .long 0), (3, .int (nI jm)), (2, .int (nI i)), (1, .int (nI dm - 1)), (0, .ref mm)]) hx hb dX12_laysWays_158 hl (by decide) rfl (fun ls hl => ?_)
                        have lp_43 : ∀ (n_44 : Nat) (kk : Nat) (xn : Int64) (H : Heap) (locs : List Loc) (ls : Array Slot), 10 - kk < n_44 → (kk ≤ 10) → (fx (cfN nw yw yo mt_) (a0N nw) i jm kk xn) → va_P D vwCl [ro_ mm 12 (mo g (nI ta) (nI pa) (nI pe) pd (nI pb) pp pf pg pn rt rn (nI cd) sn (nI il) tk am at_ aa mt_ 0 (-1) wt zyb (nI it_) (nI rm) (nI ud) (nI nu) sd (nI qn) (nI qw) qo (nI qb) (nI qp) qa (nI qi) (nI oc)), ra_I (g 20) cI 4 (l4 (nI l0) (nI l1) (nI dm) (nI l3)), ra_I (g 31) cI 120 nw, ra_I (g 37) cZ 900 yo, ra_I (g 36) cZ 900 yw, ra_J (g 43) cJ 90 zb, ra_J (g 44) cJ 90 zg] H → va_D A [ro_ mm 12 (mo g (nI ta) (nI pa) (nI pe) pd (nI pb) pp pf pg pn rt rn (nI cd) sn (nI il) tk am at_ aa mt_ 0 (-1) wt zyb (nI it_) (nI rm) (nI ud) (nI nu) sd (nI qn) (nI qw) qo (nI qb) (nI qp) qa (nI qi) (nI oc)), ra_I (g 20) cI 4 (l4 (nI l0) (nI l1) (nI dm) (nI l3)), ra_I (g 31) cI 120 nw, ra_I (g 37) cZ 900 yo, ra_I (g 36) cZ 900 yw, ra_J (g 43) cJ 90 zb, ra_J (g 44) cJ 90 zg] → va_S A s.heap H locs → lv_has ls 7 [(6, .int (nI kk)), (4, .long xn), (3, .int (nI jm)), (2, .int (nI i)), (1, .int (nI dm - 1)), (0, .ref mm)] → W p l e { frames := 3, cells := 0, slots := 0, locals := 66 } s m ([.ref mm] : List Value).toArray below meth c H locs 0 0 (MQ below (skV D (skT cI cJ cC cZ cS) (fun (u : va_W) => ∃ (wy2 : Int64), ∃ (be2 : Nat → Int64), ∃ (bf2 : Nat → Int64), beOk (cfN nw yw yo mt_) dm 0 be2 ∧ wy2 = nL (wys (cfN nw yw yo mt_) (a0N nw) (dm - 1)) ∧ u = [ro_ mm 12 (mo g (nI ta) (nI pa) (nI pe) pd (nI pb) pp pf pg pn rt rn (nI cd) sn (nI il) tk am at_ aa mt_ 0 (-1) wt wy2 (nI it_) (nI rm) (nI ud) (nI nu) sd (nI qn) (nI qw) qo (nI qb) (nI qp) qa (nI qi) (nI oc)), ra_I (g 20) cI 4 (l4 (nI l0) (nI l1) (nI dm) (nI l3)), ra_I (g 31) cI 120 nw, ra_I (g 37) cZ 900 yo, ra_I (g 36) cZ 900 yw, ra_J (g 43) cJ 90 be2, ra_J (g 44) cJ 90 bf2]) A) ([.ref mm] : List Value).toArray s 0 0 A) (F0 m 160 ls []) := by
                          intro n_44
                          induction n_44 with
                          | zero => intro kk xn H locs ls hm; exact absurd hm (Nat.not_lt_zero _)
                          | succ n_44 ih_lp_43 =>
                            intro kk xn H locs ls hm hkk hfx hP hD hS hl
                            refine lv_iload hx hb dX12_laysWays_160 (lv_at hl 0 rfl) ?_
                            refine lv_bipush (v := 10) hx hb dX12_laysWays_162 (by decide) ?_
                            refine lv_icmp_ge (tgt := 207) hx hb dX12_laysWays_164 (by decide) (fun c_45 => ?_) (fun c_45 => ?_)
                            · have c_45 : 10 ≤ kk := (nle 10 kk (Nat.le_of_ble_eq_true rfl) (by omega)).mp c_45
                              refine lv_aload_n hx hb dX12_laysWays_207 rfl (lv_at hl 5 rfl) ?_
                              refine sk_get (v := .ref (g 44)) (C := RX12) (T := TX12) (N := 92) hx hb hts inlX12 hown hK hP 0 rfl rfl 44 (Nat.le_of_ble_eq_true rfl) w_5_199 rfl dX12_laysWays_208 ?_
                              refine lv_bipush (v := 10) hx hb dX12_laysWays_211 (by decide) ?_
                              refine lv_iload_n hx hb dX12_laysWays_213 rfl (lv_at hl 3 rfl) ?_
                              refine lv_imul hx hb dX12_laysWays_214 ?_
                              refine sk_top (nI (10 * i)) (nmul 10 i) ?_
                              refine lv_iload_n hx hb dX12_laysWays_215 rfl (lv_at hl 2 rfl) ?_
                              refine lv_iadd hx hb dX12_laysWays_216 ?_
                              refine sk_top (nI (10 * i + jm)) (nI_add (10 * i) jm) ?_
                              refine lv_lload hx hb dX12_laysWays_217 (lv_at hl 1 rfl) ?_
                              refine sk_lastP (Pr := bfOk2 (cfN nw yw yo mt_) (a0N nw) i (jm + 1)) (ws' := fun f_46 => [ro_ mm 12 (mo g (nI ta) (nI pa) (nI pe) pd (nI pb) pp pf pg pn rt rn (nI cd) sn (nI il) tk am at_ aa mt_ 0 (-1) wt zyb (nI it_) (nI rm) (nI ud) (nI nu) sd (nI qn) (nI qw) qo (nI qb) (nI qp) qa (nI qi) (nI oc)), ra_I (g 20) cI 4 (l4 (nI l0) (nI l1) (nI dm) (nI l3)), ra_I (g 31) cI 120 nw, ra_I (g 37) cZ 900 yo, ra_I (g 36) cZ 900 yw, ra_J (g 43) cJ 90 zb, ra_J (g 44) cJ 90 f_46]) hx hb hK hP hD hS 6 1 rfl rfl (vin (10 * i + jm) 90 (by omega) (Nat.le_of_ble_eq_true rfl)) (fun _ => rfl) (bf_store hbf2 (by omega) (by omega) (fx_fin hfx (by omega))) dX12_laysWays_219 (fun f_46 H locs hf_47 hP hD hS => ?_)
                              refine lv_iload_n hx hb dX12_laysWays_220 rfl (lv_at hl 3 rfl) ?_
                              refine lv_iload_n hx hb dX12_laysWays_221 rfl (lv_at hl 4 rfl) ?_
                              refine lv_icmp_ne (tgt := 236) hx hb dX12_laysWays_222 (by decide) (fun c_48 => ?_) (fun c_48 => ?_)
                              · have c_48 : ¬ (((i : Nat) : Int) = ((dm : Nat) : Int) - 1) := fun h => c_48 ((ieq (ivn i (by omega)) (ivp dm (by omega))).mpr h)
                                refine lv_iinc (v := nI (jm + 1)) (lv' := [(3, .int (nI (jm + 1))), (6, .int (nI kk)), (4, .long xn), (2, .int (nI i)), (1, .int (nI dm - 1)), (0, .ref mm)]) hx hb dX12_laysWays_236 hl (k := 2) rfl (ninc jm 1 (by decide)) (by decide) rfl (fun ls hl => ?_)
                                refine lv_goto (tgt := 125) hx hb dX12_laysWays_239 (by decide) ?_
                                exact ih_lp_10 (jm + 1) zyb f_46 _ _ _ (by omega) (by omega) hf_47 (wy_keep hzyb (by omega)) hP hD hS (lv_sub hl [0, 3, 4, 5] rfl)
                              · have c_48 : ((i : Nat) : Int) = ((dm : Nat) : Int) - 1 := (ieq (ivn i (by omega)) (ivp dm (by omega))).mp c_48
                                refine lv_aload_n hx hb dX12_laysWays_225 rfl (lv_at hl 5 rfl) ?_
                                refine lv_dup hx hb dX12_laysWays_226 rfl ?_
                                refine sk_get (v := .long zyb) (C := RX12) (T := TX12) (N := 92) hx hb hts inlX12 hown hK hP 0 rfl rfl 45 (Nat.le_of_ble_eq_true rfl) w_5_200 rfl dX12_laysWays_227 ?_
                                refine lv_lload hx hb dX12_laysWays_230 (lv_at hl 1 rfl) ?_
                                refine lv_ladd hx hb dX12_laysWays_232 ?_
                                refine lv_topl (fun v_49 ev_49 => ?_)
                                refine sk_put (ws' := [ro_ mm 12 (mo g (nI ta) (nI pa) (nI pe) pd (nI pb) pp pf pg pn rt rn (nI cd) sn (nI il) tk am at_ aa mt_ 0 (-1) wt v_49 (nI it_) (nI rm) (nI ud) (nI nu) sd (nI qn) (nI qw) qo (nI qb) (nI qp) qa (nI qi) (nI oc)), ra_I (g 20) cI 4 (l4 (nI l0) (nI l1) (nI dm) (nI l3)), ra_I (g 31) cI 120 nw, ra_I (g 37) cZ 900 yo, ra_I (g 36) cZ 900 yw, ra_J (g 43) cJ 90 zb, ra_J (g 44) cJ 90 f_46]) (C := RX12) (T := TX12) (N := 92) (v := .long v_49) hx hb hts inlX12 tyX12 tyX12_ok nmX12 hown hK hP hD hS 0 rfl rfl 45 (Nat.le_of_ble_eq_true rfl) w_5_200 rfl rfl rfl (Nat.le_of_ble_eq_true rfl) rfl dX12_laysWays_233 (fun H locs hP hD hS => ?_)
                                refine lv_iinc (v := nI (jm + 1)) (lv' := [(3, .int (nI (jm + 1))), (6, .int (nI kk)), (4, .long xn), (2, .int (nI i)), (1, .int (nI dm - 1)), (0, .ref mm)]) hx hb dX12_laysWays_236 hl (k := 2) rfl (ninc jm 1 (by decide)) (by decide) rfl (fun ls hl => ?_)
                                refine lv_goto (tgt := 125) hx hb dX12_laysWays_239 (by decide) ?_
                                exact ih_lp_10 (jm + 1) v_49 f_46 _ _ _ (by omega) (by omega) hf_47 (wy_add hzyb (fx_fin hfx (by omega)) (by omega) ev_49) hP hD hS (lv_sub hl [0, 3, 4, 5] rfl)
                            · have c_45 : ¬ (10 ≤ kk) := fun h => c_45 ((nle 10 kk (Nat.le_of_ble_eq_true rfl) (by omega)).mpr h)
                              refine lv_iload_n hx hb dX12_laysWays_167 rfl (lv_at hl 3 rfl) ?_
                              refine lv_if_le (tgt := 207) hx hb dX12_laysWays_168 (by decide) (fun c_50 => ?_) (fun c_50 => ?_)
                              · have c_50 : i ≤ 0 := (nle i 0 (by omega) (Nat.le_of_ble_eq_true rfl)).mp c_50
                                refine lv_aload_n hx hb dX12_laysWays_207 rfl (lv_at hl 5 rfl) ?_
                                refine sk_get (v := .ref (g 44)) (C := RX12) (T := TX12) (N := 92) hx hb hts inlX12 hown hK hP 0 rfl rfl 44 (Nat.le_of_ble_eq_true rfl) w_5_199 rfl dX12_laysWays_208 ?_
                                refine lv_bipush (v := 10) hx hb dX12_laysWays_211 (by decide) ?_
                                refine lv_iload_n hx hb dX12_laysWays_213 rfl (lv_at hl 3 rfl) ?_
                                refine lv_imul hx hb dX12_laysWays_214 ?_
                                refine sk_top (nI (10 * i)) (nmul 10 i) ?_
                                refine lv_iload_n hx hb dX12_laysWays_215 rfl (lv_at hl 2 rfl) ?_
                                refine lv_iadd hx hb dX12_laysWays_216 ?_
                                refine sk_top (nI (10 * i + jm)) (nI_add (10 * i) jm) ?_
                                refine lv_lload hx hb dX12_laysWays_217 (lv_at hl 1 rfl) ?_
                                refine sk_lastP (Pr := bfOk2 (cfN nw yw yo mt_) (a0N nw) i (jm + 1)) (ws' := fun f_51 => [ro_ mm 12 (mo g (nI ta) (nI pa) (nI pe) pd (nI pb) pp pf pg pn rt rn (nI cd) sn (nI il) tk am at_ aa mt_ 0 (-1) wt zyb (nI it_) (nI rm) (nI ud) (nI nu) sd (nI qn) (nI qw) qo (nI qb) (nI qp) qa (nI qi) (nI oc)), ra_I (g 20) cI 4 (l4 (nI l0) (nI l1) (nI dm) (nI l3)), ra_I (g 31) cI 120 nw, ra_I (g 37) cZ 900 yo, ra_I (g 36) cZ 900 yw, ra_J (g 43) cJ 90 zb, ra_J (g 44) cJ 90 f_51]) hx hb hK hP hD hS 6 1 rfl rfl (vin (10 * i + jm) 90 (by omega) (Nat.le_of_ble_eq_true rfl)) (fun _ => rfl) (bf_store hbf2 (by omega) (by omega) (fx_fin hfx (by omega))) dX12_laysWays_219 (fun f_51 H locs hf_52 hP hD hS => ?_)
                                refine lv_iload_n hx hb dX12_laysWays_220 rfl (lv_at hl 3 rfl) ?_
                                refine lv_iload_n hx hb dX12_laysWays_221 rfl (lv_at hl 4 rfl) ?_
                                refine lv_icmp_ne (tgt := 236) hx hb dX12_laysWays_222 (by decide) (fun c_53 => ?_) (fun c_53 => ?_)
                                · have c_53 : ¬ (((i : Nat) : Int) = ((dm : Nat) : Int) - 1) := fun h => c_53 ((ieq (ivn i (by omega)) (ivp dm (by omega))).mpr h)
                                  refine lv_iinc (v := nI (jm + 1)) (lv' := [(3, .int (nI (jm + 1))), (6, .int (nI kk)), (4, .long xn), (2, .int (nI i)), (1, .int (nI dm - 1)), (0, .ref mm)]) hx hb dX12_laysWays_236 hl (k := 2) rfl (ninc jm 1 (by decide)) (by decide) rfl (fun ls hl => ?_)
                                  refine lv_goto (tgt := 125) hx hb dX12_laysWays_239 (by decide) ?_
                                  exact ih_lp_10 (jm + 1) zyb f_51 _ _ _ (by omega) (by omega) hf_52 (wy_keep hzyb (by omega)) hP hD hS (lv_sub hl [0, 3, 4, 5] rfl)
                                · have c_53 : ((i : Nat) : Int) = ((dm : Nat) : Int) - 1 := (ieq (ivn i (by omega)) (ivp dm (by omega))).mp c_53
                                  refine lv_aload_n hx hb dX12_laysWays_225 rfl (lv_at hl 5 rfl) ?_
                                  refine lv_dup hx hb dX12_laysWays_226 rfl ?_
                                  refine sk_get (v := .long zyb) (C := RX12) (T := TX12) (N := 92) hx hb hts inlX12 hown hK hP 0 rfl rfl 45 (Nat.le_of_ble_eq_true rfl) w_5_200 rfl dX12_laysWays_227 ?_
                                  refine lv_lload hx hb dX12_laysWays_230 (lv_at hl 1 rfl) ?_
                                  refine lv_ladd hx hb dX12_laysWays_232 ?_
                                  refine lv_topl (fun v_54 ev_54 => ?_)
                                  refine sk_put (ws' := [ro_ mm 12 (mo g (nI ta) (nI pa) (nI pe) pd (nI pb) pp pf pg pn rt rn (nI cd) sn (nI il) tk am at_ aa mt_ 0 (-1) wt v_54 (nI it_) (nI rm) (nI ud) (nI nu) sd (nI qn) (nI qw) qo (nI qb) (nI qp) qa (nI qi) (nI oc)), ra_I (g 20) cI 4 (l4 (nI l0) (nI l1) (nI dm) (nI l3)), ra_I (g 31) cI 120 nw, ra_I (g 37) cZ 900 yo, ra_I (g 36) cZ 900 yw, ra_J (g 43) cJ 90 zb, ra_J (g 44) cJ 90 f_51]) (C := RX12) (T := TX12) (N := 92) (v := .long v_54) hx hb hts inlX12 tyX12 tyX12_ok nmX12 hown hK hP hD hS 0 rfl rfl 45 (Nat.le_of_ble_eq_true rfl) w_5_200 rfl rfl rfl (Nat.le_of_ble_eq_true rfl) rfl dX12_laysWays_233 (fun H locs hP hD hS => ?_)
                                  refine lv_iinc (v := nI (jm + 1)) (lv' := [(3, .int (nI (jm + 1))), (6, .int (nI kk)), (4, .long xn), (2, .int (nI i)), (1, .int (nI dm - 1)), (0, .ref mm)]) hx hb dX12_laysWays_236 hl (k := 2) rfl (ninc jm 1 (by decide)) (by decide) rfl (fun ls hl => ?_)
                                  refine lv_goto (tgt := 125) hx hb dX12_laysWays_239 (by decide) ?_
                                  exact ih_lp_10 (jm + 1) v_54 f_51 _ _ _ (by omega) (by omega) hf_52 (wy_add hzyb (fx_fin hfx (by omega)) (by omega) ev_54) hP hD hS (lv_sub hl [0, 3, 4, 5] rfl)
                              · have c_50 : ¬ (i ≤ 0) := fun h => c_50 ((nle i 0 (by omega) (Nat.le_of_ble_eq_true rfl)).mpr h)
                                refine lv_aload_n hx hb dX12_laysWays_171 rfl (lv_at hl 5 rfl) ?_
                                refine lv_iload_n hx hb dX12_laysWays_172 rfl (lv_at hl 3 rfl) ?_
                                refine lv_iload hx hb dX12_laysWays_173 (lv_at hl 0 rfl) ?_
                                refine lv_iload_n hx hb dX12_laysWays_175 rfl (lv_at hl 2 rfl) ?_
                                refine sk_Vi (q0 := 0) (n := 3) (rest := []) (wr := fmR om_7_5c _) ⟨hx, hb, hml, hown, hts⟩ hl.1 (c_m_canFollow0 l D cI cJ cC cZ cS mm g ta pa pe pd pb pp pf pg pn rt rn cd sn il tk am at_ aa mt_ wt zyb it_ rm ud nu sd qn qw qo qb qp qa qi oc i kk jm nw yo yw (by omega) (by omega) (by omega) hnw) w_7_201 w_7_203 w_0_85 w_1_14 w_7_204 hd_X12_canFollow_3 ⟨⟨(Nat.le_of_ble_eq_true rfl), (Nat.le_of_ble_eq_true rfl)⟩, (Nat.le_of_ble_eq_true rfl), (Nat.le_of_ble_eq_true rfl)⟩ hK hP hD hS hA (fmT om_7_5c 0) (fmF om_7_5c 0) (fm_C1 rfl rfl) (fm_R rfl rfl) (fm_nT om_7_5c 0) (fm_nF om_7_5c 0) (fm_di om_7_5c 0) rfl rfl rfl rfl (Nat.le_of_ble_eq_true rfl) dX12_laysWays_176 (fun r_56 u H locs hw hP hD hS => ?_)
                                refine exE hw (fun b_55 hw1 => anE hw1 (fun hb1_57 hw2 => anE hw2 (fun hb2_58 hw3 => anE hw3 (fun er_60 eu_59 => ?_))))
                                clear hw hw1 hw2 hw3
                                subst er_60
                                refine o_mgE (ws' := [ro_ mm 12 (mo g (nI ta) (nI pa) (nI pe) pd (nI pb) pp pf pg pn rt rn (nI cd) sn (nI il) tk am at_ aa mt_ 0 (-1) wt zyb (nI it_) (nI rm) (nI ud) (nI nu) sd (nI qn) (nI qw) qo (nI qb) (nI qp) qa (nI qi) (nI oc)), ra_I (g 20) cI 4 (l4 (nI l0) (nI l1) (nI dm) (nI l3)), ra_I (g 31) cI 120 nw, ra_I (g 37) cZ 900 yo, ra_I (g 36) cZ 900 yw, ra_J (g 43) cJ 90 zb, ra_J (g 44) cJ 90 zg]) eu_59 hP hD rfl (fun hP hD => ?_)
                                refine lv_if_eq (tgt := 201) hx hb dX12_laysWays_179 (by decide) (fun c_61 => ?_) (fun c_61 => ?_)
                                · have c_61 : b_55 = 0 := (neq b_55 0 (by omega) (Nat.le_of_ble_eq_true rfl)).mp c_61
                                  refine lv_iinc (v := nI (kk + 1)) (lv' := [(6, .int (nI (kk + 1))), (4, .long xn), (3, .int (nI jm)), (2, .int (nI i)), (1, .int (nI dm - 1)), (0, .ref mm)]) hx hb dX12_laysWays_201 hl (k := 0) rfl (ninc kk 1 (by decide)) (by decide) rfl (fun ls hl => ?_)
                                  refine lv_goto (tgt := 160) hx hb dX12_laysWays_204 (by decide) ?_
                                  exact ih_lp_43 (kk + 1) xn _ _ _ (by omega) (by omega) (fx_no hfx (by omega) (or_0 hb1_57 (by omega))) hP hD hS (lv_sub hl [0, 1, 2, 3, 4, 5] rfl)
                                · have c_61 : ¬ (b_55 = 0) := fun h => c_61 ((neq b_55 0 (by omega) (Nat.le_of_ble_eq_true rfl)).mpr h)
                                  refine lv_lload hx hb dX12_laysWays_182 (lv_at hl 1 rfl) ?_
                                  refine lv_aload_n hx hb dX12_laysWays_184 rfl (lv_at hl 5 rfl) ?_
                                  refine sk_get (v := .ref (g 44)) (C := RX12) (T := TX12) (N := 92) hx hb hts inlX12 hown hK hP 0 rfl rfl 44 (Nat.le_of_ble_eq_true rfl) w_5_199 rfl dX12_laysWays_185 ?_
                                  refine lv_bipush (v := 10) hx hb dX12_laysWays_188 (by decide) ?_
                                  refine lv_iload_n hx hb dX12_laysWays_190 rfl (lv_at hl 3 rfl) ?_
                                  refine lv_iconst (v := 1) hx hb dX12_laysWays_191 ic_1 ?_
                                  refine lv_isub hx hb dX12_laysWays_192 ?_
                                  refine sk_top (nI (i - 1)) (nsub i 1 (by omega)) ?_
                                  refine lv_imul hx hb dX12_laysWays_193 ?_
                                  refine sk_top (nI (10 * (i - 1))) (nmul 10 (i - 1)) ?_
                                  refine lv_iload hx hb dX12_laysWays_194 (lv_at hl 0 rfl) ?_
                                  refine lv_iadd hx hb dX12_laysWays_196 ?_
                                  refine sk_top (nI (10 * (i - 1) + kk)) (nI_add (10 * (i - 1)) kk) ?_
                                  refine va_lald hx hb hK.1 hP 6 1 rfl rfl (vin (10 * (i - 1) + kk) 90 (by omega) (Nat.le_of_ble_eq_true rfl)) dX12_laysWays_197 ?_
                                  refine lv_topl (fun v_62 ev_62 => ?_)
                                  refine lv_ladd hx hb dX12_laysWays_198 ?_
                                  refine lv_topl (fun v_63 ev_63 => ?_)
                                  refine lv_lstore (lv' := [(4, .long v_63), (6, .int (nI kk)), (3, .int (nI jm)), (2, .int (nI i)), (1, .int (nI dm - 1)), (0, .ref mm)]) hx hb dX12_laysWays_199 hl (by decide) rfl (fun ls hl => ?_)
                                  refine lv_iinc (v := nI (kk + 1)) (lv' := [(6, .int (nI (kk + 1))), (4, .long v_63), (3, .int (nI jm)), (2, .int (nI i)), (1, .int (nI dm - 1)), (0, .ref mm)]) hx hb dX12_laysWays_201 hl (k := 1) rfl (ninc kk 1 (by decide)) (by decide) rfl (fun ls hl => ?_)
                                  refine lv_goto (tgt := 160) hx hb dX12_laysWays_204 (by decide) ?_
                                  exact ih_lp_43 (kk + 1) v_63 _ _ _ (by omega) (by omega) (fx_yes hfx (by omega) (or_1 hb1_57 (by omega)) (bf_get hbf2.1 (by omega) (by omega) (by omega) ev_62) ev_63) hP hD hS (lv_sub hl [0, 1, 2, 3, 4, 5] rfl)
                        exact lp_43 (10 - 0 + 1) 0 0 _ _ _ (Nat.lt_succ_self _) (by omega) (fx_2 (by omega) (by rw [← ha0]; exact or_0 hb1_38 (by omega))) hP hD hS (lv_sub hl [0, 1, 2, 3, 4, 5] rfl)
                      · have c_42 : ¬ (b_36 = 0) := fun h => c_42 ((neq b_36 0 (by omega) (Nat.le_of_ble_eq_true rfl)).mpr h)
                        refine lv_lconst (v := 1) hx hb dX12_laysWays_150 (by decide) ?_
                        refine lv_goto (tgt := 155) hx hb dX12_laysWays_151 (by decide) ?_
                        refine lv_lstore (lv' := [(4, .long 1), (3, .int (nI jm)), (2, .int (nI i)), (1, .int (nI dm - 1)), (0, .ref mm)]) hx hb dX12_laysWays_155 hl (by decide) rfl (fun ls hl => ?_)
                        refine lv_iconst (v := 0) hx hb dX12_laysWays_157 ic_0 ?_
                        refine lv_istore (lv' := [(6, .int 0), (4, .long 1), (3, .int (nI jm)), (2, .int (nI i)), (1, .int (nI dm - 1)), (0, .ref mm)]) hx hb dX12_laysWays_158 hl (by decide) rfl (fun ls hl => ?_)
                        have lp_64 : ∀ (n_65 : Nat) (kk : Nat) (xn : Int64) (H : Heap) (locs : List Loc) (ls : Array Slot), 10 - kk < n_65 → (kk ≤ 10) → (fx (cfN nw yw yo mt_) (a0N nw) i jm kk xn) → va_P D vwCl [ro_ mm 12 (mo g (nI ta) (nI pa) (nI pe) pd (nI pb) pp pf pg pn rt rn (nI cd) sn (nI il) tk am at_ aa mt_ 0 (-1) wt zyb (nI it_) (nI rm) (nI ud) (nI nu) sd (nI qn) (nI qw) qo (nI qb) (nI qp) qa (nI qi) (nI oc)), ra_I (g 20) cI 4 (l4 (nI l0) (nI l1) (nI dm) (nI l3)), ra_I (g 31) cI 120 nw, ra_I (g 37) cZ 900 yo, ra_I (g 36) cZ 900 yw, ra_J (g 43) cJ 90 zb, ra_J (g 44) cJ 90 zg] H → va_D A [ro_ mm 12 (mo g (nI ta) (nI pa) (nI pe) pd (nI pb) pp pf pg pn rt rn (nI cd) sn (nI il) tk am at_ aa mt_ 0 (-1) wt zyb (nI it_) (nI rm) (nI ud) (nI nu) sd (nI qn) (nI qw) qo (nI qb) (nI qp) qa (nI qi) (nI oc)), ra_I (g 20) cI 4 (l4 (nI l0) (nI l1) (nI dm) (nI l3)), ra_I (g 31) cI 120 nw, ra_I (g 37) cZ 900 yo, ra_I (g 36) cZ 900 yw, ra_J (g 43) cJ 90 zb, ra_J (g 44) cJ 90 zg] → va_S A s.heap H locs → lv_has ls 7 [(6, .int (nI kk)), (4, .long xn), (3, .int (nI jm)), (2, .int (nI i)), (1, .int (nI dm - 1)), (0, .ref mm)] → W p l e { frames := 3, cells := 0, slots := 0, locals := 66 } s m ([.ref mm] : List Value).toArray below meth c H locs 0 0 (MQ below (skV D (skT cI cJ cC cZ cS) (fun (u : va_W) => ∃ (wy2 : Int64), ∃ (be2 : Nat → Int64), ∃ (bf2 : Nat → Int64), beOk (cfN nw yw yo mt_) dm 0 be2 ∧ wy2 = nL (wys (cfN nw yw yo mt_) (a0N nw) (dm - 1)) ∧ u = [ro_ mm 12 (mo g (nI ta) (nI pa) (nI pe) pd (nI pb) pp pf pg pn rt rn (nI cd) sn (nI il) tk am at_ aa mt_ 0 (-1) wt wy2 (nI it_) (nI rm) (nI ud) (nI nu) sd (nI qn) (nI qw) qo (nI qb) (nI qp) qa (nI qi) (nI oc)), ra_I (g 20) cI 4 (l4 (nI l0) (nI l1) (nI dm) (nI l3)), ra_I (g 31) cI 120 nw, ra_I (g 37) cZ 900 yo, ra_I (g 36) cZ 900 yw, ra_J (g 43) cJ 90 be2, ra_J (g 44) cJ 90 bf2]) A) ([.ref mm] : List Value).toArray s 0 0 A) (F0 m 160 ls []) := by
                          intro n_65
                          induction n_65 with
                          | zero => intro kk xn H locs ls hm; exact absurd hm (Nat.not_lt_zero _)
                          | succ n_65 ih_lp_64 =>
                            intro kk xn H locs ls hm hkk hfx hP hD hS hl
                            refine lv_iload hx hb dX12_laysWays_160 (lv_at hl 0 rfl) ?_
                            refine lv_bipush (v := 10) hx hb dX12_laysWays_162 (by decide) ?_
                            refine lv_icmp_ge (tgt := 207) hx hb dX12_laysWays_164 (by decide) (fun c_66 => ?_) (fun c_66 => ?_)
                            · have c_66 : 10 ≤ kk := (nle 10 kk (Nat.le_of_ble_eq_true rfl) (by omega)).mp c_66
                              refine lv_aload_n hx hb dX12_laysWays_207 rfl (lv_at hl 5 rfl) ?_
                              refine sk_get (v := .ref (g 44)) (C := RX12) (T := TX12) (N := 92) hx hb hts inlX12 hown hK hP 0 rfl rfl 44 (Nat.le_of_ble_eq_true rfl) w_5_199 rfl dX12_laysWays_208 ?_
                              refine lv_bipush (v := 10) hx hb dX12_laysWays_211 (by decide) ?_
                              refine lv_iload_n hx hb dX12_laysWays_213 rfl (lv_at hl 3 rfl) ?_
                              refine lv_imul hx hb dX12_laysWays_214 ?_
                              refine sk_top (nI (10 * i)) (nmul 10 i) ?_
                              refine lv_iload_n hx hb dX12_laysWays_215 rfl (lv_at hl 2 rfl) ?_
                              refine lv_iadd hx hb dX12_laysWays_216 ?_
                              refine sk_top (nI (10 * i + jm)) (nI_add (10 * i) jm) ?_
                              refine lv_lload hx hb dX12_laysWays_217 (lv_at hl 1 rfl) ?_
                              refine sk_lastP (Pr := bfOk2 (cfN nw yw yo mt_) (a0N nw) i (jm + 1)) (ws' := fun f_67 => [ro_ mm 12 (mo g (nI ta) (nI pa) (nI pe) pd (nI pb) pp pf pg pn rt rn (nI cd) sn (nI il) tk am at_ aa mt_ 0 (-1) wt zyb (nI it_) (nI rm) (nI ud) (nI nu) sd (nI qn) (nI qw) qo (nI qb) (nI qp) qa (nI qi) (nI oc)), ra_I (g 20) cI 4 (l4 (nI l0) (nI l1) (nI dm) (nI l3)), ra_I (g 31) cI 120 nw, ra_I (g 37) cZ 900 yo, ra_I (g 36) cZ 900 yw, ra_J (g 43) cJ 90 zb, ra_J (g 44) cJ 90 f_67]) hx hb hK hP hD hS 6 1 rfl rfl (vin (10 * i + jm) 90 (by omega) (Nat.le_of_ble_eq_true rfl)) (fun _ => rfl) (bf_store hbf2 (by omega) (by omega) (fx_fin hfx (by omega))) dX12_laysWays_219 (fun f_67 H locs hf_68 hP hD hS => ?_)
                              refine lv_iload_n hx hb dX12_laysWays_220 rfl (lv_at hl 3 rfl) ?_
                              refine lv_iload_n hx hb dX12_laysWays_221 rfl (lv_at hl 4 rfl) ?_
                              refine lv_icmp_ne (tgt := 236) hx hb dX12_laysWays_222 (by decide) (fun c_69 => ?_) (fun c_69 => ?_)
                              · have c_69 : ¬ (((i : Nat) : Int) = ((dm : Nat) : Int) - 1) := fun h => c_69 ((ieq (ivn i (by omega)) (ivp dm (by omega))).mpr h)
                                refine lv_iinc (v := nI (jm + 1)) (lv' := [(3, .int (nI (jm + 1))), (6, .int (nI kk)), (4, .long xn), (2, .int (nI i)), (1, .int (nI dm - 1)), (0, .ref mm)]) hx hb dX12_laysWays_236 hl (k := 2) rfl (ninc jm 1 (by decide)) (by decide) rfl (fun ls hl => ?_)
                                refine lv_goto (tgt := 125) hx hb dX12_laysWays_239 (by decide) ?_
                                exact ih_lp_10 (jm + 1) zyb f_67 _ _ _ (by omega) (by omega) hf_68 (wy_keep hzyb (by omega)) hP hD hS (lv_sub hl [0, 3, 4, 5] rfl)
                              · have c_69 : ((i : Nat) : Int) = ((dm : Nat) : Int) - 1 := (ieq (ivn i (by omega)) (ivp dm (by omega))).mp c_69
                                refine lv_aload_n hx hb dX12_laysWays_225 rfl (lv_at hl 5 rfl) ?_
                                refine lv_dup hx hb dX12_laysWays_226 rfl ?_
                                refine sk_get (v := .long zyb) (C := RX12) (T := TX12) (N := 92) hx hb hts inlX12 hown hK hP 0 rfl rfl 45 (Nat.le_of_ble_eq_true rfl) w_5_200 rfl dX12_laysWays_227 ?_
                                refine lv_lload hx hb dX12_laysWays_230 (lv_at hl 1 rfl) ?_
                                refine lv_ladd hx hb dX12_laysWays_232 ?_
                                refine lv_topl (fun v_70 ev_70 => ?_)
                                refine sk_put (ws' := [ro_ mm 12 (mo g (nI ta) (nI pa) (nI pe) pd (nI pb) pp pf pg pn rt rn (nI cd) sn (nI il) tk am at_ aa mt_ 0 (-1) wt v_70 (nI it_) (nI rm) (nI ud) (nI nu) sd (nI qn) (nI qw) qo (nI qb) (nI qp) qa (nI qi) (nI oc)), ra_I (g 20) cI 4 (l4 (nI l0) (nI l1) (nI dm) (nI l3)), ra_I (g 31) cI 120 nw, ra_I (g 37) cZ 900 yo, ra_I (g 36) cZ 900 yw, ra_J (g 43) cJ 90 zb, ra_J (g 44) cJ 90 f_67]) (C := RX12) (T := TX12) (N := 92) (v := .long v_70) hx hb hts inlX12 tyX12 tyX12_ok nmX12 hown hK hP hD hS 0 rfl rfl 45 (Nat.le_of_ble_eq_true rfl) w_5_200 rfl rfl rfl (Nat.le_of_ble_eq_true rfl) rfl dX12_laysWays_233 (fun H locs hP hD hS => ?_)
                                refine lv_iinc (v := nI (jm + 1)) (lv' := [(3, .int (nI (jm + 1))), (6, .int (nI kk)), (4, .long xn), (2, .int (nI i)), (1, .int (nI dm - 1)), (0, .ref mm)]) hx hb dX12_laysWays_236 hl (k := 2) rfl (ninc jm 1 (by decide)) (by decide) rfl (fun ls hl => ?_)
                                refine lv_goto (tgt := 125) hx hb dX12_laysWays_239 (by decide) ?_
                                exact ih_lp_10 (jm + 1) v_70 f_67 _ _ _ (by omega) (by omega) hf_68 (wy_add hzyb (fx_fin hfx (by omega)) (by omega) ev_70) hP hD hS (lv_sub hl [0, 3, 4, 5] rfl)
                            · have c_66 : ¬ (10 ≤ kk) := fun h => c_66 ((nle 10 kk (Nat.le_of_ble_eq_true rfl) (by omega)).mpr h)
                              refine lv_iload_n hx hb dX12_laysWays_167 rfl (lv_at hl 3 rfl) ?_
                              refine lv_if_le (tgt := 207) hx hb dX12_laysWays_168 (by decide) (fun c_71 => ?_) (fun c_71 => ?_)
                              · have c_71 : i ≤ 0 := (nle i 0 (by omega) (Nat.le_of_ble_eq_true rfl)).mp c_71
                                refine lv_aload_n hx hb dX12_laysWays_207 rfl (lv_at hl 5 rfl) ?_
                                refine sk_get (v := .ref (g 44)) (C := RX12) (T := TX12) (N := 92) hx hb hts inlX12 hown hK hP 0 rfl rfl 44 (Nat.le_of_ble_eq_true rfl) w_5_199 rfl dX12_laysWays_208 ?_
                                refine lv_bipush (v := 10) hx hb dX12_laysWays_211 (by decide) ?_
                                refine lv_iload_n hx hb dX12_laysWays_213 rfl (lv_at hl 3 rfl) ?_
                                refine lv_imul hx hb dX12_laysWays_214 ?_
                                refine sk_top (nI (10 * i)) (nmul 10 i) ?_
                                refine lv_iload_n hx hb dX12_laysWays_215 rfl (lv_at hl 2 rfl) ?_
                                refine lv_iadd hx hb dX12_laysWays_216 ?_
                                refine sk_top (nI (10 * i + jm)) (nI_add (10 * i) jm) ?_
                                refine lv_lload hx hb dX12_laysWays_217 (lv_at hl 1 rfl) ?_
                                refine sk_lastP (Pr := bfOk2 (cfN nw yw yo mt_) (a0N nw) i (jm + 1)) (ws' := fun f_72 => [ro_ mm 12 (mo g (nI ta) (nI pa) (nI pe) pd (nI pb) pp pf pg pn rt rn (nI cd) sn (nI il) tk am at_ aa mt_ 0 (-1) wt zyb (nI it_) (nI rm) (nI ud) (nI nu) sd (nI qn) (nI qw) qo (nI qb) (nI qp) qa (nI qi) (nI oc)), ra_I (g 20) cI 4 (l4 (nI l0) (nI l1) (nI dm) (nI l3)), ra_I (g 31) cI 120 nw, ra_I (g 37) cZ 900 yo, ra_I (g 36) cZ 900 yw, ra_J (g 43) cJ 90 zb, ra_J (g 44) cJ 90 f_72]) hx hb hK hP hD hS 6 1 rfl rfl (vin (10 * i + jm) 90 (by omega) (Nat.le_of_ble_eq_true rfl)) (fun _ => rfl) (bf_store hbf2 (by omega) (by omega) (fx_fin hfx (by omega))) dX12_laysWays_219 (fun f_72 H locs hf_73 hP hD hS => ?_)
                                refine lv_iload_n hx hb dX12_laysWays_220 rfl (lv_at hl 3 rfl) ?_
                                refine lv_iload_n hx hb dX12_laysWays_221 rfl (lv_at hl 4 rfl) ?_
                                refine lv_icmp_ne (tgt := 236) hx hb dX12_laysWays_222 (by decide) (fun c_74 => ?_) (fun c_74 => ?_)
                                · have c_74 : ¬ (((i : Nat) : Int) = ((dm : Nat) : Int) - 1) := fun h => c_74 ((ieq (ivn i (by omega)) (ivp dm (by omega))).mpr h)
                                  refine lv_iinc (v := nI (jm + 1)) (lv' := [(3, .int (nI (jm + 1))), (6, .int (nI kk)), (4, .long xn), (2, .int (nI i)), (1, .int (nI dm - 1)), (0, .ref mm)]) hx hb dX12_laysWays_236 hl (k := 2) rfl (ninc jm 1 (by decide)) (by decide) rfl (fun ls hl => ?_)
                                  refine lv_goto (tgt := 125) hx hb dX12_laysWays_239 (by decide) ?_
                                  exact ih_lp_10 (jm + 1) zyb f_72 _ _ _ (by omega) (by omega) hf_73 (wy_keep hzyb (by omega)) hP hD hS (lv_sub hl [0, 3, 4, 5] rfl)
                                · have c_74 : ((i : Nat) : Int) = ((dm : Nat) : Int) - 1 := (ieq (ivn i (by omega)) (ivp dm (by omega))).mp c_74
                                  refine lv_aload_n hx hb dX12_laysWays_225 rfl (lv_at hl 5 rfl) ?_
                                  refine lv_dup hx hb dX12_laysWays_226 rfl ?_
                                  refine sk_get (v := .long zyb) (C := RX12) (T := TX12) (N := 92) hx hb hts inlX12 hown hK hP 0 rfl rfl 45 (Nat.le_of_ble_eq_true rfl) w_5_200 rfl dX12_laysWays_227 ?_
                                  refine lv_lload hx hb dX12_laysWays_230 (lv_at hl 1 rfl) ?_
                                  refine lv_ladd hx hb dX12_laysWays_232 ?_
                                  refine lv_topl (fun v_75 ev_75 => ?_)
                                  refine sk_put (ws' := [ro_ mm 12 (mo g (nI ta) (nI pa) (nI pe) pd (nI pb) pp pf pg pn rt rn (nI cd) sn (nI il) tk am at_ aa mt_ 0 (-1) wt v_75 (nI it_) (nI rm) (nI ud) (nI nu) sd (nI qn) (nI qw) qo (nI qb) (nI qp) qa (nI qi) (nI oc)), ra_I (g 20) cI 4 (l4 (nI l0) (nI l1) (nI dm) (nI l3)), ra_I (g 31) cI 120 nw, ra_I (g 37) cZ 900 yo, ra_I (g 36) cZ 900 yw, ra_J (g 43) cJ 90 zb, ra_J (g 44) cJ 90 f_72]) (C := RX12) (T := TX12) (N := 92) (v := .long v_75) hx hb hts inlX12 tyX12 tyX12_ok nmX12 hown hK hP hD hS 0 rfl rfl 45 (Nat.le_of_ble_eq_true rfl) w_5_200 rfl rfl rfl (Nat.le_of_ble_eq_true rfl) rfl dX12_laysWays_233 (fun H locs hP hD hS => ?_)
                                  refine lv_iinc (v := nI (jm + 1)) (lv' := [(3, .int (nI (jm + 1))), (6, .int (nI kk)), (4, .long xn), (2, .int (nI i)), (1, .int (nI dm - 1)), (0, .ref mm)]) hx hb dX12_laysWays_236 hl (k := 2) rfl (ninc jm 1 (by decide)) (by decide) rfl (fun ls hl => ?_)
                                  refine lv_goto (tgt := 125) hx hb dX12_laysWays_239 (by decide) ?_
                                  exact ih_lp_10 (jm + 1) v_75 f_72 _ _ _ (by omega) (by omega) hf_73 (wy_add hzyb (fx_fin hfx (by omega)) (by omega) ev_75) hP hD hS (lv_sub hl [0, 3, 4, 5] rfl)
                              · have c_71 : ¬ (i ≤ 0) := fun h => c_71 ((nle i 0 (by omega) (Nat.le_of_ble_eq_true rfl)).mpr h)
                                refine lv_aload_n hx hb dX12_laysWays_171 rfl (lv_at hl 5 rfl) ?_
                                refine lv_iload_n hx hb dX12_laysWays_172 rfl (lv_at hl 3 rfl) ?_
                                refine lv_iload hx hb dX12_laysWays_173 (lv_at hl 0 rfl) ?_
                                refine lv_iload_n hx hb dX12_laysWays_175 rfl (lv_at hl 2 rfl) ?_
                                refine sk_Vi (q0 := 0) (n := 3) (rest := []) (wr := fmR om_7_5c _) ⟨hx, hb, hml, hown, hts⟩ hl.1 (c_m_canFollow0 l D cI cJ cC cZ cS mm g ta pa pe pd pb pp pf pg pn rt rn cd sn il tk am at_ aa mt_ wt zyb it_ rm ud nu sd qn qw qo qb qp qa qi oc i kk jm nw yo yw (by omega) (by omega) (by omega) hnw) w_7_201 w_7_203 w_0_85 w_1_14 w_7_204 hd_X12_canFollow_3 ⟨⟨(Nat.le_of_ble_eq_true rfl), (Nat.le_of_ble_eq_true rfl)⟩, (Nat.le_of_ble_eq_true rfl), (Nat.le_of_ble_eq_true rfl)⟩ hK hP hD hS hA (fmT om_7_5c 0) (fmF om_7_5c 0) (fm_C1 rfl rfl) (fm_R rfl rfl) (fm_nT om_7_5c 0) (fm_nF om_7_5c 0) (fm_di om_7_5c 0) rfl rfl rfl rfl (Nat.le_of_ble_eq_true rfl) dX12_laysWays_176 (fun r_77 u H locs hw hP hD hS => ?_)
                                refine exE hw (fun b_76 hw1 => anE hw1 (fun hb1_78 hw2 => anE hw2 (fun hb2_79 hw3 => anE hw3 (fun er_81 eu_80 => ?_))))
                                clear hw hw1 hw2 hw3
                                subst er_81
                                refine o_mgE (ws' := [ro_ mm 12 (mo g (nI ta) (nI pa) (nI pe) pd (nI pb) pp pf pg pn rt rn (nI cd) sn (nI il) tk am at_ aa mt_ 0 (-1) wt zyb (nI it_) (nI rm) (nI ud) (nI nu) sd (nI qn) (nI qw) qo (nI qb) (nI qp) qa (nI qi) (nI oc)), ra_I (g 20) cI 4 (l4 (nI l0) (nI l1) (nI dm) (nI l3)), ra_I (g 31) cI 120 nw, ra_I (g 37) cZ 900 yo, ra_I (g 36) cZ 900 yw, ra_J (g 43) cJ 90 zb, ra_J (g 44) cJ 90 zg]) eu_80 hP hD rfl (fun hP hD => ?_)
                                refine lv_if_eq (tgt := 201) hx hb dX12_laysWays_179 (by decide) (fun c_82 => ?_) (fun c_82 => ?_)
                                · have c_82 : b_76 = 0 := (neq b_76 0 (by omega) (Nat.le_of_ble_eq_true rfl)).mp c_82
                                  refine lv_iinc (v := nI (kk + 1)) (lv' := [(6, .int (nI (kk + 1))), (4, .long xn), (3, .int (nI jm)), (2, .int (nI i)), (1, .int (nI dm - 1)), (0, .ref mm)]) hx hb dX12_laysWays_201 hl (k := 0) rfl (ninc kk 1 (by decide)) (by decide) rfl (fun ls hl => ?_)
                                  refine lv_goto (tgt := 160) hx hb dX12_laysWays_204 (by decide) ?_
                                  exact ih_lp_64 (kk + 1) xn _ _ _ (by omega) (by omega) (fx_no hfx (by omega) (or_0 hb1_78 (by omega))) hP hD hS (lv_sub hl [0, 1, 2, 3, 4, 5] rfl)
                                · have c_82 : ¬ (b_76 = 0) := fun h => c_82 ((neq b_76 0 (by omega) (Nat.le_of_ble_eq_true rfl)).mpr h)
                                  refine lv_lload hx hb dX12_laysWays_182 (lv_at hl 1 rfl) ?_
                                  refine lv_aload_n hx hb dX12_laysWays_184 rfl (lv_at hl 5 rfl) ?_
                                  refine sk_get (v := .ref (g 44)) (C := RX12) (T := TX12) (N := 92) hx hb hts inlX12 hown hK hP 0 rfl rfl 44 (Nat.le_of_ble_eq_true rfl) w_5_199 rfl dX12_laysWays_185 ?_
                                  refine lv_bipush (v := 10) hx hb dX12_laysWays_188 (by decide) ?_
                                  refine lv_iload_n hx hb dX12_laysWays_190 rfl (lv_at hl 3 rfl) ?_
                                  refine lv_iconst (v := 1) hx hb dX12_laysWays_191 ic_1 ?_
                                  refine lv_isub hx hb dX12_laysWays_192 ?_
                                  refine sk_top (nI (i - 1)) (nsub i 1 (by omega)) ?_
                                  refine lv_imul hx hb dX12_laysWays_193 ?_
                                  refine sk_top (nI (10 * (i - 1))) (nmul 10 (i - 1)) ?_
                                  refine lv_iload hx hb dX12_laysWays_194 (lv_at hl 0 rfl) ?_
                                  refine lv_iadd hx hb dX12_laysWays_196 ?_
                                  refine sk_top (nI (10 * (i - 1) + kk)) (nI_add (10 * (i - 1)) kk) ?_
                                  refine va_lald hx hb hK.1 hP 6 1 rfl rfl (vin (10 * (i - 1) + kk) 90 (by omega) (Nat.le_of_ble_eq_true rfl)) dX12_laysWays_197 ?_
                                  refine lv_topl (fun v_83 ev_83 => ?_)
                                  refine lv_ladd hx hb dX12_laysWays_198 ?_
                                  refine lv_topl (fun v_84 ev_84 => ?_)
                                  refine lv_lstore (lv' := [(4, .long v_84), (6, .int (nI kk)), (3, .int (nI jm)), (2, .int (nI i)), (1, .int (nI dm - 1)), (0, .ref mm)]) hx hb dX12_laysWays_199 hl (by decide) rfl (fun ls hl => ?_)
                                  refine lv_iinc (v := nI (kk + 1)) (lv' := [(6, .int (nI (kk + 1))), (4, .long v_84), (3, .int (nI jm)), (2, .int (nI i)), (1, .int (nI dm - 1)), (0, .ref mm)]) hx hb dX12_laysWays_201 hl (k := 1) rfl (ninc kk 1 (by decide)) (by decide) rfl (fun ls hl => ?_)
                                  refine lv_goto (tgt := 160) hx hb dX12_laysWays_204 (by decide) ?_
                                  exact ih_lp_64 (kk + 1) v_84 _ _ _ (by omega) (by omega) (fx_yes hfx (by omega) (or_1 hb1_78 (by omega)) (bf_get hbf2.1 (by omega) (by omega) (by omega) ev_83) ev_84) hP hD hS (lv_sub hl [0, 1, 2, 3, 4, 5] rfl)
                        exact lp_64 (10 - 0 + 1) 0 1 _ _ _ (Nat.lt_succ_self _) (by omega) (fx_1 (by omega) (by rw [← ha0]; exact or_1 hb1_38 (by omega))) hP hD hS (lv_sub hl [0, 1, 2, 3, 4, 5] rfl)
              exact lp_10 (10 - 0 + 1) 0 zy zf _ _ _ (Nat.lt_succ_self _) (by omega) (bf_0 hbf) (wy_0 hzy (by omega)) hP hD hS (lv_sub hl [0, 1, 2, 3] rfl)
        exact lp_7 (dm - 0 + 1) 0 0 bf _ _ _ (Nat.lt_succ_self _) (by omega) (bf_init _ _ _) (wy_init _ _ (by omega)) hP hD hS (lv_sub hl [0, 1, 2] rfl)
      · have c_6 : 1 ≤ dd := npm1 dd c_6
        rw [npred dd (by omega)] at hl
        refine lv_iconst (v := 0) hx hb dX12_laysWays_13 ic_0 ?_
        refine lv_istore_n (lv' := [(3, .int 0), (2, .int (nI (dd - 1))), (1, .int (nI dm - 1)), (0, .ref mm)]) hx hb dX12_laysWays_14 rfl hl (by decide) rfl (fun ls hl => ?_)
        have lp_85 : ∀ (n_86 : Nat) (jm : Nat) (zc : Nat → Int64) (H : Heap) (locs : List Loc) (ls : Array Slot), 10 - jm < n_86 → (jm ≤ 10) → (beOk2 (cfN nw yw yo mt_) dm (dd - 1) jm zc) → va_P D vwCl [ro_ mm 12 (mo g (nI ta) (nI pa) (nI pe) pd (nI pb) pp pf pg pn rt rn (nI cd) sn (nI il) tk am at_ aa mt_ 0 (-1) wt wy (nI it_) (nI rm) (nI ud) (nI nu) sd (nI qn) (nI qw) qo (nI qb) (nI qp) qa (nI qi) (nI oc)), ra_I (g 20) cI 4 (l4 (nI l0) (nI l1) (nI dm) (nI l3)), ra_I (g 31) cI 120 nw, ra_I (g 37) cZ 900 yo, ra_I (g 36) cZ 900 yw, ra_J (g 43) cJ 90 zc, ra_J (g 44) cJ 90 bf] H → va_D A [ro_ mm 12 (mo g (nI ta) (nI pa) (nI pe) pd (nI pb) pp pf pg pn rt rn (nI cd) sn (nI il) tk am at_ aa mt_ 0 (-1) wt wy (nI it_) (nI rm) (nI ud) (nI nu) sd (nI qn) (nI qw) qo (nI qb) (nI qp) qa (nI qi) (nI oc)), ra_I (g 20) cI 4 (l4 (nI l0) (nI l1) (nI dm) (nI l3)), ra_I (g 31) cI 120 nw, ra_I (g 37) cZ 900 yo, ra_I (g 36) cZ 900 yw, ra_J (g 43) cJ 90 zc, ra_J (g 44) cJ 90 bf] → va_S A s.heap H locs → lv_has ls 7 [(3, .int (nI jm)), (2, .int (nI (dd - 1))), (1, .int (nI dm - 1)), (0, .ref mm)] → W p l e { frames := 3, cells := 0, slots := 0, locals := 66 } s m ([.ref mm] : List Value).toArray below meth c H locs 0 0 (MQ below (skV D (skT cI cJ cC cZ cS) (fun (u : va_W) => ∃ (wy2 : Int64), ∃ (be2 : Nat → Int64), ∃ (bf2 : Nat → Int64), beOk (cfN nw yw yo mt_) dm 0 be2 ∧ wy2 = nL (wys (cfN nw yw yo mt_) (a0N nw) (dm - 1)) ∧ u = [ro_ mm 12 (mo g (nI ta) (nI pa) (nI pe) pd (nI pb) pp pf pg pn rt rn (nI cd) sn (nI il) tk am at_ aa mt_ 0 (-1) wt wy2 (nI it_) (nI rm) (nI ud) (nI nu) sd (nI qn) (nI qw) qo (nI qb) (nI qp) qa (nI qi) (nI oc)), ra_I (g 20) cI 4 (l4 (nI l0) (nI l1) (nI dm) (nI l3)), ra_I (g 31) cI 120 nw, ra_I (g 37) cZ 900 yo, ra_I (g 36) cZ 900 yw, ra_J (g 43) cJ 90 be2, ra_J (g 44) cJ 90 bf2]) A) ([.ref mm] : List Value).toArray s 0 0 A) (F0 m 15 ls []) := by
          intro n_86
          induction n_86 with
          | zero => intro jm zc H locs ls hm; exact absurd hm (Nat.not_lt_zero _)
          | succ n_86 ih_lp_85 =>
            intro jm zc H locs ls hm hjm hbe2 hP hD hS hl
            refine lv_iload_n hx hb dX12_laysWays_15 rfl (lv_at hl 0 rfl) ?_
            refine lv_bipush (v := 10) hx hb dX12_laysWays_16 (by decide) ?_
            refine lv_icmp_ge (tgt := 105) hx hb dX12_laysWays_18 (by decide) (fun c_87 => ?_) (fun c_87 => ?_)
            · have c_87 : 10 ≤ jm := (nle 10 jm (Nat.le_of_ble_eq_true rfl) (by omega)).mp c_87
              refine lv_iinc (v := nI (dd - 1) - 1) (lv' := [(2, .int (nI (dd - 1) - 1)), (3, .int (nI jm)), (1, .int (nI dm - 1)), (0, .ref mm)]) hx hb dX12_laysWays_105 hl (k := 1) rfl (ndn _) (by decide) rfl (fun ls hl => ?_)
              refine lv_goto (tgt := 9) hx hb dX12_laysWays_108 (by decide) ?_
              exact ih_lp_4 (dd - 1) zc _ _ _ (by omega) (by omega) (be_fin hbe2 (by omega)) hP hD hS (lv_sub hl [0, 2, 3] rfl)
            · have c_87 : ¬ (10 ≤ jm) := fun h => c_87 ((nle 10 jm (Nat.le_of_ble_eq_true rfl) (by omega)).mpr h)
              refine lv_iload_n hx hb dX12_laysWays_21 rfl (lv_at hl 1 rfl) ?_
              refine lv_iload_n hx hb dX12_laysWays_22 rfl (lv_at hl 2 rfl) ?_
              refine lv_icmp_ne (tgt := 30) hx hb dX12_laysWays_23 (by decide) (fun c_88 => ?_) (fun c_88 => ?_)
              · have c_88 : ¬ (((dd - 1 : Nat) : Int) = ((dm : Nat) : Int) - 1) := fun h => c_88 ((ieq (ivn (dd - 1) (by omega)) (ivp dm (by omega))).mpr h)
                refine lv_lconst (v := 0) hx hb dX12_laysWays_30 (by decide) ?_
                refine lv_lstore (lv' := [(4, .long 0), (3, .int (nI jm)), (2, .int (nI (dd - 1))), (1, .int (nI dm - 1)), (0, .ref mm)]) hx hb dX12_laysWays_31 hl (by decide) rfl (fun ls hl => ?_)
                refine lv_iconst (v := 0) hx hb dX12_laysWays_33 ic_0 ?_
                refine lv_istore (lv' := [(6, .int 0), (4, .long 0), (3, .int (nI jm)), (2, .int (nI (dd - 1))), (1, .int (nI dm - 1)), (0, .ref mm)]) hx hb dX12_laysWays_34 hl (by decide) rfl (fun ls hl => ?_)
                have lp_89 : ∀ (n_90 : Nat) (kk : Nat) (xn : Int64) (H : Heap) (locs : List Loc) (ls : Array Slot), 10 - kk < n_90 → (kk ≤ 10) → (bx (cfN nw yw yo mt_) dm (dd - 1) jm kk xn) → va_P D vwCl [ro_ mm 12 (mo g (nI ta) (nI pa) (nI pe) pd (nI pb) pp pf pg pn rt rn (nI cd) sn (nI il) tk am at_ aa mt_ 0 (-1) wt wy (nI it_) (nI rm) (nI ud) (nI nu) sd (nI qn) (nI qw) qo (nI qb) (nI qp) qa (nI qi) (nI oc)), ra_I (g 20) cI 4 (l4 (nI l0) (nI l1) (nI dm) (nI l3)), ra_I (g 31) cI 120 nw, ra_I (g 37) cZ 900 yo, ra_I (g 36) cZ 900 yw, ra_J (g 43) cJ 90 zc, ra_J (g 44) cJ 90 bf] H → va_D A [ro_ mm 12 (mo g (nI ta) (nI pa) (nI pe) pd (nI pb) pp pf pg pn rt rn (nI cd) sn (nI il) tk am at_ aa mt_ 0 (-1) wt wy (nI it_) (nI rm) (nI ud) (nI nu) sd (nI qn) (nI qw) qo (nI qb) (nI qp) qa (nI qi) (nI oc)), ra_I (g 20) cI 4 (l4 (nI l0) (nI l1) (nI dm) (nI l3)), ra_I (g 31) cI 120 nw, ra_I (g 37) cZ 900 yo, ra_I (g 36) cZ 900 yw, ra_J (g 43) cJ 90 zc, ra_J (g 44) cJ 90 bf] → va_S A s.heap H locs → lv_has ls 7 [(6, .int (nI kk)), (4, .long xn), (3, .int (nI jm)), (2, .int (nI (dd - 1))), (1, .int (nI dm - 1)), (0, .ref mm)] → W p l e { frames := 3, cells := 0, slots := 0, locals := 66 } s m ([.ref mm] : List Value).toArray below meth c H locs 0 0 (MQ below (skV D (skT cI cJ cC cZ cS) (fun (u : va_W) => ∃ (wy2 : Int64), ∃ (be2 : Nat → Int64), ∃ (bf2 : Nat → Int64), beOk (cfN nw yw yo mt_) dm 0 be2 ∧ wy2 = nL (wys (cfN nw yw yo mt_) (a0N nw) (dm - 1)) ∧ u = [ro_ mm 12 (mo g (nI ta) (nI pa) (nI pe) pd (nI pb) pp pf pg pn rt rn (nI cd) sn (nI il) tk am at_ aa mt_ 0 (-1) wt wy2 (nI it_) (nI rm) (nI ud) (nI nu) sd (nI qn) (nI qw) qo (nI qb) (nI qp) qa (nI qi) (nI oc)), ra_I (g 20) cI 4 (l4 (nI l0) (nI l1) (nI dm) (nI l3)), ra_I (g 31) cI 120 nw, ra_I (g 37) cZ 900 yo, ra_I (g 36) cZ 900 yw, ra_J (g 43) cJ 90 be2, ra_J (g 44) cJ 90 bf2]) A) ([.ref mm] : List Value).toArray s 0 0 A) (F0 m 36 ls []) := by
                  intro n_90
                  induction n_90 with
                  | zero => intro kk xn H locs ls hm; exact absurd hm (Nat.not_lt_zero _)
                  | succ n_90 ih_lp_89 =>
                    intro kk xn H locs ls hm hkk hbx hP hD hS hl
                    refine lv_iload hx hb dX12_laysWays_36 (lv_at hl 0 rfl) ?_
                    refine lv_bipush (v := 10) hx hb dX12_laysWays_38 (by decide) ?_
                    refine lv_icmp_ge (tgt := 86) hx hb dX12_laysWays_40 (by decide) (fun c_91 => ?_) (fun c_91 => ?_)
                    · have c_91 : 10 ≤ kk := (nle 10 kk (Nat.le_of_ble_eq_true rfl) (by omega)).mp c_91
                      refine lv_aload_n hx hb dX12_laysWays_86 rfl (lv_at hl 5 rfl) ?_
                      refine sk_get (v := .ref (g 43)) (C := RX12) (T := TX12) (N := 92) hx hb hts inlX12 hown hK hP 0 rfl rfl 43 (Nat.le_of_ble_eq_true rfl) w_5_198 rfl dX12_laysWays_87 ?_
                      refine lv_bipush (v := 10) hx hb dX12_laysWays_90 (by decide) ?_
                      refine lv_iload_n hx hb dX12_laysWays_92 rfl (lv_at hl 3 rfl) ?_
                      refine lv_imul hx hb dX12_laysWays_93 ?_
                      refine sk_top (nI (10 * (dd - 1))) (nmul 10 (dd - 1)) ?_
                      refine lv_iload_n hx hb dX12_laysWays_94 rfl (lv_at hl 2 rfl) ?_
                      refine lv_iadd hx hb dX12_laysWays_95 ?_
                      refine sk_top (nI (10 * (dd - 1) + jm)) (nI_add (10 * (dd - 1)) jm) ?_
                      refine lv_lload hx hb dX12_laysWays_96 (lv_at hl 1 rfl) ?_
                      refine sk_lastP (Pr := beOk2 (cfN nw yw yo mt_) dm (dd - 1) (jm + 1)) (ws' := fun f_92 => [ro_ mm 12 (mo g (nI ta) (nI pa) (nI pe) pd (nI pb) pp pf pg pn rt rn (nI cd) sn (nI il) tk am at_ aa mt_ 0 (-1) wt wy (nI it_) (nI rm) (nI ud) (nI nu) sd (nI qn) (nI qw) qo (nI qb) (nI qp) qa (nI qi) (nI oc)), ra_I (g 20) cI 4 (l4 (nI l0) (nI l1) (nI dm) (nI l3)), ra_I (g 31) cI 120 nw, ra_I (g 37) cZ 900 yo, ra_I (g 36) cZ 900 yw, ra_J (g 43) cJ 90 f_92, ra_J (g 44) cJ 90 bf]) hx hb hK hP hD hS 5 1 rfl rfl (vin (10 * (dd - 1) + jm) 90 (by omega) (Nat.le_of_ble_eq_true rfl)) (fun _ => rfl) (be_store hbe2 (by omega) (by omega) (bx_fin hbx (by omega))) dX12_laysWays_98 (fun f_92 H locs hf_93 hP hD hS => ?_)
                      refine lv_iinc (v := nI (jm + 1)) (lv' := [(3, .int (nI (jm + 1))), (6, .int (nI kk)), (4, .long xn), (2, .int (nI (dd - 1))), (1, .int (nI dm - 1)), (0, .ref mm)]) hx hb dX12_laysWays_99 hl (k := 2) rfl (ninc jm 1 (by decide)) (by decide) rfl (fun ls hl => ?_)
                      refine lv_goto (tgt := 15) hx hb dX12_laysWays_102 (by decide) ?_
                      exact ih_lp_85 (jm + 1) f_92 _ _ _ (by omega) (by omega) hf_93 hP hD hS (lv_sub hl [0, 3, 4, 5] rfl)
                    · have c_91 : ¬ (10 ≤ kk) := fun h => c_91 ((nle 10 kk (Nat.le_of_ble_eq_true rfl) (by omega)).mpr h)
                      refine lv_iload_n hx hb dX12_laysWays_43 rfl (lv_at hl 3 rfl) ?_
                      refine lv_iload_n hx hb dX12_laysWays_44 rfl (lv_at hl 4 rfl) ?_
                      refine lv_icmp_ge (tgt := 86) hx hb dX12_laysWays_45 (by decide) (fun c_94 => ?_) (fun c_94 => ?_)
                      · have c_94 : ((dm : Nat) : Int) - 1 ≤ ((dd - 1 : Nat) : Int) := (ile (ivp dm (by omega)) (ivn (dd - 1) (by omega))).mp c_94
                        refine lv_aload_n hx hb dX12_laysWays_86 rfl (lv_at hl 5 rfl) ?_
                        refine sk_get (v := .ref (g 43)) (C := RX12) (T := TX12) (N := 92) hx hb hts inlX12 hown hK hP 0 rfl rfl 43 (Nat.le_of_ble_eq_true rfl) w_5_198 rfl dX12_laysWays_87 ?_
                        refine lv_bipush (v := 10) hx hb dX12_laysWays_90 (by decide) ?_
                        refine lv_iload_n hx hb dX12_laysWays_92 rfl (lv_at hl 3 rfl) ?_
                        refine lv_imul hx hb dX12_laysWays_93 ?_
                        refine sk_top (nI (10 * (dd - 1))) (nmul 10 (dd - 1)) ?_
                        refine lv_iload_n hx hb dX12_laysWays_94 rfl (lv_at hl 2 rfl) ?_
                        refine lv_iadd hx hb dX12_laysWays_95 ?_
                        refine sk_top (nI (10 * (dd - 1) + jm)) (nI_add (10 * (dd - 1)) jm) ?_
                        refine lv_lload hx hb dX12_laysWays_96 (lv_at hl 1 rfl) ?_
                        refine sk_lastP (Pr := beOk2 (cfN nw yw yo mt_) dm (dd - 1) (jm + 1)) (ws' := fun f_95 => [ro_ mm 12 (mo g (nI ta) (nI pa) (nI pe) pd (nI pb) pp pf pg pn rt rn (nI cd) sn (nI il) tk am at_ aa mt_ 0 (-1) wt wy (nI it_) (nI rm) (nI ud) (nI nu) sd (nI qn) (nI qw) qo (nI qb) (nI qp) qa (nI qi) (nI oc)), ra_I (g 20) cI 4 (l4 (nI l0) (nI l1) (nI dm) (nI l3)), ra_I (g 31) cI 120 nw, ra_I (g 37) cZ 900 yo, ra_I (g 36) cZ 900 yw, ra_J (g 43) cJ 90 f_95, ra_J (g 44) cJ 90 bf]) hx hb hK hP hD hS 5 1 rfl rfl (vin (10 * (dd - 1) + jm) 90 (by omega) (Nat.le_of_ble_eq_true rfl)) (fun _ => rfl) (be_store hbe2 (by omega) (by omega) (bx_fin hbx (by omega))) dX12_laysWays_98 (fun f_95 H locs hf_96 hP hD hS => ?_)
                        refine lv_iinc (v := nI (jm + 1)) (lv' := [(3, .int (nI (jm + 1))), (6, .int (nI kk)), (4, .long xn), (2, .int (nI (dd - 1))), (1, .int (nI dm - 1)), (0, .ref mm)]) hx hb dX12_laysWays_99 hl (k := 2) rfl (ninc jm 1 (by decide)) (by decide) rfl (fun ls hl => ?_)
                        refine lv_goto (tgt := 15) hx hb dX12_laysWays_102 (by decide) ?_
                        exact ih_lp_85 (jm + 1) f_95 _ _ _ (by omega) (by omega) hf_96 hP hD hS (lv_sub hl [0, 3, 4, 5] rfl)
                      · have c_94 : ¬ (((dm : Nat) : Int) - 1 ≤ ((dd - 1 : Nat) : Int)) := fun h => c_94 ((ile (ivp dm (by omega)) (ivn (dd - 1) (by omega))).mpr h)
                        refine lv_aload_n hx hb dX12_laysWays_48 rfl (lv_at hl 5 rfl) ?_
                        refine lv_iload_n hx hb dX12_laysWays_49 rfl (lv_at hl 3 rfl) ?_
                        refine lv_iconst (v := 1) hx hb dX12_laysWays_50 ic_1 ?_
                        refine lv_iadd hx hb dX12_laysWays_51 ?_
                        refine sk_top (nI (dd - 1 + 1)) (nI_add (dd - 1) 1) ?_
                        refine lv_iload_n hx hb dX12_laysWays_52 rfl (lv_at hl 2 rfl) ?_
                        refine lv_iload hx hb dX12_laysWays_53 (lv_at hl 0 rfl) ?_
                        refine sk_Vi (q0 := 0) (n := 3) (rest := []) (wr := fmR om_7_5c _) ⟨hx, hb, hml, hown, hts⟩ hl.1 (c_m_canFollow0 l D cI cJ cC cZ cS mm g ta pa pe pd pb pp pf pg pn rt rn cd sn il tk am at_ aa mt_ wt wy it_ rm ud nu sd qn qw qo qb qp qa qi oc (dd - 1 + 1) jm kk nw yo yw (by omega) (by omega) (by omega) hnw) w_7_201 w_7_203 w_0_85 w_1_14 w_7_204 hd_X12_canFollow_3 ⟨⟨(Nat.le_of_ble_eq_true rfl), (Nat.le_of_ble_eq_true rfl)⟩, (Nat.le_of_ble_eq_true rfl), (Nat.le_of_ble_eq_true rfl)⟩ hK hP hD hS hA (fmT om_7_5c 0) (fmF om_7_5c 0) (fm_C1 rfl rfl) (fm_R rfl rfl) (fm_nT om_7_5c 0) (fm_nF om_7_5c 0) (fm_di om_7_5c 0) rfl rfl rfl rfl (Nat.le_of_ble_eq_true rfl) dX12_laysWays_55 (fun r_98 u H locs hw hP hD hS => ?_)
                        refine exE hw (fun b_97 hw1 => anE hw1 (fun hb1_99 hw2 => anE hw2 (fun hb2_100 hw3 => anE hw3 (fun er_102 eu_101 => ?_))))
                        clear hw hw1 hw2 hw3
                        subst er_102
                        refine o_mgE (ws' := [ro_ mm 12 (mo g (nI ta) (nI pa) (nI pe) pd (nI pb) pp pf pg pn rt rn (nI cd) sn (nI il) tk am at_ aa mt_ 0 (-1) wt wy (nI it_) (nI rm) (nI ud) (nI nu) sd (nI qn) (nI qw) qo (nI qb) (nI qp) qa (nI qi) (nI oc)), ra_I (g 20) cI 4 (l4 (nI l0) (nI l1) (nI dm) (nI l3)), ra_I (g 31) cI 120 nw, ra_I (g 37) cZ 900 yo, ra_I (g 36) cZ 900 yw, ra_J (g 43) cJ 90 zc, ra_J (g 44) cJ 90 bf]) eu_101 hP hD rfl (fun hP hD => ?_)
                        refine lv_if_eq (tgt := 80) hx hb dX12_laysWays_58 (by decide) (fun c_103 => ?_) (fun c_103 => ?_)
                        · have c_103 : b_97 = 0 := (neq b_97 0 (by omega) (Nat.le_of_ble_eq_true rfl)).mp c_103
                          refine lv_iinc (v := nI (kk + 1)) (lv' := [(6, .int (nI (kk + 1))), (4, .long xn), (3, .int (nI jm)), (2, .int (nI (dd - 1))), (1, .int (nI dm - 1)), (0, .ref mm)]) hx hb dX12_laysWays_80 hl (k := 0) rfl (ninc kk 1 (by decide)) (by decide) rfl (fun ls hl => ?_)
                          refine lv_goto (tgt := 36) hx hb dX12_laysWays_83 (by decide) ?_
                          exact ih_lp_89 (kk + 1) xn _ _ _ (by omega) (by omega) (bx_no hbx (by omega) (or_0 hb1_99 (by omega))) hP hD hS (lv_sub hl [0, 1, 2, 3, 4, 5] rfl)
                        · have c_103 : ¬ (b_97 = 0) := fun h => c_103 ((neq b_97 0 (by omega) (Nat.le_of_ble_eq_true rfl)).mpr h)
                          refine lv_lload hx hb dX12_laysWays_61 (lv_at hl 1 rfl) ?_
                          refine lv_aload_n hx hb dX12_laysWays_63 rfl (lv_at hl 5 rfl) ?_
                          refine sk_get (v := .ref (g 43)) (C := RX12) (T := TX12) (N := 92) hx hb hts inlX12 hown hK hP 0 rfl rfl 43 (Nat.le_of_ble_eq_true rfl) w_5_198 rfl dX12_laysWays_64 ?_
                          refine lv_bipush (v := 10) hx hb dX12_laysWays_67 (by decide) ?_
                          refine lv_iload_n hx hb dX12_laysWays_69 rfl (lv_at hl 3 rfl) ?_
                          refine lv_iconst (v := 1) hx hb dX12_laysWays_70 ic_1 ?_
                          refine lv_iadd hx hb dX12_laysWays_71 ?_
                          refine sk_top (nI (dd - 1 + 1)) (nI_add (dd - 1) 1) ?_
                          refine lv_imul hx hb dX12_laysWays_72 ?_
                          refine sk_top (nI (10 * (dd - 1 + 1))) (nmul 10 (dd - 1 + 1)) ?_
                          refine lv_iload hx hb dX12_laysWays_73 (lv_at hl 0 rfl) ?_
                          refine lv_iadd hx hb dX12_laysWays_75 ?_
                          refine sk_top (nI (10 * (dd - 1 + 1) + kk)) (nI_add (10 * (dd - 1 + 1)) kk) ?_
                          refine va_lald hx hb hK.1 hP 5 1 rfl rfl (vin (10 * (dd - 1 + 1) + kk) 90 (by omega) (Nat.le_of_ble_eq_true rfl)) dX12_laysWays_76 ?_
                          refine lv_topl (fun v_104 ev_104 => ?_)
                          refine lv_ladd hx hb dX12_laysWays_77 ?_
                          refine lv_topl (fun v_105 ev_105 => ?_)
                          refine lv_lstore (lv' := [(4, .long v_105), (6, .int (nI kk)), (3, .int (nI jm)), (2, .int (nI (dd - 1))), (1, .int (nI dm - 1)), (0, .ref mm)]) hx hb dX12_laysWays_78 hl (by decide) rfl (fun ls hl => ?_)
                          refine lv_iinc (v := nI (kk + 1)) (lv' := [(6, .int (nI (kk + 1))), (4, .long v_105), (3, .int (nI jm)), (2, .int (nI (dd - 1))), (1, .int (nI dm - 1)), (0, .ref mm)]) hx hb dX12_laysWays_80 hl (k := 1) rfl (ninc kk 1 (by decide)) (by decide) rfl (fun ls hl => ?_)
                          refine lv_goto (tgt := 36) hx hb dX12_laysWays_83 (by decide) ?_
                          exact ih_lp_89 (kk + 1) v_105 _ _ _ (by omega) (by omega) (bx_yes hbx (by omega) (or_1 hb1_99 (by omega)) (be_get hbe2.1 (by omega) (by omega) (by omega) (by omega) ev_104) ev_105) hP hD hS (lv_sub hl [0, 1, 2, 3, 4, 5] rfl)
                exact lp_89 (10 - 0 + 1) 0 0 _ _ _ (Nat.lt_succ_self _) (by omega) (Or.inr ⟨by omega, rfl⟩) hP hD hS (lv_sub hl [0, 1, 2, 3, 4, 5] rfl)
              · have c_88 : ((dd - 1 : Nat) : Int) = ((dm : Nat) : Int) - 1 := (ieq (ivn (dd - 1) (by omega)) (ivp dm (by omega))).mp c_88
                refine lv_lconst (v := 1) hx hb dX12_laysWays_26 (by decide) ?_
                refine lv_goto (tgt := 31) hx hb dX12_laysWays_27 (by decide) ?_
                refine lv_lstore (lv' := [(4, .long 1), (3, .int (nI jm)), (2, .int (nI (dd - 1))), (1, .int (nI dm - 1)), (0, .ref mm)]) hx hb dX12_laysWays_31 hl (by decide) rfl (fun ls hl => ?_)
                refine lv_iconst (v := 0) hx hb dX12_laysWays_33 ic_0 ?_
                refine lv_istore (lv' := [(6, .int 0), (4, .long 1), (3, .int (nI jm)), (2, .int (nI (dd - 1))), (1, .int (nI dm - 1)), (0, .ref mm)]) hx hb dX12_laysWays_34 hl (by decide) rfl (fun ls hl => ?_)
                have lp_106 : ∀ (n_107 : Nat) (kk : Nat) (xn : Int64) (H : Heap) (locs : List Loc) (ls : Array Slot), 10 - kk < n_107 → (kk ≤ 10) → (bx (cfN nw yw yo mt_) dm (dd - 1) jm kk xn) → va_P D vwCl [ro_ mm 12 (mo g (nI ta) (nI pa) (nI pe) pd (nI pb) pp pf pg pn rt rn (nI cd) sn (nI il) tk am at_ aa mt_ 0 (-1) wt wy (nI it_) (nI rm) (nI ud) (nI nu) sd (nI qn) (nI qw) qo (nI qb) (nI qp) qa (nI qi) (nI oc)), ra_I (g 20) cI 4 (l4 (nI l0) (nI l1) (nI dm) (nI l3)), ra_I (g 31) cI 120 nw, ra_I (g 37) cZ 900 yo, ra_I (g 36) cZ 900 yw, ra_J (g 43) cJ 90 zc, ra_J (g 44) cJ 90 bf] H → va_D A [ro_ mm 12 (mo g (nI ta) (nI pa) (nI pe) pd (nI pb) pp pf pg pn rt rn (nI cd) sn (nI il) tk am at_ aa mt_ 0 (-1) wt wy (nI it_) (nI rm) (nI ud) (nI nu) sd (nI qn) (nI qw) qo (nI qb) (nI qp) qa (nI qi) (nI oc)), ra_I (g 20) cI 4 (l4 (nI l0) (nI l1) (nI dm) (nI l3)), ra_I (g 31) cI 120 nw, ra_I (g 37) cZ 900 yo, ra_I (g 36) cZ 900 yw, ra_J (g 43) cJ 90 zc, ra_J (g 44) cJ 90 bf] → va_S A s.heap H locs → lv_has ls 7 [(6, .int (nI kk)), (4, .long xn), (3, .int (nI jm)), (2, .int (nI (dd - 1))), (1, .int (nI dm - 1)), (0, .ref mm)] → W p l e { frames := 3, cells := 0, slots := 0, locals := 66 } s m ([.ref mm] : List Value).toArray below meth c H locs 0 0 (MQ below (skV D (skT cI cJ cC cZ cS) (fun (u : va_W) => ∃ (wy2 : Int64), ∃ (be2 : Nat → Int64), ∃ (bf2 : Nat → Int64), beOk (cfN nw yw yo mt_) dm 0 be2 ∧ wy2 = nL (wys (cfN nw yw yo mt_) (a0N nw) (dm - 1)) ∧ u = [ro_ mm 12 (mo g (nI ta) (nI pa) (nI pe) pd (nI pb) pp pf pg pn rt rn (nI cd) sn (nI il) tk am at_ aa mt_ 0 (-1) wt wy2 (nI it_) (nI rm) (nI ud) (nI nu) sd (nI qn) (nI qw) qo (nI qb) (nI qp) qa (nI qi) (nI oc)), ra_I (g 20) cI 4 (l4 (nI l0) (nI l1) (nI dm) (nI l3)), ra_I (g 31) cI 120 nw, ra_I (g 37) cZ 900 yo, ra_I (g 36) cZ 900 yw, ra_J (g 43) cJ 90 be2, ra_J (g 44) cJ 90 bf2]) A) ([.ref mm] : List Value).toArray s 0 0 A) (F0 m 36 ls []) := by
                  intro n_107
                  induction n_107 with
                  | zero => intro kk xn H locs ls hm; exact absurd hm (Nat.not_lt_zero _)
                  | succ n_107 ih_lp_106 =>
                    intro kk xn H locs ls hm hkk hbx hP hD hS hl
                    refine lv_iload hx hb dX12_laysWays_36 (lv_at hl 0 rfl) ?_
                    refine lv_bipush (v := 10) hx hb dX12_laysWays_38 (by decide) ?_
                    refine lv_icmp_ge (tgt := 86) hx hb dX12_laysWays_40 (by decide) (fun c_108 => ?_) (fun c_108 => ?_)
                    · have c_108 : 10 ≤ kk := (nle 10 kk (Nat.le_of_ble_eq_true rfl) (by omega)).mp c_108
                      refine lv_aload_n hx hb dX12_laysWays_86 rfl (lv_at hl 5 rfl) ?_
                      refine sk_get (v := .ref (g 43)) (C := RX12) (T := TX12) (N := 92) hx hb hts inlX12 hown hK hP 0 rfl rfl 43 (Nat.le_of_ble_eq_true rfl) w_5_198 rfl dX12_laysWays_87 ?_
                      refine lv_bipush (v := 10) hx hb dX12_laysWays_90 (by decide) ?_
                      refine lv_iload_n hx hb dX12_laysWays_92 rfl (lv_at hl 3 rfl) ?_
                      refine lv_imul hx hb dX12_laysWays_93 ?_
                      refine sk_top (nI (10 * (dd - 1))) (nmul 10 (dd - 1)) ?_
                      refine lv_iload_n hx hb dX12_laysWays_94 rfl (lv_at hl 2 rfl) ?_
                      refine lv_iadd hx hb dX12_laysWays_95 ?_
                      refine sk_top (nI (10 * (dd - 1) + jm)) (nI_add (10 * (dd - 1)) jm) ?_
                      refine lv_lload hx hb dX12_laysWays_96 (lv_at hl 1 rfl) ?_
                      refine sk_lastP (Pr := beOk2 (cfN nw yw yo mt_) dm (dd - 1) (jm + 1)) (ws' := fun f_109 => [ro_ mm 12 (mo g (nI ta) (nI pa) (nI pe) pd (nI pb) pp pf pg pn rt rn (nI cd) sn (nI il) tk am at_ aa mt_ 0 (-1) wt wy (nI it_) (nI rm) (nI ud) (nI nu) sd (nI qn) (nI qw) qo (nI qb) (nI qp) qa (nI qi) (nI oc)), ra_I (g 20) cI 4 (l4 (nI l0) (nI l1) (nI dm) (nI l3)), ra_I (g 31) cI 120 nw, ra_I (g 37) cZ 900 yo, ra_I (g 36) cZ 900 yw, ra_J (g 43) cJ 90 f_109, ra_J (g 44) cJ 90 bf]) hx hb hK hP hD hS 5 1 rfl rfl (vin (10 * (dd - 1) + jm) 90 (by omega) (Nat.le_of_ble_eq_true rfl)) (fun _ => rfl) (be_store hbe2 (by omega) (by omega) (bx_fin hbx (by omega))) dX12_laysWays_98 (fun f_109 H locs hf_110 hP hD hS => ?_)
                      refine lv_iinc (v := nI (jm + 1)) (lv' := [(3, .int (nI (jm + 1))), (6, .int (nI kk)), (4, .long xn), (2, .int (nI (dd - 1))), (1, .int (nI dm - 1)), (0, .ref mm)]) hx hb dX12_laysWays_99 hl (k := 2) rfl (ninc jm 1 (by decide)) (by decide) rfl (fun ls hl => ?_)
                      refine lv_goto (tgt := 15) hx hb dX12_laysWays_102 (by decide) ?_
                      exact ih_lp_85 (jm + 1) f_109 _ _ _ (by omega) (by omega) hf_110 hP hD hS (lv_sub hl [0, 3, 4, 5] rfl)
                    · have c_108 : ¬ (10 ≤ kk) := fun h => c_108 ((nle 10 kk (Nat.le_of_ble_eq_true rfl) (by omega)).mpr h)
                      refine lv_iload_n hx hb dX12_laysWays_43 rfl (lv_at hl 3 rfl) ?_
                      refine lv_iload_n hx hb dX12_laysWays_44 rfl (lv_at hl 4 rfl) ?_
                      refine lv_icmp_ge (tgt := 86) hx hb dX12_laysWays_45 (by decide) (fun c_111 => ?_) (fun c_111 => ?_)
                      · have c_111 : ((dm : Nat) : Int) - 1 ≤ ((dd - 1 : Nat) : Int) := (ile (ivp dm (by omega)) (ivn (dd - 1) (by omega))).mp c_111
                        refine lv_aload_n hx hb dX12_laysWays_86 rfl (lv_at hl 5 rfl) ?_
                        refine sk_get (v := .ref (g 43)) (C := RX12) (T := TX12) (N := 92) hx hb hts inlX12 hown hK hP 0 rfl rfl 43 (Nat.le_of_ble_eq_true rfl) w_5_198 rfl dX12_laysWays_87 ?_
                        refine lv_bipush (v := 10) hx hb dX12_laysWays_90 (by decide) ?_
                        refine lv_iload_n hx hb dX12_laysWays_92 rfl (lv_at hl 3 rfl) ?_
                        refine lv_imul hx hb dX12_laysWays_93 ?_
                        refine sk_top (nI (10 * (dd - 1))) (nmul 10 (dd - 1)) ?_
                        refine lv_iload_n hx hb dX12_laysWays_94 rfl (lv_at hl 2 rfl) ?_
                        refine lv_iadd hx hb dX12_laysWays_95 ?_
                        refine sk_top (nI (10 * (dd - 1) + jm)) (nI_add (10 * (dd - 1)) jm) ?_
                        refine lv_lload hx hb dX12_laysWays_96 (lv_at hl 1 rfl) ?_
                        refine sk_lastP (Pr := beOk2 (cfN nw yw yo mt_) dm (dd - 1) (jm + 1)) (ws' := fun f_112 => [ro_ mm 12 (mo g (nI ta) (nI pa) (nI pe) pd (nI pb) pp pf pg pn rt rn (nI cd) sn (nI il) tk am at_ aa mt_ 0 (-1) wt wy (nI it_) (nI rm) (nI ud) (nI nu) sd (nI qn) (nI qw) qo (nI qb) (nI qp) qa (nI qi) (nI oc)), ra_I (g 20) cI 4 (l4 (nI l0) (nI l1) (nI dm) (nI l3)), ra_I (g 31) cI 120 nw, ra_I (g 37) cZ 900 yo, ra_I (g 36) cZ 900 yw, ra_J (g 43) cJ 90 f_112, ra_J (g 44) cJ 90 bf]) hx hb hK hP hD hS 5 1 rfl rfl (vin (10 * (dd - 1) + jm) 90 (by omega) (Nat.le_of_ble_eq_true rfl)) (fun _ => rfl) (be_store hbe2 (by omega) (by omega) (bx_fin hbx (by omega))) dX12_laysWays_98 (fun f_112 H locs hf_113 hP hD hS => ?_)
                        refine lv_iinc (v := nI (jm + 1)) (lv' := [(3, .int (nI (jm + 1))), (6, .int (nI kk)), (4, .long xn), (2, .int (nI (dd - 1))), (1, .int (nI dm - 1)), (0, .ref mm)]) hx hb dX12_laysWays_99 hl (k := 2) rfl (ninc jm 1 (by decide)) (by decide) rfl (fun ls hl => ?_)
                        refine lv_goto (tgt := 15) hx hb dX12_laysWays_102 (by decide) ?_
                        exact ih_lp_85 (jm + 1) f_112 _ _ _ (by omega) (by omega) hf_113 hP hD hS (lv_sub hl [0, 3, 4, 5] rfl)
                      · have c_111 : ¬ (((dm : Nat) : Int) - 1 ≤ ((dd - 1 : Nat) : Int)) := fun h => c_111 ((ile (ivp dm (by omega)) (ivn (dd - 1) (by omega))).mpr h)
                        refine lv_aload_n hx hb dX12_laysWays_48 rfl (lv_at hl 5 rfl) ?_
                        refine lv_iload_n hx hb dX12_laysWays_49 rfl (lv_at hl 3 rfl) ?_
                        refine lv_iconst (v := 1) hx hb dX12_laysWays_50 ic_1 ?_
                        refine lv_iadd hx hb dX12_laysWays_51 ?_
                        refine sk_top (nI (dd - 1 + 1)) (nI_add (dd - 1) 1) ?_
                        refine lv_iload_n hx hb dX12_laysWays_52 rfl (lv_at hl 2 rfl) ?_
                        refine lv_iload hx hb dX12_laysWays_53 (lv_at hl 0 rfl) ?_
                        refine sk_Vi (q0 := 0) (n := 3) (rest := []) (wr := fmR om_7_5c _) ⟨hx, hb, hml, hown, hts⟩ hl.1 (c_m_canFollow0 l D cI cJ cC cZ cS mm g ta pa pe pd pb pp pf pg pn rt rn cd sn il tk am at_ aa mt_ wt wy it_ rm ud nu sd qn qw qo qb qp qa qi oc (dd - 1 + 1) jm kk nw yo yw (by omega) (by omega) (by omega) hnw) w_7_201 w_7_203 w_0_85 w_1_14 w_7_204 hd_X12_canFollow_3 ⟨⟨(Nat.le_of_ble_eq_true rfl), (Nat.le_of_ble_eq_true rfl)⟩, (Nat.le_of_ble_eq_true rfl), (Nat.le_of_ble_eq_true rfl)⟩ hK hP hD hS hA (fmT om_7_5c 0) (fmF om_7_5c 0) (fm_C1 rfl rfl) (fm_R rfl rfl) (fm_nT om_7_5c 0) (fm_nF om_7_5c 0) (fm_di om_7_5c 0) rfl rfl rfl rfl (Nat.le_of_ble_eq_true rfl) dX12_laysWays_55 (fun r_115 u H locs hw hP hD hS => ?_)
                        refine exE hw (fun b_114 hw1 => anE hw1 (fun hb1_116 hw2 => anE hw2 (fun hb2_117 hw3 => anE hw3 (fun er_119 eu_118 => ?_))))
                        clear hw hw1 hw2 hw3
                        subst er_119
                        refine o_mgE (ws' := [ro_ mm 12 (mo g (nI ta) (nI pa) (nI pe) pd (nI pb) pp pf pg pn rt rn (nI cd) sn (nI il) tk am at_ aa mt_ 0 (-1) wt wy (nI it_) (nI rm) (nI ud) (nI nu) sd (nI qn) (nI qw) qo (nI qb) (nI qp) qa (nI qi) (nI oc)), ra_I (g 20) cI 4 (l4 (nI l0) (nI l1) (nI dm) (nI l3)), ra_I (g 31) cI 120 nw, ra_I (g 37) cZ 900 yo, ra_I (g 36) cZ 900 yw, ra_J (g 43) cJ 90 zc, ra_J (g 44) cJ 90 bf]) eu_118 hP hD rfl (fun hP hD => ?_)
                        refine lv_if_eq (tgt := 80) hx hb dX12_laysWays_58 (by decide) (fun c_120 => ?_) (fun c_120 => ?_)
                        · have c_120 : b_114 = 0 := (neq b_114 0 (by omega) (Nat.le_of_ble_eq_true rfl)).mp c_120
                          refine lv_iinc (v := nI (kk + 1)) (lv' := [(6, .int (nI (kk + 1))), (4, .long xn), (3, .int (nI jm)), (2, .int (nI (dd - 1))), (1, .int (nI dm - 1)), (0, .ref mm)]) hx hb dX12_laysWays_80 hl (k := 0) rfl (ninc kk 1 (by decide)) (by decide) rfl (fun ls hl => ?_)
                          refine lv_goto (tgt := 36) hx hb dX12_laysWays_83 (by decide) ?_
                          exact ih_lp_106 (kk + 1) xn _ _ _ (by omega) (by omega) (bx_no hbx (by omega) (or_0 hb1_116 (by omega))) hP hD hS (lv_sub hl [0, 1, 2, 3, 4, 5] rfl)
                        · have c_120 : ¬ (b_114 = 0) := fun h => c_120 ((neq b_114 0 (by omega) (Nat.le_of_ble_eq_true rfl)).mpr h)
                          refine lv_lload hx hb dX12_laysWays_61 (lv_at hl 1 rfl) ?_
                          refine lv_aload_n hx hb dX12_laysWays_63 rfl (lv_at hl 5 rfl) ?_
                          refine sk_get (v := .ref (g 43)) (C := RX12) (T := TX12) (N := 92) hx hb hts inlX12 hown hK hP 0 rfl rfl 43 (Nat.le_of_ble_eq_true rfl) w_5_198 rfl dX12_laysWays_64 ?_
                          refine lv_bipush (v := 10) hx hb dX12_laysWays_67 (by decide) ?_
                          refine lv_iload_n hx hb dX12_laysWays_69 rfl (lv_at hl 3 rfl) ?_
                          refine lv_iconst (v := 1) hx hb dX12_laysWays_70 ic_1 ?_
                          refine lv_iadd hx hb dX12_laysWays_71 ?_
                          refine sk_top (nI (dd - 1 + 1)) (nI_add (dd - 1) 1) ?_
                          refine lv_imul hx hb dX12_laysWays_72 ?_
                          refine sk_top (nI (10 * (dd - 1 + 1))) (nmul 10 (dd - 1 + 1)) ?_
                          refine lv_iload hx hb dX12_laysWays_73 (lv_at hl 0 rfl) ?_
                          refine lv_iadd hx hb dX12_laysWays_75 ?_
                          refine sk_top (nI (10 * (dd - 1 + 1) + kk)) (nI_add (10 * (dd - 1 + 1)) kk) ?_
                          refine va_lald hx hb hK.1 hP 5 1 rfl rfl (vin (10 * (dd - 1 + 1) + kk) 90 (by omega) (Nat.le_of_ble_eq_true rfl)) dX12_laysWays_76 ?_
                          refine lv_topl (fun v_121 ev_121 => ?_)
                          refine lv_ladd hx hb dX12_laysWays_77 ?_
                          refine lv_topl (fun v_122 ev_122 => ?_)
                          refine lv_lstore (lv' := [(4, .long v_122), (6, .int (nI kk)), (3, .int (nI jm)), (2, .int (nI (dd - 1))), (1, .int (nI dm - 1)), (0, .ref mm)]) hx hb dX12_laysWays_78 hl (by decide) rfl (fun ls hl => ?_)
                          refine lv_iinc (v := nI (kk + 1)) (lv' := [(6, .int (nI (kk + 1))), (4, .long v_122), (3, .int (nI jm)), (2, .int (nI (dd - 1))), (1, .int (nI dm - 1)), (0, .ref mm)]) hx hb dX12_laysWays_80 hl (k := 1) rfl (ninc kk 1 (by decide)) (by decide) rfl (fun ls hl => ?_)
                          refine lv_goto (tgt := 36) hx hb dX12_laysWays_83 (by decide) ?_
                          exact ih_lp_106 (kk + 1) v_122 _ _ _ (by omega) (by omega) (bx_yes hbx (by omega) (or_1 hb1_116 (by omega)) (be_get hbe2.1 (by omega) (by omega) (by omega) (by omega) ev_121) ev_122) hP hD hS (lv_sub hl [0, 1, 2, 3, 4, 5] rfl)
                exact lp_106 (10 - 0 + 1) 0 1 _ _ _ (Nat.lt_succ_self _) (by omega) (Or.inl ⟨by omega, rfl⟩) hP hD hS (lv_sub hl [0, 1, 2, 3, 4, 5] rfl)
        exact lp_85 (10 - 0 + 1) 0 zb _ _ _ (Nat.lt_succ_self _) (by omega) (be_0 hbe (by omega)) hP hD hS (lv_sub hl [0, 1, 2, 3] rfl)
  exact lp_4 (dm + 1) dm be _ _ _ (Nat.lt_succ_self _) (by omega) (be_init _ _ _) hP hD hS (lv_sub hl [0, 1, 2] rfl)
theorem dg_X12_walksTo_0_0 : bqL cX12_walksTo 0 [(0, [42]), (1, [180, 0, 63]), (4, [4]), (5, [46]), (6, [62]), (7, [3]), (8, [54, 4]), (10, [21, 4]), (12, [42]), (13, [182, 1, 59]), (16, [162, 0, 88]), (104, [177]), (19, [3]), (20, [54, 5]), (22, [42]), (23, [21, 4]), (25, [29]), (26, [21, 5]), (28, [182, 1, 122]), (31, [153, 0, 21]), (52, [42]), (53, [21, 4]), (55, [29]), (56, [21, 5]), (58, [182, 1, 122]), (61, [153, 0, 19]), (80, [132, 5, 1]), (83, [167, 255, 195]), (34, [31]), (35, [42]), (36, [180, 0, 82]), (39, [16, 10]), (41, [21, 4]), (43, [104]), (44, [21, 5]), (46, [96]), (47, [47]), (48, [148]), (49, [155, 0, 37]), (86, [42])] = true := by decide +kernel
theorem dX12_walksTo_0 : decode cX12_walksTo 0 = .ok (.aload_n 0, 1) := q_aload_n0 (bat_get dg_X12_walksTo_0_0 0 rfl rfl)
theorem dX12_walksTo_1 : decode cX12_walksTo 1 = .ok (.getfield 63, 3) := q_getfield (bat_get dg_X12_walksTo_0_0 1 rfl rfl) rfl
theorem dX12_walksTo_4 : decode cX12_walksTo 4 = .ok (.iconst 1, 1) := q_iconst1 (bat_get dg_X12_walksTo_0_0 2 rfl rfl)
theorem dX12_walksTo_5 : decode cX12_walksTo 5 = .ok (.iaload, 1) := q_iaload (bat_get dg_X12_walksTo_0_0 3 rfl rfl)
theorem dX12_walksTo_6 : decode cX12_walksTo 6 = .ok (.istore_n 3, 1) := q_istore_n3 (bat_get dg_X12_walksTo_0_0 4 rfl rfl)
theorem dX12_walksTo_7 : decode cX12_walksTo 7 = .ok (.iconst 0, 1) := q_iconst0 (bat_get dg_X12_walksTo_0_0 5 rfl rfl)
theorem dX12_walksTo_8 : decode cX12_walksTo 8 = .ok (.istore 4, 2) := q_istore (bat_get dg_X12_walksTo_0_0 6 rfl rfl)
theorem dX12_walksTo_10 : decode cX12_walksTo 10 = .ok (.iload 4, 2) := q_iload (bat_get dg_X12_walksTo_0_0 7 rfl rfl)
theorem dX12_walksTo_12 : decode cX12_walksTo 12 = .ok (.aload_n 0, 1) := q_aload_n0 (bat_get dg_X12_walksTo_0_0 8 rfl rfl)
theorem dX12_walksTo_13 : decode cX12_walksTo 13 = .ok (.invokevirtual 315, 3) := q_invokevirtual (bat_get dg_X12_walksTo_0_0 9 rfl rfl) rfl
theorem dX12_walksTo_16 : decode cX12_walksTo 16 = .ok (.if_icmp .ge 88, 3) := q_if_icmp_ge (bat_get dg_X12_walksTo_0_0 10 rfl rfl) rfl
theorem dX12_walksTo_104 : decode cX12_walksTo 104 = .ok (.return_, 1) := q_return_ (bat_get dg_X12_walksTo_0_0 11 rfl rfl)
theorem dX12_walksTo_19 : decode cX12_walksTo 19 = .ok (.iconst 0, 1) := q_iconst0 (bat_get dg_X12_walksTo_0_0 12 rfl rfl)
theorem dX12_walksTo_20 : decode cX12_walksTo 20 = .ok (.istore 5, 2) := q_istore (bat_get dg_X12_walksTo_0_0 13 rfl rfl)
theorem dX12_walksTo_22 : decode cX12_walksTo 22 = .ok (.aload_n 0, 1) := q_aload_n0 (bat_get dg_X12_walksTo_0_0 14 rfl rfl)
theorem dX12_walksTo_23 : decode cX12_walksTo 23 = .ok (.iload 4, 2) := q_iload (bat_get dg_X12_walksTo_0_0 15 rfl rfl)
theorem dX12_walksTo_25 : decode cX12_walksTo 25 = .ok (.iload_n 3, 1) := q_iload_n3 (bat_get dg_X12_walksTo_0_0 16 rfl rfl)
theorem dX12_walksTo_26 : decode cX12_walksTo 26 = .ok (.iload 5, 2) := q_iload (bat_get dg_X12_walksTo_0_0 17 rfl rfl)
theorem dX12_walksTo_28 : decode cX12_walksTo 28 = .ok (.invokevirtual 378, 3) := q_invokevirtual (bat_get dg_X12_walksTo_0_0 18 rfl rfl) rfl
theorem dX12_walksTo_31 : decode cX12_walksTo 31 = .ok (.ifCond .eq 21, 3) := q_ifCond_eq (bat_get dg_X12_walksTo_0_0 19 rfl rfl) rfl
theorem dX12_walksTo_52 : decode cX12_walksTo 52 = .ok (.aload_n 0, 1) := q_aload_n0 (bat_get dg_X12_walksTo_0_0 20 rfl rfl)
theorem dX12_walksTo_53 : decode cX12_walksTo 53 = .ok (.iload 4, 2) := q_iload (bat_get dg_X12_walksTo_0_0 21 rfl rfl)
theorem dX12_walksTo_55 : decode cX12_walksTo 55 = .ok (.iload_n 3, 1) := q_iload_n3 (bat_get dg_X12_walksTo_0_0 22 rfl rfl)
theorem dX12_walksTo_56 : decode cX12_walksTo 56 = .ok (.iload 5, 2) := q_iload (bat_get dg_X12_walksTo_0_0 23 rfl rfl)
theorem dX12_walksTo_58 : decode cX12_walksTo 58 = .ok (.invokevirtual 378, 3) := q_invokevirtual (bat_get dg_X12_walksTo_0_0 24 rfl rfl) rfl
theorem dX12_walksTo_61 : decode cX12_walksTo 61 = .ok (.ifCond .eq 19, 3) := q_ifCond_eq (bat_get dg_X12_walksTo_0_0 25 rfl rfl) rfl
theorem dX12_walksTo_80 : decode cX12_walksTo 80 = .ok (.iinc 5 1, 3) := q_iinc (bat_get dg_X12_walksTo_0_0 26 rfl rfl) rfl
theorem dX12_walksTo_83 : decode cX12_walksTo 83 = .ok (.goto (-61), 3) := q_goto (bat_get dg_X12_walksTo_0_0 27 rfl rfl) rfl
theorem dX12_walksTo_34 : decode cX12_walksTo 34 = .ok (.lload_n 1, 1) := q_lload_n1 (bat_get dg_X12_walksTo_0_0 28 rfl rfl)
theorem dX12_walksTo_35 : decode cX12_walksTo 35 = .ok (.aload_n 0, 1) := q_aload_n0 (bat_get dg_X12_walksTo_0_0 29 rfl rfl)
theorem dX12_walksTo_36 : decode cX12_walksTo 36 = .ok (.getfield 82, 3) := q_getfield (bat_get dg_X12_walksTo_0_0 30 rfl rfl) rfl
theorem dX12_walksTo_39 : decode cX12_walksTo 39 = .ok (.bipush 10, 2) := q_bipush (bat_get dg_X12_walksTo_0_0 31 rfl rfl) rfl
theorem dX12_walksTo_41 : decode cX12_walksTo 41 = .ok (.iload 4, 2) := q_iload (bat_get dg_X12_walksTo_0_0 32 rfl rfl)
theorem dX12_walksTo_43 : decode cX12_walksTo 43 = .ok (.imul, 1) := q_imul (bat_get dg_X12_walksTo_0_0 33 rfl rfl)
theorem dX12_walksTo_44 : decode cX12_walksTo 44 = .ok (.iload 5, 2) := q_iload (bat_get dg_X12_walksTo_0_0 34 rfl rfl)
theorem dX12_walksTo_46 : decode cX12_walksTo 46 = .ok (.iadd, 1) := q_iadd (bat_get dg_X12_walksTo_0_0 35 rfl rfl)
theorem dX12_walksTo_47 : decode cX12_walksTo 47 = .ok (.laload, 1) := q_laload (bat_get dg_X12_walksTo_0_0 36 rfl rfl)
theorem dX12_walksTo_48 : decode cX12_walksTo 48 = .ok (.lcmp, 1) := q_lcmp (bat_get dg_X12_walksTo_0_0 37 rfl rfl)
theorem dX12_walksTo_49 : decode cX12_walksTo 49 = .ok (.ifCond .lt 37, 3) := q_ifCond_lt (bat_get dg_X12_walksTo_0_0 38 rfl rfl) rfl
theorem dX12_walksTo_86 : decode cX12_walksTo 86 = .ok (.aload_n 0, 1) := q_aload_n0 (bat_get dg_X12_walksTo_0_0 39 rfl rfl)
theorem dg_X12_walksTo_64_87 : bqL cX12_walksTo 64 [(23, [180, 0, 89]), (26, [21, 4]), (28, [21, 5]), (30, [79]), (31, [21, 5]), (33, [62]), (34, [132, 4, 1]), (37, [167, 255, 165]), (0, [31]), (1, [42]), (2, [180, 0, 82]), (5, [16, 10]), (7, [21, 4]), (9, [104]), (10, [21, 5]), (12, [96]), (13, [47]), (14, [101]), (15, [64])] = true := by decide +kernel
theorem dX12_walksTo_87 : decode cX12_walksTo 87 = .ok (.getfield 89, 3) := q_getfield (bat_get dg_X12_walksTo_64_87 0 rfl rfl) rfl
theorem dX12_walksTo_90 : decode cX12_walksTo 90 = .ok (.iload 4, 2) := q_iload (bat_get dg_X12_walksTo_64_87 1 rfl rfl)
theorem dX12_walksTo_92 : decode cX12_walksTo 92 = .ok (.iload 5, 2) := q_iload (bat_get dg_X12_walksTo_64_87 2 rfl rfl)
theorem dX12_walksTo_94 : decode cX12_walksTo 94 = .ok (.iastore, 1) := q_iastore (bat_get dg_X12_walksTo_64_87 3 rfl rfl)
theorem dX12_walksTo_95 : decode cX12_walksTo 95 = .ok (.iload 5, 2) := q_iload (bat_get dg_X12_walksTo_64_87 4 rfl rfl)
theorem dX12_walksTo_97 : decode cX12_walksTo 97 = .ok (.istore_n 3, 1) := q_istore_n3 (bat_get dg_X12_walksTo_64_87 5 rfl rfl)
theorem dX12_walksTo_98 : decode cX12_walksTo 98 = .ok (.iinc 4 1, 3) := q_iinc (bat_get dg_X12_walksTo_64_87 6 rfl rfl) rfl
theorem dX12_walksTo_101 : decode cX12_walksTo 101 = .ok (.goto (-91), 3) := q_goto (bat_get dg_X12_walksTo_64_87 7 rfl rfl) rfl
theorem dX12_walksTo_64 : decode cX12_walksTo 64 = .ok (.lload_n 1, 1) := q_lload_n1 (bat_get dg_X12_walksTo_64_87 8 rfl rfl)
theorem dX12_walksTo_65 : decode cX12_walksTo 65 = .ok (.aload_n 0, 1) := q_aload_n0 (bat_get dg_X12_walksTo_64_87 9 rfl rfl)
theorem dX12_walksTo_66 : decode cX12_walksTo 66 = .ok (.getfield 82, 3) := q_getfield (bat_get dg_X12_walksTo_64_87 10 rfl rfl) rfl
theorem dX12_walksTo_69 : decode cX12_walksTo 69 = .ok (.bipush 10, 2) := q_bipush (bat_get dg_X12_walksTo_64_87 11 rfl rfl) rfl
theorem dX12_walksTo_71 : decode cX12_walksTo 71 = .ok (.iload 4, 2) := q_iload (bat_get dg_X12_walksTo_64_87 12 rfl rfl)
theorem dX12_walksTo_73 : decode cX12_walksTo 73 = .ok (.imul, 1) := q_imul (bat_get dg_X12_walksTo_64_87 13 rfl rfl)
theorem dX12_walksTo_74 : decode cX12_walksTo 74 = .ok (.iload 5, 2) := q_iload (bat_get dg_X12_walksTo_64_87 14 rfl rfl)
theorem dX12_walksTo_76 : decode cX12_walksTo 76 = .ok (.iadd, 1) := q_iadd (bat_get dg_X12_walksTo_64_87 15 rfl rfl)
theorem dX12_walksTo_77 : decode cX12_walksTo 77 = .ok (.laload, 1) := q_laload (bat_get dg_X12_walksTo_64_87 16 rfl rfl)
theorem dX12_walksTo_78 : decode cX12_walksTo 78 = .ok (.lsub, 1) := q_lsub (bat_get dg_X12_walksTo_64_87 17 rfl rfl)
theorem dX12_walksTo_79 : decode cX12_walksTo 79 = .ok (.lstore_n 1, 1) := q_lstore_n1 (bat_get dg_X12_walksTo_64_87 18 rfl rfl)
theorem w_7_220 : (Cond.code yX12_walksTo cX12_walksTo 6 none) ∈ wsL_law := sk_mem (ck_7 _ (List.mem_of_getElem? (i := 220) rfl)) rfl
set_option maxHeartbeats 4000000 in
set_option maxRecDepth 100000 in
theorem c_m_walksTo (l : Launch) (D : va_G) (cI cJ cC cZ cS : ClassId) (mm : Nat) (g : Nat → Nat) (ta : Nat) (pa : Nat) (pe : Nat) (pd : Int32) (pb : Nat) (pp : Int32) (pf : Int32) (pg : Int32) (pn : Int32) (rt : Int32) (rn : Int32) (cd : Nat) (sn : Int32) (il : Nat) (tk : Int32) (am : Int32) (at_ : Int32) (aa : Int32) (mt_ : Int32) (wt : Int32) (wy : Int64) (it_ : Nat) (rm : Nat) (ud : Nat) (nu : Nat) (sd : Int64) (qn : Nat) (qw : Nat) (qo : Int32) (qb : Nat) (qp : Nat) (qa : Int64) (qi : Nat) (oc : Nat) (x : Int64) (l0 : Nat) (l1 : Nat) (dm : Nat) (l3 : Nat) (nw : Nat → Int32) (yo : Nat → Int32) (yw : Nat → Int32) (be : Nat → Int64) (pt : Nat → Nat) (hdm : dm ≤ 9) (hdm1 : 1 ≤ dm) (hbe : beOk (cfN nw yw yo mt_) dm 0 be) (hwk0 : wk (cfN nw yw yo mt_) dm 0 (a0N nw) 0 x) (hnw : nowOk nw) (hpt : ∀ j, pt j ≤ 9) : skM l yX12_walksTo cX12_walksTo 6 none 3 66 0 0 D (skT cI cJ cC cZ cS) [.ref mm, .long x] [ro_ mm 12 (mo g (nI ta) (nI pa) (nI pe) pd (nI pb) pp pf pg pn rt rn (nI cd) sn (nI il) tk am at_ aa mt_ 0 (-1) wt wy (nI it_) (nI rm) (nI ud) (nI nu) sd (nI qn) (nI qw) qo (nI qb) (nI qp) qa (nI qi) (nI oc)), ra_I (g 20) cI 4 (l4 (nI l0) (nI l1) (nI dm) (nI l3)), ra_I (g 31) cI 120 nw, ra_I (g 37) cZ 900 yo, ra_I (g 36) cZ 900 yw, ra_J (g 43) cJ 90 be, ra_N (g 46) cI 9 pt] (skV D (skT cI cJ cC cZ cS) (fun (u : va_W) => ∃ (pt2 : Nat → Nat), (∀ j, pt2 j ≤ 9) ∧ u = [ro_ mm 12 (mo g (nI ta) (nI pa) (nI pe) pd (nI pb) pp pf pg pn rt rn (nI cd) sn (nI il) tk am at_ aa mt_ 0 (-1) wt wy (nI it_) (nI rm) (nI ud) (nI nu) sd (nI qn) (nI qw) qo (nI qb) (nI qp) qa (nI qi) (nI oc)), ra_I (g 20) cI 4 (l4 (nI l0) (nI l1) (nI dm) (nI l3)), ra_I (g 31) cI 120 nw, ra_I (g 37) cZ 900 yo, ra_I (g 36) cZ 900 yw, ra_J (g 43) cJ 90 be, ra_N (g 46) cI 9 pt2])) := by
  refine skM_of pf_X12_walksTo (Nat.le_of_ble_eq_true rfl) ?_
  intro p e s m below meth c A ls E hP hD hl
  refine skE_el E (fun hx hb hr hml hlocks hin hown hts hK hA => ?_)
  have hown : s.vm.findClass RX12 = some m.cls := hown
  have hS : va_S A s.heap s.heap [] := va_S.rf
  have hl : lv_has ls 6 [(0, .ref mm), (1, .long x)] := hl
  refine lv_aload_n hx hb dX12_walksTo_0 rfl (lv_at hl 0 rfl) ?_
  refine sk_get (v := .ref (g 31)) (C := RX12) (T := TX12) (N := 92) hx hb hts inlX12 hown hK hP 0 rfl rfl 31 (Nat.le_of_ble_eq_true rfl) w_5_186 rfl dX12_walksTo_1 ?_
  refine lv_iconst (v := 1) hx hb dX12_walksTo_4 ic_1 ?_
  refine va_iald hx hb hK.1 hP 2 0 rfl rfl (by unfold vp_in; decide) dX12_walksTo_5 ?_
  obtain ⟨k_1, hk_1, ek_1⟩ := nowOk_1 hnw
  refine sk_top (nI k_1) ek_1 ?_
  have ha0 := a0_eq ek_1 hk_1
  refine lv_istore_n (lv' := [(3, .int (nI k_1)), (0, .ref mm), (1, .long x)]) hx hb dX12_walksTo_6 rfl hl (by decide) rfl (fun ls hl => ?_)
  refine lv_iconst (v := 0) hx hb dX12_walksTo_7 ic_0 ?_
  refine lv_istore (lv' := [(4, .int 0), (3, .int (nI k_1)), (0, .ref mm), (1, .long x)]) hx hb dX12_walksTo_8 hl (by decide) rfl (fun ls hl => ?_)
  have lp_2 : ∀ (n_3 : Nat) (i : Nat) (ah : Nat) (xk : Int64) (zp : Nat → Nat) (H : Heap) (locs : List Loc) (ls : Array Slot), dm - i < n_3 → (∀ j, zp j ≤ 9) → (i ≤ dm) → (ah ≤ 9) → (i < dm → wk (cfN nw yw yo mt_) dm i ah 0 xk) → va_P D vwCl [ro_ mm 12 (mo g (nI ta) (nI pa) (nI pe) pd (nI pb) pp pf pg pn rt rn (nI cd) sn (nI il) tk am at_ aa mt_ 0 (-1) wt wy (nI it_) (nI rm) (nI ud) (nI nu) sd (nI qn) (nI qw) qo (nI qb) (nI qp) qa (nI qi) (nI oc)), ra_I (g 20) cI 4 (l4 (nI l0) (nI l1) (nI dm) (nI l3)), ra_I (g 31) cI 120 nw, ra_I (g 37) cZ 900 yo, ra_I (g 36) cZ 900 yw, ra_J (g 43) cJ 90 be, ra_N (g 46) cI 9 zp] H → va_D A [ro_ mm 12 (mo g (nI ta) (nI pa) (nI pe) pd (nI pb) pp pf pg pn rt rn (nI cd) sn (nI il) tk am at_ aa mt_ 0 (-1) wt wy (nI it_) (nI rm) (nI ud) (nI nu) sd (nI qn) (nI qw) qo (nI qb) (nI qp) qa (nI qi) (nI oc)), ra_I (g 20) cI 4 (l4 (nI l0) (nI l1) (nI dm) (nI l3)), ra_I (g 31) cI 120 nw, ra_I (g 37) cZ 900 yo, ra_I (g 36) cZ 900 yw, ra_J (g 43) cJ 90 be, ra_N (g 46) cI 9 zp] → va_S A s.heap H locs → lv_has ls 6 [(4, .int (nI i)), (3, .int (nI ah)), (0, .ref mm), (1, .long xk)] → W p l e { frames := 3, cells := 0, slots := 0, locals := 66 } s m ([.ref mm, .long x] : List Value).toArray below meth c H locs 0 0 (MQ below (skV D (skT cI cJ cC cZ cS) (fun (u : va_W) => ∃ (pt2 : Nat → Nat), (∀ j, pt2 j ≤ 9) ∧ u = [ro_ mm 12 (mo g (nI ta) (nI pa) (nI pe) pd (nI pb) pp pf pg pn rt rn (nI cd) sn (nI il) tk am at_ aa mt_ 0 (-1) wt wy (nI it_) (nI rm) (nI ud) (nI nu) sd (nI qn) (nI qw) qo (nI qb) (nI qp) qa (nI qi) (nI oc)), ra_I (g 20) cI 4 (l4 (nI l0) (nI l1) (nI dm) (nI l3)), ra_I (g 31) cI 120 nw, ra_I (g 37) cZ 900 yo, ra_I (g 36) cZ 900 yw, ra_J (g 43) cJ 90 be, ra_N (g 46) cI 9 pt2]) A) ([.ref mm, .long x] : List Value).toArray s 0 0 A) (F0 m 10 ls []) := by
    intro n_3
    induction n_3 with
    | zero => intro i ah xk zp H locs ls hm; exact absurd hm (Nat.not_lt_zero _)
    | succ n_3 ih_lp_2 =>
      intro i ah xk zp H locs ls hm hzp hi hah hw10 hP hD hS hl
      refine lv_iload hx hb dX12_walksTo_10 (lv_at hl 0 rfl) ?_
      refine lv_aload_n hx hb dX12_walksTo_12 rfl (lv_at hl 2 rfl) ?_
      refine sk_Vi (q0 := 0) (n := 0) (rest := [.int (nI i)]) (wr := fmR om_7_60 _) ⟨hx, hb, hml, hown, hts⟩ hl.1 (c_m_dayMany l D cI cJ cC cZ cS mm g ta pa pe pd pb pp pf pg pn rt rn cd sn il tk am at_ aa mt_ 0 (-1) wt wy it_ rm ud nu sd qn qw qo qb qp qa qi oc l0 l1 dm l3) w_7_98 w_7_100 w_0_69 w_1_14 w_7_101 hd_X12_dayMany_0 ⟨⟨(Nat.le_of_ble_eq_true rfl), (Nat.le_of_ble_eq_true rfl)⟩, (Nat.le_of_ble_eq_true rfl), (Nat.le_of_ble_eq_true rfl)⟩ hK hP hD hS hA (fmT om_7_60 0) (fmF om_7_60 0) (fm_C1 rfl rfl) (fm_R rfl rfl) (fm_nT om_7_60 0) (fm_nF om_7_60 0) (fm_di om_7_60 0) rfl rfl rfl rfl (Nat.le_of_ble_eq_true rfl) dX12_walksTo_13 (fun r_4 u H locs hw hP hD hS => ?_)
      refine anE hw (fun er_6 eu_5 => ?_)
      clear hw
      subst er_6
      refine o_mgE (ws' := [ro_ mm 12 (mo g (nI ta) (nI pa) (nI pe) pd (nI pb) pp pf pg pn rt rn (nI cd) sn (nI il) tk am at_ aa mt_ 0 (-1) wt wy (nI it_) (nI rm) (nI ud) (nI nu) sd (nI qn) (nI qw) qo (nI qb) (nI qp) qa (nI qi) (nI oc)), ra_I (g 20) cI 4 (l4 (nI l0) (nI l1) (nI dm) (nI l3)), ra_I (g 31) cI 120 nw, ra_I (g 37) cZ 900 yo, ra_I (g 36) cZ 900 yw, ra_J (g 43) cJ 90 be, ra_N (g 46) cI 9 zp]) eu_5 hP hD rfl (fun hP hD => ?_)
      refine lv_icmp_ge (tgt := 104) hx hb dX12_walksTo_16 (by decide) (fun c_7 => ?_) (fun c_7 => ?_)
      · have c_7 : dm ≤ i := (nle dm i (by omega) (by omega)).mp c_7
        exact sk_vret hx hb hr hlocks hK hP hD hS (⟨zp, hzp, rfl⟩) (Nat.le_of_ble_eq_true rfl) (Nat.le_of_ble_eq_true rfl) dX12_walksTo_104
      · have c_7 : ¬ (dm ≤ i) := fun h => c_7 ((nle dm i (by omega) (by omega)).mpr h)
        refine lv_iconst (v := 0) hx hb dX12_walksTo_19 ic_0 ?_
        refine lv_istore (lv' := [(5, .int 0), (4, .int (nI i)), (3, .int (nI ah)), (0, .ref mm), (1, .long xk)]) hx hb dX12_walksTo_20 hl (by decide) rfl (fun ls hl => ?_)
        have lp_8 : ∀ (n_9 : Nat) (jm : Nat) (xk2 : Int64) (H : Heap) (locs : List Loc) (ls : Array Slot), 10 - jm < n_9 → (wk (cfN nw yw yo mt_) dm i ah jm xk2) → (jm < 10) → va_P D vwCl [ro_ mm 12 (mo g (nI ta) (nI pa) (nI pe) pd (nI pb) pp pf pg pn rt rn (nI cd) sn (nI il) tk am at_ aa mt_ 0 (-1) wt wy (nI it_) (nI rm) (nI ud) (nI nu) sd (nI qn) (nI qw) qo (nI qb) (nI qp) qa (nI qi) (nI oc)), ra_I (g 20) cI 4 (l4 (nI l0) (nI l1) (nI dm) (nI l3)), ra_I (g 31) cI 120 nw, ra_I (g 37) cZ 900 yo, ra_I (g 36) cZ 900 yw, ra_J (g 43) cJ 90 be, ra_N (g 46) cI 9 zp] H → va_D A [ro_ mm 12 (mo g (nI ta) (nI pa) (nI pe) pd (nI pb) pp pf pg pn rt rn (nI cd) sn (nI il) tk am at_ aa mt_ 0 (-1) wt wy (nI it_) (nI rm) (nI ud) (nI nu) sd (nI qn) (nI qw) qo (nI qb) (nI qp) qa (nI qi) (nI oc)), ra_I (g 20) cI 4 (l4 (nI l0) (nI l1) (nI dm) (nI l3)), ra_I (g 31) cI 120 nw, ra_I (g 37) cZ 900 yo, ra_I (g 36) cZ 900 yw, ra_J (g 43) cJ 90 be, ra_N (g 46) cI 9 zp] → va_S A s.heap H locs → lv_has ls 6 [(5, .int (nI jm)), (4, .int (nI i)), (3, .int (nI ah)), (0, .ref mm), (1, .long xk2)] → W p l e { frames := 3, cells := 0, slots := 0, locals := 66 } s m ([.ref mm, .long x] : List Value).toArray below meth c H locs 0 0 (MQ below (skV D (skT cI cJ cC cZ cS) (fun (u : va_W) => ∃ (pt2 : Nat → Nat), (∀ j, pt2 j ≤ 9) ∧ u = [ro_ mm 12 (mo g (nI ta) (nI pa) (nI pe) pd (nI pb) pp pf pg pn rt rn (nI cd) sn (nI il) tk am at_ aa mt_ 0 (-1) wt wy (nI it_) (nI rm) (nI ud) (nI nu) sd (nI qn) (nI qw) qo (nI qb) (nI qp) qa (nI qi) (nI oc)), ra_I (g 20) cI 4 (l4 (nI l0) (nI l1) (nI dm) (nI l3)), ra_I (g 31) cI 120 nw, ra_I (g 37) cZ 900 yo, ra_I (g 36) cZ 900 yw, ra_J (g 43) cJ 90 be, ra_N (g 46) cI 9 pt2]) A) ([.ref mm, .long x] : List Value).toArray s 0 0 A) (F0 m 22 ls []) := by
          intro n_9
          induction n_9 with
          | zero => intro jm xk2 H locs ls hm; exact absurd hm (Nat.not_lt_zero _)
          | succ n_9 ih_lp_8 =>
            intro jm xk2 H locs ls hm hwk hjm hP hD hS hl
            refine lv_aload_n hx hb dX12_walksTo_22 rfl (lv_at hl 3 rfl) ?_
            refine lv_iload hx hb dX12_walksTo_23 (lv_at hl 1 rfl) ?_
            refine lv_iload_n hx hb dX12_walksTo_25 rfl (lv_at hl 2 rfl) ?_
            refine lv_iload hx hb dX12_walksTo_26 (lv_at hl 0 rfl) ?_
            refine sk_Vi (q0 := 0) (n := 3) (rest := []) (wr := fmR om_7_5c _) ⟨hx, hb, hml, hown, hts⟩ hl.1 (c_m_canFollow0 l D cI cJ cC cZ cS mm g ta pa pe pd pb pp pf pg pn rt rn cd sn il tk am at_ aa mt_ wt wy it_ rm ud nu sd qn qw qo qb qp qa qi oc i ah jm nw yo yw (by omega) hjm (by omega) hnw) w_7_201 w_7_203 w_0_85 w_1_14 w_7_204 hd_X12_canFollow_3 ⟨⟨(Nat.le_of_ble_eq_true rfl), (Nat.le_of_ble_eq_true rfl)⟩, (Nat.le_of_ble_eq_true rfl), (Nat.le_of_ble_eq_true rfl)⟩ hK hP hD hS hA (fmT om_7_5c 0) (fmF om_7_5c 0) (fm_C1 rfl rfl) (fm_R rfl rfl) (fm_nT om_7_5c 0) (fm_nF om_7_5c 0) (fm_di om_7_5c 0) rfl rfl rfl rfl (Nat.le_of_ble_eq_true rfl) dX12_walksTo_28 (fun r_11 u H locs hw hP hD hS => ?_)
            refine exE hw (fun b_10 hw1 => anE hw1 (fun hb1_12 hw2 => anE hw2 (fun hb2_13 hw3 => anE hw3 (fun er_15 eu_14 => ?_))))
            clear hw hw1 hw2 hw3
            subst er_15
            refine o_mgE (ws' := [ro_ mm 12 (mo g (nI ta) (nI pa) (nI pe) pd (nI pb) pp pf pg pn rt rn (nI cd) sn (nI il) tk am at_ aa mt_ 0 (-1) wt wy (nI it_) (nI rm) (nI ud) (nI nu) sd (nI qn) (nI qw) qo (nI qb) (nI qp) qa (nI qi) (nI oc)), ra_I (g 20) cI 4 (l4 (nI l0) (nI l1) (nI dm) (nI l3)), ra_I (g 31) cI 120 nw, ra_I (g 37) cZ 900 yo, ra_I (g 36) cZ 900 yw, ra_J (g 43) cJ 90 be, ra_N (g 46) cI 9 zp]) eu_14 hP hD rfl (fun hP hD => ?_)
            refine lv_if_eq (tgt := 52) hx hb dX12_walksTo_31 (by decide) (fun c_16 => ?_) (fun c_16 => ?_)
            · have c_16 : b_10 = 0 := (neq b_10 0 (by omega) (Nat.le_of_ble_eq_true rfl)).mp c_16
              refine lv_aload_n hx hb dX12_walksTo_52 rfl (lv_at hl 3 rfl) ?_
              refine lv_iload hx hb dX12_walksTo_53 (lv_at hl 1 rfl) ?_
              refine lv_iload_n hx hb dX12_walksTo_55 rfl (lv_at hl 2 rfl) ?_
              refine lv_iload hx hb dX12_walksTo_56 (lv_at hl 0 rfl) ?_
              refine sk_Vi (q0 := 0) (n := 3) (rest := []) (wr := fmR om_7_5c _) ⟨hx, hb, hml, hown, hts⟩ hl.1 (c_m_canFollow0 l D cI cJ cC cZ cS mm g ta pa pe pd pb pp pf pg pn rt rn cd sn il tk am at_ aa mt_ wt wy it_ rm ud nu sd qn qw qo qb qp qa qi oc i ah jm nw yo yw (by omega) hjm (by omega) hnw) w_7_201 w_7_203 w_0_85 w_1_14 w_7_204 hd_X12_canFollow_3 ⟨⟨(Nat.le_of_ble_eq_true rfl), (Nat.le_of_ble_eq_true rfl)⟩, (Nat.le_of_ble_eq_true rfl), (Nat.le_of_ble_eq_true rfl)⟩ hK hP hD hS hA (fmT om_7_5c 0) (fmF om_7_5c 0) (fm_C1 rfl rfl) (fm_R rfl rfl) (fm_nT om_7_5c 0) (fm_nF om_7_5c 0) (fm_di om_7_5c 0) rfl rfl rfl rfl (Nat.le_of_ble_eq_true rfl) dX12_walksTo_58 (fun r_18 u H locs hw hP hD hS => ?_)
              refine exE hw (fun b_17 hw1 => anE hw1 (fun hb1_19 hw2 => anE hw2 (fun hb2_20 hw3 => anE hw3 (fun er_22 eu_21 => ?_))))
              clear hw hw1 hw2 hw3
              subst er_22
              refine o_mgE (ws' := [ro_ mm 12 (mo g (nI ta) (nI pa) (nI pe) pd (nI pb) pp pf pg pn rt rn (nI cd) sn (nI il) tk am at_ aa mt_ 0 (-1) wt wy (nI it_) (nI rm) (nI ud) (nI nu) sd (nI qn) (nI qw) qo (nI qb) (nI qp) qa (nI qi) (nI oc)), ra_I (g 20) cI 4 (l4 (nI l0) (nI l1) (nI dm) (nI l3)), ra_I (g 31) cI 120 nw, ra_I (g 37) cZ 900 yo, ra_I (g 36) cZ 900 yw, ra_J (g 43) cJ 90 be, ra_N (g 46) cI 9 zp]) eu_21 hP hD rfl (fun hP hD => ?_)
              refine lv_if_eq (tgt := 80) hx hb dX12_walksTo_61 (by decide) (fun c_23 => ?_) (fun c => absurd ((or_1 hb1_19 (fun h => c (by rw [h]; rfl))).symm.trans (or_0 hb1_12 (by omega))) (by decide))
              refine lv_iinc (v := nI (jm + 1)) (lv' := [(5, .int (nI (jm + 1))), (4, .int (nI i)), (3, .int (nI ah)), (0, .ref mm), (1, .long xk2)]) hx hb dX12_walksTo_80 hl (k := 0) rfl (ninc jm 1 (by decide)) (by decide) rfl (fun ls hl => ?_)
              refine lv_goto (tgt := 22) hx hb dX12_walksTo_83 (by decide) ?_
              exact ih_lp_8 (jm + 1) xk2 _ _ _ (by omega) (wk_no hwk (or_0 hb1_12 (by omega))) (wk_lt (wk_no hwk (or_0 hb1_12 (by omega)))) hP hD hS (lv_sub hl [0, 1, 2, 3, 4] rfl)
            · have c_16 : ¬ (b_10 = 0) := fun h => c_16 ((neq b_10 0 (by omega) (Nat.le_of_ble_eq_true rfl)).mpr h)
              refine lv_lload_n hx hb dX12_walksTo_34 rfl (lv_at hl 4 rfl) ?_
              refine lv_aload_n hx hb dX12_walksTo_35 rfl (lv_at hl 3 rfl) ?_
              refine sk_get (v := .ref (g 43)) (C := RX12) (T := TX12) (N := 92) hx hb hts inlX12 hown hK hP 0 rfl rfl 43 (Nat.le_of_ble_eq_true rfl) w_5_198 rfl dX12_walksTo_36 ?_
              refine lv_bipush (v := 10) hx hb dX12_walksTo_39 (by decide) ?_
              refine lv_iload hx hb dX12_walksTo_41 (lv_at hl 1 rfl) ?_
              refine lv_imul hx hb dX12_walksTo_43 ?_
              refine sk_top (nI (10 * i)) (nmul 10 i) ?_
              refine lv_iload hx hb dX12_walksTo_44 (lv_at hl 0 rfl) ?_
              refine lv_iadd hx hb dX12_walksTo_46 ?_
              refine sk_top (nI (10 * i + jm)) (nI_add (10 * i) jm) ?_
              refine va_lald hx hb hK.1 hP 5 1 rfl rfl (vin (10 * i + jm) 90 (by omega) (Nat.le_of_ble_eq_true rfl)) dX12_walksTo_47 ?_
              refine lv_topl (fun v_24 ev_24 => ?_)
              refine W.lcmp hx hb dX12_walksTo_48 ?_
              refine lv_if_lt (tgt := 86) hx hb dX12_walksTo_49 (by decide) (fun c_25 => ?_) (fun c_25 => ?_)
              · skip
                refine lv_aload_n hx hb dX12_walksTo_86 rfl (lv_at hl 3 rfl) ?_
                refine sk_get (v := .ref (g 46)) (C := RX12) (T := TX12) (N := 92) hx hb hts inlX12 hown hK hP 0 rfl rfl 46 (Nat.le_of_ble_eq_true rfl) w_5_201 rfl dX12_walksTo_87 ?_
                refine lv_iload hx hb dX12_walksTo_90 (lv_at hl 1 rfl) ?_
                refine lv_iload hx hb dX12_walksTo_92 (lv_at hl 0 rfl) ?_
                refine sk_iastN (k := i) (v := jm) (B := 9) (ws' := fun f_26 => [ro_ mm 12 (mo g (nI ta) (nI pa) (nI pe) pd (nI pb) pp pf pg pn rt rn (nI cd) sn (nI il) tk am at_ aa mt_ 0 (-1) wt wy (nI it_) (nI rm) (nI ud) (nI nu) sd (nI qn) (nI qw) qo (nI qb) (nI qp) qa (nI qi) (nI oc)), ra_I (g 20) cI 4 (l4 (nI l0) (nI l1) (nI dm) (nI l3)), ra_I (g 31) cI 120 nw, ra_I (g 37) cZ 900 yo, ra_I (g 36) cZ 900 yw, ra_J (g 43) cJ 90 be, ra_N (g 46) cI 9 f_26]) hx hb hK hP hD hS 6 0 rfl rfl (by omega) (by omega) hzp (by omega) (fun _ => rfl) dX12_walksTo_94 (fun f_26 H locs hf_27 hP hD hS => ?_)
                refine lv_iload hx hb dX12_walksTo_95 (lv_at hl 0 rfl) ?_
                refine lv_istore_n (lv' := [(3, .int (nI jm)), (5, .int (nI jm)), (4, .int (nI i)), (0, .ref mm), (1, .long xk2)]) hx hb dX12_walksTo_97 rfl hl (by decide) rfl (fun ls hl => ?_)
                refine lv_iinc (v := nI (i + 1)) (lv' := [(4, .int (nI (i + 1))), (3, .int (nI jm)), (5, .int (nI jm)), (0, .ref mm), (1, .long xk2)]) hx hb dX12_walksTo_98 hl (k := 2) rfl (ninc i 1 (by decide)) (by decide) rfl (fun ls hl => ?_)
                refine lv_goto (tgt := 10) hx hb dX12_walksTo_101 (by decide) ?_
                exact ih_lp_2 (i + 1) jm xk2 f_26 _ _ _ (by omega) hf_27 (by omega) (by omega) (wk_next hwk (by omega) (be_get hbe (by omega) (by omega) (by omega) (by omega) ev_24) c_25) hP hD hS (lv_sub hl [0, 1, 3, 4] rfl)
              · skip
                refine lv_aload_n hx hb dX12_walksTo_52 rfl (lv_at hl 3 rfl) ?_
                refine lv_iload hx hb dX12_walksTo_53 (lv_at hl 1 rfl) ?_
                refine lv_iload_n hx hb dX12_walksTo_55 rfl (lv_at hl 2 rfl) ?_
                refine lv_iload hx hb dX12_walksTo_56 (lv_at hl 0 rfl) ?_
                refine sk_Vi (q0 := 0) (n := 3) (rest := []) (wr := fmR om_7_5c _) ⟨hx, hb, hml, hown, hts⟩ hl.1 (c_m_canFollow0 l D cI cJ cC cZ cS mm g ta pa pe pd pb pp pf pg pn rt rn cd sn il tk am at_ aa mt_ wt wy it_ rm ud nu sd qn qw qo qb qp qa qi oc i ah jm nw yo yw (by omega) hjm (by omega) hnw) w_7_201 w_7_203 w_0_85 w_1_14 w_7_204 hd_X12_canFollow_3 ⟨⟨(Nat.le_of_ble_eq_true rfl), (Nat.le_of_ble_eq_true rfl)⟩, (Nat.le_of_ble_eq_true rfl), (Nat.le_of_ble_eq_true rfl)⟩ hK hP hD hS hA (fmT om_7_5c 0) (fmF om_7_5c 0) (fm_C1 rfl rfl) (fm_R rfl rfl) (fm_nT om_7_5c 0) (fm_nF om_7_5c 0) (fm_di om_7_5c 0) rfl rfl rfl rfl (Nat.le_of_ble_eq_true rfl) dX12_walksTo_58 (fun r_29 u H locs hw hP hD hS => ?_)
                refine exE hw (fun b_28 hw1 => anE hw1 (fun hb1_30 hw2 => anE hw2 (fun hb2_31 hw3 => anE hw3 (fun er_33 eu_32 => ?_))))
                clear hw hw1 hw2 hw3
                subst er_33
                refine o_mgE (ws' := [ro_ mm 12 (mo g (nI ta) (nI pa) (nI pe) pd (nI pb) pp pf pg pn rt rn (nI cd) sn (nI il) tk am at_ aa mt_ 0 (-1) wt wy (nI it_) (nI rm) (nI ud) (nI nu) sd (nI qn) (nI qw) qo (nI qb) (nI qp) qa (nI qi) (nI oc)), ra_I (g 20) cI 4 (l4 (nI l0) (nI l1) (nI dm) (nI l3)), ra_I (g 31) cI 120 nw, ra_I (g 37) cZ 900 yo, ra_I (g 36) cZ 900 yw, ra_J (g 43) cJ 90 be, ra_N (g 46) cI 9 zp]) eu_32 hP hD rfl (fun hP hD => ?_)
                refine lv_if_eq (tgt := 80) hx hb dX12_walksTo_61 (by decide) (fun c => absurd ((or_0 hb1_30 ((neq _ 0 (by omega) (Nat.le_of_ble_eq_true rfl)).mp c)).symm.trans (or_1 hb1_12 (by omega))) (by decide)) (fun c_34 => ?_)
                refine lv_lload_n hx hb dX12_walksTo_64 rfl (lv_at hl 4 rfl) ?_
                refine lv_aload_n hx hb dX12_walksTo_65 rfl (lv_at hl 3 rfl) ?_
                refine sk_get (v := .ref (g 43)) (C := RX12) (T := TX12) (N := 92) hx hb hts inlX12 hown hK hP 0 rfl rfl 43 (Nat.le_of_ble_eq_true rfl) w_5_198 rfl dX12_walksTo_66 ?_
                refine lv_bipush (v := 10) hx hb dX12_walksTo_69 (by decide) ?_
                refine lv_iload hx hb dX12_walksTo_71 (lv_at hl 1 rfl) ?_
                refine lv_imul hx hb dX12_walksTo_73 ?_
                refine sk_top (nI (10 * i)) (nmul 10 i) ?_
                refine lv_iload hx hb dX12_walksTo_74 (lv_at hl 0 rfl) ?_
                refine lv_iadd hx hb dX12_walksTo_76 ?_
                refine sk_top (nI (10 * i + jm)) (nI_add (10 * i) jm) ?_
                refine va_lald hx hb hK.1 hP 5 1 rfl rfl (vin (10 * i + jm) 90 (by omega) (Nat.le_of_ble_eq_true rfl)) dX12_walksTo_77 ?_
                refine lv_topl (fun v_35 ev_35 => ?_)
                refine lv_lsub hx hb dX12_walksTo_78 ?_
                refine lv_topl (fun v_36 ev_36 => ?_)
                refine lv_lstore_n (lv' := [(1, .long v_36), (5, .int (nI jm)), (4, .int (nI i)), (3, .int (nI ah)), (0, .ref mm)]) hx hb dX12_walksTo_79 rfl hl (by decide) rfl (fun ls hl => ?_)
                refine lv_iinc (v := nI (jm + 1)) (lv' := [(5, .int (nI (jm + 1))), (1, .long v_36), (4, .int (nI i)), (3, .int (nI ah)), (0, .ref mm)]) hx hb dX12_walksTo_80 hl (k := 1) rfl (ninc jm 1 (by decide)) (by decide) rfl (fun ls hl => ?_)
                refine lv_goto (tgt := 22) hx hb dX12_walksTo_83 (by decide) ?_
                exact ih_lp_8 (jm + 1) v_36 _ _ _ (by omega) (wk_sub hwk (by omega) (or_1 hb1_12 (by omega)) (be_get hbe (by omega) (by omega) (by omega) (by omega) ev_35) (by rw [ev_35, ← ev_24]; exact c_25) ev_36) (wk_lt (wk_sub hwk (by omega) (or_1 hb1_12 (by omega)) (be_get hbe (by omega) (by omega) (by omega) (by omega) ev_35) (by rw [ev_35, ← ev_24]; exact c_25) ev_36)) hP hD hS (lv_sub hl [0, 2, 3, 4, 1] rfl)
        exact lp_8 (10 - 0 + 1) 0 xk _ _ _ (Nat.lt_succ_self _) (hw10 (by omega)) (wk_lt (hw10 (by omega))) hP hD hS (lv_sub hl [0, 1, 2, 3, 4] rfl)
  exact lp_2 (dm - 0 + 1) 0 k_1 x pt _ _ _ (Nat.lt_succ_self _) hpt (by omega) (by omega) (fun _ => by rw [ha0]; exact hwk0) hP hD hS (lv_sub hl [0, 1, 2, 3] rfl)
theorem ways_gt {wy : Int64} {K : Nat} (h : wy = nL K) (hc : ¬ lg_cmp wy 0 ≤ 0) : 0 < K := by
  rcases Nat.eq_zero_or_pos K with q | q
  · subst q
    exact absurd ((lg_cmp_le wy 0).mpr (by rw [h]; exact Int64.le_refl _)) hc
  · exact q
theorem ways_lt {wy : Int64} {K k : Nat} (h : wy = nL K) (hK : K ≤ 1000000000) (hk : k < 2147483648) (hc : lg_cmp (Int32.toInt64 (nI k)) wy < 0) : k < K := by
  rw [h, nL_i2l hk, nL_lt (by omega) (by omega)] at hc
  exact hc
theorem ways_lt' {wy : Int64} {K k : Nat} (h : wy = nL K) (hK : K ≤ 1000000000) (hk : k < 2147483648) (hc : ¬ 0 ≤ lg_cmp (Int32.toInt64 (nI k)) wy) : k < K := by
  rw [lg_cmp_ge] at hc
  exact ways_lt h hK hk ((lg_cmp_lt _ _).mpr (Int64.not_le.mp hc))
theorem wk_st {C : Nat → Nat → Nat → Bool} {a0 n k : Nat} (hk : k < 2147483648) (h : k < wys C a0 (n - 1)) : wk C n 0 a0 0 (Int32.toInt64 (nI k)) := by
  rw [nL_i2l hk]; exact wk_start h
theorem wk_z {C : Nat → Nat → Nat → Bool} {a0 n : Nat} (h : 0 < wys C a0 (n - 1)) : wk C n 0 a0 0 0 := wk_start (k := 0) h
theorem nar_b (b : Nat) (h : b ≤ 1) : vp_nar .boolean (nI b) = nI b := by
  match b, h with
  | 0, _ => rfl
  | 1, _ => rfl
theorem nxor512 (a b : Nat) (ha : a < 512) (hb : b < 512) : ∃ k : Nat, k < 512 ∧ nI a ^^^ nI b = nI k := by
  refine ⟨a ^^^ b, Nat.xor_lt_two_pow (n := 9) ha hb, ?_⟩
  apply Int32.toBitVec_inj.mp
  show BitVec.ofNat 32 a ^^^ BitVec.ofNat 32 b = BitVec.ofNat 32 (a ^^^ b)
  apply BitVec.eq_of_toNat_eq
  have h9 : a ^^^ b < 512 := Nat.xor_lt_two_pow (n := 9) ha hb
  rw [BitVec.toNat_xor, BitVec.toNat_ofNat, BitVec.toNat_ofNat, BitVec.toNat_ofNat, Nat.mod_eq_of_lt (by omega), Nat.mod_eq_of_lt (by omega), Nat.mod_eq_of_lt (by omega)]
theorem nshl1' (d : Nat) (h : d < 9) : ∃ P : Nat, P < 512 ∧ (1 : Int32) <<< (nI d &&& 31) = nI P := by
  match d, h with
  | 0, _ => exact ⟨1, by decide, by decide⟩
  | 1, _ => exact ⟨2, by decide, by decide⟩
  | 2, _ => exact ⟨4, by decide, by decide⟩
  | 3, _ => exact ⟨8, by decide, by decide⟩
  | 4, _ => exact ⟨16, by decide, by decide⟩
  | 5, _ => exact ⟨32, by decide, by decide⟩
  | 6, _ => exact ⟨64, by decide, by decide⟩
  | 7, _ => exact ⟨128, by decide, by decide⟩
  | 8, _ => exact ⟨256, by decide, by decide⟩
theorem dg_X12_laysAll_0_0 : bqL cX12_laysAll 0 [(0, [42]), (1, [3]), (2, [182, 1, 129]), (5, [42]), (6, [182, 1, 132]), (9, [177])] = true := by decide +kernel
theorem dX12_laysAll_0 : decode cX12_laysAll 0 = .ok (.aload_n 0, 1) := q_aload_n0 (bat_get dg_X12_laysAll_0_0 0 rfl rfl)
theorem dX12_laysAll_1 : decode cX12_laysAll 1 = .ok (.iconst 0, 1) := q_iconst0 (bat_get dg_X12_laysAll_0_0 1 rfl rfl)
theorem dX12_laysAll_2 : decode cX12_laysAll 2 = .ok (.invokevirtual 385, 3) := q_invokevirtual (bat_get dg_X12_laysAll_0_0 2 rfl rfl) rfl
theorem dX12_laysAll_5 : decode cX12_laysAll 5 = .ok (.aload_n 0, 1) := q_aload_n0 (bat_get dg_X12_laysAll_0_0 3 rfl rfl)
theorem dX12_laysAll_6 : decode cX12_laysAll 6 = .ok (.invokevirtual 388, 3) := q_invokevirtual (bat_get dg_X12_laysAll_0_0 4 rfl rfl) rfl
theorem dX12_laysAll_9 : decode cX12_laysAll 9 = .ok (.return_, 1) := q_return_ (bat_get dg_X12_laysAll_0_0 5 rfl rfl)
theorem w_7_193 : (Cond.methodLink RX12 385 yX12_laysDays) ∈ wsL_law := sk_mem (ck_7 _ (List.mem_of_getElem? (i := 193) rfl)) rfl
theorem w_7_195 : (Cond.instanceMethod yX12_laysDays) ∈ wsL_law := sk_mem (ck_7 _ (List.mem_of_getElem? (i := 195) rfl)) rfl
theorem w_0_83 : (Cond.selects RX12 yX12_laysDays yX12_laysDays) ∈ wsL_law := sk_mem (ck_0 _ (List.mem_of_getElem? (i := 83) rfl)) rfl
theorem w_7_197 : (Cond.methodLink RX12 388 yX12_laysWays) ∈ wsL_law := sk_mem (ck_7 _ (List.mem_of_getElem? (i := 197) rfl)) rfl
theorem w_7_199 : (Cond.instanceMethod yX12_laysWays) ∈ wsL_law := sk_mem (ck_7 _ (List.mem_of_getElem? (i := 199) rfl)) rfl
theorem w_0_84 : (Cond.selects RX12 yX12_laysWays yX12_laysWays) ∈ wsL_law := sk_mem (ck_0 _ (List.mem_of_getElem? (i := 84) rfl)) rfl
theorem w_7_192 : (Cond.code yX12_laysAll cX12_laysAll 1 none) ∈ wsL_law := sk_mem (ck_7 _ (List.mem_of_getElem? (i := 192) rfl)) rfl
def om_13_1ffc : List Bool := true :: true :: true :: true :: true :: true :: true :: true :: true :: true :: true :: false :: false :: []
def om_13_112f : List Bool := true :: false :: false :: false :: true :: false :: false :: true :: false :: true :: true :: true :: true :: []
theorem hd_X12_laysDays_1 : skD yX12_laysDays 1 := by decide +kernel
theorem hd_X12_laysWays_0 : skD yX12_laysWays 0 := by decide +kernel
set_option maxHeartbeats 4000000 in
set_option maxRecDepth 100000 in
theorem c_m_laysAll (l : Launch) (D : va_G) (cI cJ cC cZ cS : ClassId) (mm : Nat) (g : Nat → Nat) (ta : Nat) (pa : Nat) (pe : Nat) (pd : Int32) (pb : Nat) (pp : Int32) (pf : Int32) (pg : Int32) (pn : Int32) (rt : Int32) (rn : Int32) (cd : Nat) (sn : Int32) (il : Nat) (tk : Int32) (am : Int32) (at_ : Int32) (aa : Int32) (mt_ : Int32) (wt : Int32) (wy : Int64) (it_ : Nat) (rm : Nat) (ud : Nat) (nu : Nat) (sd : Int64) (qn : Nat) (qw : Nat) (qo : Int32) (qb : Nat) (qp : Nat) (qa : Int64) (qi : Nat) (oc : Nat) (u0 : Int32) (u1 : Int32) (u2 : Int32) (u3 : Int32) (u4 : Int32) (u5 : Int32) (v0 : Int32) (v1 : Int32) (v2 : Int32) (v3 : Int32) (v4 : Int32) (v5 : Int32) (cs : Nat → Nat) (nw : Nat → Int32) (pt : Nat → Nat) (ql : Nat → Int64) (l0 : Nat) (l1 : Nat) (dm : Nat) (l3 : Nat) (ws_ : Nat → Int32) (yw : Nat → Int32) (yo : Nat → Int32) (be : Nat → Int64) (bf : Nat → Int64) (hdm : dm ≤ 9) (hdm1 : 1 ≤ dm) (hp0 : progOk cs u3 v3) (hp1 : progOk cs u4 v4) (hp2 : progOk cs u5 v5) (hcs : ∀ j, cs j ≤ 20000) (hnw : nowOk nw) (hpt : ∀ j, pt j ≤ 9) : skM l yX12_laysAll cX12_laysAll 1 none 5 122 0 0 D (skT cI cJ cC cZ cS) [.ref mm] [ro_ mm 12 (mo g (nI ta) (nI pa) (nI pe) pd (nI pb) pp pf pg pn rt rn (nI cd) sn (nI il) tk am at_ aa mt_ 0 (-1) wt wy (nI it_) (nI rm) (nI ud) (nI nu) sd (nI qn) (nI qw) qo (nI qb) (nI qp) qa (nI qi) (nI oc)), ra_I (g 24) cI 6 (l6 u0 u1 u2 u3 u4 u5), ra_I (g 25) cI 6 (l6 v0 v1 v2 v3 v4 v5), ra_N (g 26) cI 3200 cs, ra_I (g 31) cI 120 nw, ra_N (g 46) cI 9 pt, ra_J (g 86) cJ 1700 ql, ra_I (g 20) cI 4 (l4 (nI l0) (nI l1) (nI dm) (nI l3)), ra_I (g 38) cI 90 ws_, ra_I (g 36) cZ 900 yw, ra_I (g 37) cZ 900 yo, ra_J (g 43) cJ 90 be, ra_J (g 44) cJ 90 bf] (skV D (skT cI cJ cC cZ cS) (fun (u : va_W) => ∃ (tk2 : Int32), ∃ (qp2 : Nat), ∃ (am2 : Int32), ∃ (at_2 : Int32), ∃ (aa2 : Int32), ∃ (wy2 : Int64), ∃ (ql2 : Nat → Int64), ∃ (ws_2 : Nat → Int32), ∃ (yw2 : Nat → Int32), ∃ (yo2 : Nat → Int32), ∃ (be2 : Nat → Int64), ∃ (bf2 : Nat → Int64), beOk (cfN nw yw2 yo2 mt_) dm 0 be2 ∧ wy2 = nL (wys (cfN nw yw2 yo2 mt_) (a0N nw) (dm - 1)) ∧ u = [ro_ mm 12 (mo g (nI ta) (nI pa) (nI pe) pd (nI pb) pp pf pg pn rt rn (nI cd) sn (nI il) tk2 am2 at_2 aa2 mt_ 0 (-1) wt wy2 (nI it_) (nI rm) (nI ud) (nI nu) sd (nI qn) (nI qw) qo (nI qb) (nI qp2) qa (nI qi) (nI oc)), ra_I (g 24) cI 6 (l6 u0 u1 u2 u3 u4 u5), ra_I (g 25) cI 6 (l6 v0 v1 v2 v3 v4 v5), ra_N (g 26) cI 3200 cs, ra_I (g 31) cI 120 nw, ra_N (g 46) cI 9 pt, ra_J (g 86) cJ 1700 ql2, ra_I (g 20) cI 4 (l4 (nI l0) (nI l1) (nI dm) (nI l3)), ra_I (g 38) cI 90 ws_2, ra_I (g 36) cZ 900 yw2, ra_I (g 37) cZ 900 yo2, ra_J (g 43) cJ 90 be2, ra_J (g 44) cJ 90 bf2])) := by
  refine skM_of pf_X12_laysAll (Nat.le_of_ble_eq_true rfl) ?_
  intro p e s m below meth c A ls E hP hD hl
  refine skE_el E (fun hx hb hr hml hlocks hin hown hts hK hA => ?_)
  have hown : s.vm.findClass RX12 = some m.cls := hown
  have hS : va_S A s.heap s.heap [] := va_S.rf
  have hl : lv_has ls 1 [(0, .ref mm)] := hl
  refine lv_aload_n hx hb dX12_laysAll_0 rfl (lv_at hl 0 rfl) ?_
  refine lv_iconst (v := 0) hx hb dX12_laysAll_1 ic_0 ?_
  refine sk_Vv (q0 := 0) (n := 1) (rest := []) (wr := fmR om_13_1ffc _) ⟨hx, hb, hml, hown, hts⟩ hl.1 (c_m_laysDays l D cI cJ cC cZ cS mm g ta pa pe pd pb pp pf pg pn rt rn cd sn il tk am at_ aa mt_ 0 (-1) wt wy it_ rm ud nu sd qn qw qo qb qp qa qi oc 0 u0 u1 u2 u3 u4 u5 v0 v1 v2 v3 v4 v5 cs nw pt ql l0 l1 dm l3 ws_ yw yo hdm hp0 hp1 hp2 hcs hnw hpt) w_7_193 w_7_195 w_0_83 w_1_14 w_7_196 hd_X12_laysDays_1 ⟨⟨(Nat.le_of_ble_eq_true rfl), (Nat.le_of_ble_eq_true rfl)⟩, (Nat.le_of_ble_eq_true rfl), (Nat.le_of_ble_eq_true rfl)⟩ hK hP hD hS hA (fmT om_13_1ffc 0) (fmF om_13_1ffc 0) (fm_C1 rfl rfl) (fm_R rfl rfl) (fm_nT om_13_1ffc 0) (fm_nF om_13_1ffc 0) (fm_di om_13_1ffc 0) rfl rfl rfl rfl (Nat.le_of_ble_eq_true rfl) dX12_laysAll_2 (fun u H locs hw hP hD hS => ?_)
  refine exE hw (fun tk2_1 hw1 => exE hw1 (fun qp2_2 hw2 => exE hw2 (fun am2_3 hw3 => exE hw3 (fun at_2_4 hw4 => exE hw4 (fun aa2_5 hw5 => exE hw5 (fun ql2_6 hw6 => exE hw6 (fun ws_2_7 hw7 => exE hw7 (fun yw2_8 hw8 => exE hw8 (fun yo2_9 eu_10 => ?_)))))))))
  clear hw hw1 hw2 hw3 hw4 hw5 hw6 hw7 hw8
  refine o_mgE (ws' := [ro_ mm 12 (mo g (nI ta) (nI pa) (nI pe) pd (nI pb) pp pf pg pn rt rn (nI cd) sn (nI il) tk2_1 am2_3 at_2_4 aa2_5 mt_ 0 (-1) wt wy (nI it_) (nI rm) (nI ud) (nI nu) sd (nI qn) (nI qw) qo (nI qb) (nI qp2_2) qa (nI qi) (nI oc)), ra_I (g 24) cI 6 (l6 u0 u1 u2 u3 u4 u5), ra_I (g 25) cI 6 (l6 v0 v1 v2 v3 v4 v5), ra_N (g 26) cI 3200 cs, ra_I (g 31) cI 120 nw, ra_N (g 46) cI 9 pt, ra_J (g 86) cJ 1700 ql2_6, ra_I (g 20) cI 4 (l4 (nI l0) (nI l1) (nI dm) (nI l3)), ra_I (g 38) cI 90 ws_2_7, ra_I (g 36) cZ 900 yw2_8, ra_I (g 37) cZ 900 yo2_9, ra_J (g 43) cJ 90 be, ra_J (g 44) cJ 90 bf]) eu_10 hP hD rfl (fun hP hD => ?_)
  refine lv_aload_n hx hb dX12_laysAll_5 rfl (lv_at hl 0 rfl) ?_
  refine sk_Vv (q0 := 0) (n := 0) (rest := []) (wr := fmR om_13_112f _) ⟨hx, hb, hml, hown, hts⟩ hl.1 (c_m_laysWays0 l D cI cJ cC cZ cS mm g ta pa pe pd pb pp pf pg pn rt rn cd sn il tk2_1 am2_3 at_2_4 aa2_5 mt_ wt wy it_ rm ud nu sd qn qw qo qb qp2_2 qa qi oc l0 l1 dm l3 nw yo2_9 yw2_8 be bf hdm hdm1 hnw) w_7_197 w_7_199 w_0_84 w_1_14 w_7_200 hd_X12_laysWays_0 ⟨⟨(Nat.le_of_ble_eq_true rfl), (Nat.le_of_ble_eq_true rfl)⟩, (Nat.le_of_ble_eq_true rfl), (Nat.le_of_ble_eq_true rfl)⟩ hK hP hD hS hA [0, 7, 4, 10, 9, 11, 12] (fmF om_13_112f 0) rfl (fm_R rfl rfl) (by decide +kernel) (fm_nF om_13_112f 0) (by decide +kernel) rfl rfl rfl rfl (Nat.le_of_ble_eq_true rfl) dX12_laysAll_6 (fun u H locs hw hP hD hS => ?_)
  refine exE hw (fun wy2_11 hw1 => exE hw1 (fun be2_12 hw2 => exE hw2 (fun bf2_13 hw3 => anE hw3 (fun hbe_14 hw4 => anE hw4 (fun hwy_15 eu_16 => ?_)))))
  clear hw hw1 hw2 hw3 hw4
  refine o_mgqE (ux := [ro_ mm 12 (mo g (nI ta) (nI pa) (nI pe) pd (nI pb) pp pf pg pn rt rn (nI cd) sn (nI il) tk2_1 am2_3 at_2_4 aa2_5 mt_ 0 (-1) wt wy2_11 (nI it_) (nI rm) (nI ud) (nI nu) sd (nI qn) (nI qw) qo (nI qb) (nI qp2_2) qa (nI qi) (nI oc)), ra_I (g 31) cI 120 nw, ra_I (g 20) cI 4 (l4 (nI l0) (nI l1) (nI dm) (nI l3)), ra_I (g 36) cZ 900 yw2_8, ra_I (g 37) cZ 900 yo2_9, ra_J (g 43) cJ 90 be2_12, ra_J (g 44) cJ 90 bf2_13]) (ws' := [ro_ mm 12 (mo g (nI ta) (nI pa) (nI pe) pd (nI pb) pp pf pg pn rt rn (nI cd) sn (nI il) tk2_1 am2_3 at_2_4 aa2_5 mt_ 0 (-1) wt wy2_11 (nI it_) (nI rm) (nI ud) (nI nu) sd (nI qn) (nI qw) qo (nI qb) (nI qp2_2) qa (nI qi) (nI oc)), ra_I (g 24) cI 6 (l6 u0 u1 u2 u3 u4 u5), ra_I (g 25) cI 6 (l6 v0 v1 v2 v3 v4 v5), ra_N (g 26) cI 3200 cs, ra_I (g 31) cI 120 nw, ra_N (g 46) cI 9 pt, ra_J (g 86) cJ 1700 ql2_6, ra_I (g 20) cI 4 (l4 (nI l0) (nI l1) (nI dm) (nI l3)), ra_I (g 38) cI 90 ws_2_7, ra_I (g 36) cZ 900 yw2_8, ra_I (g 37) cZ 900 yo2_9, ra_J (g 43) cJ 90 be2_12, ra_J (g 44) cJ 90 bf2_13]) eu_16 [0, 2, 1, 4, 3, 5, 6] (by decide +kernel) rfl hP hD rfl (fun hP hD => ?_)
  exact sk_vret hx hb hr hlocks hK hP hD hS (⟨tk2_1, qp2_2, am2_3, at_2_4, aa2_5, wy2_11, ql2_6, ws_2_7, yw2_8, yo2_9, be2_12, bf2_13, hbe_14, hwy_15, rfl⟩) (Nat.le_of_ble_eq_true rfl) (Nat.le_of_ble_eq_true rfl) dX12_laysAll_9
theorem dg_X12_doesAgree_0_0 : bqL cX12_doesAgree 0 [(0, [42]), (1, [27]), (2, [181, 1, 106]), (5, [42]), (6, [182, 1, 132]), (9, [42]), (10, [3]), (11, [181, 1, 106]), (14, [42]), (15, [180, 1, 126]), (18, [9]), (19, [148]), (20, [158, 0, 7]), (27, [3]), (28, [172]), (23, [4]), (24, [167, 0, 4])] = true := by decide +kernel
theorem dX12_doesAgree_0 : decode cX12_doesAgree 0 = .ok (.aload_n 0, 1) := q_aload_n0 (bat_get dg_X12_doesAgree_0_0 0 rfl rfl)
theorem dX12_doesAgree_1 : decode cX12_doesAgree 1 = .ok (.iload_n 1, 1) := q_iload_n1 (bat_get dg_X12_doesAgree_0_0 1 rfl rfl)
theorem dX12_doesAgree_2 : decode cX12_doesAgree 2 = .ok (.putfield 362, 3) := q_putfield (bat_get dg_X12_doesAgree_0_0 2 rfl rfl) rfl
theorem dX12_doesAgree_5 : decode cX12_doesAgree 5 = .ok (.aload_n 0, 1) := q_aload_n0 (bat_get dg_X12_doesAgree_0_0 3 rfl rfl)
theorem dX12_doesAgree_6 : decode cX12_doesAgree 6 = .ok (.invokevirtual 388, 3) := q_invokevirtual (bat_get dg_X12_doesAgree_0_0 4 rfl rfl) rfl
theorem dX12_doesAgree_9 : decode cX12_doesAgree 9 = .ok (.aload_n 0, 1) := q_aload_n0 (bat_get dg_X12_doesAgree_0_0 5 rfl rfl)
theorem dX12_doesAgree_10 : decode cX12_doesAgree 10 = .ok (.iconst 0, 1) := q_iconst0 (bat_get dg_X12_doesAgree_0_0 6 rfl rfl)
theorem dX12_doesAgree_11 : decode cX12_doesAgree 11 = .ok (.putfield 362, 3) := q_putfield (bat_get dg_X12_doesAgree_0_0 7 rfl rfl) rfl
theorem dX12_doesAgree_14 : decode cX12_doesAgree 14 = .ok (.aload_n 0, 1) := q_aload_n0 (bat_get dg_X12_doesAgree_0_0 8 rfl rfl)
theorem dX12_doesAgree_15 : decode cX12_doesAgree 15 = .ok (.getfield 382, 3) := q_getfield (bat_get dg_X12_doesAgree_0_0 9 rfl rfl) rfl
theorem dX12_doesAgree_18 : decode cX12_doesAgree 18 = .ok (.lconst 0, 1) := q_lconst0 (bat_get dg_X12_doesAgree_0_0 10 rfl rfl)
theorem dX12_doesAgree_19 : decode cX12_doesAgree 19 = .ok (.lcmp, 1) := q_lcmp (bat_get dg_X12_doesAgree_0_0 11 rfl rfl)
theorem dX12_doesAgree_20 : decode cX12_doesAgree 20 = .ok (.ifCond .le 7, 3) := q_ifCond_le (bat_get dg_X12_doesAgree_0_0 12 rfl rfl) rfl
theorem dX12_doesAgree_27 : decode cX12_doesAgree 27 = .ok (.iconst 0, 1) := q_iconst0 (bat_get dg_X12_doesAgree_0_0 13 rfl rfl)
theorem dX12_doesAgree_28 : decode cX12_doesAgree 28 = .ok (.ireturn, 1) := q_ireturn (bat_get dg_X12_doesAgree_0_0 14 rfl rfl)
theorem dX12_doesAgree_23 : decode cX12_doesAgree 23 = .ok (.iconst 1, 1) := q_iconst1 (bat_get dg_X12_doesAgree_0_0 15 rfl rfl)
theorem dX12_doesAgree_24 : decode cX12_doesAgree 24 = .ok (.goto 4, 3) := q_goto (bat_get dg_X12_doesAgree_0_0 16 rfl rfl) rfl
theorem w_7_232 : (Cond.code yX12_doesAgree cX12_doesAgree 2 (some .boolean)) ∈ wsL_law := sk_mem (ck_7 _ (List.mem_of_getElem? (i := 232) rfl)) rfl
set_option maxHeartbeats 4000000 in
set_option maxRecDepth 100000 in
theorem c_m_doesAgree (l : Launch) (D : va_G) (cI cJ cC cZ cS : ClassId) (mm : Nat) (g : Nat → Nat) (ta : Nat) (pa : Nat) (pe : Nat) (pd : Int32) (pb : Nat) (pp : Int32) (pf : Int32) (pg : Int32) (pn : Int32) (rt : Int32) (rn : Int32) (cd : Nat) (sn : Int32) (il : Nat) (tk : Int32) (am : Int32) (at_ : Int32) (aa : Int32) (mt_ : Int32) (wt : Int32) (wy : Int64) (it_ : Nat) (rm : Nat) (ud : Nat) (nu : Nat) (sd : Int64) (qn : Nat) (qw : Nat) (qo : Int32) (qb : Nat) (qp : Nat) (qa : Int64) (qi : Nat) (oc : Nat) (o : Int32) (l0 : Nat) (l1 : Nat) (dm : Nat) (l3 : Nat) (nw : Nat → Int32) (yo : Nat → Int32) (yw : Nat → Int32) (be : Nat → Int64) (bf : Nat → Int64) (hdm : dm ≤ 9) (hdm1 : 1 ≤ dm) (hnw : nowOk nw) : skM l yX12_doesAgree cX12_doesAgree 2 (some .boolean) 4 92 0 0 D (skT cI cJ cC cZ cS) [.ref mm, .int o] [ro_ mm 12 (mo g (nI ta) (nI pa) (nI pe) pd (nI pb) pp pf pg pn rt rn (nI cd) sn (nI il) tk am at_ aa mt_ 0 (-1) wt wy (nI it_) (nI rm) (nI ud) (nI nu) sd (nI qn) (nI qw) qo (nI qb) (nI qp) qa (nI qi) (nI oc)), ra_I (g 20) cI 4 (l4 (nI l0) (nI l1) (nI dm) (nI l3)), ra_I (g 31) cI 120 nw, ra_I (g 37) cZ 900 yo, ra_I (g 36) cZ 900 yw, ra_J (g 43) cJ 90 be, ra_J (g 44) cJ 90 bf] (skI D (skT cI cJ cC cZ cS) (fun (r : Int32) (u : va_W) => ∃ (b : Nat), ∃ (wy2 : Int64), ∃ (be2 : Nat → Int64), ∃ (bf2 : Nat → Int64), beOk (cfN nw yw yo o) dm 0 be2 ∧ wy2 = nL (wys (cfN nw yw yo o) (a0N nw) (dm - 1)) ∧ (b = 0 ∨ (b = 1 ∧ 0 < wys (cfN nw yw yo o) (a0N nw) (dm - 1))) ∧ r = nI b ∧ u = [ro_ mm 12 (mo g (nI ta) (nI pa) (nI pe) pd (nI pb) pp pf pg pn rt rn (nI cd) sn (nI il) tk am at_ aa 0 0 (-1) wt wy2 (nI it_) (nI rm) (nI ud) (nI nu) sd (nI qn) (nI qw) qo (nI qb) (nI qp) qa (nI qi) (nI oc)), ra_I (g 20) cI 4 (l4 (nI l0) (nI l1) (nI dm) (nI l3)), ra_I (g 31) cI 120 nw, ra_I (g 37) cZ 900 yo, ra_I (g 36) cZ 900 yw, ra_J (g 43) cJ 90 be2, ra_J (g 44) cJ 90 bf2])) := by
  refine skM_of pf_X12_doesAgree (Nat.le_of_ble_eq_true rfl) ?_
  intro p e s m below meth c A ls E hP hD hl
  refine skE_el E (fun hx hb hr hml hlocks hin hown hts hK hA => ?_)
  have hown : s.vm.findClass RX12 = some m.cls := hown
  have hS : va_S A s.heap s.heap [] := va_S.rf
  have hl : lv_has ls 2 [(0, .ref mm), (1, .int o)] := hl
  refine lv_aload_n hx hb dX12_doesAgree_0 rfl (lv_at hl 0 rfl) ?_
  refine lv_iload_n hx hb dX12_doesAgree_1 rfl (lv_at hl 1 rfl) ?_
  refine sk_put (ws' := [ro_ mm 12 (mo g (nI ta) (nI pa) (nI pe) pd (nI pb) pp pf pg pn rt rn (nI cd) sn (nI il) tk am at_ aa o 0 (-1) wt wy (nI it_) (nI rm) (nI ud) (nI nu) sd (nI qn) (nI qw) qo (nI qb) (nI qp) qa (nI qi) (nI oc)), ra_I (g 20) cI 4 (l4 (nI l0) (nI l1) (nI dm) (nI l3)), ra_I (g 31) cI 120 nw, ra_I (g 37) cZ 900 yo, ra_I (g 36) cZ 900 yw, ra_J (g 43) cJ 90 be, ra_J (g 44) cJ 90 bf]) (C := RX12) (T := TX12) (N := 92) (v := .int o) hx hb hts inlX12 tyX12 tyX12_ok nmX12 hown hK hP hD hS 0 rfl rfl 39 (Nat.le_of_ble_eq_true rfl) w_5_194 rfl rfl rfl (Nat.le_of_ble_eq_true rfl) rfl dX12_doesAgree_2 (fun H locs hP hD hS => ?_)
  refine lv_aload_n hx hb dX12_doesAgree_5 rfl (lv_at hl 0 rfl) ?_
  refine sk_Vv (q0 := 0) (n := 0) (rest := []) (wr := fmR om_7_7f _) ⟨hx, hb, hml, hown, hts⟩ hl.1 (c_m_laysWays0 l D cI cJ cC cZ cS mm g ta pa pe pd pb pp pf pg pn rt rn cd sn il tk am at_ aa o wt wy it_ rm ud nu sd qn qw qo qb qp qa qi oc l0 l1 dm l3 nw yo yw be bf hdm hdm1 hnw) w_7_197 w_7_199 w_0_84 w_1_14 w_7_200 hd_X12_laysWays_0 ⟨⟨(Nat.le_of_ble_eq_true rfl), (Nat.le_of_ble_eq_true rfl)⟩, (Nat.le_of_ble_eq_true rfl), (Nat.le_of_ble_eq_true rfl)⟩ hK hP hD hS hA (fmT om_7_7f 0) (fmF om_7_7f 0) (fm_C1 rfl rfl) (fm_R rfl rfl) (fm_nT om_7_7f 0) (fm_nF om_7_7f 0) (fm_di om_7_7f 0) rfl rfl rfl rfl (Nat.le_of_ble_eq_true rfl) dX12_doesAgree_6 (fun u H locs hw hP hD hS => ?_)
  refine exE hw (fun wy2_1 hw1 => exE hw1 (fun be2_2 hw2 => exE hw2 (fun bf2_3 hw3 => anE hw3 (fun hbe_4 hw4 => anE hw4 (fun hwy_5 eu_6 => ?_)))))
  clear hw hw1 hw2 hw3 hw4
  refine o_mgE (ws' := [ro_ mm 12 (mo g (nI ta) (nI pa) (nI pe) pd (nI pb) pp pf pg pn rt rn (nI cd) sn (nI il) tk am at_ aa o 0 (-1) wt wy2_1 (nI it_) (nI rm) (nI ud) (nI nu) sd (nI qn) (nI qw) qo (nI qb) (nI qp) qa (nI qi) (nI oc)), ra_I (g 20) cI 4 (l4 (nI l0) (nI l1) (nI dm) (nI l3)), ra_I (g 31) cI 120 nw, ra_I (g 37) cZ 900 yo, ra_I (g 36) cZ 900 yw, ra_J (g 43) cJ 90 be2_2, ra_J (g 44) cJ 90 bf2_3]) eu_6 hP hD rfl (fun hP hD => ?_)
  refine lv_aload_n hx hb dX12_doesAgree_9 rfl (lv_at hl 0 rfl) ?_
  refine lv_iconst (v := 0) hx hb dX12_doesAgree_10 ic_0 ?_
  refine sk_put (ws' := [ro_ mm 12 (mo g (nI ta) (nI pa) (nI pe) pd (nI pb) pp pf pg pn rt rn (nI cd) sn (nI il) tk am at_ aa 0 0 (-1) wt wy2_1 (nI it_) (nI rm) (nI ud) (nI nu) sd (nI qn) (nI qw) qo (nI qb) (nI qp) qa (nI qi) (nI oc)), ra_I (g 20) cI 4 (l4 (nI l0) (nI l1) (nI dm) (nI l3)), ra_I (g 31) cI 120 nw, ra_I (g 37) cZ 900 yo, ra_I (g 36) cZ 900 yw, ra_J (g 43) cJ 90 be2_2, ra_J (g 44) cJ 90 bf2_3]) (C := RX12) (T := TX12) (N := 92) (v := .int 0) hx hb hts inlX12 tyX12 tyX12_ok nmX12 hown hK hP hD hS 0 rfl rfl 39 (Nat.le_of_ble_eq_true rfl) w_5_194 rfl rfl rfl (Nat.le_of_ble_eq_true rfl) rfl dX12_doesAgree_11 (fun H locs hP hD hS => ?_)
  refine lv_aload_n hx hb dX12_doesAgree_14 rfl (lv_at hl 0 rfl) ?_
  refine sk_get (v := .long wy2_1) (C := RX12) (T := TX12) (N := 92) hx hb hts inlX12 hown hK hP 0 rfl rfl 45 (Nat.le_of_ble_eq_true rfl) w_5_200 rfl dX12_doesAgree_15 ?_
  refine lv_lconst (v := 0) hx hb dX12_doesAgree_18 (by decide) ?_
  refine W.lcmp hx hb dX12_doesAgree_19 ?_
  refine lv_if_le (tgt := 27) hx hb dX12_doesAgree_20 (by decide) (fun c_7 => ?_) (fun c_7 => ?_)
  · skip
    refine lv_iconst (v := 0) hx hb dX12_doesAgree_27 ic_0 ?_
    exact sk_iret hx hb hr rfl hlocks hK hP hD hS (⟨0, wy2_1, be2_2, bf2_3, hbe_4, hwy_5, Or.inl rfl, rfl, rfl⟩) (Nat.le_of_ble_eq_true rfl) (Nat.le_of_ble_eq_true rfl) dX12_doesAgree_28
  · skip
    refine lv_iconst (v := 1) hx hb dX12_doesAgree_23 ic_1 ?_
    refine lv_goto (tgt := 28) hx hb dX12_doesAgree_24 (by decide) ?_
    exact sk_iret hx hb hr rfl hlocks hK hP hD hS (⟨1, wy2_1, be2_2, bf2_3, hbe_4, hwy_5, Or.inr ⟨rfl, ways_gt hwy_5 c_7⟩, rfl, rfl⟩) (Nat.le_of_ble_eq_true rfl) (Nat.le_of_ble_eq_true rfl) dX12_doesAgree_28
theorem inRg {x y z : Int32} {lo hi : Nat} (h0 : y.toInt64 ≤ x.toInt64) (h1 : x.toInt64 ≤ z.toInt64) (hy : y = nI lo) (hz : z = nI hi) (hl : lo < 2147483648 := by omega) (hh : hi < 2147483648 := by omega) : ∃ k : Nat, k ≤ hi ∧ lo ≤ k ∧ x = nI k := by
  subst hy; subst hz
  have h2 := Int64.le_iff_toInt_le.mp h0
  have h3 := Int64.le_iff_toInt_le.mp h1
  rw [lgv lo hl, Int32.toInt_toInt64] at h2
  rw [lgv hi hh, Int32.toInt_toInt64] at h3
  obtain ⟨k, hk, rfl⟩ := nof' x (by rw [Int32.le_iff_toInt_le]; exact Int.le_trans (by show (0 : Int) ≤ (lo : Int); omega) h2)
  rw [ivn k hk] at h2 h3
  exact ⟨k, by omega, by omega, rfl⟩
theorem dg_X12_does_0_0 : bqL cX12_does 0 [(0, [42]), (1, [27]), (2, [182, 1, 157]), (5, [153, 0, 34]), (39, [2]), (40, [172]), (8, [42]), (9, [28]), (10, [182, 1, 162]), (13, [153, 0, 26]), (16, [42]), (17, [29]), (18, [182, 1, 162]), (21, [153, 0, 18]), (24, [42]), (25, [27]), (26, [28]), (27, [29]), (28, [42]), (29, [27]), (30, [182, 1, 103]), (33, [182, 1, 99]), (36, [167, 0, 4])] = true := by decide +kernel
theorem dX12_does_0 : decode cX12_does 0 = .ok (.aload_n 0, 1) := q_aload_n0 (bat_get dg_X12_does_0_0 0 rfl rfl)
theorem dX12_does_1 : decode cX12_does 1 = .ok (.iload_n 1, 1) := q_iload_n1 (bat_get dg_X12_does_0_0 1 rfl rfl)
theorem dX12_does_2 : decode cX12_does 2 = .ok (.invokevirtual 413, 3) := q_invokevirtual (bat_get dg_X12_does_0_0 2 rfl rfl) rfl
theorem dX12_does_5 : decode cX12_does 5 = .ok (.ifCond .eq 34, 3) := q_ifCond_eq (bat_get dg_X12_does_0_0 3 rfl rfl) rfl
theorem dX12_does_39 : decode cX12_does 39 = .ok (.iconst (-1), 1) := q_iconstm1 (bat_get dg_X12_does_0_0 4 rfl rfl)
theorem dX12_does_40 : decode cX12_does 40 = .ok (.ireturn, 1) := q_ireturn (bat_get dg_X12_does_0_0 5 rfl rfl)
theorem dX12_does_8 : decode cX12_does 8 = .ok (.aload_n 0, 1) := q_aload_n0 (bat_get dg_X12_does_0_0 6 rfl rfl)
theorem dX12_does_9 : decode cX12_does 9 = .ok (.iload_n 2, 1) := q_iload_n2 (bat_get dg_X12_does_0_0 7 rfl rfl)
theorem dX12_does_10 : decode cX12_does 10 = .ok (.invokevirtual 418, 3) := q_invokevirtual (bat_get dg_X12_does_0_0 8 rfl rfl) rfl
theorem dX12_does_13 : decode cX12_does 13 = .ok (.ifCond .eq 26, 3) := q_ifCond_eq (bat_get dg_X12_does_0_0 9 rfl rfl) rfl
theorem dX12_does_16 : decode cX12_does 16 = .ok (.aload_n 0, 1) := q_aload_n0 (bat_get dg_X12_does_0_0 10 rfl rfl)
theorem dX12_does_17 : decode cX12_does 17 = .ok (.iload_n 3, 1) := q_iload_n3 (bat_get dg_X12_does_0_0 11 rfl rfl)
theorem dX12_does_18 : decode cX12_does 18 = .ok (.invokevirtual 418, 3) := q_invokevirtual (bat_get dg_X12_does_0_0 12 rfl rfl) rfl
theorem dX12_does_21 : decode cX12_does 21 = .ok (.ifCond .eq 18, 3) := q_ifCond_eq (bat_get dg_X12_does_0_0 13 rfl rfl) rfl
theorem dX12_does_24 : decode cX12_does 24 = .ok (.aload_n 0, 1) := q_aload_n0 (bat_get dg_X12_does_0_0 14 rfl rfl)
theorem dX12_does_25 : decode cX12_does 25 = .ok (.iload_n 1, 1) := q_iload_n1 (bat_get dg_X12_does_0_0 15 rfl rfl)
theorem dX12_does_26 : decode cX12_does 26 = .ok (.iload_n 2, 1) := q_iload_n2 (bat_get dg_X12_does_0_0 16 rfl rfl)
theorem dX12_does_27 : decode cX12_does 27 = .ok (.iload_n 3, 1) := q_iload_n3 (bat_get dg_X12_does_0_0 17 rfl rfl)
theorem dX12_does_28 : decode cX12_does 28 = .ok (.aload_n 0, 1) := q_aload_n0 (bat_get dg_X12_does_0_0 18 rfl rfl)
theorem dX12_does_29 : decode cX12_does 29 = .ok (.iload_n 1, 1) := q_iload_n1 (bat_get dg_X12_does_0_0 19 rfl rfl)
theorem dX12_does_30 : decode cX12_does 30 = .ok (.invokevirtual 359, 3) := q_invokevirtual (bat_get dg_X12_does_0_0 20 rfl rfl) rfl
theorem dX12_does_33 : decode cX12_does 33 = .ok (.invokevirtual 355, 3) := q_invokevirtual (bat_get dg_X12_does_0_0 21 rfl rfl) rfl
theorem dX12_does_36 : decode cX12_does 36 = .ok (.goto 4, 3) := q_goto (bat_get dg_X12_does_0_0 22 rfl rfl) rfl
theorem w_7_117 : (Cond.methodLink RX12 413 yX12_isDay) ∈ wsL_law := sk_mem (ck_7 _ (List.mem_of_getElem? (i := 117) rfl)) rfl
theorem w_7_119 : (Cond.instanceMethod yX12_isDay) ∈ wsL_law := sk_mem (ck_7 _ (List.mem_of_getElem? (i := 119) rfl)) rfl
theorem w_0_72 : (Cond.selects RX12 yX12_isDay yX12_isDay) ∈ wsL_law := sk_mem (ck_0 _ (List.mem_of_getElem? (i := 72) rfl)) rfl
theorem w_7_126 : (Cond.methodLink RX12 418 yX12_isMood) ∈ wsL_law := sk_mem (ck_7 _ (List.mem_of_getElem? (i := 126) rfl)) rfl
theorem w_7_128 : (Cond.instanceMethod yX12_isMood) ∈ wsL_law := sk_mem (ck_7 _ (List.mem_of_getElem? (i := 128) rfl)) rfl
theorem w_0_73 : (Cond.selects RX12 yX12_isMood yX12_isMood) ∈ wsL_law := sk_mem (ck_0 _ (List.mem_of_getElem? (i := 73) rfl)) rfl
theorem w_7_175 : (Cond.code yX12_does cX12_does 4 (some .int)) ∈ wsL_law := sk_mem (ck_7 _ (List.mem_of_getElem? (i := 175) rfl)) rfl
def om_8_80 : List Bool := true :: false :: false :: false :: false :: false :: false :: false :: []
def om_8_88 : List Bool := true :: false :: false :: false :: true :: false :: false :: false :: []
def om_8_fe : List Bool := true :: true :: true :: true :: true :: true :: true :: false :: []
theorem hd_X12_isDay_1 : skD yX12_isDay 1 := by decide +kernel
theorem hd_X12_isMood_1 : skD yX12_isMood 1 := by decide +kernel
theorem dg_X12_many_0_0 : bqL cX12_many 0 [(0, [42]), (1, [27]), (2, [182, 1, 157]), (5, [153, 0, 11]), (16, [20, 1, 165]), (19, [173]), (8, [42]), (9, [28]), (10, [182, 1, 162]), (13, [154, 0, 7]), (20, [42]), (21, [182, 1, 144]), (24, [42]), (25, [180, 0, 86]), (28, [16, 10]), (30, [27]), (31, [104]), (32, [28]), (33, [96]), (34, [47]), (35, [42]), (36, [180, 0, 82]), (39, [16, 10]), (41, [27]), (42, [104]), (43, [28]), (44, [96]), (45, [47]), (46, [105]), (47, [173])] = true := by decide +kernel
theorem dX12_many_0 : decode cX12_many 0 = .ok (.aload_n 0, 1) := q_aload_n0 (bat_get dg_X12_many_0_0 0 rfl rfl)
theorem dX12_many_1 : decode cX12_many 1 = .ok (.iload_n 1, 1) := q_iload_n1 (bat_get dg_X12_many_0_0 1 rfl rfl)
theorem dX12_many_2 : decode cX12_many 2 = .ok (.invokevirtual 413, 3) := q_invokevirtual (bat_get dg_X12_many_0_0 2 rfl rfl) rfl
theorem dX12_many_5 : decode cX12_many 5 = .ok (.ifCond .eq 11, 3) := q_ifCond_eq (bat_get dg_X12_many_0_0 3 rfl rfl) rfl
theorem dX12_many_16 : decode cX12_many 16 = .ok (.ldc2_w 421, 3) := q_ldc2_w (bat_get dg_X12_many_0_0 4 rfl rfl) rfl
theorem dX12_many_19 : decode cX12_many 19 = .ok (.lreturn, 1) := q_lreturn (bat_get dg_X12_many_0_0 5 rfl rfl)
theorem dX12_many_8 : decode cX12_many 8 = .ok (.aload_n 0, 1) := q_aload_n0 (bat_get dg_X12_many_0_0 6 rfl rfl)
theorem dX12_many_9 : decode cX12_many 9 = .ok (.iload_n 2, 1) := q_iload_n2 (bat_get dg_X12_many_0_0 7 rfl rfl)
theorem dX12_many_10 : decode cX12_many 10 = .ok (.invokevirtual 418, 3) := q_invokevirtual (bat_get dg_X12_many_0_0 8 rfl rfl) rfl
theorem dX12_many_13 : decode cX12_many 13 = .ok (.ifCond .ne 7, 3) := q_ifCond_ne (bat_get dg_X12_many_0_0 9 rfl rfl) rfl
theorem dX12_many_20 : decode cX12_many 20 = .ok (.aload_n 0, 1) := q_aload_n0 (bat_get dg_X12_many_0_0 10 rfl rfl)
theorem dX12_many_21 : decode cX12_many 21 = .ok (.invokevirtual 400, 3) := q_invokevirtual (bat_get dg_X12_many_0_0 11 rfl rfl) rfl
theorem dX12_many_24 : decode cX12_many 24 = .ok (.aload_n 0, 1) := q_aload_n0 (bat_get dg_X12_many_0_0 12 rfl rfl)
theorem dX12_many_25 : decode cX12_many 25 = .ok (.getfield 86, 3) := q_getfield (bat_get dg_X12_many_0_0 13 rfl rfl) rfl
theorem dX12_many_28 : decode cX12_many 28 = .ok (.bipush 10, 2) := q_bipush (bat_get dg_X12_many_0_0 14 rfl rfl) rfl
theorem dX12_many_30 : decode cX12_many 30 = .ok (.iload_n 1, 1) := q_iload_n1 (bat_get dg_X12_many_0_0 15 rfl rfl)
theorem dX12_many_31 : decode cX12_many 31 = .ok (.imul, 1) := q_imul (bat_get dg_X12_many_0_0 16 rfl rfl)
theorem dX12_many_32 : decode cX12_many 32 = .ok (.iload_n 2, 1) := q_iload_n2 (bat_get dg_X12_many_0_0 17 rfl rfl)
theorem dX12_many_33 : decode cX12_many 33 = .ok (.iadd, 1) := q_iadd (bat_get dg_X12_many_0_0 18 rfl rfl)
theorem dX12_many_34 : decode cX12_many 34 = .ok (.laload, 1) := q_laload (bat_get dg_X12_many_0_0 19 rfl rfl)
theorem dX12_many_35 : decode cX12_many 35 = .ok (.aload_n 0, 1) := q_aload_n0 (bat_get dg_X12_many_0_0 20 rfl rfl)
theorem dX12_many_36 : decode cX12_many 36 = .ok (.getfield 82, 3) := q_getfield (bat_get dg_X12_many_0_0 21 rfl rfl) rfl
theorem dX12_many_39 : decode cX12_many 39 = .ok (.bipush 10, 2) := q_bipush (bat_get dg_X12_many_0_0 22 rfl rfl) rfl
theorem dX12_many_41 : decode cX12_many 41 = .ok (.iload_n 1, 1) := q_iload_n1 (bat_get dg_X12_many_0_0 23 rfl rfl)
theorem dX12_many_42 : decode cX12_many 42 = .ok (.imul, 1) := q_imul (bat_get dg_X12_many_0_0 24 rfl rfl)
theorem dX12_many_43 : decode cX12_many 43 = .ok (.iload_n 2, 1) := q_iload_n2 (bat_get dg_X12_many_0_0 25 rfl rfl)
theorem dX12_many_44 : decode cX12_many 44 = .ok (.iadd, 1) := q_iadd (bat_get dg_X12_many_0_0 26 rfl rfl)
theorem dX12_many_45 : decode cX12_many 45 = .ok (.laload, 1) := q_laload (bat_get dg_X12_many_0_0 27 rfl rfl)
theorem dX12_many_46 : decode cX12_many 46 = .ok (.lmul, 1) := q_lmul (bat_get dg_X12_many_0_0 28 rfl rfl)
theorem dX12_many_47 : decode cX12_many 47 = .ok (.lreturn, 1) := q_lreturn (bat_get dg_X12_many_0_0 29 rfl rfl)
theorem w_7_184 : (Cond.constantLong RX12 421 (-1000000000000000)) ∈ wsL_law := sk_mem (ck_7 _ (List.mem_of_getElem? (i := 184) rfl)) rfl
theorem w_7_189 : (Cond.methodLink RX12 400 yX12_laysAll) ∈ wsL_law := sk_mem (ck_7 _ (List.mem_of_getElem? (i := 189) rfl)) rfl
theorem w_7_191 : (Cond.instanceMethod yX12_laysAll) ∈ wsL_law := sk_mem (ck_7 _ (List.mem_of_getElem? (i := 191) rfl)) rfl
theorem w_0_82 : (Cond.selects RX12 yX12_laysAll yX12_laysAll) ∈ wsL_law := sk_mem (ck_0 _ (List.mem_of_getElem? (i := 82) rfl)) rfl
theorem w_7_224 : (Cond.code yX12_many cX12_many 3 (some .long)) ∈ wsL_law := sk_mem (ck_7 _ (List.mem_of_getElem? (i := 224) rfl)) rfl
def om_13_1020 : List Bool := true :: false :: false :: false :: false :: false :: false :: true :: false :: false :: false :: false :: false :: []
def om_13_1fff : List Bool := true :: true :: true :: true :: true :: true :: true :: true :: true :: true :: true :: true :: true :: []
theorem hd_X12_laysAll_0 : skD yX12_laysAll 0 := by decide +kernel
set_option maxHeartbeats 4000000 in
set_option maxRecDepth 100000 in
theorem c_m_many (l : Launch) (D : va_G) (cI cJ cC cZ cS : ClassId) (mm : Nat) (g : Nat → Nat) (ta : Nat) (pa : Nat) (pe : Nat) (pd : Int32) (pb : Nat) (pp : Int32) (pf : Int32) (pg : Int32) (pn : Int32) (rt : Int32) (rn : Int32) (cd : Nat) (sn : Int32) (il : Nat) (tk : Int32) (am : Int32) (at_ : Int32) (aa : Int32) (wt : Int32) (wy : Int64) (rm : Nat) (ud : Nat) (nu : Nat) (sd : Int64) (qn : Nat) (qw : Nat) (qo : Int32) (qb : Nat) (qp : Nat) (qa : Int64) (qi : Nat) (oc : Nat) (d : Int32) (o : Int32) (u0 : Int32) (u1 : Int32) (u2 : Int32) (u3 : Int32) (u4 : Int32) (u5 : Int32) (v0 : Int32) (v1 : Int32) (v2 : Int32) (v3 : Int32) (v4 : Int32) (v5 : Int32) (cs : Nat → Nat) (nw : Nat → Int32) (pt : Nat → Nat) (ql : Nat → Int64) (l0 : Nat) (l1 : Nat) (dm : Nat) (l3 : Nat) (ws_ : Nat → Int32) (yw : Nat → Int32) (yo : Nat → Int32) (be : Nat → Int64) (bf : Nat → Int64) (hil : il ≤ 1) (hild : il = 1 → 1 ≤ dm) (hdm : dm ≤ 9) (hp0 : progOk cs u3 v3) (hp1 : progOk cs u4 v4) (hp2 : progOk cs u5 v5) (hcs : ∀ j, cs j ≤ 20000) (hnw : nowOk nw) (hpt : ∀ j, pt j ≤ 9) : skM l yX12_many cX12_many 3 (some .long) 6 142 0 0 D (skT cI cJ cC cZ cS) [.ref mm, .int d, .int o] [ro_ mm 12 (mo g (nI ta) (nI pa) (nI pe) pd (nI pb) pp pf pg pn rt rn (nI cd) sn (nI il) tk am at_ aa 0 0 (-1) wt wy 0 (nI rm) (nI ud) (nI nu) sd (nI qn) (nI qw) qo (nI qb) (nI qp) qa (nI qi) (nI oc)), ra_I (g 24) cI 6 (l6 u0 u1 u2 u3 u4 u5), ra_I (g 25) cI 6 (l6 v0 v1 v2 v3 v4 v5), ra_N (g 26) cI 3200 cs, ra_I (g 31) cI 120 nw, ra_N (g 46) cI 9 pt, ra_J (g 86) cJ 1700 ql, ra_I (g 20) cI 4 (l4 (nI l0) (nI l1) (nI dm) (nI l3)), ra_I (g 38) cI 90 ws_, ra_I (g 36) cZ 900 yw, ra_I (g 37) cZ 900 yo, ra_J (g 43) cJ 90 be, ra_J (g 44) cJ 90 bf] (skL D (skT cI cJ cC cZ cS) (fun (r : Int64) (u : va_W) => ∃ (tk2 : Int32), ∃ (qp2 : Nat), ∃ (am2 : Int32), ∃ (at_2 : Int32), ∃ (aa2 : Int32), ∃ (wy2 : Int64), ∃ (ql2 : Nat → Int64), ∃ (ws_2 : Nat → Int32), ∃ (yw2 : Nat → Int32), ∃ (yo2 : Nat → Int32), ∃ (be2 : Nat → Int64), ∃ (bf2 : Nat → Int64), u = [ro_ mm 12 (mo g (nI ta) (nI pa) (nI pe) pd (nI pb) pp pf pg pn rt rn (nI cd) sn (nI il) tk2 am2 at_2 aa2 0 0 (-1) wt wy2 0 (nI rm) (nI ud) (nI nu) sd (nI qn) (nI qw) qo (nI qb) (nI qp2) qa (nI qi) (nI oc)), ra_I (g 24) cI 6 (l6 u0 u1 u2 u3 u4 u5), ra_I (g 25) cI 6 (l6 v0 v1 v2 v3 v4 v5), ra_N (g 26) cI 3200 cs, ra_I (g 31) cI 120 nw, ra_N (g 46) cI 9 pt, ra_J (g 86) cJ 1700 ql2, ra_I (g 20) cI 4 (l4 (nI l0) (nI l1) (nI dm) (nI l3)), ra_I (g 38) cI 90 ws_2, ra_I (g 36) cZ 900 yw2, ra_I (g 37) cZ 900 yo2, ra_J (g 43) cJ 90 be2, ra_J (g 44) cJ 90 bf2])) := by
  refine skM_of pf_X12_many (Nat.le_of_ble_eq_true rfl) ?_
  intro p e s m below meth c A ls E hP hD hl
  refine skE_el E (fun hx hb hr hml hlocks hin hown hts hK hA => ?_)
  have hown : s.vm.findClass RX12 = some m.cls := hown
  have hS : va_S A s.heap s.heap [] := va_S.rf
  have hl : lv_has ls 3 [(0, .ref mm), (1, .int d), (2, .int o)] := hl
  refine lv_aload_n hx hb dX12_many_0 rfl (lv_at hl 0 rfl) ?_
  refine lv_iload_n hx hb dX12_many_1 rfl (lv_at hl 1 rfl) ?_
  refine sk_Vi (q0 := 0) (n := 1) (rest := []) (wr := fmR om_13_1020 _) ⟨hx, hb, hml, hown, hts⟩ hl.1 (c_m_isDay l D cI cJ cC cZ cS mm g ta pa pe pd pb pp pf pg pn rt rn cd sn il tk am at_ aa 0 0 (-1) wt wy 0 rm ud nu sd qn qw qo qb qp qa qi oc d l0 l1 dm l3 hdm) w_7_117 w_7_119 w_0_72 w_1_14 w_7_120 hd_X12_isDay_1 ⟨⟨(Nat.le_of_ble_eq_true rfl), (Nat.le_of_ble_eq_true rfl)⟩, (Nat.le_of_ble_eq_true rfl), (Nat.le_of_ble_eq_true rfl)⟩ hK hP hD hS hA (fmT om_13_1020 0) (fmF om_13_1020 0) (fm_C1 rfl rfl) (fm_R rfl rfl) (fm_nT om_13_1020 0) (fm_nF om_13_1020 0) (fm_di om_13_1020 0) rfl rfl rfl rfl (Nat.le_of_ble_eq_true rfl) dX12_many_2 (fun r_2 u H locs hw hP hD hS => ?_)
  refine exE hw (fun b_1 hw1 => anE hw1 (fun hb1_3 hw2 => anE hw2 (fun er_5 eu_4 => ?_)))
  clear hw hw1 hw2
  subst er_5
  refine o_mgE (ws' := [ro_ mm 12 (mo g (nI ta) (nI pa) (nI pe) pd (nI pb) pp pf pg pn rt rn (nI cd) sn (nI il) tk am at_ aa 0 0 (-1) wt wy 0 (nI rm) (nI ud) (nI nu) sd (nI qn) (nI qw) qo (nI qb) (nI qp) qa (nI qi) (nI oc)), ra_I (g 24) cI 6 (l6 u0 u1 u2 u3 u4 u5), ra_I (g 25) cI 6 (l6 v0 v1 v2 v3 v4 v5), ra_N (g 26) cI 3200 cs, ra_I (g 31) cI 120 nw, ra_N (g 46) cI 9 pt, ra_J (g 86) cJ 1700 ql, ra_I (g 20) cI 4 (l4 (nI l0) (nI l1) (nI dm) (nI l3)), ra_I (g 38) cI 90 ws_, ra_I (g 36) cZ 900 yw, ra_I (g 37) cZ 900 yo, ra_J (g 43) cJ 90 be, ra_J (g 44) cJ 90 bf]) eu_4 hP hD rfl (fun hP hD => ?_)
  refine lv_if_eq (tgt := 16) hx hb dX12_many_5 (by decide) (fun c_6 => ?_) (fun c_6 => ?_)
  · have c_6 : b_1 = 0 := (neq b_1 0 (by omega) (Nat.le_of_ble_eq_true rfl)).mp c_6
    refine lv_ldc2 (v := (-1000000000000000)) hx hb hown (hts _ w_7_184) dX12_many_16 ?_
    exact sk_lret hx hb hr hlocks hK hP hD hS (⟨tk, qp, am, at_, aa, wy, ql, ws_, yw, yo, be, bf, rfl⟩) (Nat.le_of_ble_eq_true rfl) (Nat.le_of_ble_eq_true rfl) dX12_many_19
  · have c_6 : ¬ (b_1 = 0) := fun h => c_6 ((neq b_1 0 (by omega) (Nat.le_of_ble_eq_true rfl)).mpr h)
    obtain ⟨kd_7, hkd_7, rfl⟩ := (hb1_3.resolve_left (by omega)).2
    refine lv_aload_n hx hb dX12_many_8 rfl (lv_at hl 0 rfl) ?_
    refine lv_iload_n hx hb dX12_many_9 rfl (lv_at hl 2 rfl) ?_
    refine sk_Vi (q0 := 0) (n := 1) (rest := []) (wr := fmR om_13_1000 _) ⟨hx, hb, hml, hown, hts⟩ hl.1 (c_m_isMood l D cI cJ cC cZ cS mm g ta pa pe pd pb pp pf pg pn rt rn cd sn il tk am at_ aa 0 0 (-1) wt wy 0 rm ud nu sd qn qw qo qb qp qa qi oc o) w_7_126 w_7_128 w_0_73 w_1_14 w_7_129 hd_X12_isMood_1 ⟨⟨(Nat.le_of_ble_eq_true rfl), (Nat.le_of_ble_eq_true rfl)⟩, (Nat.le_of_ble_eq_true rfl), (Nat.le_of_ble_eq_true rfl)⟩ hK hP hD hS hA (fmT om_13_1000 0) (fmF om_13_1000 0) (fm_C1 rfl rfl) (fm_R rfl rfl) (fm_nT om_13_1000 0) (fm_nF om_13_1000 0) (fm_di om_13_1000 0) rfl rfl rfl rfl (Nat.le_of_ble_eq_true rfl) dX12_many_10 (fun r_9 u H locs hw hP hD hS => ?_)
    refine exE hw (fun b_8 hw1 => anE hw1 (fun hb1_10 hw2 => anE hw2 (fun er_12 eu_11 => ?_)))
    clear hw hw1 hw2
    subst er_12
    refine o_mgE (ws' := [ro_ mm 12 (mo g (nI ta) (nI pa) (nI pe) pd (nI pb) pp pf pg pn rt rn (nI cd) sn (nI il) tk am at_ aa 0 0 (-1) wt wy 0 (nI rm) (nI ud) (nI nu) sd (nI qn) (nI qw) qo (nI qb) (nI qp) qa (nI qi) (nI oc)), ra_I (g 24) cI 6 (l6 u0 u1 u2 u3 u4 u5), ra_I (g 25) cI 6 (l6 v0 v1 v2 v3 v4 v5), ra_N (g 26) cI 3200 cs, ra_I (g 31) cI 120 nw, ra_N (g 46) cI 9 pt, ra_J (g 86) cJ 1700 ql, ra_I (g 20) cI 4 (l4 (nI l0) (nI l1) (nI dm) (nI l3)), ra_I (g 38) cI 90 ws_, ra_I (g 36) cZ 900 yw, ra_I (g 37) cZ 900 yo, ra_J (g 43) cJ 90 be, ra_J (g 44) cJ 90 bf]) eu_11 hP hD rfl (fun hP hD => ?_)
    refine lv_if_ne (tgt := 20) hx hb dX12_many_13 (by decide) (fun c_13 => ?_) (fun c_13 => ?_)
    · have c_13 : ¬ (b_8 = 0) := fun h => c_13 ((neq b_8 0 (by omega) (Nat.le_of_ble_eq_true rfl)).mpr h)
      obtain ⟨kd_14, hkd_14, rfl⟩ := (hb1_10.resolve_left (by omega)).2
      refine lv_aload_n hx hb dX12_many_20 rfl (lv_at hl 0 rfl) ?_
      refine sk_Vv (q0 := 0) (n := 0) (rest := []) (wr := fmR om_13_1fff _) ⟨hx, hb, hml, hown, hts⟩ hl.1 (c_m_laysAll l D cI cJ cC cZ cS mm g ta pa pe pd pb pp pf pg pn rt rn cd sn il tk am at_ aa 0 wt wy 0 rm ud nu sd qn qw qo qb qp qa qi oc u0 u1 u2 u3 u4 u5 v0 v1 v2 v3 v4 v5 cs nw pt ql l0 l1 dm l3 ws_ yw yo be bf hdm (by omega) hp0 hp1 hp2 hcs hnw hpt) w_7_189 w_7_191 w_0_82 w_1_14 w_7_192 hd_X12_laysAll_0 ⟨⟨(Nat.le_of_ble_eq_true rfl), (Nat.le_of_ble_eq_true rfl)⟩, (Nat.le_of_ble_eq_true rfl), (Nat.le_of_ble_eq_true rfl)⟩ hK hP hD hS hA (fmT om_13_1fff 0) (fmF om_13_1fff 0) (fm_C1 rfl rfl) (fm_R rfl rfl) (fm_nT om_13_1fff 0) (fm_nF om_13_1fff 0) (fm_di om_13_1fff 0) rfl rfl rfl rfl (Nat.le_of_ble_eq_true rfl) dX12_many_21 (fun u H locs hw hP hD hS => ?_)
      refine exE hw (fun tk2_15 hw1 => exE hw1 (fun qp2_16 hw2 => exE hw2 (fun am2_17 hw3 => exE hw3 (fun at_2_18 hw4 => exE hw4 (fun aa2_19 hw5 => exE hw5 (fun wy2_20 hw6 => exE hw6 (fun ql2_21 hw7 => exE hw7 (fun ws_2_22 hw8 => exE hw8 (fun yw2_23 hw9 => exE hw9 (fun yo2_24 hw10 => exE hw10 (fun be2_25 hw11 => exE hw11 (fun bf2_26 hw12 => anE hw12 (fun hbe_27 hw13 => anE hw13 (fun hwy_28 eu_29 => ?_))))))))))))))
      clear hw hw1 hw2 hw3 hw4 hw5 hw6 hw7 hw8 hw9 hw10 hw11 hw12 hw13
      refine o_mgE (ws' := [ro_ mm 12 (mo g (nI ta) (nI pa) (nI pe) pd (nI pb) pp pf pg pn rt rn (nI cd) sn (nI il) tk2_15 am2_17 at_2_18 aa2_19 0 0 (-1) wt wy2_20 0 (nI rm) (nI ud) (nI nu) sd (nI qn) (nI qw) qo (nI qb) (nI qp2_16) qa (nI qi) (nI oc)), ra_I (g 24) cI 6 (l6 u0 u1 u2 u3 u4 u5), ra_I (g 25) cI 6 (l6 v0 v1 v2 v3 v4 v5), ra_N (g 26) cI 3200 cs, ra_I (g 31) cI 120 nw, ra_N (g 46) cI 9 pt, ra_J (g 86) cJ 1700 ql2_21, ra_I (g 20) cI 4 (l4 (nI l0) (nI l1) (nI dm) (nI l3)), ra_I (g 38) cI 90 ws_2_22, ra_I (g 36) cZ 900 yw2_23, ra_I (g 37) cZ 900 yo2_24, ra_J (g 43) cJ 90 be2_25, ra_J (g 44) cJ 90 bf2_26]) eu_29 hP hD rfl (fun hP hD => ?_)
      refine lv_aload_n hx hb dX12_many_24 rfl (lv_at hl 0 rfl) ?_
      refine sk_get (v := .ref (g 44)) (C := RX12) (T := TX12) (N := 92) hx hb hts inlX12 hown hK hP 0 rfl rfl 44 (Nat.le_of_ble_eq_true rfl) w_5_199 rfl dX12_many_25 ?_
      refine lv_bipush (v := 10) hx hb dX12_many_28 (by decide) ?_
      refine lv_iload_n hx hb dX12_many_30 rfl (lv_at hl 1 rfl) ?_
      refine lv_imul hx hb dX12_many_31 ?_
      refine sk_top (nI (10 * kd_7)) (nmul 10 kd_7) ?_
      refine lv_iload_n hx hb dX12_many_32 rfl (lv_at hl 2 rfl) ?_
      refine lv_iadd hx hb dX12_many_33 ?_
      refine sk_top (nI (10 * kd_7 + kd_14)) (nI_add (10 * kd_7) kd_14) ?_
      refine va_lald hx hb hK.1 hP 12 1 rfl rfl (vin (10 * kd_7 + kd_14) 90 (by omega) (Nat.le_of_ble_eq_true rfl)) dX12_many_34 ?_
      refine lv_topl (fun v_30 ev_30 => ?_)
      refine lv_aload_n hx hb dX12_many_35 rfl (lv_at hl 0 rfl) ?_
      refine sk_get (v := .ref (g 43)) (C := RX12) (T := TX12) (N := 92) hx hb hts inlX12 hown hK hP 0 rfl rfl 43 (Nat.le_of_ble_eq_true rfl) w_5_198 rfl dX12_many_36 ?_
      refine lv_bipush (v := 10) hx hb dX12_many_39 (by decide) ?_
      refine lv_iload_n hx hb dX12_many_41 rfl (lv_at hl 1 rfl) ?_
      refine lv_imul hx hb dX12_many_42 ?_
      refine sk_top (nI (10 * kd_7)) (nmul 10 kd_7) ?_
      refine lv_iload_n hx hb dX12_many_43 rfl (lv_at hl 2 rfl) ?_
      refine lv_iadd hx hb dX12_many_44 ?_
      refine sk_top (nI (10 * kd_7 + kd_14)) (nI_add (10 * kd_7) kd_14) ?_
      refine va_lald hx hb hK.1 hP 11 1 rfl rfl (vin (10 * kd_7 + kd_14) 90 (by omega) (Nat.le_of_ble_eq_true rfl)) dX12_many_45 ?_
      refine lv_topl (fun v_31 ev_31 => ?_)
      refine lv_lmul hx hb dX12_many_46 ?_
      refine lv_topl (fun v_32 ev_32 => ?_)
      exact sk_lret hx hb hr hlocks hK hP hD hS (⟨tk2_15, qp2_16, am2_17, at_2_18, aa2_19, wy2_20, ql2_21, ws_2_22, yw2_23, yo2_24, be2_25, bf2_26, rfl⟩) (Nat.le_of_ble_eq_true rfl) (Nat.le_of_ble_eq_true rfl) dX12_many_47
    · have c_13 : b_8 = 0 := (neq b_8 0 (by omega) (Nat.le_of_ble_eq_true rfl)).mp c_13
      refine lv_ldc2 (v := (-1000000000000000)) hx hb hown (hts _ w_7_184) dX12_many_16 ?_
      exact sk_lret hx hb hr hlocks hK hP hD hS (⟨tk, qp, am, at_, aa, wy, ql, ws_, yw, yo, be, bf, rfl⟩) (Nat.le_of_ble_eq_true rfl) (Nat.le_of_ble_eq_true rfl) dX12_many_19
theorem dg_X12_hushed_0_0 : bqL cX12_hushed 0 [(0, [42]), (1, [180, 1, 46]), (4, [154, 0, 5]), (9, [42]), (10, [3]), (11, [182, 1, 129]), (14, [2]), (15, [60]), (16, [3]), (17, [61]), (18, [28]), (19, [4]), (20, [42]), (21, [182, 1, 59]), (24, [120]), (25, [162, 0, 35]), (60, [27]), (61, [172]), (28, [27]), (29, [2]), (30, [159, 0, 14]), (44, [42]), (45, [28]), (46, [182, 1, 167]), (49, [153, 0, 5]), (54, [132, 2, 1]), (57, [167, 255, 217]), (52, [28]), (53, [60]), (33, [28]), (34, [184, 1, 153]), (37, [27]), (38, [184, 1, 153]), (41, [162, 0, 13]), (7, [2]), (8, [172])] = true := by decide +kernel
theorem dX12_hushed_0 : decode cX12_hushed 0 = .ok (.aload_n 0, 1) := q_aload_n0 (bat_get dg_X12_hushed_0_0 0 rfl rfl)
theorem dX12_hushed_1 : decode cX12_hushed 1 = .ok (.getfield 302, 3) := q_getfield (bat_get dg_X12_hushed_0_0 1 rfl rfl) rfl
theorem dX12_hushed_4 : decode cX12_hushed 4 = .ok (.ifCond .ne 5, 3) := q_ifCond_ne (bat_get dg_X12_hushed_0_0 2 rfl rfl) rfl
theorem dX12_hushed_9 : decode cX12_hushed 9 = .ok (.aload_n 0, 1) := q_aload_n0 (bat_get dg_X12_hushed_0_0 3 rfl rfl)
theorem dX12_hushed_10 : decode cX12_hushed 10 = .ok (.iconst 0, 1) := q_iconst0 (bat_get dg_X12_hushed_0_0 4 rfl rfl)
theorem dX12_hushed_11 : decode cX12_hushed 11 = .ok (.invokevirtual 385, 3) := q_invokevirtual (bat_get dg_X12_hushed_0_0 5 rfl rfl) rfl
theorem dX12_hushed_14 : decode cX12_hushed 14 = .ok (.iconst (-1), 1) := q_iconstm1 (bat_get dg_X12_hushed_0_0 6 rfl rfl)
theorem dX12_hushed_15 : decode cX12_hushed 15 = .ok (.istore_n 1, 1) := q_istore_n1 (bat_get dg_X12_hushed_0_0 7 rfl rfl)
theorem dX12_hushed_16 : decode cX12_hushed 16 = .ok (.iconst 0, 1) := q_iconst0 (bat_get dg_X12_hushed_0_0 8 rfl rfl)
theorem dX12_hushed_17 : decode cX12_hushed 17 = .ok (.istore_n 2, 1) := q_istore_n2 (bat_get dg_X12_hushed_0_0 9 rfl rfl)
theorem dX12_hushed_18 : decode cX12_hushed 18 = .ok (.iload_n 2, 1) := q_iload_n2 (bat_get dg_X12_hushed_0_0 10 rfl rfl)
theorem dX12_hushed_19 : decode cX12_hushed 19 = .ok (.iconst 1, 1) := q_iconst1 (bat_get dg_X12_hushed_0_0 11 rfl rfl)
theorem dX12_hushed_20 : decode cX12_hushed 20 = .ok (.aload_n 0, 1) := q_aload_n0 (bat_get dg_X12_hushed_0_0 12 rfl rfl)
theorem dX12_hushed_21 : decode cX12_hushed 21 = .ok (.invokevirtual 315, 3) := q_invokevirtual (bat_get dg_X12_hushed_0_0 13 rfl rfl) rfl
theorem dX12_hushed_24 : decode cX12_hushed 24 = .ok (.ishl, 1) := q_ishl (bat_get dg_X12_hushed_0_0 14 rfl rfl)
theorem dX12_hushed_25 : decode cX12_hushed 25 = .ok (.if_icmp .ge 35, 3) := q_if_icmp_ge (bat_get dg_X12_hushed_0_0 15 rfl rfl) rfl
theorem dX12_hushed_60 : decode cX12_hushed 60 = .ok (.iload_n 1, 1) := q_iload_n1 (bat_get dg_X12_hushed_0_0 16 rfl rfl)
theorem dX12_hushed_61 : decode cX12_hushed 61 = .ok (.ireturn, 1) := q_ireturn (bat_get dg_X12_hushed_0_0 17 rfl rfl)
theorem dX12_hushed_28 : decode cX12_hushed 28 = .ok (.iload_n 1, 1) := q_iload_n1 (bat_get dg_X12_hushed_0_0 18 rfl rfl)
theorem dX12_hushed_29 : decode cX12_hushed 29 = .ok (.iconst (-1), 1) := q_iconstm1 (bat_get dg_X12_hushed_0_0 19 rfl rfl)
theorem dX12_hushed_30 : decode cX12_hushed 30 = .ok (.if_icmp .eq 14, 3) := q_if_icmp_eq (bat_get dg_X12_hushed_0_0 20 rfl rfl) rfl
theorem dX12_hushed_44 : decode cX12_hushed 44 = .ok (.aload_n 0, 1) := q_aload_n0 (bat_get dg_X12_hushed_0_0 21 rfl rfl)
theorem dX12_hushed_45 : decode cX12_hushed 45 = .ok (.iload_n 2, 1) := q_iload_n2 (bat_get dg_X12_hushed_0_0 22 rfl rfl)
theorem dX12_hushed_46 : decode cX12_hushed 46 = .ok (.invokevirtual 423, 3) := q_invokevirtual (bat_get dg_X12_hushed_0_0 23 rfl rfl) rfl
theorem dX12_hushed_49 : decode cX12_hushed 49 = .ok (.ifCond .eq 5, 3) := q_ifCond_eq (bat_get dg_X12_hushed_0_0 24 rfl rfl) rfl
theorem dX12_hushed_54 : decode cX12_hushed 54 = .ok (.iinc 2 1, 3) := q_iinc (bat_get dg_X12_hushed_0_0 25 rfl rfl) rfl
theorem dX12_hushed_57 : decode cX12_hushed 57 = .ok (.goto (-39), 3) := q_goto (bat_get dg_X12_hushed_0_0 26 rfl rfl) rfl
theorem dX12_hushed_52 : decode cX12_hushed 52 = .ok (.iload_n 2, 1) := q_iload_n2 (bat_get dg_X12_hushed_0_0 27 rfl rfl)
theorem dX12_hushed_53 : decode cX12_hushed 53 = .ok (.istore_n 1, 1) := q_istore_n1 (bat_get dg_X12_hushed_0_0 28 rfl rfl)
theorem dX12_hushed_33 : decode cX12_hushed 33 = .ok (.iload_n 2, 1) := q_iload_n2 (bat_get dg_X12_hushed_0_0 29 rfl rfl)
theorem dX12_hushed_34 : decode cX12_hushed 34 = .ok (.invokestatic 409, 3) := q_invokestatic (bat_get dg_X12_hushed_0_0 30 rfl rfl) rfl
theorem dX12_hushed_37 : decode cX12_hushed 37 = .ok (.iload_n 1, 1) := q_iload_n1 (bat_get dg_X12_hushed_0_0 31 rfl rfl)
theorem dX12_hushed_38 : decode cX12_hushed 38 = .ok (.invokestatic 409, 3) := q_invokestatic (bat_get dg_X12_hushed_0_0 32 rfl rfl) rfl
theorem dX12_hushed_41 : decode cX12_hushed 41 = .ok (.if_icmp .ge 13, 3) := q_if_icmp_ge (bat_get dg_X12_hushed_0_0 33 rfl rfl) rfl
theorem dX12_hushed_7 : decode cX12_hushed 7 = .ok (.iconst (-1), 1) := q_iconstm1 (bat_get dg_X12_hushed_0_0 34 rfl rfl)
theorem dX12_hushed_8 : decode cX12_hushed 8 = .ok (.ireturn, 1) := q_ireturn (bat_get dg_X12_hushed_0_0 35 rfl rfl)
theorem w_5_184 : (Cond.fieldLink RX12 302 "SameKeeperModel" "isLock" "Z") ∈ wsL_law := sk_mem (ck_5 _ (List.mem_of_getElem? (i := 184) rfl)) rfl
theorem w_7_229 : (Cond.methodLink RX12 423 yX12_doesAgree) ∈ wsL_law := sk_mem (ck_7 _ (List.mem_of_getElem? (i := 229) rfl)) rfl
theorem w_7_231 : (Cond.instanceMethod yX12_doesAgree) ∈ wsL_law := sk_mem (ck_7 _ (List.mem_of_getElem? (i := 231) rfl)) rfl
theorem w_0_89 : (Cond.selects RX12 yX12_doesAgree yX12_doesAgree) ∈ wsL_law := sk_mem (ck_0 _ (List.mem_of_getElem? (i := 89) rfl)) rfl
theorem w_7_110 : (Cond.methodLink RX12 409 yX12_bits) ∈ wsL_law := sk_mem (ck_7 _ (List.mem_of_getElem? (i := 110) rfl)) rfl
theorem w_7_111 : (Cond.static yX12_bits) ∈ wsL_law := sk_mem (ck_7 _ (List.mem_of_getElem? (i := 111) rfl)) rfl
theorem w_7_228 : (Cond.code yX12_hushed cX12_hushed 3 (some .int)) ∈ wsL_law := sk_mem (ck_7 _ (List.mem_of_getElem? (i := 228) rfl)) rfl
theorem hd_X12_doesAgree_1 : skD yX12_doesAgree 1 := by decide +kernel
theorem hd_X12_bits_1 : skD yX12_bits 1 := by decide +kernel
set_option maxHeartbeats 4000000 in
set_option maxRecDepth 100000 in
theorem c_m_hushed (l : Launch) (D : va_G) (cI cJ cC cZ cS : ClassId) (mm : Nat) (g : Nat → Nat) (ta : Nat) (pa : Nat) (pe : Nat) (pd : Int32) (pb : Nat) (pp : Int32) (pf : Int32) (pg : Int32) (pn : Int32) (rt : Int32) (rn : Int32) (cd : Nat) (sn : Int32) (il : Nat) (tk : Int32) (am : Int32) (at_ : Int32) (aa : Int32) (wt : Int32) (wy : Int64) (rm : Nat) (ud : Nat) (nu : Nat) (sd : Int64) (qn : Nat) (qw : Nat) (qo : Int32) (qb : Nat) (qp : Nat) (qa : Int64) (qi : Nat) (oc : Nat) (u0 : Int32) (u1 : Int32) (u2 : Int32) (u3 : Int32) (u4 : Int32) (u5 : Int32) (v0 : Int32) (v1 : Int32) (v2 : Int32) (v3 : Int32) (v4 : Int32) (v5 : Int32) (cs : Nat → Nat) (nw : Nat → Int32) (pt : Nat → Nat) (ql : Nat → Int64) (l0 : Nat) (l1 : Nat) (dm : Nat) (l3 : Nat) (ws_ : Nat → Int32) (yw : Nat → Int32) (yo : Nat → Int32) (be : Nat → Int64) (bf : Nat → Int64) (hil : il ≤ 1) (hild : il = 1 → 1 ≤ dm) (hdm : dm ≤ 9) (hp0 : progOk cs u3 v3) (hp1 : progOk cs u4 v4) (hp2 : progOk cs u5 v5) (hcs : ∀ j, cs j ≤ 20000) (hnw : nowOk nw) (hpt : ∀ j, pt j ≤ 9) : skM l yX12_hushed cX12_hushed 3 (some .int) 5 122 0 0 D (skT cI cJ cC cZ cS) [.ref mm] [ro_ mm 12 (mo g (nI ta) (nI pa) (nI pe) pd (nI pb) pp pf pg pn rt rn (nI cd) sn (nI il) tk am at_ aa 0 0 (-1) wt wy 0 (nI rm) (nI ud) (nI nu) sd (nI qn) (nI qw) qo (nI qb) (nI qp) qa (nI qi) (nI oc)), ra_I (g 24) cI 6 (l6 u0 u1 u2 u3 u4 u5), ra_I (g 25) cI 6 (l6 v0 v1 v2 v3 v4 v5), ra_N (g 26) cI 3200 cs, ra_I (g 31) cI 120 nw, ra_N (g 46) cI 9 pt, ra_J (g 86) cJ 1700 ql, ra_I (g 20) cI 4 (l4 (nI l0) (nI l1) (nI dm) (nI l3)), ra_I (g 38) cI 90 ws_, ra_I (g 36) cZ 900 yw, ra_I (g 37) cZ 900 yo, ra_J (g 43) cJ 90 be, ra_J (g 44) cJ 90 bf] (skI D (skT cI cJ cC cZ cS) (fun (r : Int32) (u : va_W) => ∃ (tk2 : Int32), ∃ (qp2 : Nat), ∃ (am2 : Int32), ∃ (at_2 : Int32), ∃ (aa2 : Int32), ∃ (wy2 : Int64), ∃ (ql2 : Nat → Int64), ∃ (ws_2 : Nat → Int32), ∃ (yw2 : Nat → Int32), ∃ (yo2 : Nat → Int32), ∃ (be2 : Nat → Int64), ∃ (bf2 : Nat → Int64), u = [ro_ mm 12 (mo g (nI ta) (nI pa) (nI pe) pd (nI pb) pp pf pg pn rt rn (nI cd) sn (nI il) tk2 am2 at_2 aa2 0 0 (-1) wt wy2 0 (nI rm) (nI ud) (nI nu) sd (nI qn) (nI qw) qo (nI qb) (nI qp2) qa (nI qi) (nI oc)), ra_I (g 24) cI 6 (l6 u0 u1 u2 u3 u4 u5), ra_I (g 25) cI 6 (l6 v0 v1 v2 v3 v4 v5), ra_N (g 26) cI 3200 cs, ra_I (g 31) cI 120 nw, ra_N (g 46) cI 9 pt, ra_J (g 86) cJ 1700 ql2, ra_I (g 20) cI 4 (l4 (nI l0) (nI l1) (nI dm) (nI l3)), ra_I (g 38) cI 90 ws_2, ra_I (g 36) cZ 900 yw2, ra_I (g 37) cZ 900 yo2, ra_J (g 43) cJ 90 be2, ra_J (g 44) cJ 90 bf2])) := by
  refine skM_of pf_X12_hushed (Nat.le_of_ble_eq_true rfl) ?_
  intro p e s m below meth c A ls E hP hD hl
  refine skE_el E (fun hx hb hr hml hlocks hin hown hts hK hA => ?_)
  have hown : s.vm.findClass RX12 = some m.cls := hown
  have hS : va_S A s.heap s.heap [] := va_S.rf
  have hl : lv_has ls 3 [(0, .ref mm)] := hl
  refine lv_aload_n hx hb dX12_hushed_0 rfl (lv_at hl 0 rfl) ?_
  refine sk_get (v := .int (nI il)) (C := RX12) (T := TX12) (N := 92) hx hb hts inlX12 hown hK hP 0 rfl rfl 29 (Nat.le_of_ble_eq_true rfl) w_5_184 rfl dX12_hushed_1 ?_
  refine lv_if_ne (tgt := 9) hx hb dX12_hushed_4 (by decide) (fun c_1 => ?_) (fun c_1 => ?_)
  · have c_1 : ¬ (il = 0) := fun h => c_1 ((neq il 0 (by omega) (Nat.le_of_ble_eq_true rfl)).mpr h)
    refine lv_aload_n hx hb dX12_hushed_9 rfl (lv_at hl 0 rfl) ?_
    refine lv_iconst (v := 0) hx hb dX12_hushed_10 ic_0 ?_
    refine sk_Vv (q0 := 0) (n := 1) (rest := []) (wr := fmR om_13_1ffc _) ⟨hx, hb, hml, hown, hts⟩ hl.1 (c_m_laysDays l D cI cJ cC cZ cS mm g ta pa pe pd pb pp pf pg pn rt rn cd sn il tk am at_ aa 0 0 (-1) wt wy 0 rm ud nu sd qn qw qo qb qp qa qi oc 0 u0 u1 u2 u3 u4 u5 v0 v1 v2 v3 v4 v5 cs nw pt ql l0 l1 dm l3 ws_ yw yo hdm hp0 hp1 hp2 hcs hnw hpt) w_7_193 w_7_195 w_0_83 w_1_14 w_7_196 hd_X12_laysDays_1 ⟨⟨(Nat.le_of_ble_eq_true rfl), (Nat.le_of_ble_eq_true rfl)⟩, (Nat.le_of_ble_eq_true rfl), (Nat.le_of_ble_eq_true rfl)⟩ hK hP hD hS hA (fmT om_13_1ffc 0) (fmF om_13_1ffc 0) (fm_C1 rfl rfl) (fm_R rfl rfl) (fm_nT om_13_1ffc 0) (fm_nF om_13_1ffc 0) (fm_di om_13_1ffc 0) rfl rfl rfl rfl (Nat.le_of_ble_eq_true rfl) dX12_hushed_11 (fun u H locs hw hP hD hS => ?_)
    refine exE hw (fun tk2_2 hw1 => exE hw1 (fun qp2_3 hw2 => exE hw2 (fun am2_4 hw3 => exE hw3 (fun at_2_5 hw4 => exE hw4 (fun aa2_6 hw5 => exE hw5 (fun ql2_7 hw6 => exE hw6 (fun ws_2_8 hw7 => exE hw7 (fun yw2_9 hw8 => exE hw8 (fun yo2_10 eu_11 => ?_)))))))))
    clear hw hw1 hw2 hw3 hw4 hw5 hw6 hw7 hw8
    refine o_mgE (ws' := [ro_ mm 12 (mo g (nI ta) (nI pa) (nI pe) pd (nI pb) pp pf pg pn rt rn (nI cd) sn (nI il) tk2_2 am2_4 at_2_5 aa2_6 0 0 (-1) wt wy 0 (nI rm) (nI ud) (nI nu) sd (nI qn) (nI qw) qo (nI qb) (nI qp2_3) qa (nI qi) (nI oc)), ra_I (g 24) cI 6 (l6 u0 u1 u2 u3 u4 u5), ra_I (g 25) cI 6 (l6 v0 v1 v2 v3 v4 v5), ra_N (g 26) cI 3200 cs, ra_I (g 31) cI 120 nw, ra_N (g 46) cI 9 pt, ra_J (g 86) cJ 1700 ql2_7, ra_I (g 20) cI 4 (l4 (nI l0) (nI l1) (nI dm) (nI l3)), ra_I (g 38) cI 90 ws_2_8, ra_I (g 36) cZ 900 yw2_9, ra_I (g 37) cZ 900 yo2_10, ra_J (g 43) cJ 90 be, ra_J (g 44) cJ 90 bf]) eu_11 hP hD rfl (fun hP hD => ?_)
    refine lv_iconst (v := (-1)) hx hb dX12_hushed_14 (by decide) ?_
    refine lv_istore_n (lv' := [(1, .int (-1)), (0, .ref mm)]) hx hb dX12_hushed_15 rfl hl (by decide) rfl (fun ls hl => ?_)
    refine lv_iconst (v := 0) hx hb dX12_hushed_16 ic_0 ?_
    refine lv_istore_n (lv' := [(2, .int 0), (1, .int (-1)), (0, .ref mm)]) hx hb dX12_hushed_17 rfl hl (by decide) rfl (fun ls hl => ?_)
    have lp_12 : ∀ (n_13 : Nat) (i : Nat) (be_ : Int32) (zwyh : Int64) (hb_ : Nat → Int64) (hf_ : Nat → Int64) (H : Heap) (locs : List Loc) (ls : Array Slot), 512 - i < n_13 → (i ≤ 512) → va_P D vwCl [ro_ mm 12 (mo g (nI ta) (nI pa) (nI pe) pd (nI pb) pp pf pg pn rt rn (nI cd) sn (nI il) tk2_2 am2_4 at_2_5 aa2_6 0 0 (-1) wt zwyh 0 (nI rm) (nI ud) (nI nu) sd (nI qn) (nI qw) qo (nI qb) (nI qp2_3) qa (nI qi) (nI oc)), ra_I (g 24) cI 6 (l6 u0 u1 u2 u3 u4 u5), ra_I (g 25) cI 6 (l6 v0 v1 v2 v3 v4 v5), ra_N (g 26) cI 3200 cs, ra_I (g 31) cI 120 nw, ra_N (g 46) cI 9 pt, ra_J (g 86) cJ 1700 ql2_7, ra_I (g 20) cI 4 (l4 (nI l0) (nI l1) (nI dm) (nI l3)), ra_I (g 38) cI 90 ws_2_8, ra_I (g 36) cZ 900 yw2_9, ra_I (g 37) cZ 900 yo2_10, ra_J (g 43) cJ 90 hb_, ra_J (g 44) cJ 90 hf_] H → va_D A [ro_ mm 12 (mo g (nI ta) (nI pa) (nI pe) pd (nI pb) pp pf pg pn rt rn (nI cd) sn (nI il) tk2_2 am2_4 at_2_5 aa2_6 0 0 (-1) wt zwyh 0 (nI rm) (nI ud) (nI nu) sd (nI qn) (nI qw) qo (nI qb) (nI qp2_3) qa (nI qi) (nI oc)), ra_I (g 24) cI 6 (l6 u0 u1 u2 u3 u4 u5), ra_I (g 25) cI 6 (l6 v0 v1 v2 v3 v4 v5), ra_N (g 26) cI 3200 cs, ra_I (g 31) cI 120 nw, ra_N (g 46) cI 9 pt, ra_J (g 86) cJ 1700 ql2_7, ra_I (g 20) cI 4 (l4 (nI l0) (nI l1) (nI dm) (nI l3)), ra_I (g 38) cI 90 ws_2_8, ra_I (g 36) cZ 900 yw2_9, ra_I (g 37) cZ 900 yo2_10, ra_J (g 43) cJ 90 hb_, ra_J (g 44) cJ 90 hf_] → va_S A s.heap H locs → lv_has ls 3 [(2, .int (nI i)), (1, .int be_), (0, .ref mm)] → W p l e { frames := 5, cells := 0, slots := 0, locals := 122 } s m ([.ref mm] : List Value).toArray below meth c H locs 0 0 (MQ below (skI D (skT cI cJ cC cZ cS) (fun (r : Int32) (u : va_W) => ∃ (tk2 : Int32), ∃ (qp2 : Nat), ∃ (am2 : Int32), ∃ (at_2 : Int32), ∃ (aa2 : Int32), ∃ (wy2 : Int64), ∃ (ql2 : Nat → Int64), ∃ (ws_2 : Nat → Int32), ∃ (yw2 : Nat → Int32), ∃ (yo2 : Nat → Int32), ∃ (be2 : Nat → Int64), ∃ (bf2 : Nat → Int64), u = [ro_ mm 12 (mo g (nI ta) (nI pa) (nI pe) pd (nI pb) pp pf pg pn rt rn (nI cd) sn (nI il) tk2 am2 at_2 aa2 0 0 (-1) wt wy2 0 (nI rm) (nI ud) (nI nu) sd (nI qn) (nI qw) qo (nI qb) (nI qp2) qa (nI qi) (nI oc)), ra_I (g 24) cI 6 (l6 u0 u1 u2 u3 u4 u5), ra_I (g 25) cI 6 (l6 v0 v1 v2 v3 v4 v5), ra_N (g 26) cI 3200 cs, ra_I (g 31) cI 120 nw, ra_N (g 46) cI 9 pt, ra_J (g 86) cJ 1700 ql2, ra_I (g 20) cI 4 (l4 (nI l0) (nI l1) (nI dm) (nI l3)), ra_I (g 38) cI 90 ws_2, ra_I (g 36) cZ 900 yw2, ra_I (g 37) cZ 900 yo2, ra_J (g 43) cJ 90 be2, ra_J (g 44) cJ 90 bf2]) A) ([.ref mm] : List Value).toArray s 0 0 A) (F0 m 18 ls []) := by
      intro n_13
      induction n_13 with
      | zero => intro i be_ zwyh hb_ hf_ H locs ls hm; exact absurd hm (Nat.not_lt_zero _)
      | succ n_13 ih_lp_12 =>
        intro i be_ zwyh hb_ hf_ H locs ls hm hi hP hD hS hl
        refine lv_iload_n hx hb dX12_hushed_18 rfl (lv_at hl 0 rfl) ?_
        refine lv_iconst (v := 1) hx hb dX12_hushed_19 ic_1 ?_
        refine lv_aload_n hx hb dX12_hushed_20 rfl (lv_at hl 2 rfl) ?_
        refine sk_Vi (q0 := 0) (n := 0) (rest := [.int 1, .int (nI i)]) (wr := fmR om_13_1020 _) ⟨hx, hb, hml, hown, hts⟩ hl.1 (c_m_dayMany l D cI cJ cC cZ cS mm g ta pa pe pd pb pp pf pg pn rt rn cd sn il tk2_2 am2_4 at_2_5 aa2_6 0 0 (-1) wt zwyh 0 rm ud nu sd qn qw qo qb qp2_3 qa qi oc l0 l1 dm l3) w_7_98 w_7_100 w_0_69 w_1_14 w_7_101 hd_X12_dayMany_0 ⟨⟨(Nat.le_of_ble_eq_true rfl), (Nat.le_of_ble_eq_true rfl)⟩, (Nat.le_of_ble_eq_true rfl), (Nat.le_of_ble_eq_true rfl)⟩ hK hP hD hS hA (fmT om_13_1020 0) (fmF om_13_1020 0) (fm_C1 rfl rfl) (fm_R rfl rfl) (fm_nT om_13_1020 0) (fm_nF om_13_1020 0) (fm_di om_13_1020 0) rfl rfl rfl rfl (Nat.le_of_ble_eq_true rfl) dX12_hushed_21 (fun r_14 u H locs hw hP hD hS => ?_)
        refine anE hw (fun er_16 eu_15 => ?_)
        clear hw
        subst er_16
        refine o_mgE (ws' := [ro_ mm 12 (mo g (nI ta) (nI pa) (nI pe) pd (nI pb) pp pf pg pn rt rn (nI cd) sn (nI il) tk2_2 am2_4 at_2_5 aa2_6 0 0 (-1) wt zwyh 0 (nI rm) (nI ud) (nI nu) sd (nI qn) (nI qw) qo (nI qb) (nI qp2_3) qa (nI qi) (nI oc)), ra_I (g 24) cI 6 (l6 u0 u1 u2 u3 u4 u5), ra_I (g 25) cI 6 (l6 v0 v1 v2 v3 v4 v5), ra_N (g 26) cI 3200 cs, ra_I (g 31) cI 120 nw, ra_N (g 46) cI 9 pt, ra_J (g 86) cJ 1700 ql2_7, ra_I (g 20) cI 4 (l4 (nI l0) (nI l1) (nI dm) (nI l3)), ra_I (g 38) cI 90 ws_2_8, ra_I (g 36) cZ 900 yw2_9, ra_I (g 37) cZ 900 yo2_10, ra_J (g 43) cJ 90 hb_, ra_J (g 44) cJ 90 hf_]) eu_15 hP hD rfl (fun hP hD => ?_)
        refine lv_ishl hx hb dX12_hushed_24 ?_
        obtain ⟨k_17, hk_17, ek_17⟩ := nshl1 dm (by omega)
        refine sk_top (nI k_17) ek_17 ?_
        refine lv_icmp_ge (tgt := 60) hx hb dX12_hushed_25 (by decide) (fun c_18 => ?_) (fun c_18 => ?_)
        · have c_18 : k_17 ≤ i := (nle k_17 i (by omega) (by omega)).mp c_18
          refine lv_iload_n hx hb dX12_hushed_60 rfl (lv_at hl 1 rfl) ?_
          exact sk_iret hx hb hr rfl hlocks hK hP hD hS (⟨tk2_2, qp2_3, am2_4, at_2_5, aa2_6, zwyh, ql2_7, ws_2_8, yw2_9, yo2_10, hb_, hf_, rfl⟩) (Nat.le_of_ble_eq_true rfl) (Nat.le_of_ble_eq_true rfl) dX12_hushed_61
        · have c_18 : ¬ (k_17 ≤ i) := fun h => c_18 ((nle k_17 i (by omega) (by omega)).mpr h)
          refine lv_iload_n hx hb dX12_hushed_28 rfl (lv_at hl 1 rfl) ?_
          refine lv_iconst (v := (-1)) hx hb dX12_hushed_29 (by decide) ?_
          refine lv_icmp_eq (tgt := 44) hx hb dX12_hushed_30 (by decide) (fun c_19 => ?_) (fun c_19 => ?_)
          · skip
            refine lv_aload_n hx hb dX12_hushed_44 rfl (lv_at hl 2 rfl) ?_
            refine lv_iload_n hx hb dX12_hushed_45 rfl (lv_at hl 0 rfl) ?_
            refine sk_Vi (q0 := 0) (n := 1) (rest := []) (wr := fmR om_13_112f _) ⟨hx, hb, hml, hown, hts⟩ hl.1 (c_m_doesAgree l D cI cJ cC cZ cS mm g ta pa pe pd pb pp pf pg pn rt rn cd sn il tk2_2 am2_4 at_2_5 aa2_6 0 wt zwyh 0 rm ud nu sd qn qw qo qb qp2_3 qa qi oc (nI i) l0 l1 dm l3 nw yo2_10 yw2_9 hb_ hf_ hdm (by omega) hnw) w_7_229 w_7_231 w_0_89 w_1_14 w_7_232 hd_X12_doesAgree_1 ⟨⟨(Nat.le_of_ble_eq_true rfl), (Nat.le_of_ble_eq_true rfl)⟩, (Nat.le_of_ble_eq_true rfl), (Nat.le_of_ble_eq_true rfl)⟩ hK hP hD hS hA [0, 7, 4, 10, 9, 11, 12] (fmF om_13_112f 0) rfl (fm_R rfl rfl) (by decide +kernel) (fm_nF om_13_112f 0) (by decide +kernel) rfl rfl rfl rfl (Nat.le_of_ble_eq_true rfl) dX12_hushed_46 (fun r_24 u H locs hw hP hD hS => ?_)
            refine exE hw (fun b_20 hw1 => exE hw1 (fun wy2_21 hw2 => exE hw2 (fun be2_22 hw3 => exE hw3 (fun bf2_23 hw4 => anE hw4 (fun hbe_25 hw5 => anE hw5 (fun hwy_26 hw6 => anE hw6 (fun hb1_27 hw7 => anE hw7 (fun er_29 eu_28 => ?_))))))))
            clear hw hw1 hw2 hw3 hw4 hw5 hw6 hw7
            subst er_29
            refine o_mgqE (ux := [ro_ mm 12 (mo g (nI ta) (nI pa) (nI pe) pd (nI pb) pp pf pg pn rt rn (nI cd) sn (nI il) tk2_2 am2_4 at_2_5 aa2_6 0 0 (-1) wt wy2_21 0 (nI rm) (nI ud) (nI nu) sd (nI qn) (nI qw) qo (nI qb) (nI qp2_3) qa (nI qi) (nI oc)), ra_I (g 31) cI 120 nw, ra_I (g 20) cI 4 (l4 (nI l0) (nI l1) (nI dm) (nI l3)), ra_I (g 36) cZ 900 yw2_9, ra_I (g 37) cZ 900 yo2_10, ra_J (g 43) cJ 90 be2_22, ra_J (g 44) cJ 90 bf2_23]) (ws' := [ro_ mm 12 (mo g (nI ta) (nI pa) (nI pe) pd (nI pb) pp pf pg pn rt rn (nI cd) sn (nI il) tk2_2 am2_4 at_2_5 aa2_6 0 0 (-1) wt wy2_21 0 (nI rm) (nI ud) (nI nu) sd (nI qn) (nI qw) qo (nI qb) (nI qp2_3) qa (nI qi) (nI oc)), ra_I (g 24) cI 6 (l6 u0 u1 u2 u3 u4 u5), ra_I (g 25) cI 6 (l6 v0 v1 v2 v3 v4 v5), ra_N (g 26) cI 3200 cs, ra_I (g 31) cI 120 nw, ra_N (g 46) cI 9 pt, ra_J (g 86) cJ 1700 ql2_7, ra_I (g 20) cI 4 (l4 (nI l0) (nI l1) (nI dm) (nI l3)), ra_I (g 38) cI 90 ws_2_8, ra_I (g 36) cZ 900 yw2_9, ra_I (g 37) cZ 900 yo2_10, ra_J (g 43) cJ 90 be2_22, ra_J (g 44) cJ 90 bf2_23]) eu_28 [0, 2, 1, 4, 3, 5, 6] (by decide +kernel) rfl hP hD rfl (fun hP hD => ?_)
            refine lv_if_eq (tgt := 54) hx hb dX12_hushed_49 (by decide) (fun c_30 => ?_) (fun c_30 => ?_)
            · have c_30 : b_20 = 0 := (neq b_20 0 (by omega) (Nat.le_of_ble_eq_true rfl)).mp c_30
              refine lv_iinc (v := nI (i + 1)) (lv' := [(2, .int (nI (i + 1))), (1, .int be_), (0, .ref mm)]) hx hb dX12_hushed_54 hl (k := 0) rfl (ninc i 1 (by decide)) (by decide) rfl (fun ls hl => ?_)
              refine lv_goto (tgt := 18) hx hb dX12_hushed_57 (by decide) ?_
              exact ih_lp_12 (i + 1) be_ wy2_21 be2_22 bf2_23 _ _ _ (by omega) (by omega) hP hD hS (lv_sub hl [0, 1, 2] rfl)
            · have c_30 : ¬ (b_20 = 0) := fun h => c_30 ((neq b_20 0 (by omega) (Nat.le_of_ble_eq_true rfl)).mpr h)
              refine lv_iload_n hx hb dX12_hushed_52 rfl (lv_at hl 0 rfl) ?_
              refine lv_istore_n (lv' := [(1, .int (nI i)), (2, .int (nI i)), (0, .ref mm)]) hx hb dX12_hushed_53 rfl hl (by decide) rfl (fun ls hl => ?_)
              refine lv_iinc (v := nI (i + 1)) (lv' := [(2, .int (nI (i + 1))), (1, .int (nI i)), (0, .ref mm)]) hx hb dX12_hushed_54 hl (k := 1) rfl (ninc i 1 (by decide)) (by decide) rfl (fun ls hl => ?_)
              refine lv_goto (tgt := 18) hx hb dX12_hushed_57 (by decide) ?_
              exact ih_lp_12 (i + 1) (nI i) wy2_21 be2_22 bf2_23 _ _ _ (by omega) (by omega) hP hD hS (lv_sub hl [0, 1, 2] rfl)
          · skip
            refine lv_iload_n hx hb dX12_hushed_33 rfl (lv_at hl 0 rfl) ?_
            refine sk_Si (n := 1) (rest := []) (wr := [ro_ mm 12 (mo g (nI ta) (nI pa) (nI pe) pd (nI pb) pp pf pg pn rt rn (nI cd) sn (nI il) tk2_2 am2_4 at_2_5 aa2_6 0 0 (-1) wt zwyh 0 (nI rm) (nI ud) (nI nu) sd (nI qn) (nI qw) qo (nI qb) (nI qp2_3) qa (nI qi) (nI oc)), ra_I (g 24) cI 6 (l6 u0 u1 u2 u3 u4 u5), ra_I (g 25) cI 6 (l6 v0 v1 v2 v3 v4 v5), ra_N (g 26) cI 3200 cs, ra_I (g 31) cI 120 nw, ra_N (g 46) cI 9 pt, ra_J (g 86) cJ 1700 ql2_7, ra_I (g 20) cI 4 (l4 (nI l0) (nI l1) (nI dm) (nI l3)), ra_I (g 38) cI 90 ws_2_8, ra_I (g 36) cZ 900 yw2_9, ra_I (g 37) cZ 900 yo2_10, ra_J (g 43) cJ 90 hb_, ra_J (g 44) cJ 90 hf_]) ⟨hx, hb, hml, hown, hts⟩ hl.1 (c_m_bits l D cI cJ cC cZ cS (nI i)) w_7_110 w_7_111 w_1_14 w_7_112 hd_X12_bits_1 ⟨⟨(Nat.le_of_ble_eq_true rfl), (Nat.le_of_ble_eq_true rfl)⟩, (Nat.le_of_ble_eq_true rfl), (Nat.le_of_ble_eq_true rfl)⟩ hK hP hD hS hA [] [0, 1, 2, 3, 4, 5, 6, 7, 8, 9, 10, 11, 12] rfl rfl (by decide +kernel) (by decide +kernel) (by decide +kernel) rfl rfl (Nat.le_of_ble_eq_true rfl) dX12_hushed_34 (fun r_31 u H locs hw hP hD hS => ?_)
            obtain rfl := hw
            refine o_re (ws' := [ro_ mm 12 (mo g (nI ta) (nI pa) (nI pe) pd (nI pb) pp pf pg pn rt rn (nI cd) sn (nI il) tk2_2 am2_4 at_2_5 aa2_6 0 0 (-1) wt zwyh 0 (nI rm) (nI ud) (nI nu) sd (nI qn) (nI qw) qo (nI qb) (nI qp2_3) qa (nI qi) (nI oc)), ra_I (g 24) cI 6 (l6 u0 u1 u2 u3 u4 u5), ra_I (g 25) cI 6 (l6 v0 v1 v2 v3 v4 v5), ra_N (g 26) cI 3200 cs, ra_I (g 31) cI 120 nw, ra_N (g 46) cI 9 pt, ra_J (g 86) cJ 1700 ql2_7, ra_I (g 20) cI 4 (l4 (nI l0) (nI l1) (nI dm) (nI l3)), ra_I (g 38) cI 90 ws_2_8, ra_I (g 36) cZ 900 yw2_9, ra_I (g 37) cZ 900 yo2_10, ra_J (g 43) cJ 90 hb_, ra_J (g 44) cJ 90 hf_]) hP hD rfl (fun hP hD => ?_)
            refine lv_iload_n hx hb dX12_hushed_37 rfl (lv_at hl 1 rfl) ?_
            refine sk_Si (n := 1) (rest := [.int r_31]) (wr := [ro_ mm 12 (mo g (nI ta) (nI pa) (nI pe) pd (nI pb) pp pf pg pn rt rn (nI cd) sn (nI il) tk2_2 am2_4 at_2_5 aa2_6 0 0 (-1) wt zwyh 0 (nI rm) (nI ud) (nI nu) sd (nI qn) (nI qw) qo (nI qb) (nI qp2_3) qa (nI qi) (nI oc)), ra_I (g 24) cI 6 (l6 u0 u1 u2 u3 u4 u5), ra_I (g 25) cI 6 (l6 v0 v1 v2 v3 v4 v5), ra_N (g 26) cI 3200 cs, ra_I (g 31) cI 120 nw, ra_N (g 46) cI 9 pt, ra_J (g 86) cJ 1700 ql2_7, ra_I (g 20) cI 4 (l4 (nI l0) (nI l1) (nI dm) (nI l3)), ra_I (g 38) cI 90 ws_2_8, ra_I (g 36) cZ 900 yw2_9, ra_I (g 37) cZ 900 yo2_10, ra_J (g 43) cJ 90 hb_, ra_J (g 44) cJ 90 hf_]) ⟨hx, hb, hml, hown, hts⟩ hl.1 (c_m_bits l D cI cJ cC cZ cS be_) w_7_110 w_7_111 w_1_14 w_7_112 hd_X12_bits_1 ⟨⟨(Nat.le_of_ble_eq_true rfl), (Nat.le_of_ble_eq_true rfl)⟩, (Nat.le_of_ble_eq_true rfl), (Nat.le_of_ble_eq_true rfl)⟩ hK hP hD hS hA [] [0, 1, 2, 3, 4, 5, 6, 7, 8, 9, 10, 11, 12] rfl rfl (by decide +kernel) (by decide +kernel) (by decide +kernel) rfl rfl (Nat.le_of_ble_eq_true rfl) dX12_hushed_38 (fun r_32 u H locs hw hP hD hS => ?_)
            obtain rfl := hw
            refine o_re (ws' := [ro_ mm 12 (mo g (nI ta) (nI pa) (nI pe) pd (nI pb) pp pf pg pn rt rn (nI cd) sn (nI il) tk2_2 am2_4 at_2_5 aa2_6 0 0 (-1) wt zwyh 0 (nI rm) (nI ud) (nI nu) sd (nI qn) (nI qw) qo (nI qb) (nI qp2_3) qa (nI qi) (nI oc)), ra_I (g 24) cI 6 (l6 u0 u1 u2 u3 u4 u5), ra_I (g 25) cI 6 (l6 v0 v1 v2 v3 v4 v5), ra_N (g 26) cI 3200 cs, ra_I (g 31) cI 120 nw, ra_N (g 46) cI 9 pt, ra_J (g 86) cJ 1700 ql2_7, ra_I (g 20) cI 4 (l4 (nI l0) (nI l1) (nI dm) (nI l3)), ra_I (g 38) cI 90 ws_2_8, ra_I (g 36) cZ 900 yw2_9, ra_I (g 37) cZ 900 yo2_10, ra_J (g 43) cJ 90 hb_, ra_J (g 44) cJ 90 hf_]) hP hD rfl (fun hP hD => ?_)
            refine lv_icmp_ge (tgt := 54) hx hb dX12_hushed_41 (by decide) (fun c_33 => ?_) (fun c_33 => ?_)
            · skip
              refine lv_iinc (v := nI (i + 1)) (lv' := [(2, .int (nI (i + 1))), (1, .int be_), (0, .ref mm)]) hx hb dX12_hushed_54 hl (k := 0) rfl (ninc i 1 (by decide)) (by decide) rfl (fun ls hl => ?_)
              refine lv_goto (tgt := 18) hx hb dX12_hushed_57 (by decide) ?_
              exact ih_lp_12 (i + 1) be_ zwyh hb_ hf_ _ _ _ (by omega) (by omega) hP hD hS (lv_sub hl [0, 1, 2] rfl)
            · skip
              refine lv_aload_n hx hb dX12_hushed_44 rfl (lv_at hl 2 rfl) ?_
              refine lv_iload_n hx hb dX12_hushed_45 rfl (lv_at hl 0 rfl) ?_
              refine sk_Vi (q0 := 0) (n := 1) (rest := []) (wr := fmR om_13_112f _) ⟨hx, hb, hml, hown, hts⟩ hl.1 (c_m_doesAgree l D cI cJ cC cZ cS mm g ta pa pe pd pb pp pf pg pn rt rn cd sn il tk2_2 am2_4 at_2_5 aa2_6 0 wt zwyh 0 rm ud nu sd qn qw qo qb qp2_3 qa qi oc (nI i) l0 l1 dm l3 nw yo2_10 yw2_9 hb_ hf_ hdm (by omega) hnw) w_7_229 w_7_231 w_0_89 w_1_14 w_7_232 hd_X12_doesAgree_1 ⟨⟨(Nat.le_of_ble_eq_true rfl), (Nat.le_of_ble_eq_true rfl)⟩, (Nat.le_of_ble_eq_true rfl), (Nat.le_of_ble_eq_true rfl)⟩ hK hP hD hS hA [0, 7, 4, 10, 9, 11, 12] (fmF om_13_112f 0) rfl (fm_R rfl rfl) (by decide +kernel) (fm_nF om_13_112f 0) (by decide +kernel) rfl rfl rfl rfl (Nat.le_of_ble_eq_true rfl) dX12_hushed_46 (fun r_38 u H locs hw hP hD hS => ?_)
              refine exE hw (fun b_34 hw1 => exE hw1 (fun wy2_35 hw2 => exE hw2 (fun be2_36 hw3 => exE hw3 (fun bf2_37 hw4 => anE hw4 (fun hbe_39 hw5 => anE hw5 (fun hwy_40 hw6 => anE hw6 (fun hb1_41 hw7 => anE hw7 (fun er_43 eu_42 => ?_))))))))
              clear hw hw1 hw2 hw3 hw4 hw5 hw6 hw7
              subst er_43
              refine o_mgqE (ux := [ro_ mm 12 (mo g (nI ta) (nI pa) (nI pe) pd (nI pb) pp pf pg pn rt rn (nI cd) sn (nI il) tk2_2 am2_4 at_2_5 aa2_6 0 0 (-1) wt wy2_35 0 (nI rm) (nI ud) (nI nu) sd (nI qn) (nI qw) qo (nI qb) (nI qp2_3) qa (nI qi) (nI oc)), ra_I (g 31) cI 120 nw, ra_I (g 20) cI 4 (l4 (nI l0) (nI l1) (nI dm) (nI l3)), ra_I (g 36) cZ 900 yw2_9, ra_I (g 37) cZ 900 yo2_10, ra_J (g 43) cJ 90 be2_36, ra_J (g 44) cJ 90 bf2_37]) (ws' := [ro_ mm 12 (mo g (nI ta) (nI pa) (nI pe) pd (nI pb) pp pf pg pn rt rn (nI cd) sn (nI il) tk2_2 am2_4 at_2_5 aa2_6 0 0 (-1) wt wy2_35 0 (nI rm) (nI ud) (nI nu) sd (nI qn) (nI qw) qo (nI qb) (nI qp2_3) qa (nI qi) (nI oc)), ra_I (g 24) cI 6 (l6 u0 u1 u2 u3 u4 u5), ra_I (g 25) cI 6 (l6 v0 v1 v2 v3 v4 v5), ra_N (g 26) cI 3200 cs, ra_I (g 31) cI 120 nw, ra_N (g 46) cI 9 pt, ra_J (g 86) cJ 1700 ql2_7, ra_I (g 20) cI 4 (l4 (nI l0) (nI l1) (nI dm) (nI l3)), ra_I (g 38) cI 90 ws_2_8, ra_I (g 36) cZ 900 yw2_9, ra_I (g 37) cZ 900 yo2_10, ra_J (g 43) cJ 90 be2_36, ra_J (g 44) cJ 90 bf2_37]) eu_42 [0, 2, 1, 4, 3, 5, 6] (by decide +kernel) rfl hP hD rfl (fun hP hD => ?_)
              refine lv_if_eq (tgt := 54) hx hb dX12_hushed_49 (by decide) (fun c_44 => ?_) (fun c_44 => ?_)
              · have c_44 : b_34 = 0 := (neq b_34 0 (by omega) (Nat.le_of_ble_eq_true rfl)).mp c_44
                refine lv_iinc (v := nI (i + 1)) (lv' := [(2, .int (nI (i + 1))), (1, .int be_), (0, .ref mm)]) hx hb dX12_hushed_54 hl (k := 0) rfl (ninc i 1 (by decide)) (by decide) rfl (fun ls hl => ?_)
                refine lv_goto (tgt := 18) hx hb dX12_hushed_57 (by decide) ?_
                exact ih_lp_12 (i + 1) be_ wy2_35 be2_36 bf2_37 _ _ _ (by omega) (by omega) hP hD hS (lv_sub hl [0, 1, 2] rfl)
              · have c_44 : ¬ (b_34 = 0) := fun h => c_44 ((neq b_34 0 (by omega) (Nat.le_of_ble_eq_true rfl)).mpr h)
                refine lv_iload_n hx hb dX12_hushed_52 rfl (lv_at hl 0 rfl) ?_
                refine lv_istore_n (lv' := [(1, .int (nI i)), (2, .int (nI i)), (0, .ref mm)]) hx hb dX12_hushed_53 rfl hl (by decide) rfl (fun ls hl => ?_)
                refine lv_iinc (v := nI (i + 1)) (lv' := [(2, .int (nI (i + 1))), (1, .int (nI i)), (0, .ref mm)]) hx hb dX12_hushed_54 hl (k := 1) rfl (ninc i 1 (by decide)) (by decide) rfl (fun ls hl => ?_)
                refine lv_goto (tgt := 18) hx hb dX12_hushed_57 (by decide) ?_
                exact ih_lp_12 (i + 1) (nI i) wy2_35 be2_36 bf2_37 _ _ _ (by omega) (by omega) hP hD hS (lv_sub hl [0, 1, 2] rfl)
    exact lp_12 (512 - 0 + 1) 0 (-1) wy be bf _ _ _ (Nat.lt_succ_self _) (by omega) hP hD hS (lv_sub hl [0, 1, 2] rfl)
  · have c_1 : il = 0 := (neq il 0 (by omega) (Nat.le_of_ble_eq_true rfl)).mp c_1
    refine lv_iconst (v := (-1)) hx hb dX12_hushed_7 (by decide) ?_
    exact sk_iret hx hb hr rfl hlocks hK hP hD hS (⟨tk, qp, am, at_, aa, wy, ql, ws_, yw, yo, be, bf, rfl⟩) (Nat.le_of_ble_eq_true rfl) (Nat.le_of_ble_eq_true rfl) dX12_hushed_8
theorem dg_X12_wished_0_0 : bqL cX12_wished 0 [(0, [42]), (1, [27]), (2, [182, 1, 157]), (5, [153, 0, 11]), (16, [2]), (17, [172]), (8, [42]), (9, [28]), (10, [182, 1, 162]), (13, [154, 0, 5]), (18, [42]), (19, [3]), (20, [182, 1, 129]), (23, [2]), (24, [62]), (25, [3]), (26, [54, 4]), (28, [21, 4]), (30, [4]), (31, [42]), (32, [182, 1, 59]), (35, [120]), (36, [162, 0, 72]), (108, [29]), (109, [172]), (39, [29]), (40, [2]), (41, [159, 0, 15]), (56, [42]), (57, [21, 4]), (59, [182, 1, 167]), (62, [154, 0, 6]), (68, [42]), (69, [180, 0, 86]), (72, [16, 10]), (74, [27]), (75, [104]), (76, [28]), (77, [96]), (78, [47])] = true := by decide +kernel
theorem dX12_wished_0 : decode cX12_wished 0 = .ok (.aload_n 0, 1) := q_aload_n0 (bat_get dg_X12_wished_0_0 0 rfl rfl)
theorem dX12_wished_1 : decode cX12_wished 1 = .ok (.iload_n 1, 1) := q_iload_n1 (bat_get dg_X12_wished_0_0 1 rfl rfl)
theorem dX12_wished_2 : decode cX12_wished 2 = .ok (.invokevirtual 413, 3) := q_invokevirtual (bat_get dg_X12_wished_0_0 2 rfl rfl) rfl
theorem dX12_wished_5 : decode cX12_wished 5 = .ok (.ifCond .eq 11, 3) := q_ifCond_eq (bat_get dg_X12_wished_0_0 3 rfl rfl) rfl
theorem dX12_wished_16 : decode cX12_wished 16 = .ok (.iconst (-1), 1) := q_iconstm1 (bat_get dg_X12_wished_0_0 4 rfl rfl)
theorem dX12_wished_17 : decode cX12_wished 17 = .ok (.ireturn, 1) := q_ireturn (bat_get dg_X12_wished_0_0 5 rfl rfl)
theorem dX12_wished_8 : decode cX12_wished 8 = .ok (.aload_n 0, 1) := q_aload_n0 (bat_get dg_X12_wished_0_0 6 rfl rfl)
theorem dX12_wished_9 : decode cX12_wished 9 = .ok (.iload_n 2, 1) := q_iload_n2 (bat_get dg_X12_wished_0_0 7 rfl rfl)
theorem dX12_wished_10 : decode cX12_wished 10 = .ok (.invokevirtual 418, 3) := q_invokevirtual (bat_get dg_X12_wished_0_0 8 rfl rfl) rfl
theorem dX12_wished_13 : decode cX12_wished 13 = .ok (.ifCond .ne 5, 3) := q_ifCond_ne (bat_get dg_X12_wished_0_0 9 rfl rfl) rfl
theorem dX12_wished_18 : decode cX12_wished 18 = .ok (.aload_n 0, 1) := q_aload_n0 (bat_get dg_X12_wished_0_0 10 rfl rfl)
theorem dX12_wished_19 : decode cX12_wished 19 = .ok (.iconst 0, 1) := q_iconst0 (bat_get dg_X12_wished_0_0 11 rfl rfl)
theorem dX12_wished_20 : decode cX12_wished 20 = .ok (.invokevirtual 385, 3) := q_invokevirtual (bat_get dg_X12_wished_0_0 12 rfl rfl) rfl
theorem dX12_wished_23 : decode cX12_wished 23 = .ok (.iconst (-1), 1) := q_iconstm1 (bat_get dg_X12_wished_0_0 13 rfl rfl)
theorem dX12_wished_24 : decode cX12_wished 24 = .ok (.istore_n 3, 1) := q_istore_n3 (bat_get dg_X12_wished_0_0 14 rfl rfl)
theorem dX12_wished_25 : decode cX12_wished 25 = .ok (.iconst 0, 1) := q_iconst0 (bat_get dg_X12_wished_0_0 15 rfl rfl)
theorem dX12_wished_26 : decode cX12_wished 26 = .ok (.istore 4, 2) := q_istore (bat_get dg_X12_wished_0_0 16 rfl rfl)
theorem dX12_wished_28 : decode cX12_wished 28 = .ok (.iload 4, 2) := q_iload (bat_get dg_X12_wished_0_0 17 rfl rfl)
theorem dX12_wished_30 : decode cX12_wished 30 = .ok (.iconst 1, 1) := q_iconst1 (bat_get dg_X12_wished_0_0 18 rfl rfl)
theorem dX12_wished_31 : decode cX12_wished 31 = .ok (.aload_n 0, 1) := q_aload_n0 (bat_get dg_X12_wished_0_0 19 rfl rfl)
theorem dX12_wished_32 : decode cX12_wished 32 = .ok (.invokevirtual 315, 3) := q_invokevirtual (bat_get dg_X12_wished_0_0 20 rfl rfl) rfl
theorem dX12_wished_35 : decode cX12_wished 35 = .ok (.ishl, 1) := q_ishl (bat_get dg_X12_wished_0_0 21 rfl rfl)
theorem dX12_wished_36 : decode cX12_wished 36 = .ok (.if_icmp .ge 72, 3) := q_if_icmp_ge (bat_get dg_X12_wished_0_0 22 rfl rfl) rfl
theorem dX12_wished_108 : decode cX12_wished 108 = .ok (.iload_n 3, 1) := q_iload_n3 (bat_get dg_X12_wished_0_0 23 rfl rfl)
theorem dX12_wished_109 : decode cX12_wished 109 = .ok (.ireturn, 1) := q_ireturn (bat_get dg_X12_wished_0_0 24 rfl rfl)
theorem dX12_wished_39 : decode cX12_wished 39 = .ok (.iload_n 3, 1) := q_iload_n3 (bat_get dg_X12_wished_0_0 25 rfl rfl)
theorem dX12_wished_40 : decode cX12_wished 40 = .ok (.iconst (-1), 1) := q_iconstm1 (bat_get dg_X12_wished_0_0 26 rfl rfl)
theorem dX12_wished_41 : decode cX12_wished 41 = .ok (.if_icmp .eq 15, 3) := q_if_icmp_eq (bat_get dg_X12_wished_0_0 27 rfl rfl) rfl
theorem dX12_wished_56 : decode cX12_wished 56 = .ok (.aload_n 0, 1) := q_aload_n0 (bat_get dg_X12_wished_0_0 28 rfl rfl)
theorem dX12_wished_57 : decode cX12_wished 57 = .ok (.iload 4, 2) := q_iload (bat_get dg_X12_wished_0_0 29 rfl rfl)
theorem dX12_wished_59 : decode cX12_wished 59 = .ok (.invokevirtual 423, 3) := q_invokevirtual (bat_get dg_X12_wished_0_0 30 rfl rfl) rfl
theorem dX12_wished_62 : decode cX12_wished 62 = .ok (.ifCond .ne 6, 3) := q_ifCond_ne (bat_get dg_X12_wished_0_0 31 rfl rfl) rfl
theorem dX12_wished_68 : decode cX12_wished 68 = .ok (.aload_n 0, 1) := q_aload_n0 (bat_get dg_X12_wished_0_0 32 rfl rfl)
theorem dX12_wished_69 : decode cX12_wished 69 = .ok (.getfield 86, 3) := q_getfield (bat_get dg_X12_wished_0_0 33 rfl rfl) rfl
theorem dX12_wished_72 : decode cX12_wished 72 = .ok (.bipush 10, 2) := q_bipush (bat_get dg_X12_wished_0_0 34 rfl rfl) rfl
theorem dX12_wished_74 : decode cX12_wished 74 = .ok (.iload_n 1, 1) := q_iload_n1 (bat_get dg_X12_wished_0_0 35 rfl rfl)
theorem dX12_wished_75 : decode cX12_wished 75 = .ok (.imul, 1) := q_imul (bat_get dg_X12_wished_0_0 36 rfl rfl)
theorem dX12_wished_76 : decode cX12_wished 76 = .ok (.iload_n 2, 1) := q_iload_n2 (bat_get dg_X12_wished_0_0 37 rfl rfl)
theorem dX12_wished_77 : decode cX12_wished 77 = .ok (.iadd, 1) := q_iadd (bat_get dg_X12_wished_0_0 38 rfl rfl)
theorem dX12_wished_78 : decode cX12_wished 78 = .ok (.laload, 1) := q_laload (bat_get dg_X12_wished_0_0 39 rfl rfl)
theorem dg_X12_wished_44_79 : bqL cX12_wished 44 [(35, [42]), (36, [180, 0, 82]), (39, [16, 10]), (41, [27]), (42, [104]), (43, [28]), (44, [96]), (45, [47]), (46, [105]), (47, [42]), (48, [180, 1, 126]), (51, [148]), (52, [154, 0, 6]), (58, [132, 4, 1]), (61, [167, 255, 179]), (55, [21, 4]), (57, [62]), (21, [167, 0, 37]), (0, [21, 4]), (2, [184, 1, 153]), (5, [29]), (6, [184, 1, 153]), (9, [162, 0, 49])] = true := by decide +kernel
theorem dX12_wished_79 : decode cX12_wished 79 = .ok (.aload_n 0, 1) := q_aload_n0 (bat_get dg_X12_wished_44_79 0 rfl rfl)
theorem dX12_wished_80 : decode cX12_wished 80 = .ok (.getfield 82, 3) := q_getfield (bat_get dg_X12_wished_44_79 1 rfl rfl) rfl
theorem dX12_wished_83 : decode cX12_wished 83 = .ok (.bipush 10, 2) := q_bipush (bat_get dg_X12_wished_44_79 2 rfl rfl) rfl
theorem dX12_wished_85 : decode cX12_wished 85 = .ok (.iload_n 1, 1) := q_iload_n1 (bat_get dg_X12_wished_44_79 3 rfl rfl)
theorem dX12_wished_86 : decode cX12_wished 86 = .ok (.imul, 1) := q_imul (bat_get dg_X12_wished_44_79 4 rfl rfl)
theorem dX12_wished_87 : decode cX12_wished 87 = .ok (.iload_n 2, 1) := q_iload_n2 (bat_get dg_X12_wished_44_79 5 rfl rfl)
theorem dX12_wished_88 : decode cX12_wished 88 = .ok (.iadd, 1) := q_iadd (bat_get dg_X12_wished_44_79 6 rfl rfl)
theorem dX12_wished_89 : decode cX12_wished 89 = .ok (.laload, 1) := q_laload (bat_get dg_X12_wished_44_79 7 rfl rfl)
theorem dX12_wished_90 : decode cX12_wished 90 = .ok (.lmul, 1) := q_lmul (bat_get dg_X12_wished_44_79 8 rfl rfl)
theorem dX12_wished_91 : decode cX12_wished 91 = .ok (.aload_n 0, 1) := q_aload_n0 (bat_get dg_X12_wished_44_79 9 rfl rfl)
theorem dX12_wished_92 : decode cX12_wished 92 = .ok (.getfield 382, 3) := q_getfield (bat_get dg_X12_wished_44_79 10 rfl rfl) rfl
theorem dX12_wished_95 : decode cX12_wished 95 = .ok (.lcmp, 1) := q_lcmp (bat_get dg_X12_wished_44_79 11 rfl rfl)
theorem dX12_wished_96 : decode cX12_wished 96 = .ok (.ifCond .ne 6, 3) := q_ifCond_ne (bat_get dg_X12_wished_44_79 12 rfl rfl) rfl
theorem dX12_wished_102 : decode cX12_wished 102 = .ok (.iinc 4 1, 3) := q_iinc (bat_get dg_X12_wished_44_79 13 rfl rfl) rfl
theorem dX12_wished_105 : decode cX12_wished 105 = .ok (.goto (-77), 3) := q_goto (bat_get dg_X12_wished_44_79 14 rfl rfl) rfl
theorem dX12_wished_99 : decode cX12_wished 99 = .ok (.iload 4, 2) := q_iload (bat_get dg_X12_wished_44_79 15 rfl rfl)
theorem dX12_wished_101 : decode cX12_wished 101 = .ok (.istore_n 3, 1) := q_istore_n3 (bat_get dg_X12_wished_44_79 16 rfl rfl)
theorem dX12_wished_65 : decode cX12_wished 65 = .ok (.goto 37, 3) := q_goto (bat_get dg_X12_wished_44_79 17 rfl rfl) rfl
theorem dX12_wished_44 : decode cX12_wished 44 = .ok (.iload 4, 2) := q_iload (bat_get dg_X12_wished_44_79 18 rfl rfl)
theorem dX12_wished_46 : decode cX12_wished 46 = .ok (.invokestatic 409, 3) := q_invokestatic (bat_get dg_X12_wished_44_79 19 rfl rfl) rfl
theorem dX12_wished_49 : decode cX12_wished 49 = .ok (.iload_n 3, 1) := q_iload_n3 (bat_get dg_X12_wished_44_79 20 rfl rfl)
theorem dX12_wished_50 : decode cX12_wished 50 = .ok (.invokestatic 409, 3) := q_invokestatic (bat_get dg_X12_wished_44_79 21 rfl rfl) rfl
theorem dX12_wished_53 : decode cX12_wished 53 = .ok (.if_icmp .ge 49, 3) := q_if_icmp_ge (bat_get dg_X12_wished_44_79 22 rfl rfl) rfl
theorem w_7_236 : (Cond.code yX12_wished cX12_wished 5 (some .int)) ∈ wsL_law := sk_mem (ck_7 _ (List.mem_of_getElem? (i := 236) rfl)) rfl
set_option maxHeartbeats 4000000 in
set_option maxRecDepth 100000 in
theorem c_m_wished (l : Launch) (D : va_G) (cI cJ cC cZ cS : ClassId) (mm : Nat) (g : Nat → Nat) (ta : Nat) (pa : Nat) (pe : Nat) (pd : Int32) (pb : Nat) (pp : Int32) (pf : Int32) (pg : Int32) (pn : Int32) (rt : Int32) (rn : Int32) (cd : Nat) (sn : Int32) (il : Nat) (tk : Int32) (am : Int32) (at_ : Int32) (aa : Int32) (wt : Int32) (wy : Int64) (rm : Nat) (ud : Nat) (nu : Nat) (sd : Int64) (qn : Nat) (qw : Nat) (qo : Int32) (qb : Nat) (qp : Nat) (qa : Int64) (qi : Nat) (oc : Nat) (d : Int32) (o : Int32) (u0 : Int32) (u1 : Int32) (u2 : Int32) (u3 : Int32) (u4 : Int32) (u5 : Int32) (v0 : Int32) (v1 : Int32) (v2 : Int32) (v3 : Int32) (v4 : Int32) (v5 : Int32) (cs : Nat → Nat) (nw : Nat → Int32) (pt : Nat → Nat) (ql : Nat → Int64) (l0 : Nat) (l1 : Nat) (dm : Nat) (l3 : Nat) (ws_ : Nat → Int32) (yw : Nat → Int32) (yo : Nat → Int32) (be : Nat → Int64) (bf : Nat → Int64) (hil : il ≤ 1) (hild : il = 1 → 1 ≤ dm) (hdm : dm ≤ 9) (hp0 : progOk cs u3 v3) (hp1 : progOk cs u4 v4) (hp2 : progOk cs u5 v5) (hcs : ∀ j, cs j ≤ 20000) (hnw : nowOk nw) (hpt : ∀ j, pt j ≤ 9) : skM l yX12_wished cX12_wished 5 (some .int) 5 122 0 0 D (skT cI cJ cC cZ cS) [.ref mm, .int d, .int o] [ro_ mm 12 (mo g (nI ta) (nI pa) (nI pe) pd (nI pb) pp pf pg pn rt rn (nI cd) sn (nI il) tk am at_ aa 0 0 (-1) wt wy 0 (nI rm) (nI ud) (nI nu) sd (nI qn) (nI qw) qo (nI qb) (nI qp) qa (nI qi) (nI oc)), ra_I (g 24) cI 6 (l6 u0 u1 u2 u3 u4 u5), ra_I (g 25) cI 6 (l6 v0 v1 v2 v3 v4 v5), ra_N (g 26) cI 3200 cs, ra_I (g 31) cI 120 nw, ra_N (g 46) cI 9 pt, ra_J (g 86) cJ 1700 ql, ra_I (g 20) cI 4 (l4 (nI l0) (nI l1) (nI dm) (nI l3)), ra_I (g 38) cI 90 ws_, ra_I (g 36) cZ 900 yw, ra_I (g 37) cZ 900 yo, ra_J (g 43) cJ 90 be, ra_J (g 44) cJ 90 bf] (skI D (skT cI cJ cC cZ cS) (fun (r : Int32) (u : va_W) => ∃ (tk2 : Int32), ∃ (qp2 : Nat), ∃ (am2 : Int32), ∃ (at_2 : Int32), ∃ (aa2 : Int32), ∃ (wy2 : Int64), ∃ (ql2 : Nat → Int64), ∃ (ws_2 : Nat → Int32), ∃ (yw2 : Nat → Int32), ∃ (yo2 : Nat → Int32), ∃ (be2 : Nat → Int64), ∃ (bf2 : Nat → Int64), u = [ro_ mm 12 (mo g (nI ta) (nI pa) (nI pe) pd (nI pb) pp pf pg pn rt rn (nI cd) sn (nI il) tk2 am2 at_2 aa2 0 0 (-1) wt wy2 0 (nI rm) (nI ud) (nI nu) sd (nI qn) (nI qw) qo (nI qb) (nI qp2) qa (nI qi) (nI oc)), ra_I (g 24) cI 6 (l6 u0 u1 u2 u3 u4 u5), ra_I (g 25) cI 6 (l6 v0 v1 v2 v3 v4 v5), ra_N (g 26) cI 3200 cs, ra_I (g 31) cI 120 nw, ra_N (g 46) cI 9 pt, ra_J (g 86) cJ 1700 ql2, ra_I (g 20) cI 4 (l4 (nI l0) (nI l1) (nI dm) (nI l3)), ra_I (g 38) cI 90 ws_2, ra_I (g 36) cZ 900 yw2, ra_I (g 37) cZ 900 yo2, ra_J (g 43) cJ 90 be2, ra_J (g 44) cJ 90 bf2])) := by
  refine skM_of pf_X12_wished (Nat.le_of_ble_eq_true rfl) ?_
  intro p e s m below meth c A ls E hP hD hl
  refine skE_el E (fun hx hb hr hml hlocks hin hown hts hK hA => ?_)
  have hown : s.vm.findClass RX12 = some m.cls := hown
  have hS : va_S A s.heap s.heap [] := va_S.rf
  have hl : lv_has ls 5 [(0, .ref mm), (1, .int d), (2, .int o)] := hl
  refine lv_aload_n hx hb dX12_wished_0 rfl (lv_at hl 0 rfl) ?_
  refine lv_iload_n hx hb dX12_wished_1 rfl (lv_at hl 1 rfl) ?_
  refine sk_Vi (q0 := 0) (n := 1) (rest := []) (wr := fmR om_13_1020 _) ⟨hx, hb, hml, hown, hts⟩ hl.1 (c_m_isDay l D cI cJ cC cZ cS mm g ta pa pe pd pb pp pf pg pn rt rn cd sn il tk am at_ aa 0 0 (-1) wt wy 0 rm ud nu sd qn qw qo qb qp qa qi oc d l0 l1 dm l3 hdm) w_7_117 w_7_119 w_0_72 w_1_14 w_7_120 hd_X12_isDay_1 ⟨⟨(Nat.le_of_ble_eq_true rfl), (Nat.le_of_ble_eq_true rfl)⟩, (Nat.le_of_ble_eq_true rfl), (Nat.le_of_ble_eq_true rfl)⟩ hK hP hD hS hA (fmT om_13_1020 0) (fmF om_13_1020 0) (fm_C1 rfl rfl) (fm_R rfl rfl) (fm_nT om_13_1020 0) (fm_nF om_13_1020 0) (fm_di om_13_1020 0) rfl rfl rfl rfl (Nat.le_of_ble_eq_true rfl) dX12_wished_2 (fun r_2 u H locs hw hP hD hS => ?_)
  refine exE hw (fun b_1 hw1 => anE hw1 (fun hb1_3 hw2 => anE hw2 (fun er_5 eu_4 => ?_)))
  clear hw hw1 hw2
  subst er_5
  refine o_mgE (ws' := [ro_ mm 12 (mo g (nI ta) (nI pa) (nI pe) pd (nI pb) pp pf pg pn rt rn (nI cd) sn (nI il) tk am at_ aa 0 0 (-1) wt wy 0 (nI rm) (nI ud) (nI nu) sd (nI qn) (nI qw) qo (nI qb) (nI qp) qa (nI qi) (nI oc)), ra_I (g 24) cI 6 (l6 u0 u1 u2 u3 u4 u5), ra_I (g 25) cI 6 (l6 v0 v1 v2 v3 v4 v5), ra_N (g 26) cI 3200 cs, ra_I (g 31) cI 120 nw, ra_N (g 46) cI 9 pt, ra_J (g 86) cJ 1700 ql, ra_I (g 20) cI 4 (l4 (nI l0) (nI l1) (nI dm) (nI l3)), ra_I (g 38) cI 90 ws_, ra_I (g 36) cZ 900 yw, ra_I (g 37) cZ 900 yo, ra_J (g 43) cJ 90 be, ra_J (g 44) cJ 90 bf]) eu_4 hP hD rfl (fun hP hD => ?_)
  refine lv_if_eq (tgt := 16) hx hb dX12_wished_5 (by decide) (fun c_6 => ?_) (fun c_6 => ?_)
  · have c_6 : b_1 = 0 := (neq b_1 0 (by omega) (Nat.le_of_ble_eq_true rfl)).mp c_6
    refine lv_iconst (v := (-1)) hx hb dX12_wished_16 (by decide) ?_
    exact sk_iret hx hb hr rfl hlocks hK hP hD hS (⟨tk, qp, am, at_, aa, wy, ql, ws_, yw, yo, be, bf, rfl⟩) (Nat.le_of_ble_eq_true rfl) (Nat.le_of_ble_eq_true rfl) dX12_wished_17
  · have c_6 : ¬ (b_1 = 0) := fun h => c_6 ((neq b_1 0 (by omega) (Nat.le_of_ble_eq_true rfl)).mpr h)
    obtain ⟨kd_7, hkd_7, rfl⟩ := (hb1_3.resolve_left (by omega)).2
    refine lv_aload_n hx hb dX12_wished_8 rfl (lv_at hl 0 rfl) ?_
    refine lv_iload_n hx hb dX12_wished_9 rfl (lv_at hl 2 rfl) ?_
    refine sk_Vi (q0 := 0) (n := 1) (rest := []) (wr := fmR om_13_1000 _) ⟨hx, hb, hml, hown, hts⟩ hl.1 (c_m_isMood l D cI cJ cC cZ cS mm g ta pa pe pd pb pp pf pg pn rt rn cd sn il tk am at_ aa 0 0 (-1) wt wy 0 rm ud nu sd qn qw qo qb qp qa qi oc o) w_7_126 w_7_128 w_0_73 w_1_14 w_7_129 hd_X12_isMood_1 ⟨⟨(Nat.le_of_ble_eq_true rfl), (Nat.le_of_ble_eq_true rfl)⟩, (Nat.le_of_ble_eq_true rfl), (Nat.le_of_ble_eq_true rfl)⟩ hK hP hD hS hA (fmT om_13_1000 0) (fmF om_13_1000 0) (fm_C1 rfl rfl) (fm_R rfl rfl) (fm_nT om_13_1000 0) (fm_nF om_13_1000 0) (fm_di om_13_1000 0) rfl rfl rfl rfl (Nat.le_of_ble_eq_true rfl) dX12_wished_10 (fun r_9 u H locs hw hP hD hS => ?_)
    refine exE hw (fun b_8 hw1 => anE hw1 (fun hb1_10 hw2 => anE hw2 (fun er_12 eu_11 => ?_)))
    clear hw hw1 hw2
    subst er_12
    refine o_mgE (ws' := [ro_ mm 12 (mo g (nI ta) (nI pa) (nI pe) pd (nI pb) pp pf pg pn rt rn (nI cd) sn (nI il) tk am at_ aa 0 0 (-1) wt wy 0 (nI rm) (nI ud) (nI nu) sd (nI qn) (nI qw) qo (nI qb) (nI qp) qa (nI qi) (nI oc)), ra_I (g 24) cI 6 (l6 u0 u1 u2 u3 u4 u5), ra_I (g 25) cI 6 (l6 v0 v1 v2 v3 v4 v5), ra_N (g 26) cI 3200 cs, ra_I (g 31) cI 120 nw, ra_N (g 46) cI 9 pt, ra_J (g 86) cJ 1700 ql, ra_I (g 20) cI 4 (l4 (nI l0) (nI l1) (nI dm) (nI l3)), ra_I (g 38) cI 90 ws_, ra_I (g 36) cZ 900 yw, ra_I (g 37) cZ 900 yo, ra_J (g 43) cJ 90 be, ra_J (g 44) cJ 90 bf]) eu_11 hP hD rfl (fun hP hD => ?_)
    refine lv_if_ne (tgt := 18) hx hb dX12_wished_13 (by decide) (fun c_13 => ?_) (fun c_13 => ?_)
    · have c_13 : ¬ (b_8 = 0) := fun h => c_13 ((neq b_8 0 (by omega) (Nat.le_of_ble_eq_true rfl)).mpr h)
      obtain ⟨kd_14, hkd_14, rfl⟩ := (hb1_10.resolve_left (by omega)).2
      refine lv_aload_n hx hb dX12_wished_18 rfl (lv_at hl 0 rfl) ?_
      refine lv_iconst (v := 0) hx hb dX12_wished_19 ic_0 ?_
      refine sk_Vv (q0 := 0) (n := 1) (rest := []) (wr := fmR om_13_1ffc _) ⟨hx, hb, hml, hown, hts⟩ hl.1 (c_m_laysDays l D cI cJ cC cZ cS mm g ta pa pe pd pb pp pf pg pn rt rn cd sn il tk am at_ aa 0 0 (-1) wt wy 0 rm ud nu sd qn qw qo qb qp qa qi oc 0 u0 u1 u2 u3 u4 u5 v0 v1 v2 v3 v4 v5 cs nw pt ql l0 l1 dm l3 ws_ yw yo hdm hp0 hp1 hp2 hcs hnw hpt) w_7_193 w_7_195 w_0_83 w_1_14 w_7_196 hd_X12_laysDays_1 ⟨⟨(Nat.le_of_ble_eq_true rfl), (Nat.le_of_ble_eq_true rfl)⟩, (Nat.le_of_ble_eq_true rfl), (Nat.le_of_ble_eq_true rfl)⟩ hK hP hD hS hA (fmT om_13_1ffc 0) (fmF om_13_1ffc 0) (fm_C1 rfl rfl) (fm_R rfl rfl) (fm_nT om_13_1ffc 0) (fm_nF om_13_1ffc 0) (fm_di om_13_1ffc 0) rfl rfl rfl rfl (Nat.le_of_ble_eq_true rfl) dX12_wished_20 (fun u H locs hw hP hD hS => ?_)
      refine exE hw (fun tk2_15 hw1 => exE hw1 (fun qp2_16 hw2 => exE hw2 (fun am2_17 hw3 => exE hw3 (fun at_2_18 hw4 => exE hw4 (fun aa2_19 hw5 => exE hw5 (fun ql2_20 hw6 => exE hw6 (fun ws_2_21 hw7 => exE hw7 (fun yw2_22 hw8 => exE hw8 (fun yo2_23 eu_24 => ?_)))))))))
      clear hw hw1 hw2 hw3 hw4 hw5 hw6 hw7 hw8
      refine o_mgE (ws' := [ro_ mm 12 (mo g (nI ta) (nI pa) (nI pe) pd (nI pb) pp pf pg pn rt rn (nI cd) sn (nI il) tk2_15 am2_17 at_2_18 aa2_19 0 0 (-1) wt wy 0 (nI rm) (nI ud) (nI nu) sd (nI qn) (nI qw) qo (nI qb) (nI qp2_16) qa (nI qi) (nI oc)), ra_I (g 24) cI 6 (l6 u0 u1 u2 u3 u4 u5), ra_I (g 25) cI 6 (l6 v0 v1 v2 v3 v4 v5), ra_N (g 26) cI 3200 cs, ra_I (g 31) cI 120 nw, ra_N (g 46) cI 9 pt, ra_J (g 86) cJ 1700 ql2_20, ra_I (g 20) cI 4 (l4 (nI l0) (nI l1) (nI dm) (nI l3)), ra_I (g 38) cI 90 ws_2_21, ra_I (g 36) cZ 900 yw2_22, ra_I (g 37) cZ 900 yo2_23, ra_J (g 43) cJ 90 be, ra_J (g 44) cJ 90 bf]) eu_24 hP hD rfl (fun hP hD => ?_)
      refine lv_iconst (v := (-1)) hx hb dX12_wished_23 (by decide) ?_
      refine lv_istore_n (lv' := [(3, .int (-1)), (0, .ref mm), (1, .int (nI kd_7)), (2, .int (nI kd_14))]) hx hb dX12_wished_24 rfl hl (by decide) rfl (fun ls hl => ?_)
      refine lv_iconst (v := 0) hx hb dX12_wished_25 ic_0 ?_
      refine lv_istore (lv' := [(4, .int 0), (3, .int (-1)), (0, .ref mm), (1, .int (nI kd_7)), (2, .int (nI kd_14))]) hx hb dX12_wished_26 hl (by decide) rfl (fun ls hl => ?_)
      have lp_25 : ∀ (n_26 : Nat) (i : Nat) (be_ : Int32) (zwyh : Int64) (hb_ : Nat → Int64) (hf_ : Nat → Int64) (H : Heap) (locs : List Loc) (ls : Array Slot), 512 - i < n_26 → (i ≤ 512) → va_P D vwCl [ro_ mm 12 (mo g (nI ta) (nI pa) (nI pe) pd (nI pb) pp pf pg pn rt rn (nI cd) sn (nI il) tk2_15 am2_17 at_2_18 aa2_19 0 0 (-1) wt zwyh 0 (nI rm) (nI ud) (nI nu) sd (nI qn) (nI qw) qo (nI qb) (nI qp2_16) qa (nI qi) (nI oc)), ra_I (g 24) cI 6 (l6 u0 u1 u2 u3 u4 u5), ra_I (g 25) cI 6 (l6 v0 v1 v2 v3 v4 v5), ra_N (g 26) cI 3200 cs, ra_I (g 31) cI 120 nw, ra_N (g 46) cI 9 pt, ra_J (g 86) cJ 1700 ql2_20, ra_I (g 20) cI 4 (l4 (nI l0) (nI l1) (nI dm) (nI l3)), ra_I (g 38) cI 90 ws_2_21, ra_I (g 36) cZ 900 yw2_22, ra_I (g 37) cZ 900 yo2_23, ra_J (g 43) cJ 90 hb_, ra_J (g 44) cJ 90 hf_] H → va_D A [ro_ mm 12 (mo g (nI ta) (nI pa) (nI pe) pd (nI pb) pp pf pg pn rt rn (nI cd) sn (nI il) tk2_15 am2_17 at_2_18 aa2_19 0 0 (-1) wt zwyh 0 (nI rm) (nI ud) (nI nu) sd (nI qn) (nI qw) qo (nI qb) (nI qp2_16) qa (nI qi) (nI oc)), ra_I (g 24) cI 6 (l6 u0 u1 u2 u3 u4 u5), ra_I (g 25) cI 6 (l6 v0 v1 v2 v3 v4 v5), ra_N (g 26) cI 3200 cs, ra_I (g 31) cI 120 nw, ra_N (g 46) cI 9 pt, ra_J (g 86) cJ 1700 ql2_20, ra_I (g 20) cI 4 (l4 (nI l0) (nI l1) (nI dm) (nI l3)), ra_I (g 38) cI 90 ws_2_21, ra_I (g 36) cZ 900 yw2_22, ra_I (g 37) cZ 900 yo2_23, ra_J (g 43) cJ 90 hb_, ra_J (g 44) cJ 90 hf_] → va_S A s.heap H locs → lv_has ls 5 [(4, .int (nI i)), (3, .int be_), (0, .ref mm), (1, .int (nI kd_7)), (2, .int (nI kd_14))] → W p l e { frames := 5, cells := 0, slots := 0, locals := 122 } s m ([.ref mm, .int (nI kd_7), .int (nI kd_14)] : List Value).toArray below meth c H locs 0 0 (MQ below (skI D (skT cI cJ cC cZ cS) (fun (r : Int32) (u : va_W) => ∃ (tk2 : Int32), ∃ (qp2 : Nat), ∃ (am2 : Int32), ∃ (at_2 : Int32), ∃ (aa2 : Int32), ∃ (wy2 : Int64), ∃ (ql2 : Nat → Int64), ∃ (ws_2 : Nat → Int32), ∃ (yw2 : Nat → Int32), ∃ (yo2 : Nat → Int32), ∃ (be2 : Nat → Int64), ∃ (bf2 : Nat → Int64), u = [ro_ mm 12 (mo g (nI ta) (nI pa) (nI pe) pd (nI pb) pp pf pg pn rt rn (nI cd) sn (nI il) tk2 am2 at_2 aa2 0 0 (-1) wt wy2 0 (nI rm) (nI ud) (nI nu) sd (nI qn) (nI qw) qo (nI qb) (nI qp2) qa (nI qi) (nI oc)), ra_I (g 24) cI 6 (l6 u0 u1 u2 u3 u4 u5), ra_I (g 25) cI 6 (l6 v0 v1 v2 v3 v4 v5), ra_N (g 26) cI 3200 cs, ra_I (g 31) cI 120 nw, ra_N (g 46) cI 9 pt, ra_J (g 86) cJ 1700 ql2, ra_I (g 20) cI 4 (l4 (nI l0) (nI l1) (nI dm) (nI l3)), ra_I (g 38) cI 90 ws_2, ra_I (g 36) cZ 900 yw2, ra_I (g 37) cZ 900 yo2, ra_J (g 43) cJ 90 be2, ra_J (g 44) cJ 90 bf2]) A) ([.ref mm, .int (nI kd_7), .int (nI kd_14)] : List Value).toArray s 0 0 A) (F0 m 28 ls []) := by
        intro n_26
        induction n_26 with
        | zero => intro i be_ zwyh hb_ hf_ H locs ls hm; exact absurd hm (Nat.not_lt_zero _)
        | succ n_26 ih_lp_25 =>
          intro i be_ zwyh hb_ hf_ H locs ls hm hi hP hD hS hl
          refine lv_iload hx hb dX12_wished_28 (lv_at hl 0 rfl) ?_
          refine lv_iconst (v := 1) hx hb dX12_wished_30 ic_1 ?_
          refine lv_aload_n hx hb dX12_wished_31 rfl (lv_at hl 2 rfl) ?_
          refine sk_Vi (q0 := 0) (n := 0) (rest := [.int 1, .int (nI i)]) (wr := fmR om_13_1020 _) ⟨hx, hb, hml, hown, hts⟩ hl.1 (c_m_dayMany l D cI cJ cC cZ cS mm g ta pa pe pd pb pp pf pg pn rt rn cd sn il tk2_15 am2_17 at_2_18 aa2_19 0 0 (-1) wt zwyh 0 rm ud nu sd qn qw qo qb qp2_16 qa qi oc l0 l1 dm l3) w_7_98 w_7_100 w_0_69 w_1_14 w_7_101 hd_X12_dayMany_0 ⟨⟨(Nat.le_of_ble_eq_true rfl), (Nat.le_of_ble_eq_true rfl)⟩, (Nat.le_of_ble_eq_true rfl), (Nat.le_of_ble_eq_true rfl)⟩ hK hP hD hS hA (fmT om_13_1020 0) (fmF om_13_1020 0) (fm_C1 rfl rfl) (fm_R rfl rfl) (fm_nT om_13_1020 0) (fm_nF om_13_1020 0) (fm_di om_13_1020 0) rfl rfl rfl rfl (Nat.le_of_ble_eq_true rfl) dX12_wished_32 (fun r_27 u H locs hw hP hD hS => ?_)
          refine anE hw (fun er_29 eu_28 => ?_)
          clear hw
          subst er_29
          refine o_mgE (ws' := [ro_ mm 12 (mo g (nI ta) (nI pa) (nI pe) pd (nI pb) pp pf pg pn rt rn (nI cd) sn (nI il) tk2_15 am2_17 at_2_18 aa2_19 0 0 (-1) wt zwyh 0 (nI rm) (nI ud) (nI nu) sd (nI qn) (nI qw) qo (nI qb) (nI qp2_16) qa (nI qi) (nI oc)), ra_I (g 24) cI 6 (l6 u0 u1 u2 u3 u4 u5), ra_I (g 25) cI 6 (l6 v0 v1 v2 v3 v4 v5), ra_N (g 26) cI 3200 cs, ra_I (g 31) cI 120 nw, ra_N (g 46) cI 9 pt, ra_J (g 86) cJ 1700 ql2_20, ra_I (g 20) cI 4 (l4 (nI l0) (nI l1) (nI dm) (nI l3)), ra_I (g 38) cI 90 ws_2_21, ra_I (g 36) cZ 900 yw2_22, ra_I (g 37) cZ 900 yo2_23, ra_J (g 43) cJ 90 hb_, ra_J (g 44) cJ 90 hf_]) eu_28 hP hD rfl (fun hP hD => ?_)
          refine lv_ishl hx hb dX12_wished_35 ?_
          obtain ⟨k_30, hk_30, ek_30⟩ := nshl1 dm (by omega)
          refine sk_top (nI k_30) ek_30 ?_
          refine lv_icmp_ge (tgt := 108) hx hb dX12_wished_36 (by decide) (fun c_31 => ?_) (fun c_31 => ?_)
          · have c_31 : k_30 ≤ i := (nle k_30 i (by omega) (by omega)).mp c_31
            refine lv_iload_n hx hb dX12_wished_108 rfl (lv_at hl 1 rfl) ?_
            exact sk_iret hx hb hr rfl hlocks hK hP hD hS (⟨tk2_15, qp2_16, am2_17, at_2_18, aa2_19, zwyh, ql2_20, ws_2_21, yw2_22, yo2_23, hb_, hf_, rfl⟩) (Nat.le_of_ble_eq_true rfl) (Nat.le_of_ble_eq_true rfl) dX12_wished_109
          · have c_31 : ¬ (k_30 ≤ i) := fun h => c_31 ((nle k_30 i (by omega) (by omega)).mpr h)
            refine lv_iload_n hx hb dX12_wished_39 rfl (lv_at hl 1 rfl) ?_
            refine lv_iconst (v := (-1)) hx hb dX12_wished_40 (by decide) ?_
            refine lv_icmp_eq (tgt := 56) hx hb dX12_wished_41 (by decide) (fun c_32 => ?_) (fun c_32 => ?_)
            · skip
              refine lv_aload_n hx hb dX12_wished_56 rfl (lv_at hl 2 rfl) ?_
              refine lv_iload hx hb dX12_wished_57 (lv_at hl 0 rfl) ?_
              refine sk_Vi (q0 := 0) (n := 1) (rest := []) (wr := fmR om_13_112f _) ⟨hx, hb, hml, hown, hts⟩ hl.1 (c_m_doesAgree l D cI cJ cC cZ cS mm g ta pa pe pd pb pp pf pg pn rt rn cd sn il tk2_15 am2_17 at_2_18 aa2_19 0 wt zwyh 0 rm ud nu sd qn qw qo qb qp2_16 qa qi oc (nI i) l0 l1 dm l3 nw yo2_23 yw2_22 hb_ hf_ hdm (by omega) hnw) w_7_229 w_7_231 w_0_89 w_1_14 w_7_232 hd_X12_doesAgree_1 ⟨⟨(Nat.le_of_ble_eq_true rfl), (Nat.le_of_ble_eq_true rfl)⟩, (Nat.le_of_ble_eq_true rfl), (Nat.le_of_ble_eq_true rfl)⟩ hK hP hD hS hA [0, 7, 4, 10, 9, 11, 12] (fmF om_13_112f 0) rfl (fm_R rfl rfl) (by decide +kernel) (fm_nF om_13_112f 0) (by decide +kernel) rfl rfl rfl rfl (Nat.le_of_ble_eq_true rfl) dX12_wished_59 (fun r_37 u H locs hw hP hD hS => ?_)
              refine exE hw (fun b_33 hw1 => exE hw1 (fun wy2_34 hw2 => exE hw2 (fun be2_35 hw3 => exE hw3 (fun bf2_36 hw4 => anE hw4 (fun hbe_38 hw5 => anE hw5 (fun hwy_39 hw6 => anE hw6 (fun hb1_40 hw7 => anE hw7 (fun er_42 eu_41 => ?_))))))))
              clear hw hw1 hw2 hw3 hw4 hw5 hw6 hw7
              subst er_42
              refine o_mgqE (ux := [ro_ mm 12 (mo g (nI ta) (nI pa) (nI pe) pd (nI pb) pp pf pg pn rt rn (nI cd) sn (nI il) tk2_15 am2_17 at_2_18 aa2_19 0 0 (-1) wt wy2_34 0 (nI rm) (nI ud) (nI nu) sd (nI qn) (nI qw) qo (nI qb) (nI qp2_16) qa (nI qi) (nI oc)), ra_I (g 31) cI 120 nw, ra_I (g 20) cI 4 (l4 (nI l0) (nI l1) (nI dm) (nI l3)), ra_I (g 36) cZ 900 yw2_22, ra_I (g 37) cZ 900 yo2_23, ra_J (g 43) cJ 90 be2_35, ra_J (g 44) cJ 90 bf2_36]) (ws' := [ro_ mm 12 (mo g (nI ta) (nI pa) (nI pe) pd (nI pb) pp pf pg pn rt rn (nI cd) sn (nI il) tk2_15 am2_17 at_2_18 aa2_19 0 0 (-1) wt wy2_34 0 (nI rm) (nI ud) (nI nu) sd (nI qn) (nI qw) qo (nI qb) (nI qp2_16) qa (nI qi) (nI oc)), ra_I (g 24) cI 6 (l6 u0 u1 u2 u3 u4 u5), ra_I (g 25) cI 6 (l6 v0 v1 v2 v3 v4 v5), ra_N (g 26) cI 3200 cs, ra_I (g 31) cI 120 nw, ra_N (g 46) cI 9 pt, ra_J (g 86) cJ 1700 ql2_20, ra_I (g 20) cI 4 (l4 (nI l0) (nI l1) (nI dm) (nI l3)), ra_I (g 38) cI 90 ws_2_21, ra_I (g 36) cZ 900 yw2_22, ra_I (g 37) cZ 900 yo2_23, ra_J (g 43) cJ 90 be2_35, ra_J (g 44) cJ 90 bf2_36]) eu_41 [0, 2, 1, 4, 3, 5, 6] (by decide +kernel) rfl hP hD rfl (fun hP hD => ?_)
              refine lv_if_ne (tgt := 68) hx hb dX12_wished_62 (by decide) (fun c_43 => ?_) (fun c_43 => ?_)
              · have c_43 : ¬ (b_33 = 0) := fun h => c_43 ((neq b_33 0 (by omega) (Nat.le_of_ble_eq_true rfl)).mpr h)
                refine lv_aload_n hx hb dX12_wished_68 rfl (lv_at hl 2 rfl) ?_
                refine sk_get (v := .ref (g 44)) (C := RX12) (T := TX12) (N := 92) hx hb hts inlX12 hown hK hP 0 rfl rfl 44 (Nat.le_of_ble_eq_true rfl) w_5_199 rfl dX12_wished_69 ?_
                refine lv_bipush (v := 10) hx hb dX12_wished_72 (by decide) ?_
                refine lv_iload_n hx hb dX12_wished_74 rfl (lv_at hl 3 rfl) ?_
                refine lv_imul hx hb dX12_wished_75 ?_
                refine sk_top (nI (10 * kd_7)) (nmul 10 kd_7) ?_
                refine lv_iload_n hx hb dX12_wished_76 rfl (lv_at hl 4 rfl) ?_
                refine lv_iadd hx hb dX12_wished_77 ?_
                refine sk_top (nI (10 * kd_7 + kd_14)) (nI_add (10 * kd_7) kd_14) ?_
                refine va_lald hx hb hK.1 hP 12 1 rfl rfl (vin (10 * kd_7 + kd_14) 90 (by omega) (Nat.le_of_ble_eq_true rfl)) dX12_wished_78 ?_
                refine lv_topl (fun v_44 ev_44 => ?_)
                refine lv_aload_n hx hb dX12_wished_79 rfl (lv_at hl 2 rfl) ?_
                refine sk_get (v := .ref (g 43)) (C := RX12) (T := TX12) (N := 92) hx hb hts inlX12 hown hK hP 0 rfl rfl 43 (Nat.le_of_ble_eq_true rfl) w_5_198 rfl dX12_wished_80 ?_
                refine lv_bipush (v := 10) hx hb dX12_wished_83 (by decide) ?_
                refine lv_iload_n hx hb dX12_wished_85 rfl (lv_at hl 3 rfl) ?_
                refine lv_imul hx hb dX12_wished_86 ?_
                refine sk_top (nI (10 * kd_7)) (nmul 10 kd_7) ?_
                refine lv_iload_n hx hb dX12_wished_87 rfl (lv_at hl 4 rfl) ?_
                refine lv_iadd hx hb dX12_wished_88 ?_
                refine sk_top (nI (10 * kd_7 + kd_14)) (nI_add (10 * kd_7) kd_14) ?_
                refine va_lald hx hb hK.1 hP 11 1 rfl rfl (vin (10 * kd_7 + kd_14) 90 (by omega) (Nat.le_of_ble_eq_true rfl)) dX12_wished_89 ?_
                refine lv_topl (fun v_45 ev_45 => ?_)
                refine lv_lmul hx hb dX12_wished_90 ?_
                refine lv_topl (fun v_46 ev_46 => ?_)
                refine lv_aload_n hx hb dX12_wished_91 rfl (lv_at hl 2 rfl) ?_
                refine sk_get (v := .long wy2_34) (C := RX12) (T := TX12) (N := 92) hx hb hts inlX12 hown hK hP 0 rfl rfl 45 (Nat.le_of_ble_eq_true rfl) w_5_200 rfl dX12_wished_92 ?_
                refine W.lcmp hx hb dX12_wished_95 ?_
                refine lv_if_ne (tgt := 102) hx hb dX12_wished_96 (by decide) (fun c_47 => ?_) (fun c_47 => ?_)
                · skip
                  refine lv_iinc (v := nI (i + 1)) (lv' := [(4, .int (nI (i + 1))), (3, .int be_), (0, .ref mm), (1, .int (nI kd_7)), (2, .int (nI kd_14))]) hx hb dX12_wished_102 hl (k := 0) rfl (ninc i 1 (by decide)) (by decide) rfl (fun ls hl => ?_)
                  refine lv_goto (tgt := 28) hx hb dX12_wished_105 (by decide) ?_
                  exact ih_lp_25 (i + 1) be_ wy2_34 be2_35 bf2_36 _ _ _ (by omega) (by omega) hP hD hS (lv_sub hl [0, 1, 2, 3, 4] rfl)
                · skip
                  refine lv_iload hx hb dX12_wished_99 (lv_at hl 0 rfl) ?_
                  refine lv_istore_n (lv' := [(3, .int (nI i)), (4, .int (nI i)), (0, .ref mm), (1, .int (nI kd_7)), (2, .int (nI kd_14))]) hx hb dX12_wished_101 rfl hl (by decide) rfl (fun ls hl => ?_)
                  refine lv_iinc (v := nI (i + 1)) (lv' := [(4, .int (nI (i + 1))), (3, .int (nI i)), (0, .ref mm), (1, .int (nI kd_7)), (2, .int (nI kd_14))]) hx hb dX12_wished_102 hl (k := 1) rfl (ninc i 1 (by decide)) (by decide) rfl (fun ls hl => ?_)
                  refine lv_goto (tgt := 28) hx hb dX12_wished_105 (by decide) ?_
                  exact ih_lp_25 (i + 1) (nI i) wy2_34 be2_35 bf2_36 _ _ _ (by omega) (by omega) hP hD hS (lv_sub hl [0, 1, 2, 3, 4] rfl)
              · have c_43 : b_33 = 0 := (neq b_33 0 (by omega) (Nat.le_of_ble_eq_true rfl)).mp c_43
                refine lv_goto (tgt := 102) hx hb dX12_wished_65 (by decide) ?_
                refine lv_iinc (v := nI (i + 1)) (lv' := [(4, .int (nI (i + 1))), (3, .int be_), (0, .ref mm), (1, .int (nI kd_7)), (2, .int (nI kd_14))]) hx hb dX12_wished_102 hl (k := 0) rfl (ninc i 1 (by decide)) (by decide) rfl (fun ls hl => ?_)
                refine lv_goto (tgt := 28) hx hb dX12_wished_105 (by decide) ?_
                exact ih_lp_25 (i + 1) be_ wy2_34 be2_35 bf2_36 _ _ _ (by omega) (by omega) hP hD hS (lv_sub hl [0, 1, 2, 3, 4] rfl)
            · skip
              refine lv_iload hx hb dX12_wished_44 (lv_at hl 0 rfl) ?_
              refine sk_Si (n := 1) (rest := []) (wr := [ro_ mm 12 (mo g (nI ta) (nI pa) (nI pe) pd (nI pb) pp pf pg pn rt rn (nI cd) sn (nI il) tk2_15 am2_17 at_2_18 aa2_19 0 0 (-1) wt zwyh 0 (nI rm) (nI ud) (nI nu) sd (nI qn) (nI qw) qo (nI qb) (nI qp2_16) qa (nI qi) (nI oc)), ra_I (g 24) cI 6 (l6 u0 u1 u2 u3 u4 u5), ra_I (g 25) cI 6 (l6 v0 v1 v2 v3 v4 v5), ra_N (g 26) cI 3200 cs, ra_I (g 31) cI 120 nw, ra_N (g 46) cI 9 pt, ra_J (g 86) cJ 1700 ql2_20, ra_I (g 20) cI 4 (l4 (nI l0) (nI l1) (nI dm) (nI l3)), ra_I (g 38) cI 90 ws_2_21, ra_I (g 36) cZ 900 yw2_22, ra_I (g 37) cZ 900 yo2_23, ra_J (g 43) cJ 90 hb_, ra_J (g 44) cJ 90 hf_]) ⟨hx, hb, hml, hown, hts⟩ hl.1 (c_m_bits l D cI cJ cC cZ cS (nI i)) w_7_110 w_7_111 w_1_14 w_7_112 hd_X12_bits_1 ⟨⟨(Nat.le_of_ble_eq_true rfl), (Nat.le_of_ble_eq_true rfl)⟩, (Nat.le_of_ble_eq_true rfl), (Nat.le_of_ble_eq_true rfl)⟩ hK hP hD hS hA [] [0, 1, 2, 3, 4, 5, 6, 7, 8, 9, 10, 11, 12] rfl rfl (by decide +kernel) (by decide +kernel) (by decide +kernel) rfl rfl (Nat.le_of_ble_eq_true rfl) dX12_wished_46 (fun r_48 u H locs hw hP hD hS => ?_)
              obtain rfl := hw
              refine o_re (ws' := [ro_ mm 12 (mo g (nI ta) (nI pa) (nI pe) pd (nI pb) pp pf pg pn rt rn (nI cd) sn (nI il) tk2_15 am2_17 at_2_18 aa2_19 0 0 (-1) wt zwyh 0 (nI rm) (nI ud) (nI nu) sd (nI qn) (nI qw) qo (nI qb) (nI qp2_16) qa (nI qi) (nI oc)), ra_I (g 24) cI 6 (l6 u0 u1 u2 u3 u4 u5), ra_I (g 25) cI 6 (l6 v0 v1 v2 v3 v4 v5), ra_N (g 26) cI 3200 cs, ra_I (g 31) cI 120 nw, ra_N (g 46) cI 9 pt, ra_J (g 86) cJ 1700 ql2_20, ra_I (g 20) cI 4 (l4 (nI l0) (nI l1) (nI dm) (nI l3)), ra_I (g 38) cI 90 ws_2_21, ra_I (g 36) cZ 900 yw2_22, ra_I (g 37) cZ 900 yo2_23, ra_J (g 43) cJ 90 hb_, ra_J (g 44) cJ 90 hf_]) hP hD rfl (fun hP hD => ?_)
              refine lv_iload_n hx hb dX12_wished_49 rfl (lv_at hl 1 rfl) ?_
              refine sk_Si (n := 1) (rest := [.int r_48]) (wr := [ro_ mm 12 (mo g (nI ta) (nI pa) (nI pe) pd (nI pb) pp pf pg pn rt rn (nI cd) sn (nI il) tk2_15 am2_17 at_2_18 aa2_19 0 0 (-1) wt zwyh 0 (nI rm) (nI ud) (nI nu) sd (nI qn) (nI qw) qo (nI qb) (nI qp2_16) qa (nI qi) (nI oc)), ra_I (g 24) cI 6 (l6 u0 u1 u2 u3 u4 u5), ra_I (g 25) cI 6 (l6 v0 v1 v2 v3 v4 v5), ra_N (g 26) cI 3200 cs, ra_I (g 31) cI 120 nw, ra_N (g 46) cI 9 pt, ra_J (g 86) cJ 1700 ql2_20, ra_I (g 20) cI 4 (l4 (nI l0) (nI l1) (nI dm) (nI l3)), ra_I (g 38) cI 90 ws_2_21, ra_I (g 36) cZ 900 yw2_22, ra_I (g 37) cZ 900 yo2_23, ra_J (g 43) cJ 90 hb_, ra_J (g 44) cJ 90 hf_]) ⟨hx, hb, hml, hown, hts⟩ hl.1 (c_m_bits l D cI cJ cC cZ cS be_) w_7_110 w_7_111 w_1_14 w_7_112 hd_X12_bits_1 ⟨⟨(Nat.le_of_ble_eq_true rfl), (Nat.le_of_ble_eq_true rfl)⟩, (Nat.le_of_ble_eq_true rfl), (Nat.le_of_ble_eq_true rfl)⟩ hK hP hD hS hA [] [0, 1, 2, 3, 4, 5, 6, 7, 8, 9, 10, 11, 12] rfl rfl (by decide +kernel) (by decide +kernel) (by decide +kernel) rfl rfl (Nat.le_of_ble_eq_true rfl) dX12_wished_50 (fun r_49 u H locs hw hP hD hS => ?_)
              obtain rfl := hw
              refine o_re (ws' := [ro_ mm 12 (mo g (nI ta) (nI pa) (nI pe) pd (nI pb) pp pf pg pn rt rn (nI cd) sn (nI il) tk2_15 am2_17 at_2_18 aa2_19 0 0 (-1) wt zwyh 0 (nI rm) (nI ud) (nI nu) sd (nI qn) (nI qw) qo (nI qb) (nI qp2_16) qa (nI qi) (nI oc)), ra_I (g 24) cI 6 (l6 u0 u1 u2 u3 u4 u5), ra_I (g 25) cI 6 (l6 v0 v1 v2 v3 v4 v5), ra_N (g 26) cI 3200 cs, ra_I (g 31) cI 120 nw, ra_N (g 46) cI 9 pt, ra_J (g 86) cJ 1700 ql2_20, ra_I (g 20) cI 4 (l4 (nI l0) (nI l1) (nI dm) (nI l3)), ra_I (g 38) cI 90 ws_2_21, ra_I (g 36) cZ 900 yw2_22, ra_I (g 37) cZ 900 yo2_23, ra_J (g 43) cJ 90 hb_, ra_J (g 44) cJ 90 hf_]) hP hD rfl (fun hP hD => ?_)
              refine lv_icmp_ge (tgt := 102) hx hb dX12_wished_53 (by decide) (fun c_50 => ?_) (fun c_50 => ?_)
              · skip
                refine lv_iinc (v := nI (i + 1)) (lv' := [(4, .int (nI (i + 1))), (3, .int be_), (0, .ref mm), (1, .int (nI kd_7)), (2, .int (nI kd_14))]) hx hb dX12_wished_102 hl (k := 0) rfl (ninc i 1 (by decide)) (by decide) rfl (fun ls hl => ?_)
                refine lv_goto (tgt := 28) hx hb dX12_wished_105 (by decide) ?_
                exact ih_lp_25 (i + 1) be_ zwyh hb_ hf_ _ _ _ (by omega) (by omega) hP hD hS (lv_sub hl [0, 1, 2, 3, 4] rfl)
              · skip
                refine lv_aload_n hx hb dX12_wished_56 rfl (lv_at hl 2 rfl) ?_
                refine lv_iload hx hb dX12_wished_57 (lv_at hl 0 rfl) ?_
                refine sk_Vi (q0 := 0) (n := 1) (rest := []) (wr := fmR om_13_112f _) ⟨hx, hb, hml, hown, hts⟩ hl.1 (c_m_doesAgree l D cI cJ cC cZ cS mm g ta pa pe pd pb pp pf pg pn rt rn cd sn il tk2_15 am2_17 at_2_18 aa2_19 0 wt zwyh 0 rm ud nu sd qn qw qo qb qp2_16 qa qi oc (nI i) l0 l1 dm l3 nw yo2_23 yw2_22 hb_ hf_ hdm (by omega) hnw) w_7_229 w_7_231 w_0_89 w_1_14 w_7_232 hd_X12_doesAgree_1 ⟨⟨(Nat.le_of_ble_eq_true rfl), (Nat.le_of_ble_eq_true rfl)⟩, (Nat.le_of_ble_eq_true rfl), (Nat.le_of_ble_eq_true rfl)⟩ hK hP hD hS hA [0, 7, 4, 10, 9, 11, 12] (fmF om_13_112f 0) rfl (fm_R rfl rfl) (by decide +kernel) (fm_nF om_13_112f 0) (by decide +kernel) rfl rfl rfl rfl (Nat.le_of_ble_eq_true rfl) dX12_wished_59 (fun r_55 u H locs hw hP hD hS => ?_)
                refine exE hw (fun b_51 hw1 => exE hw1 (fun wy2_52 hw2 => exE hw2 (fun be2_53 hw3 => exE hw3 (fun bf2_54 hw4 => anE hw4 (fun hbe_56 hw5 => anE hw5 (fun hwy_57 hw6 => anE hw6 (fun hb1_58 hw7 => anE hw7 (fun er_60 eu_59 => ?_))))))))
                clear hw hw1 hw2 hw3 hw4 hw5 hw6 hw7
                subst er_60
                refine o_mgqE (ux := [ro_ mm 12 (mo g (nI ta) (nI pa) (nI pe) pd (nI pb) pp pf pg pn rt rn (nI cd) sn (nI il) tk2_15 am2_17 at_2_18 aa2_19 0 0 (-1) wt wy2_52 0 (nI rm) (nI ud) (nI nu) sd (nI qn) (nI qw) qo (nI qb) (nI qp2_16) qa (nI qi) (nI oc)), ra_I (g 31) cI 120 nw, ra_I (g 20) cI 4 (l4 (nI l0) (nI l1) (nI dm) (nI l3)), ra_I (g 36) cZ 900 yw2_22, ra_I (g 37) cZ 900 yo2_23, ra_J (g 43) cJ 90 be2_53, ra_J (g 44) cJ 90 bf2_54]) (ws' := [ro_ mm 12 (mo g (nI ta) (nI pa) (nI pe) pd (nI pb) pp pf pg pn rt rn (nI cd) sn (nI il) tk2_15 am2_17 at_2_18 aa2_19 0 0 (-1) wt wy2_52 0 (nI rm) (nI ud) (nI nu) sd (nI qn) (nI qw) qo (nI qb) (nI qp2_16) qa (nI qi) (nI oc)), ra_I (g 24) cI 6 (l6 u0 u1 u2 u3 u4 u5), ra_I (g 25) cI 6 (l6 v0 v1 v2 v3 v4 v5), ra_N (g 26) cI 3200 cs, ra_I (g 31) cI 120 nw, ra_N (g 46) cI 9 pt, ra_J (g 86) cJ 1700 ql2_20, ra_I (g 20) cI 4 (l4 (nI l0) (nI l1) (nI dm) (nI l3)), ra_I (g 38) cI 90 ws_2_21, ra_I (g 36) cZ 900 yw2_22, ra_I (g 37) cZ 900 yo2_23, ra_J (g 43) cJ 90 be2_53, ra_J (g 44) cJ 90 bf2_54]) eu_59 [0, 2, 1, 4, 3, 5, 6] (by decide +kernel) rfl hP hD rfl (fun hP hD => ?_)
                refine lv_if_ne (tgt := 68) hx hb dX12_wished_62 (by decide) (fun c_61 => ?_) (fun c_61 => ?_)
                · have c_61 : ¬ (b_51 = 0) := fun h => c_61 ((neq b_51 0 (by omega) (Nat.le_of_ble_eq_true rfl)).mpr h)
                  refine lv_aload_n hx hb dX12_wished_68 rfl (lv_at hl 2 rfl) ?_
                  refine sk_get (v := .ref (g 44)) (C := RX12) (T := TX12) (N := 92) hx hb hts inlX12 hown hK hP 0 rfl rfl 44 (Nat.le_of_ble_eq_true rfl) w_5_199 rfl dX12_wished_69 ?_
                  refine lv_bipush (v := 10) hx hb dX12_wished_72 (by decide) ?_
                  refine lv_iload_n hx hb dX12_wished_74 rfl (lv_at hl 3 rfl) ?_
                  refine lv_imul hx hb dX12_wished_75 ?_
                  refine sk_top (nI (10 * kd_7)) (nmul 10 kd_7) ?_
                  refine lv_iload_n hx hb dX12_wished_76 rfl (lv_at hl 4 rfl) ?_
                  refine lv_iadd hx hb dX12_wished_77 ?_
                  refine sk_top (nI (10 * kd_7 + kd_14)) (nI_add (10 * kd_7) kd_14) ?_
                  refine va_lald hx hb hK.1 hP 12 1 rfl rfl (vin (10 * kd_7 + kd_14) 90 (by omega) (Nat.le_of_ble_eq_true rfl)) dX12_wished_78 ?_
                  refine lv_topl (fun v_62 ev_62 => ?_)
                  refine lv_aload_n hx hb dX12_wished_79 rfl (lv_at hl 2 rfl) ?_
                  refine sk_get (v := .ref (g 43)) (C := RX12) (T := TX12) (N := 92) hx hb hts inlX12 hown hK hP 0 rfl rfl 43 (Nat.le_of_ble_eq_true rfl) w_5_198 rfl dX12_wished_80 ?_
                  refine lv_bipush (v := 10) hx hb dX12_wished_83 (by decide) ?_
                  refine lv_iload_n hx hb dX12_wished_85 rfl (lv_at hl 3 rfl) ?_
                  refine lv_imul hx hb dX12_wished_86 ?_
                  refine sk_top (nI (10 * kd_7)) (nmul 10 kd_7) ?_
                  refine lv_iload_n hx hb dX12_wished_87 rfl (lv_at hl 4 rfl) ?_
                  refine lv_iadd hx hb dX12_wished_88 ?_
                  refine sk_top (nI (10 * kd_7 + kd_14)) (nI_add (10 * kd_7) kd_14) ?_
                  refine va_lald hx hb hK.1 hP 11 1 rfl rfl (vin (10 * kd_7 + kd_14) 90 (by omega) (Nat.le_of_ble_eq_true rfl)) dX12_wished_89 ?_
                  refine lv_topl (fun v_63 ev_63 => ?_)
                  refine lv_lmul hx hb dX12_wished_90 ?_
                  refine lv_topl (fun v_64 ev_64 => ?_)
                  refine lv_aload_n hx hb dX12_wished_91 rfl (lv_at hl 2 rfl) ?_
                  refine sk_get (v := .long wy2_52) (C := RX12) (T := TX12) (N := 92) hx hb hts inlX12 hown hK hP 0 rfl rfl 45 (Nat.le_of_ble_eq_true rfl) w_5_200 rfl dX12_wished_92 ?_
                  refine W.lcmp hx hb dX12_wished_95 ?_
                  refine lv_if_ne (tgt := 102) hx hb dX12_wished_96 (by decide) (fun c_65 => ?_) (fun c_65 => ?_)
                  · skip
                    refine lv_iinc (v := nI (i + 1)) (lv' := [(4, .int (nI (i + 1))), (3, .int be_), (0, .ref mm), (1, .int (nI kd_7)), (2, .int (nI kd_14))]) hx hb dX12_wished_102 hl (k := 0) rfl (ninc i 1 (by decide)) (by decide) rfl (fun ls hl => ?_)
                    refine lv_goto (tgt := 28) hx hb dX12_wished_105 (by decide) ?_
                    exact ih_lp_25 (i + 1) be_ wy2_52 be2_53 bf2_54 _ _ _ (by omega) (by omega) hP hD hS (lv_sub hl [0, 1, 2, 3, 4] rfl)
                  · skip
                    refine lv_iload hx hb dX12_wished_99 (lv_at hl 0 rfl) ?_
                    refine lv_istore_n (lv' := [(3, .int (nI i)), (4, .int (nI i)), (0, .ref mm), (1, .int (nI kd_7)), (2, .int (nI kd_14))]) hx hb dX12_wished_101 rfl hl (by decide) rfl (fun ls hl => ?_)
                    refine lv_iinc (v := nI (i + 1)) (lv' := [(4, .int (nI (i + 1))), (3, .int (nI i)), (0, .ref mm), (1, .int (nI kd_7)), (2, .int (nI kd_14))]) hx hb dX12_wished_102 hl (k := 1) rfl (ninc i 1 (by decide)) (by decide) rfl (fun ls hl => ?_)
                    refine lv_goto (tgt := 28) hx hb dX12_wished_105 (by decide) ?_
                    exact ih_lp_25 (i + 1) (nI i) wy2_52 be2_53 bf2_54 _ _ _ (by omega) (by omega) hP hD hS (lv_sub hl [0, 1, 2, 3, 4] rfl)
                · have c_61 : b_51 = 0 := (neq b_51 0 (by omega) (Nat.le_of_ble_eq_true rfl)).mp c_61
                  refine lv_goto (tgt := 102) hx hb dX12_wished_65 (by decide) ?_
                  refine lv_iinc (v := nI (i + 1)) (lv' := [(4, .int (nI (i + 1))), (3, .int be_), (0, .ref mm), (1, .int (nI kd_7)), (2, .int (nI kd_14))]) hx hb dX12_wished_102 hl (k := 0) rfl (ninc i 1 (by decide)) (by decide) rfl (fun ls hl => ?_)
                  refine lv_goto (tgt := 28) hx hb dX12_wished_105 (by decide) ?_
                  exact ih_lp_25 (i + 1) be_ wy2_52 be2_53 bf2_54 _ _ _ (by omega) (by omega) hP hD hS (lv_sub hl [0, 1, 2, 3, 4] rfl)
      exact lp_25 (512 - 0 + 1) 0 (-1) wy be bf _ _ _ (Nat.lt_succ_self _) (by omega) hP hD hS (lv_sub hl [0, 1, 2, 3, 4] rfl)
    · have c_13 : b_8 = 0 := (neq b_8 0 (by omega) (Nat.le_of_ble_eq_true rfl)).mp c_13
      refine lv_iconst (v := (-1)) hx hb dX12_wished_16 (by decide) ?_
      exact sk_iret hx hb hr rfl hlocks hK hP hD hS (⟨tk, qp, am, at_, aa, wy, ql, ws_, yw, yo, be, bf, rfl⟩) (Nat.le_of_ble_eq_true rfl) (Nat.le_of_ble_eq_true rfl) dX12_wished_17
theorem dg_X12_lies_0_0 : bqL cX12_lies 0 [(0, [42]), (1, [180, 1, 46]), (4, [154, 0, 5]), (9, [3]), (10, [60]), (11, [3]), (12, [61]), (13, [28]), (14, [16, 10]), (16, [162, 0, 28]), (44, [27]), (45, [172]), (19, [42]), (20, [28]), (21, [182, 1, 129]), (24, [42]), (25, [3]), (26, [182, 1, 167]), (29, [153, 0, 9]), (38, [132, 2, 1]), (41, [167, 255, 228]), (32, [27]), (33, [4]), (34, [28]), (35, [120]), (36, [128]), (37, [60]), (7, [2]), (8, [172])] = true := by decide +kernel
theorem dX12_lies_0 : decode cX12_lies 0 = .ok (.aload_n 0, 1) := q_aload_n0 (bat_get dg_X12_lies_0_0 0 rfl rfl)
theorem dX12_lies_1 : decode cX12_lies 1 = .ok (.getfield 302, 3) := q_getfield (bat_get dg_X12_lies_0_0 1 rfl rfl) rfl
theorem dX12_lies_4 : decode cX12_lies 4 = .ok (.ifCond .ne 5, 3) := q_ifCond_ne (bat_get dg_X12_lies_0_0 2 rfl rfl) rfl
theorem dX12_lies_9 : decode cX12_lies 9 = .ok (.iconst 0, 1) := q_iconst0 (bat_get dg_X12_lies_0_0 3 rfl rfl)
theorem dX12_lies_10 : decode cX12_lies 10 = .ok (.istore_n 1, 1) := q_istore_n1 (bat_get dg_X12_lies_0_0 4 rfl rfl)
theorem dX12_lies_11 : decode cX12_lies 11 = .ok (.iconst 0, 1) := q_iconst0 (bat_get dg_X12_lies_0_0 5 rfl rfl)
theorem dX12_lies_12 : decode cX12_lies 12 = .ok (.istore_n 2, 1) := q_istore_n2 (bat_get dg_X12_lies_0_0 6 rfl rfl)
theorem dX12_lies_13 : decode cX12_lies 13 = .ok (.iload_n 2, 1) := q_iload_n2 (bat_get dg_X12_lies_0_0 7 rfl rfl)
theorem dX12_lies_14 : decode cX12_lies 14 = .ok (.bipush 10, 2) := q_bipush (bat_get dg_X12_lies_0_0 8 rfl rfl) rfl
theorem dX12_lies_16 : decode cX12_lies 16 = .ok (.if_icmp .ge 28, 3) := q_if_icmp_ge (bat_get dg_X12_lies_0_0 9 rfl rfl) rfl
theorem dX12_lies_44 : decode cX12_lies 44 = .ok (.iload_n 1, 1) := q_iload_n1 (bat_get dg_X12_lies_0_0 10 rfl rfl)
theorem dX12_lies_45 : decode cX12_lies 45 = .ok (.ireturn, 1) := q_ireturn (bat_get dg_X12_lies_0_0 11 rfl rfl)
theorem dX12_lies_19 : decode cX12_lies 19 = .ok (.aload_n 0, 1) := q_aload_n0 (bat_get dg_X12_lies_0_0 12 rfl rfl)
theorem dX12_lies_20 : decode cX12_lies 20 = .ok (.iload_n 2, 1) := q_iload_n2 (bat_get dg_X12_lies_0_0 13 rfl rfl)
theorem dX12_lies_21 : decode cX12_lies 21 = .ok (.invokevirtual 385, 3) := q_invokevirtual (bat_get dg_X12_lies_0_0 14 rfl rfl) rfl
theorem dX12_lies_24 : decode cX12_lies 24 = .ok (.aload_n 0, 1) := q_aload_n0 (bat_get dg_X12_lies_0_0 15 rfl rfl)
theorem dX12_lies_25 : decode cX12_lies 25 = .ok (.iconst 0, 1) := q_iconst0 (bat_get dg_X12_lies_0_0 16 rfl rfl)
theorem dX12_lies_26 : decode cX12_lies 26 = .ok (.invokevirtual 423, 3) := q_invokevirtual (bat_get dg_X12_lies_0_0 17 rfl rfl) rfl
theorem dX12_lies_29 : decode cX12_lies 29 = .ok (.ifCond .eq 9, 3) := q_ifCond_eq (bat_get dg_X12_lies_0_0 18 rfl rfl) rfl
theorem dX12_lies_38 : decode cX12_lies 38 = .ok (.iinc 2 1, 3) := q_iinc (bat_get dg_X12_lies_0_0 19 rfl rfl) rfl
theorem dX12_lies_41 : decode cX12_lies 41 = .ok (.goto (-28), 3) := q_goto (bat_get dg_X12_lies_0_0 20 rfl rfl) rfl
theorem dX12_lies_32 : decode cX12_lies 32 = .ok (.iload_n 1, 1) := q_iload_n1 (bat_get dg_X12_lies_0_0 21 rfl rfl)
theorem dX12_lies_33 : decode cX12_lies 33 = .ok (.iconst 1, 1) := q_iconst1 (bat_get dg_X12_lies_0_0 22 rfl rfl)
theorem dX12_lies_34 : decode cX12_lies 34 = .ok (.iload_n 2, 1) := q_iload_n2 (bat_get dg_X12_lies_0_0 23 rfl rfl)
theorem dX12_lies_35 : decode cX12_lies 35 = .ok (.ishl, 1) := q_ishl (bat_get dg_X12_lies_0_0 24 rfl rfl)
theorem dX12_lies_36 : decode cX12_lies 36 = .ok (.ior, 1) := q_ior (bat_get dg_X12_lies_0_0 25 rfl rfl)
theorem dX12_lies_37 : decode cX12_lies 37 = .ok (.istore_n 1, 1) := q_istore_n1 (bat_get dg_X12_lies_0_0 26 rfl rfl)
theorem dX12_lies_7 : decode cX12_lies 7 = .ok (.iconst (-1), 1) := q_iconstm1 (bat_get dg_X12_lies_0_0 27 rfl rfl)
theorem dX12_lies_8 : decode cX12_lies 8 = .ok (.ireturn, 1) := q_ireturn (bat_get dg_X12_lies_0_0 28 rfl rfl)
theorem w_8_0 : (Cond.code yX12_lies cX12_lies 3 (some .int)) ∈ wsL_law := sk_mem (ck_8 _ (List.mem_of_getElem? (i := 0) rfl)) rfl
set_option maxHeartbeats 4000000 in
set_option maxRecDepth 100000 in
theorem c_m_lies (l : Launch) (D : va_G) (cI cJ cC cZ cS : ClassId) (mm : Nat) (g : Nat → Nat) (ta : Nat) (pa : Nat) (pe : Nat) (pd : Int32) (pb : Nat) (pp : Int32) (pf : Int32) (pg : Int32) (pn : Int32) (rt : Int32) (rn : Int32) (cd : Nat) (sn : Int32) (il : Nat) (tk : Int32) (am : Int32) (at_ : Int32) (aa : Int32) (wt : Int32) (wy : Int64) (rm : Nat) (ud : Nat) (nu : Nat) (sd : Int64) (qn : Nat) (qw : Nat) (qo : Int32) (qb : Nat) (qp : Nat) (qa : Int64) (qi : Nat) (oc : Nat) (u0 : Int32) (u1 : Int32) (u2 : Int32) (u3 : Int32) (u4 : Int32) (u5 : Int32) (v0 : Int32) (v1 : Int32) (v2 : Int32) (v3 : Int32) (v4 : Int32) (v5 : Int32) (cs : Nat → Nat) (nw : Nat → Int32) (pt : Nat → Nat) (ql : Nat → Int64) (l0 : Nat) (l1 : Nat) (dm : Nat) (l3 : Nat) (ws_ : Nat → Int32) (yw : Nat → Int32) (yo : Nat → Int32) (be : Nat → Int64) (bf : Nat → Int64) (hil : il ≤ 1) (hild : il = 1 → 1 ≤ dm) (hdm : dm ≤ 9) (hp0 : progOk cs u3 v3) (hp1 : progOk cs u4 v4) (hp2 : progOk cs u5 v5) (hcs : ∀ j, cs j ≤ 20000) (hnw : nowOk nw) (hpt : ∀ j, pt j ≤ 9) : skM l yX12_lies cX12_lies 3 (some .int) 5 122 0 0 D (skT cI cJ cC cZ cS) [.ref mm] [ro_ mm 12 (mo g (nI ta) (nI pa) (nI pe) pd (nI pb) pp pf pg pn rt rn (nI cd) sn (nI il) tk am at_ aa 0 0 (-1) wt wy 0 (nI rm) (nI ud) (nI nu) sd (nI qn) (nI qw) qo (nI qb) (nI qp) qa (nI qi) (nI oc)), ra_I (g 24) cI 6 (l6 u0 u1 u2 u3 u4 u5), ra_I (g 25) cI 6 (l6 v0 v1 v2 v3 v4 v5), ra_N (g 26) cI 3200 cs, ra_I (g 31) cI 120 nw, ra_N (g 46) cI 9 pt, ra_J (g 86) cJ 1700 ql, ra_I (g 20) cI 4 (l4 (nI l0) (nI l1) (nI dm) (nI l3)), ra_I (g 38) cI 90 ws_, ra_I (g 36) cZ 900 yw, ra_I (g 37) cZ 900 yo, ra_J (g 43) cJ 90 be, ra_J (g 44) cJ 90 bf] (skI D (skT cI cJ cC cZ cS) (fun (r : Int32) (u : va_W) => ∃ (tk2 : Int32), ∃ (qp2 : Nat), ∃ (am2 : Int32), ∃ (at_2 : Int32), ∃ (aa2 : Int32), ∃ (wy2 : Int64), ∃ (ql2 : Nat → Int64), ∃ (ws_2 : Nat → Int32), ∃ (yw2 : Nat → Int32), ∃ (yo2 : Nat → Int32), ∃ (be2 : Nat → Int64), ∃ (bf2 : Nat → Int64), u = [ro_ mm 12 (mo g (nI ta) (nI pa) (nI pe) pd (nI pb) pp pf pg pn rt rn (nI cd) sn (nI il) tk2 am2 at_2 aa2 0 0 (-1) wt wy2 0 (nI rm) (nI ud) (nI nu) sd (nI qn) (nI qw) qo (nI qb) (nI qp2) qa (nI qi) (nI oc)), ra_I (g 24) cI 6 (l6 u0 u1 u2 u3 u4 u5), ra_I (g 25) cI 6 (l6 v0 v1 v2 v3 v4 v5), ra_N (g 26) cI 3200 cs, ra_I (g 31) cI 120 nw, ra_N (g 46) cI 9 pt, ra_J (g 86) cJ 1700 ql2, ra_I (g 20) cI 4 (l4 (nI l0) (nI l1) (nI dm) (nI l3)), ra_I (g 38) cI 90 ws_2, ra_I (g 36) cZ 900 yw2, ra_I (g 37) cZ 900 yo2, ra_J (g 43) cJ 90 be2, ra_J (g 44) cJ 90 bf2])) := by
  refine skM_of pf_X12_lies (Nat.le_of_ble_eq_true rfl) ?_
  intro p e s m below meth c A ls E hP hD hl
  refine skE_el E (fun hx hb hr hml hlocks hin hown hts hK hA => ?_)
  have hown : s.vm.findClass RX12 = some m.cls := hown
  have hS : va_S A s.heap s.heap [] := va_S.rf
  have hl : lv_has ls 3 [(0, .ref mm)] := hl
  refine lv_aload_n hx hb dX12_lies_0 rfl (lv_at hl 0 rfl) ?_
  refine sk_get (v := .int (nI il)) (C := RX12) (T := TX12) (N := 92) hx hb hts inlX12 hown hK hP 0 rfl rfl 29 (Nat.le_of_ble_eq_true rfl) w_5_184 rfl dX12_lies_1 ?_
  refine lv_if_ne (tgt := 9) hx hb dX12_lies_4 (by decide) (fun c_1 => ?_) (fun c_1 => ?_)
  · have c_1 : ¬ (il = 0) := fun h => c_1 ((neq il 0 (by omega) (Nat.le_of_ble_eq_true rfl)).mpr h)
    refine lv_iconst (v := 0) hx hb dX12_lies_9 ic_0 ?_
    refine lv_istore_n (lv' := [(1, .int 0), (0, .ref mm)]) hx hb dX12_lies_10 rfl hl (by decide) rfl (fun ls hl => ?_)
    refine lv_iconst (v := 0) hx hb dX12_lies_11 ic_0 ?_
    refine lv_istore_n (lv' := [(2, .int 0), (1, .int 0), (0, .ref mm)]) hx hb dX12_lies_12 rfl hl (by decide) rfl (fun ls hl => ?_)
    have lp_2 : ∀ (n_3 : Nat) (i : Nat) (se : Int32) (zaml : Int32) (zat_l : Int32) (zaal : Int32) (ztkl : Int32) (zqpl : Nat) (zwyl : Int64) (y86l : Nat → Int64) (y38l : Nat → Int32) (y36l : Nat → Int32) (y37l : Nat → Int32) (y43l : Nat → Int64) (y44l : Nat → Int64) (H : Heap) (locs : List Loc) (ls : Array Slot), 10 - i < n_3 → (i ≤ 10) → va_P D vwCl [ro_ mm 12 (mo g (nI ta) (nI pa) (nI pe) pd (nI pb) pp pf pg pn rt rn (nI cd) sn (nI il) ztkl zaml zat_l zaal 0 0 (-1) wt zwyl 0 (nI rm) (nI ud) (nI nu) sd (nI qn) (nI qw) qo (nI qb) (nI zqpl) qa (nI qi) (nI oc)), ra_I (g 24) cI 6 (l6 u0 u1 u2 u3 u4 u5), ra_I (g 25) cI 6 (l6 v0 v1 v2 v3 v4 v5), ra_N (g 26) cI 3200 cs, ra_I (g 31) cI 120 nw, ra_N (g 46) cI 9 pt, ra_J (g 86) cJ 1700 y86l, ra_I (g 20) cI 4 (l4 (nI l0) (nI l1) (nI dm) (nI l3)), ra_I (g 38) cI 90 y38l, ra_I (g 36) cZ 900 y36l, ra_I (g 37) cZ 900 y37l, ra_J (g 43) cJ 90 y43l, ra_J (g 44) cJ 90 y44l] H → va_D A [ro_ mm 12 (mo g (nI ta) (nI pa) (nI pe) pd (nI pb) pp pf pg pn rt rn (nI cd) sn (nI il) ztkl zaml zat_l zaal 0 0 (-1) wt zwyl 0 (nI rm) (nI ud) (nI nu) sd (nI qn) (nI qw) qo (nI qb) (nI zqpl) qa (nI qi) (nI oc)), ra_I (g 24) cI 6 (l6 u0 u1 u2 u3 u4 u5), ra_I (g 25) cI 6 (l6 v0 v1 v2 v3 v4 v5), ra_N (g 26) cI 3200 cs, ra_I (g 31) cI 120 nw, ra_N (g 46) cI 9 pt, ra_J (g 86) cJ 1700 y86l, ra_I (g 20) cI 4 (l4 (nI l0) (nI l1) (nI dm) (nI l3)), ra_I (g 38) cI 90 y38l, ra_I (g 36) cZ 900 y36l, ra_I (g 37) cZ 900 y37l, ra_J (g 43) cJ 90 y43l, ra_J (g 44) cJ 90 y44l] → va_S A s.heap H locs → lv_has ls 3 [(2, .int (nI i)), (1, .int se), (0, .ref mm)] → W p l e { frames := 5, cells := 0, slots := 0, locals := 122 } s m ([.ref mm] : List Value).toArray below meth c H locs 0 0 (MQ below (skI D (skT cI cJ cC cZ cS) (fun (r : Int32) (u : va_W) => ∃ (tk2 : Int32), ∃ (qp2 : Nat), ∃ (am2 : Int32), ∃ (at_2 : Int32), ∃ (aa2 : Int32), ∃ (wy2 : Int64), ∃ (ql2 : Nat → Int64), ∃ (ws_2 : Nat → Int32), ∃ (yw2 : Nat → Int32), ∃ (yo2 : Nat → Int32), ∃ (be2 : Nat → Int64), ∃ (bf2 : Nat → Int64), u = [ro_ mm 12 (mo g (nI ta) (nI pa) (nI pe) pd (nI pb) pp pf pg pn rt rn (nI cd) sn (nI il) tk2 am2 at_2 aa2 0 0 (-1) wt wy2 0 (nI rm) (nI ud) (nI nu) sd (nI qn) (nI qw) qo (nI qb) (nI qp2) qa (nI qi) (nI oc)), ra_I (g 24) cI 6 (l6 u0 u1 u2 u3 u4 u5), ra_I (g 25) cI 6 (l6 v0 v1 v2 v3 v4 v5), ra_N (g 26) cI 3200 cs, ra_I (g 31) cI 120 nw, ra_N (g 46) cI 9 pt, ra_J (g 86) cJ 1700 ql2, ra_I (g 20) cI 4 (l4 (nI l0) (nI l1) (nI dm) (nI l3)), ra_I (g 38) cI 90 ws_2, ra_I (g 36) cZ 900 yw2, ra_I (g 37) cZ 900 yo2, ra_J (g 43) cJ 90 be2, ra_J (g 44) cJ 90 bf2]) A) ([.ref mm] : List Value).toArray s 0 0 A) (F0 m 13 ls []) := by
      intro n_3
      induction n_3 with
      | zero => intro i se zaml zat_l zaal ztkl zqpl zwyl y86l y38l y36l y37l y43l y44l H locs ls hm; exact absurd hm (Nat.not_lt_zero _)
      | succ n_3 ih_lp_2 =>
        intro i se zaml zat_l zaal ztkl zqpl zwyl y86l y38l y36l y37l y43l y44l H locs ls hm hi hP hD hS hl
        refine lv_iload_n hx hb dX12_lies_13 rfl (lv_at hl 0 rfl) ?_
        refine lv_bipush (v := 10) hx hb dX12_lies_14 (by decide) ?_
        refine lv_icmp_ge (tgt := 44) hx hb dX12_lies_16 (by decide) (fun c_4 => ?_) (fun c_4 => ?_)
        · have c_4 : 10 ≤ i := (nle 10 i (Nat.le_of_ble_eq_true rfl) (by omega)).mp c_4
          refine lv_iload_n hx hb dX12_lies_44 rfl (lv_at hl 1 rfl) ?_
          exact sk_iret hx hb hr rfl hlocks hK hP hD hS (⟨ztkl, zqpl, zaml, zat_l, zaal, zwyl, y86l, y38l, y36l, y37l, y43l, y44l, rfl⟩) (Nat.le_of_ble_eq_true rfl) (Nat.le_of_ble_eq_true rfl) dX12_lies_45
        · have c_4 : ¬ (10 ≤ i) := fun h => c_4 ((nle 10 i (Nat.le_of_ble_eq_true rfl) (by omega)).mpr h)
          refine lv_aload_n hx hb dX12_lies_19 rfl (lv_at hl 2 rfl) ?_
          refine lv_iload_n hx hb dX12_lies_20 rfl (lv_at hl 0 rfl) ?_
          refine sk_Vv (q0 := 0) (n := 1) (rest := []) (wr := fmR om_13_1ffc _) ⟨hx, hb, hml, hown, hts⟩ hl.1 (c_m_laysDays l D cI cJ cC cZ cS mm g ta pa pe pd pb pp pf pg pn rt rn cd sn il ztkl zaml zat_l zaal 0 0 (-1) wt zwyl 0 rm ud nu sd qn qw qo qb zqpl qa qi oc (nI i) u0 u1 u2 u3 u4 u5 v0 v1 v2 v3 v4 v5 cs nw pt y86l l0 l1 dm l3 y38l y36l y37l hdm hp0 hp1 hp2 hcs hnw hpt) w_7_193 w_7_195 w_0_83 w_1_14 w_7_196 hd_X12_laysDays_1 ⟨⟨(Nat.le_of_ble_eq_true rfl), (Nat.le_of_ble_eq_true rfl)⟩, (Nat.le_of_ble_eq_true rfl), (Nat.le_of_ble_eq_true rfl)⟩ hK hP hD hS hA (fmT om_13_1ffc 0) (fmF om_13_1ffc 0) (fm_C1 rfl rfl) (fm_R rfl rfl) (fm_nT om_13_1ffc 0) (fm_nF om_13_1ffc 0) (fm_di om_13_1ffc 0) rfl rfl rfl rfl (Nat.le_of_ble_eq_true rfl) dX12_lies_21 (fun u H locs hw hP hD hS => ?_)
          refine exE hw (fun tk2_5 hw1 => exE hw1 (fun qp2_6 hw2 => exE hw2 (fun am2_7 hw3 => exE hw3 (fun at_2_8 hw4 => exE hw4 (fun aa2_9 hw5 => exE hw5 (fun ql2_10 hw6 => exE hw6 (fun ws_2_11 hw7 => exE hw7 (fun yw2_12 hw8 => exE hw8 (fun yo2_13 eu_14 => ?_)))))))))
          clear hw hw1 hw2 hw3 hw4 hw5 hw6 hw7 hw8
          refine o_mgE (ws' := [ro_ mm 12 (mo g (nI ta) (nI pa) (nI pe) pd (nI pb) pp pf pg pn rt rn (nI cd) sn (nI il) tk2_5 am2_7 at_2_8 aa2_9 0 0 (-1) wt zwyl 0 (nI rm) (nI ud) (nI nu) sd (nI qn) (nI qw) qo (nI qb) (nI qp2_6) qa (nI qi) (nI oc)), ra_I (g 24) cI 6 (l6 u0 u1 u2 u3 u4 u5), ra_I (g 25) cI 6 (l6 v0 v1 v2 v3 v4 v5), ra_N (g 26) cI 3200 cs, ra_I (g 31) cI 120 nw, ra_N (g 46) cI 9 pt, ra_J (g 86) cJ 1700 ql2_10, ra_I (g 20) cI 4 (l4 (nI l0) (nI l1) (nI dm) (nI l3)), ra_I (g 38) cI 90 ws_2_11, ra_I (g 36) cZ 900 yw2_12, ra_I (g 37) cZ 900 yo2_13, ra_J (g 43) cJ 90 y43l, ra_J (g 44) cJ 90 y44l]) eu_14 hP hD rfl (fun hP hD => ?_)
          refine lv_aload_n hx hb dX12_lies_24 rfl (lv_at hl 2 rfl) ?_
          refine lv_iconst (v := 0) hx hb dX12_lies_25 ic_0 ?_
          refine sk_Vi (q0 := 0) (n := 1) (rest := []) (wr := fmR om_13_112f _) ⟨hx, hb, hml, hown, hts⟩ hl.1 (c_m_doesAgree l D cI cJ cC cZ cS mm g ta pa pe pd pb pp pf pg pn rt rn cd sn il tk2_5 am2_7 at_2_8 aa2_9 0 wt zwyl 0 rm ud nu sd qn qw qo qb qp2_6 qa qi oc 0 l0 l1 dm l3 nw yo2_13 yw2_12 y43l y44l hdm (by omega) hnw) w_7_229 w_7_231 w_0_89 w_1_14 w_7_232 hd_X12_doesAgree_1 ⟨⟨(Nat.le_of_ble_eq_true rfl), (Nat.le_of_ble_eq_true rfl)⟩, (Nat.le_of_ble_eq_true rfl), (Nat.le_of_ble_eq_true rfl)⟩ hK hP hD hS hA [0, 7, 4, 10, 9, 11, 12] (fmF om_13_112f 0) rfl (fm_R rfl rfl) (by decide +kernel) (fm_nF om_13_112f 0) (by decide +kernel) rfl rfl rfl rfl (Nat.le_of_ble_eq_true rfl) dX12_lies_26 (fun r_19 u H locs hw hP hD hS => ?_)
          refine exE hw (fun b_15 hw1 => exE hw1 (fun wy2_16 hw2 => exE hw2 (fun be2_17 hw3 => exE hw3 (fun bf2_18 hw4 => anE hw4 (fun hbe_20 hw5 => anE hw5 (fun hwy_21 hw6 => anE hw6 (fun hb1_22 hw7 => anE hw7 (fun er_24 eu_23 => ?_))))))))
          clear hw hw1 hw2 hw3 hw4 hw5 hw6 hw7
          subst er_24
          refine o_mgqE (ux := [ro_ mm 12 (mo g (nI ta) (nI pa) (nI pe) pd (nI pb) pp pf pg pn rt rn (nI cd) sn (nI il) tk2_5 am2_7 at_2_8 aa2_9 0 0 (-1) wt wy2_16 0 (nI rm) (nI ud) (nI nu) sd (nI qn) (nI qw) qo (nI qb) (nI qp2_6) qa (nI qi) (nI oc)), ra_I (g 31) cI 120 nw, ra_I (g 20) cI 4 (l4 (nI l0) (nI l1) (nI dm) (nI l3)), ra_I (g 36) cZ 900 yw2_12, ra_I (g 37) cZ 900 yo2_13, ra_J (g 43) cJ 90 be2_17, ra_J (g 44) cJ 90 bf2_18]) (ws' := [ro_ mm 12 (mo g (nI ta) (nI pa) (nI pe) pd (nI pb) pp pf pg pn rt rn (nI cd) sn (nI il) tk2_5 am2_7 at_2_8 aa2_9 0 0 (-1) wt wy2_16 0 (nI rm) (nI ud) (nI nu) sd (nI qn) (nI qw) qo (nI qb) (nI qp2_6) qa (nI qi) (nI oc)), ra_I (g 24) cI 6 (l6 u0 u1 u2 u3 u4 u5), ra_I (g 25) cI 6 (l6 v0 v1 v2 v3 v4 v5), ra_N (g 26) cI 3200 cs, ra_I (g 31) cI 120 nw, ra_N (g 46) cI 9 pt, ra_J (g 86) cJ 1700 ql2_10, ra_I (g 20) cI 4 (l4 (nI l0) (nI l1) (nI dm) (nI l3)), ra_I (g 38) cI 90 ws_2_11, ra_I (g 36) cZ 900 yw2_12, ra_I (g 37) cZ 900 yo2_13, ra_J (g 43) cJ 90 be2_17, ra_J (g 44) cJ 90 bf2_18]) eu_23 [0, 2, 1, 4, 3, 5, 6] (by decide +kernel) rfl hP hD rfl (fun hP hD => ?_)
          refine lv_if_eq (tgt := 38) hx hb dX12_lies_29 (by decide) (fun c_25 => ?_) (fun c_25 => ?_)
          · have c_25 : b_15 = 0 := (neq b_15 0 (by omega) (Nat.le_of_ble_eq_true rfl)).mp c_25
            refine lv_iinc (v := nI (i + 1)) (lv' := [(2, .int (nI (i + 1))), (1, .int se), (0, .ref mm)]) hx hb dX12_lies_38 hl (k := 0) rfl (ninc i 1 (by decide)) (by decide) rfl (fun ls hl => ?_)
            refine lv_goto (tgt := 13) hx hb dX12_lies_41 (by decide) ?_
            exact ih_lp_2 (i + 1) se am2_7 at_2_8 aa2_9 tk2_5 qp2_6 wy2_16 ql2_10 ws_2_11 yw2_12 yo2_13 be2_17 bf2_18 _ _ _ (by omega) (by omega) hP hD hS (lv_sub hl [0, 1, 2] rfl)
          · have c_25 : ¬ (b_15 = 0) := fun h => c_25 ((neq b_15 0 (by omega) (Nat.le_of_ble_eq_true rfl)).mpr h)
            refine lv_iload_n hx hb dX12_lies_32 rfl (lv_at hl 1 rfl) ?_
            refine lv_iconst (v := 1) hx hb dX12_lies_33 ic_1 ?_
            refine lv_iload_n hx hb dX12_lies_34 rfl (lv_at hl 0 rfl) ?_
            refine lv_ishl hx hb dX12_lies_35 ?_
            refine lv_topi (fun v_26 ev_26 => ?_)
            refine lv_ior hx hb dX12_lies_36 ?_
            refine lv_topi (fun v_27 ev_27 => ?_)
            refine lv_istore_n (lv' := [(1, .int v_27), (2, .int (nI i)), (0, .ref mm)]) hx hb dX12_lies_37 rfl hl (by decide) rfl (fun ls hl => ?_)
            refine lv_iinc (v := nI (i + 1)) (lv' := [(2, .int (nI (i + 1))), (1, .int v_27), (0, .ref mm)]) hx hb dX12_lies_38 hl (k := 1) rfl (ninc i 1 (by decide)) (by decide) rfl (fun ls hl => ?_)
            refine lv_goto (tgt := 13) hx hb dX12_lies_41 (by decide) ?_
            exact ih_lp_2 (i + 1) v_27 am2_7 at_2_8 aa2_9 tk2_5 qp2_6 wy2_16 ql2_10 ws_2_11 yw2_12 yo2_13 be2_17 bf2_18 _ _ _ (by omega) (by omega) hP hD hS (lv_sub hl [0, 1, 2] rfl)
    exact lp_2 (10 - 0 + 1) 0 0 am at_ aa tk qp wy ql ws_ yw yo be bf _ _ _ (Nat.lt_succ_self _) (by omega) hP hD hS (lv_sub hl [0, 1, 2] rfl)
  · have c_1 : il = 0 := (neq il 0 (by omega) (Nat.le_of_ble_eq_true rfl)).mp c_1
    refine lv_iconst (v := (-1)) hx hb dX12_lies_7 (by decide) ?_
    exact sk_iret hx hb hr rfl hlocks hK hP hD hS (⟨tk, qp, am, at_, aa, wy, ql, ws_, yw, yo, be, bf, rfl⟩) (Nat.le_of_ble_eq_true rfl) (Nat.le_of_ble_eq_true rfl) dX12_lies_8
