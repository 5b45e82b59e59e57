theorem dX12_qOf_1 : decode cX12_qOf 1 = .ok (.lookupswitch 11 #[], 11) := by decide +kernel
theorem dg_X12_qOf_0_0 : bqL cX12_qOf 0 [(0, [27]), (12, [32]), (13, [9]), (14, [20, 1, 62]), (17, [184, 0, 238]), (20, [153, 0, 33]), (53, [9]), (54, [173]), (23, [42]), (24, [180, 0, 86]), (27, [16, 10]), (29, [21, 4]), (31, [104]), (32, [32]), (33, [136]), (34, [96]), (35, [47]), (36, [42]), (37, [180, 0, 82]), (40, [16, 10]), (42, [21, 4]), (44, [104]), (45, [32]), (46, [136]), (47, [96]), (48, [47]), (49, [105]), (50, [167, 0, 4])] = true := by decide +kernel
theorem dX12_qOf_0 : decode cX12_qOf 0 = .ok (.iload_n 1, 1) := q_iload_n1 (bat_get dg_X12_qOf_0_0 0 rfl rfl)
theorem dX12_qOf_12 : decode cX12_qOf 12 = .ok (.lload_n 2, 1) := q_lload_n2 (bat_get dg_X12_qOf_0_0 1 rfl rfl)
theorem dX12_qOf_13 : decode cX12_qOf 13 = .ok (.lconst 0, 1) := q_lconst0 (bat_get dg_X12_qOf_0_0 2 rfl rfl)
theorem dX12_qOf_14 : decode cX12_qOf 14 = .ok (.ldc2_w 318, 3) := q_ldc2_w (bat_get dg_X12_qOf_0_0 3 rfl rfl) rfl
theorem dX12_qOf_17 : decode cX12_qOf 17 = .ok (.invokestatic 238, 3) := q_invokestatic (bat_get dg_X12_qOf_0_0 4 rfl rfl) rfl
theorem dX12_qOf_20 : decode cX12_qOf 20 = .ok (.ifCond .eq 33, 3) := q_ifCond_eq (bat_get dg_X12_qOf_0_0 5 rfl rfl) rfl
theorem dX12_qOf_53 : decode cX12_qOf 53 = .ok (.lconst 0, 1) := q_lconst0 (bat_get dg_X12_qOf_0_0 6 rfl rfl)
theorem dX12_qOf_54 : decode cX12_qOf 54 = .ok (.lreturn, 1) := q_lreturn (bat_get dg_X12_qOf_0_0 7 rfl rfl)
theorem dX12_qOf_23 : decode cX12_qOf 23 = .ok (.aload_n 0, 1) := q_aload_n0 (bat_get dg_X12_qOf_0_0 8 rfl rfl)
theorem dX12_qOf_24 : decode cX12_qOf 24 = .ok (.getfield 86, 3) := q_getfield (bat_get dg_X12_qOf_0_0 9 rfl rfl) rfl
theorem dX12_qOf_27 : decode cX12_qOf 27 = .ok (.bipush 10, 2) := q_bipush (bat_get dg_X12_qOf_0_0 10 rfl rfl) rfl
theorem dX12_qOf_29 : decode cX12_qOf 29 = .ok (.iload 4, 2) := q_iload (bat_get dg_X12_qOf_0_0 11 rfl rfl)
theorem dX12_qOf_31 : decode cX12_qOf 31 = .ok (.imul, 1) := q_imul (bat_get dg_X12_qOf_0_0 12 rfl rfl)
theorem dX12_qOf_32 : decode cX12_qOf 32 = .ok (.lload_n 2, 1) := q_lload_n2 (bat_get dg_X12_qOf_0_0 13 rfl rfl)
theorem dX12_qOf_33 : decode cX12_qOf 33 = .ok (.l2i, 1) := q_l2i (bat_get dg_X12_qOf_0_0 14 rfl rfl)
theorem dX12_qOf_34 : decode cX12_qOf 34 = .ok (.iadd, 1) := q_iadd (bat_get dg_X12_qOf_0_0 15 rfl rfl)
theorem dX12_qOf_35 : decode cX12_qOf 35 = .ok (.laload, 1) := q_laload (bat_get dg_X12_qOf_0_0 16 rfl rfl)
theorem dX12_qOf_36 : decode cX12_qOf 36 = .ok (.aload_n 0, 1) := q_aload_n0 (bat_get dg_X12_qOf_0_0 17 rfl rfl)
theorem dX12_qOf_37 : decode cX12_qOf 37 = .ok (.getfield 82, 3) := q_getfield (bat_get dg_X12_qOf_0_0 18 rfl rfl) rfl
theorem dX12_qOf_40 : decode cX12_qOf 40 = .ok (.bipush 10, 2) := q_bipush (bat_get dg_X12_qOf_0_0 19 rfl rfl) rfl
theorem dX12_qOf_42 : decode cX12_qOf 42 = .ok (.iload 4, 2) := q_iload (bat_get dg_X12_qOf_0_0 20 rfl rfl)
theorem dX12_qOf_44 : decode cX12_qOf 44 = .ok (.imul, 1) := q_imul (bat_get dg_X12_qOf_0_0 21 rfl rfl)
theorem dX12_qOf_45 : decode cX12_qOf 45 = .ok (.lload_n 2, 1) := q_lload_n2 (bat_get dg_X12_qOf_0_0 22 rfl rfl)
theorem dX12_qOf_46 : decode cX12_qOf 46 = .ok (.l2i, 1) := q_l2i (bat_get dg_X12_qOf_0_0 23 rfl rfl)
theorem dX12_qOf_47 : decode cX12_qOf 47 = .ok (.iadd, 1) := q_iadd (bat_get dg_X12_qOf_0_0 24 rfl rfl)
theorem dX12_qOf_48 : decode cX12_qOf 48 = .ok (.laload, 1) := q_laload (bat_get dg_X12_qOf_0_0 25 rfl rfl)
theorem dX12_qOf_49 : decode cX12_qOf 49 = .ok (.lmul, 1) := q_lmul (bat_get dg_X12_qOf_0_0 26 rfl rfl)
theorem dX12_qOf_50 : decode cX12_qOf 50 = .ok (.goto 4, 3) := q_goto (bat_get dg_X12_qOf_0_0 27 rfl rfl) rfl
theorem w_8_198 : (Cond.code yX12_qOf cX12_qOf 5 (some .long)) ∈ wsL_law := sk_mem (ck_8 _ (List.mem_of_getElem? (i := 198) rfl)) rfl
set_option maxHeartbeats 4000000 in
set_option maxRecDepth 100000 in
theorem c_m_qOf (l : Launch) (D : va_G) (cI cJ cC cZ cS : ClassId) (mm : Nat) (g : Nat → Nat) (ta : Nat) (pa : Nat) (pe : Nat) (pd : Int32) (pb : Nat) (pp : Int32) (pf : Int32) (pg : Int32) (pn : Int32) (rt : Int32) (rn : Int32) (cd : Nat) (sn : Int32) (il : Nat) (tk : Int32) (am : Int32) (at_ : Int32) (aa : Int32) (wt : Int32) (wy : Int64) (rm : Nat) (ud : Nat) (nu : Nat) (sd : Int64) (qn : Nat) (qw : Nat) (qo : Int32) (qb : Nat) (qp : Nat) (qa : Int64) (qi : Nat) (oc : Nat) (w : Int32) (x : Int64) (d : Nat) (bf : Nat → Int64) (be : Nat → Int64) (hd : d < 9) : skM l yX12_qOf cX12_qOf 5 (some .long) 1 25 0 0 D (skT cI cJ cC cZ cS) [.ref mm, .int w, .long x, .int (nI d)] [(mm, .inr (12, mo g (nI ta) (nI pa) (nI pe) pd (nI pb) pp pf pg pn rt rn (nI cd) sn (nI il) tk am at_ aa 0 0 (-1) wt wy 0 (nI rm) (nI ud) (nI nu) sd (nI qn) (nI qw) qo (nI qb) (nI qp) qa (nI qi) (nI oc))), (g 44, .inl (cJ, 90, .inr (.inl bf))), (g 43, .inl (cJ, 90, .inr (.inl be)))] (skL D (skT cI cJ cC cZ cS) (fun (r : Int64) (u : va_W) => u = [(mm, .inr (12, mo g (nI ta) (nI pa) (nI pe) pd (nI pb) pp pf pg pn rt rn (nI cd) sn (nI il) tk am at_ aa 0 0 (-1) wt wy 0 (nI rm) (nI ud) (nI nu) sd (nI qn) (nI qw) qo (nI qb) (nI qp) qa (nI qi) (nI oc))), (g 44, .inl (cJ, 90, .inr (.inl bf))), (g 43, .inl (cJ, 90, .inr (.inl be)))])) := by
  refine skM_of pf_X12_qOf (Nat.le_of_ble_eq_true rfl) ?_
  intro p e s m below meth c A ls E hP hD hl
  refine skE_el E (fun hx hb hr hml hlocks hin hown hts hK hA => ?_)
  have hown : s.vm.findClass RX12 = some m.cls := hown
  have hS : va_S A s.heap s.heap [] := va_S.rf
  have hl : lv_has ls 5 [(0, .ref mm), (1, .int w), (2, .long x), (4, .int (nI d))] := hl
  refine lv_iload_n hx hb dX12_qOf_0 rfl (lv_at hl 1 rfl) ?_
  refine lv_lookup (off := 11) (tgt := 12) hx hb dX12_qOf_1 (by decide) (by rfl) (by decide) ?_
  refine lv_lload_n hx hb dX12_qOf_12 rfl (lv_at hl 2 rfl) ?_
  refine lv_lconst (v := 0) hx hb dX12_qOf_13 (by decide) ?_
  refine lv_ldc2 (v := 9) hx hb hown (hts _ w_7_130) dX12_qOf_14 ?_
  refine sk_Si (n := 3) (rest := []) (wr := [(mm, .inr (12, mo g (nI ta) (nI pa) (nI pe) pd (nI pb) pp pf pg pn rt rn (nI cd) sn (nI il) tk am at_ aa 0 0 (-1) wt wy 0 (nI rm) (nI ud) (nI nu) sd (nI qn) (nI qw) qo (nI qb) (nI qp) qa (nI qi) (nI oc))), (g 44, .inl (cJ, 90, .inr (.inl bf))), (g 43, .inl (cJ, 90, .inr (.inl be)))]) ⟨hx, hb, hml, hown, hts⟩ hl.1 (c_m_isIn l D cI cJ cC cZ cS x 0 9) w_7_0 w_7_1 w_1_14 w_7_2 hd_X12_isIn_3 ⟨⟨(Nat.le_of_ble_eq_true rfl), (Nat.le_of_ble_eq_true rfl)⟩, (Nat.le_of_ble_eq_true rfl), (Nat.le_of_ble_eq_true rfl)⟩ hK hP hD hS hA [] [0, 1, 2] rfl rfl (by decide +kernel) (by decide +kernel) (by decide +kernel) rfl rfl (Nat.le_of_ble_eq_true rfl) dX12_qOf_17 (fun r_2 u H locs hw hP hD hS => ?_)
  obtain ⟨b_1, hb1_3, rfl, rfl⟩ := hw
  refine o_re (ws' := [(mm, .inr (12, mo g (nI ta) (nI pa) (nI pe) pd (nI pb) pp pf pg pn rt rn (nI cd) sn (nI il) tk am at_ aa 0 0 (-1) wt wy 0 (nI rm) (nI ud) (nI nu) sd (nI qn) (nI qw) qo (nI qb) (nI qp) qa (nI qi) (nI oc))), (g 44, .inl (cJ, 90, .inr (.inl bf))), (g 43, .inl (cJ, 90, .inr (.inl be)))]) hP hD rfl (fun hP hD => ?_)
  refine lv_if_eq (tgt := 53) hx hb dX12_qOf_20 (by decide) (fun c_4 => ?_) (fun c_4 => ?_)
  · have c_4 : b_1 = 0 := (neq b_1 0 (by omega) (by omega)).mp c_4
    refine lv_lconst (v := 0) hx hb dX12_qOf_53 (by decide) ?_
    exact sk_lret hx hb hr hlocks hK hP hD hS rfl (Nat.le_of_ble_eq_true rfl) (Nat.le_of_ble_eq_true rfl) dX12_qOf_54
  · have c_4 : ¬ (b_1 = 0) := fun h => c_4 ((neq b_1 0 (by omega) (by omega)).mpr h)
    obtain ⟨kq, hkq, ekq⟩ := qof_k hb1_3 (by omega)
    refine lv_aload_n hx hb dX12_qOf_23 rfl (lv_at hl 0 rfl) ?_
    refine sk_get (v := .ref (g 44)) (C := RX12) (T := TX12) (N := 92) hx hb hts inlX12 hown hK hP 0 rfl rfl 44 (by decide) w_5_199 rfl dX12_qOf_24 ?_
    refine lv_bipush (v := 10) hx hb dX12_qOf_27 (by decide) ?_
    refine lv_iload hx hb dX12_qOf_29 (lv_at hl 3 rfl) ?_
    refine lv_imul hx hb dX12_qOf_31 ?_
    refine sk_top (nI (10 * d)) (nmul 10 d) ?_
    refine lv_lload_n hx hb dX12_qOf_32 rfl (lv_at hl 2 rfl) ?_
    refine lv_l2i hx hb dX12_qOf_33 rfl ?_
    refine sk_top (nI kq) ekq ?_
    refine lv_iadd hx hb dX12_qOf_34 ?_
    refine sk_top (nI (10 * d + kq)) (nI_add (10 * d) kq) ?_
    refine va_lald hx hb hK.1 hP 1 1 rfl rfl (vin (10 * d + kq) 90 (by omega) (by omega)) dX12_qOf_35 ?_
    refine lv_topl (fun v_5 ev_5 => ?_)
    refine lv_aload_n hx hb dX12_qOf_36 rfl (lv_at hl 0 rfl) ?_
    refine sk_get (v := .ref (g 43)) (C := RX12) (T := TX12) (N := 92) hx hb hts inlX12 hown hK hP 0 rfl rfl 43 (by decide) w_5_198 rfl dX12_qOf_37 ?_
    refine lv_bipush (v := 10) hx hb dX12_qOf_40 (by decide) ?_
    refine lv_iload hx hb dX12_qOf_42 (lv_at hl 3 rfl) ?_
    refine lv_imul hx hb dX12_qOf_44 ?_
    refine sk_top (nI (10 * d)) (nmul 10 d) ?_
    refine lv_lload_n hx hb dX12_qOf_45 rfl (lv_at hl 2 rfl) ?_
    refine lv_l2i hx hb dX12_qOf_46 rfl ?_
    refine sk_top (nI kq) ekq ?_
    refine lv_iadd hx hb dX12_qOf_47 ?_
    refine sk_top (nI (10 * d + kq)) (nI_add (10 * d) kq) ?_
    refine va_lald hx hb hK.1 hP 2 1 rfl rfl (vin (10 * d + kq) 90 (by omega) (by omega)) dX12_qOf_48 ?_
    refine lv_topl (fun v_6 ev_6 => ?_)
    refine lv_lmul hx hb dX12_qOf_49 ?_
    refine lv_topl (fun v_7 ev_7 => ?_)
    refine lv_goto (tgt := 54) hx hb dX12_qOf_50 (by decide) ?_
    exact sk_lret hx hb hr hlocks hK hP hD hS rfl (Nat.le_of_ble_eq_true rfl) (Nat.le_of_ble_eq_true rfl) dX12_qOf_54
theorem dg_X12_qTold_0_0 : bqL cX12_qTold 0 [(0, [42]), (1, [3]), (2, [181, 1, 64]), (5, [3]), (6, [61]), (7, [28]), (8, [42]), (9, [180, 1, 1]), (12, [162, 0, 156]), (168, [42]), (169, [180, 0, 186]), (172, [3]), (173, [47]), (174, [173]), (15, [42]), (16, [180, 0, 180]), (19, [28]), (20, [46]), (21, [62]), (22, [29]), (23, [17, 3, 232]), (26, [161, 0, 16]), (42, [29]), (43, [16, 60]), (45, [161, 0, 40]), (85, [29]), (86, [16, 40]), (88, [161, 0, 22]), (110, [29]), (111, [16, 13]), (113, [160, 0, 11]), (124, [29]), (125, [16, 12]), (127, [160, 0, 30]), (157, [42]), (158, [29]), (159, [182, 1, 75]), (162, [132, 2, 1]), (165, [167, 255, 98]), (130, [42])] = true := by decide +kernel
theorem dX12_qTold_0 : decode cX12_qTold 0 = .ok (.aload_n 0, 1) := q_aload_n0 (bat_get dg_X12_qTold_0_0 0 rfl rfl)
theorem dX12_qTold_1 : decode cX12_qTold 1 = .ok (.iconst 0, 1) := q_iconst0 (bat_get dg_X12_qTold_0_0 1 rfl rfl)
theorem dX12_qTold_2 : decode cX12_qTold 2 = .ok (.putfield 320, 3) := q_putfield (bat_get dg_X12_qTold_0_0 2 rfl rfl) rfl
theorem dX12_qTold_5 : decode cX12_qTold 5 = .ok (.iconst 0, 1) := q_iconst0 (bat_get dg_X12_qTold_0_0 3 rfl rfl)
theorem dX12_qTold_6 : decode cX12_qTold 6 = .ok (.istore_n 2, 1) := q_istore_n2 (bat_get dg_X12_qTold_0_0 4 rfl rfl)
theorem dX12_qTold_7 : decode cX12_qTold 7 = .ok (.iload_n 2, 1) := q_iload_n2 (bat_get dg_X12_qTold_0_0 5 rfl rfl)
theorem dX12_qTold_8 : decode cX12_qTold 8 = .ok (.aload_n 0, 1) := q_aload_n0 (bat_get dg_X12_qTold_0_0 6 rfl rfl)
theorem dX12_qTold_9 : decode cX12_qTold 9 = .ok (.getfield 257, 3) := q_getfield (bat_get dg_X12_qTold_0_0 7 rfl rfl) rfl
theorem dX12_qTold_12 : decode cX12_qTold 12 = .ok (.if_icmp .ge 156, 3) := q_if_icmp_ge (bat_get dg_X12_qTold_0_0 8 rfl rfl) rfl
theorem dX12_qTold_168 : decode cX12_qTold 168 = .ok (.aload_n 0, 1) := q_aload_n0 (bat_get dg_X12_qTold_0_0 9 rfl rfl)
theorem dX12_qTold_169 : decode cX12_qTold 169 = .ok (.getfield 186, 3) := q_getfield (bat_get dg_X12_qTold_0_0 10 rfl rfl) rfl
theorem dX12_qTold_172 : decode cX12_qTold 172 = .ok (.iconst 0, 1) := q_iconst0 (bat_get dg_X12_qTold_0_0 11 rfl rfl)
theorem dX12_qTold_173 : decode cX12_qTold 173 = .ok (.laload, 1) := q_laload (bat_get dg_X12_qTold_0_0 12 rfl rfl)
theorem dX12_qTold_174 : decode cX12_qTold 174 = .ok (.lreturn, 1) := q_lreturn (bat_get dg_X12_qTold_0_0 13 rfl rfl)
theorem dX12_qTold_15 : decode cX12_qTold 15 = .ok (.aload_n 0, 1) := q_aload_n0 (bat_get dg_X12_qTold_0_0 14 rfl rfl)
theorem dX12_qTold_16 : decode cX12_qTold 16 = .ok (.getfield 180, 3) := q_getfield (bat_get dg_X12_qTold_0_0 15 rfl rfl) rfl
theorem dX12_qTold_19 : decode cX12_qTold 19 = .ok (.iload_n 2, 1) := q_iload_n2 (bat_get dg_X12_qTold_0_0 16 rfl rfl)
theorem dX12_qTold_20 : decode cX12_qTold 20 = .ok (.iaload, 1) := q_iaload (bat_get dg_X12_qTold_0_0 17 rfl rfl)
theorem dX12_qTold_21 : decode cX12_qTold 21 = .ok (.istore_n 3, 1) := q_istore_n3 (bat_get dg_X12_qTold_0_0 18 rfl rfl)
theorem dX12_qTold_22 : decode cX12_qTold 22 = .ok (.iload_n 3, 1) := q_iload_n3 (bat_get dg_X12_qTold_0_0 19 rfl rfl)
theorem dX12_qTold_23 : decode cX12_qTold 23 = .ok (.sipush 1000, 3) := q_sipush (bat_get dg_X12_qTold_0_0 20 rfl rfl) rfl
theorem dX12_qTold_26 : decode cX12_qTold 26 = .ok (.if_icmp .lt 16, 3) := q_if_icmp_lt (bat_get dg_X12_qTold_0_0 21 rfl rfl) rfl
theorem dX12_qTold_42 : decode cX12_qTold 42 = .ok (.iload_n 3, 1) := q_iload_n3 (bat_get dg_X12_qTold_0_0 22 rfl rfl)
theorem dX12_qTold_43 : decode cX12_qTold 43 = .ok (.bipush 60, 2) := q_bipush (bat_get dg_X12_qTold_0_0 23 rfl rfl) rfl
theorem dX12_qTold_45 : decode cX12_qTold 45 = .ok (.if_icmp .lt 40, 3) := q_if_icmp_lt (bat_get dg_X12_qTold_0_0 24 rfl rfl) rfl
theorem dX12_qTold_85 : decode cX12_qTold 85 = .ok (.iload_n 3, 1) := q_iload_n3 (bat_get dg_X12_qTold_0_0 25 rfl rfl)
theorem dX12_qTold_86 : decode cX12_qTold 86 = .ok (.bipush 40, 2) := q_bipush (bat_get dg_X12_qTold_0_0 26 rfl rfl) rfl
theorem dX12_qTold_88 : decode cX12_qTold 88 = .ok (.if_icmp .lt 22, 3) := q_if_icmp_lt (bat_get dg_X12_qTold_0_0 27 rfl rfl) rfl
theorem dX12_qTold_110 : decode cX12_qTold 110 = .ok (.iload_n 3, 1) := q_iload_n3 (bat_get dg_X12_qTold_0_0 28 rfl rfl)
theorem dX12_qTold_111 : decode cX12_qTold 111 = .ok (.bipush 13, 2) := q_bipush (bat_get dg_X12_qTold_0_0 29 rfl rfl) rfl
theorem dX12_qTold_113 : decode cX12_qTold 113 = .ok (.if_icmp .ne 11, 3) := q_if_icmp_ne (bat_get dg_X12_qTold_0_0 30 rfl rfl) rfl
theorem dX12_qTold_124 : decode cX12_qTold 124 = .ok (.iload_n 3, 1) := q_iload_n3 (bat_get dg_X12_qTold_0_0 31 rfl rfl)
theorem dX12_qTold_125 : decode cX12_qTold 125 = .ok (.bipush 12, 2) := q_bipush (bat_get dg_X12_qTold_0_0 32 rfl rfl) rfl
theorem dX12_qTold_127 : decode cX12_qTold 127 = .ok (.if_icmp .ne 30, 3) := q_if_icmp_ne (bat_get dg_X12_qTold_0_0 33 rfl rfl) rfl
theorem dX12_qTold_157 : decode cX12_qTold 157 = .ok (.aload_n 0, 1) := q_aload_n0 (bat_get dg_X12_qTold_0_0 34 rfl rfl)
theorem dX12_qTold_158 : decode cX12_qTold 158 = .ok (.iload_n 3, 1) := q_iload_n3 (bat_get dg_X12_qTold_0_0 35 rfl rfl)
theorem dX12_qTold_159 : decode cX12_qTold 159 = .ok (.invokevirtual 331, 3) := q_invokevirtual (bat_get dg_X12_qTold_0_0 36 rfl rfl) rfl
theorem dX12_qTold_162 : decode cX12_qTold 162 = .ok (.iinc 2 1, 3) := q_iinc (bat_get dg_X12_qTold_0_0 37 rfl rfl) rfl
theorem dX12_qTold_165 : decode cX12_qTold 165 = .ok (.goto (-158), 3) := q_goto (bat_get dg_X12_qTold_0_0 38 rfl rfl) rfl
theorem dX12_qTold_130 : decode cX12_qTold 130 = .ok (.aload_n 0, 1) := q_aload_n0 (bat_get dg_X12_qTold_0_0 39 rfl rfl)
theorem dg_X12_qTold_48_131 : bqL cX12_qTold 48 [(83, [180, 0, 186]), (86, [42]), (87, [180, 1, 64]), (90, [4]), (91, [100]), (92, [10]), (93, [42]), (94, [180, 0, 186]), (97, [42]), (98, [180, 1, 64]), (101, [4]), (102, [100]), (103, [47]), (104, [101]), (105, [80]), (106, [167, 0, 8]), (68, [42]), (69, [10]), (70, [182, 1, 67]), (73, [167, 0, 41]), (43, [42]), (44, [42]), (45, [29]), (46, [16, 40]), (48, [100]), (49, [27]), (50, [182, 1, 71]), (53, [184, 2, 44]), (56, [182, 1, 67]), (59, [167, 0, 55]), (0, [42]), (1, [180, 0, 186]), (4, [42]), (5, [180, 1, 64]), (8, [4]), (9, [100]), (10, [42]), (11, [29]), (12, [16, 60]), (14, [100])] = true := by decide +kernel
theorem dX12_qTold_131 : decode cX12_qTold 131 = .ok (.getfield 186, 3) := q_getfield (bat_get dg_X12_qTold_48_131 0 rfl rfl) rfl
theorem dX12_qTold_134 : decode cX12_qTold 134 = .ok (.aload_n 0, 1) := q_aload_n0 (bat_get dg_X12_qTold_48_131 1 rfl rfl)
theorem dX12_qTold_135 : decode cX12_qTold 135 = .ok (.getfield 320, 3) := q_getfield (bat_get dg_X12_qTold_48_131 2 rfl rfl) rfl
theorem dX12_qTold_138 : decode cX12_qTold 138 = .ok (.iconst 1, 1) := q_iconst1 (bat_get dg_X12_qTold_48_131 3 rfl rfl)
theorem dX12_qTold_139 : decode cX12_qTold 139 = .ok (.isub, 1) := q_isub (bat_get dg_X12_qTold_48_131 4 rfl rfl)
