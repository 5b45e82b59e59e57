theorem dg_X12_byTen_0_0 : bqL cX12_byTen 0 [(0, [30]), (1, [20, 1, 78]), (4, [113]), (5, [20, 1, 78]), (8, [97]), (9, [20, 1, 78]), (12, [113]), (13, [136]), (14, [172])] = true := by decide +kernel
theorem dX12_byTen_0 : decode cX12_byTen 0 = .ok (.lload_n 0, 1) := q_lload_n0 (bat_get dg_X12_byTen_0_0 0 rfl rfl)
theorem dX12_byTen_1 : decode cX12_byTen 1 = .ok (.ldc2_w 334, 3) := q_ldc2_w (bat_get dg_X12_byTen_0_0 1 rfl rfl) rfl
theorem dX12_byTen_4 : decode cX12_byTen 4 = .ok (.lrem, 1) := q_lrem (bat_get dg_X12_byTen_0_0 2 rfl rfl)
theorem dX12_byTen_5 : decode cX12_byTen 5 = .ok (.ldc2_w 334, 3) := q_ldc2_w (bat_get dg_X12_byTen_0_0 3 rfl rfl) rfl
theorem dX12_byTen_8 : decode cX12_byTen 8 = .ok (.ladd, 1) := q_ladd (bat_get dg_X12_byTen_0_0 4 rfl rfl)
theorem dX12_byTen_9 : decode cX12_byTen 9 = .ok (.ldc2_w 334, 3) := q_ldc2_w (bat_get dg_X12_byTen_0_0 5 rfl rfl) rfl
theorem dX12_byTen_12 : decode cX12_byTen 12 = .ok (.lrem, 1) := q_lrem (bat_get dg_X12_byTen_0_0 6 rfl rfl)
theorem dX12_byTen_13 : decode cX12_byTen 13 = .ok (.l2i, 1) := q_l2i (bat_get dg_X12_byTen_0_0 7 rfl rfl)
theorem dX12_byTen_14 : decode cX12_byTen 14 = .ok (.ireturn, 1) := q_ireturn (bat_get dg_X12_byTen_0_0 8 rfl rfl)
theorem w_7_171 : (Cond.constantLong RX12 334 (10)) ∈ wsL_law := sk_mem (ck_7 _ (List.mem_of_getElem? (i := 171) rfl)) rfl
theorem w_7_170 : (Cond.code yX12_byTen cX12_byTen 2 (some .int)) ∈ wsL_law := sk_mem (ck_7 _ (List.mem_of_getElem? (i := 170) rfl)) rfl
set_option maxHeartbeats 4000000 in
set_option maxRecDepth 100000 in
theorem c_m_byTen (l : Launch) (D : va_G) (cI cJ cC cZ cS : ClassId) (x : Int64)  : skM l yX12_byTen cX12_byTen 2 (some .int) 0 0 0 0 D (skT cI cJ cC cZ cS) [.long x] [] (skI D (skT cI cJ cC cZ cS) (fun (r : Int32) (u : va_W) => u = [])) := by
  refine skM_of pf_X12_byTen (Nat.le_of_ble_eq_true rfl) ?_
  intro p e s m below meth c A ls E hP hD hl
  refine skE_el E (fun hx hb hr hml hlocks hin hown hts hK hA => ?_)
  have hown : s.vm.findClass RX12 = some m.cls := hown
  have hS : va_S A s.heap s.heap [] := va_S.rf
  have hl : lv_has ls 2 [(0, .long x)] := hl
  refine lv_lload_n hx hb dX12_byTen_0 rfl (lv_at hl 0 rfl) ?_
  refine lv_ldc2 (v := 10) hx hb hown (hts _ w_7_171) dX12_byTen_1 ?_
  refine lv_lrem hx hb dX12_byTen_4 (by decide) ?_
  refine lv_topl (fun v_1 ev_1 => ?_)
  refine lv_ldc2 (v := 10) hx hb hown (hts _ w_7_171) dX12_byTen_5 ?_
  refine lv_ladd hx hb dX12_byTen_8 ?_
  refine lv_topl (fun v_2 ev_2 => ?_)
  refine lv_ldc2 (v := 10) hx hb hown (hts _ w_7_171) dX12_byTen_9 ?_
  refine lv_lrem hx hb dX12_byTen_12 (by decide) ?_
  refine lv_topl (fun v_3 ev_3 => ?_)
  refine lv_l2i hx hb dX12_byTen_13 rfl ?_
  refine lv_topi (fun v_4 ev_4 => ?_)
  exact sk_iret hx hb hr rfl hlocks hK hP hD hS rfl (Nat.le_of_ble_eq_true rfl) (Nat.le_of_ble_eq_true rfl) dX12_byTen_14
theorem dg_X12_qClip_0_0 : bqL cX12_qClip 0 [(0, [30]), (1, [20, 2, 40]), (4, [148]), (5, [158, 0, 9]), (14, [30]), (15, [20, 2, 42]), (18, [148]), (19, [156, 0, 9]), (28, [30]), (29, [173]), (22, [20, 2, 42]), (25, [167, 0, 4]), (8, [20, 2, 40]), (11, [167, 0, 18])] = true := by decide +kernel
theorem dX12_qClip_0 : decode cX12_qClip 0 = .ok (.lload_n 0, 1) := q_lload_n0 (bat_get dg_X12_qClip_0_0 0 rfl rfl)
theorem dX12_qClip_1 : decode cX12_qClip 1 = .ok (.ldc2_w 552, 3) := q_ldc2_w (bat_get dg_X12_qClip_0_0 1 rfl rfl) rfl
theorem dX12_qClip_4 : decode cX12_qClip 4 = .ok (.lcmp, 1) := q_lcmp (bat_get dg_X12_qClip_0_0 2 rfl rfl)
theorem dX12_qClip_5 : decode cX12_qClip 5 = .ok (.ifCond .le 9, 3) := q_ifCond_le (bat_get dg_X12_qClip_0_0 3 rfl rfl) rfl
theorem dX12_qClip_14 : decode cX12_qClip 14 = .ok (.lload_n 0, 1) := q_lload_n0 (bat_get dg_X12_qClip_0_0 4 rfl rfl)
theorem dX12_qClip_15 : decode cX12_qClip 15 = .ok (.ldc2_w 554, 3) := q_ldc2_w (bat_get dg_X12_qClip_0_0 5 rfl rfl) rfl
theorem dX12_qClip_18 : decode cX12_qClip 18 = .ok (.lcmp, 1) := q_lcmp (bat_get dg_X12_qClip_0_0 6 rfl rfl)
theorem dX12_qClip_19 : decode cX12_qClip 19 = .ok (.ifCond .ge 9, 3) := q_ifCond_ge (bat_get dg_X12_qClip_0_0 7 rfl rfl) rfl
theorem dX12_qClip_28 : decode cX12_qClip 28 = .ok (.lload_n 0, 1) := q_lload_n0 (bat_get dg_X12_qClip_0_0 8 rfl rfl)
theorem dX12_qClip_29 : decode cX12_qClip 29 = .ok (.lreturn, 1) := q_lreturn (bat_get dg_X12_qClip_0_0 9 rfl rfl)
theorem dX12_qClip_22 : decode cX12_qClip 22 = .ok (.ldc2_w 554, 3) := q_ldc2_w (bat_get dg_X12_qClip_0_0 10 rfl rfl) rfl
theorem dX12_qClip_25 : decode cX12_qClip 25 = .ok (.goto 4, 3) := q_goto (bat_get dg_X12_qClip_0_0 11 rfl rfl) rfl
theorem dX12_qClip_8 : decode cX12_qClip 8 = .ok (.ldc2_w 552, 3) := q_ldc2_w (bat_get dg_X12_qClip_0_0 12 rfl rfl) rfl
theorem dX12_qClip_11 : decode cX12_qClip 11 = .ok (.goto 18, 3) := q_goto (bat_get dg_X12_qClip_0_0 13 rfl rfl) rfl
theorem w_7_163 : (Cond.constantLong RX12 552 (1000000)) ∈ wsL_law := sk_mem (ck_7 _ (List.mem_of_getElem? (i := 163) rfl)) rfl
theorem w_7_164 : (Cond.constantLong RX12 554 (-1000000)) ∈ wsL_law := sk_mem (ck_7 _ (List.mem_of_getElem? (i := 164) rfl)) rfl
theorem w_7_162 : (Cond.code yX12_qClip cX12_qClip 2 (some .long)) ∈ wsL_law := sk_mem (ck_7 _ (List.mem_of_getElem? (i := 162) rfl)) rfl
set_option maxHeartbeats 4000000 in
set_option maxRecDepth 100000 in
theorem c_m_qClip (l : Launch) (D : va_G) (cI cJ cC cZ cS : ClassId) (x : Int64)  : skM l yX12_qClip cX12_qClip 2 (some .long) 0 0 0 0 D (skT cI cJ cC cZ cS) [.long x] [] (skL D (skT cI cJ cC cZ cS) (fun (r : Int64) (u : va_W) => u = [])) := by
  refine skM_of pf_X12_qClip (Nat.le_of_ble_eq_true rfl) ?_
  intro p e s m below meth c A ls E hP hD hl
  refine skE_el E (fun hx hb hr hml hlocks hin hown hts hK hA => ?_)
  have hown : s.vm.findClass RX12 = some m.cls := hown
  have hS : va_S A s.heap s.heap [] := va_S.rf
  have hl : lv_has ls 2 [(0, .long x)] := hl
  refine lv_lload_n hx hb dX12_qClip_0 rfl (lv_at hl 0 rfl) ?_
  refine lv_ldc2 (v := 1000000) hx hb hown (hts _ w_7_163) dX12_qClip_1 ?_
  refine W.lcmp hx hb dX12_qClip_4 ?_
  refine lv_if_le (tgt := 14) hx hb dX12_qClip_5 (by decide) (fun c_1 => ?_) (fun c_1 => ?_)
  · skip
    refine lv_lload_n hx hb dX12_qClip_14 rfl (lv_at hl 0 rfl) ?_
    refine lv_ldc2 (v := (-1000000)) hx hb hown (hts _ w_7_164) dX12_qClip_15 ?_
    refine W.lcmp hx hb dX12_qClip_18 ?_
    refine lv_if_ge (tgt := 28) hx hb dX12_qClip_19 (by decide) (fun c_2 => ?_) (fun c_2 => ?_)
    · skip
      refine lv_lload_n hx hb dX12_qClip_28 rfl (lv_at hl 0 rfl) ?_
      exact sk_lret hx hb hr hlocks hK hP hD hS rfl (Nat.le_of_ble_eq_true rfl) (Nat.le_of_ble_eq_true rfl) dX12_qClip_29
    · skip
      refine lv_ldc2 (v := (-1000000)) hx hb hown (hts _ w_7_164) dX12_qClip_22 ?_
      refine lv_goto (tgt := 29) hx hb dX12_qClip_25 (by decide) ?_
      exact sk_lret hx hb hr hlocks hK hP hD hS rfl (Nat.le_of_ble_eq_true rfl) (Nat.le_of_ble_eq_true rfl) dX12_qClip_29
  · skip
    refine lv_ldc2 (v := 1000000) hx hb hown (hts _ w_7_163) dX12_qClip_8 ?_
    refine lv_goto (tgt := 29) hx hb dX12_qClip_11 (by decide) ?_
    exact sk_lret hx hb hr hlocks hK hP hD hS rfl (Nat.le_of_ble_eq_true rfl) (Nat.le_of_ble_eq_true rfl) dX12_qClip_29
theorem dg_X12_qFloor_0_0 : bqL cX12_qFloor 0 [(0, [32]), (1, [9]), (2, [148]), (3, [154, 0, 5]), (8, [30]), (9, [32]), (10, [109]), (11, [55, 4]), (13, [30]), (14, [32]), (15, [113]), (16, [9]), (17, [148]), (18, [153, 0, 35]), (53, [22, 4]), (55, [173]), (21, [30]), (22, [9]), (23, [148]), (24, [156, 0, 7]), (31, [3]), (32, [32]), (33, [9]), (34, [148]), (35, [156, 0, 7]), (42, [3]), (43, [159, 0, 10]), (38, [4]), (39, [167, 0, 4]), (46, [22, 4]), (48, [10]), (49, [101]), (50, [167, 0, 5]), (27, [4]), (28, [167, 0, 4]), (6, [9]), (7, [173])] = true := by decide +kernel
theorem dX12_qFloor_0 : decode cX12_qFloor 0 = .ok (.lload_n 2, 1) := q_lload_n2 (bat_get dg_X12_qFloor_0_0 0 rfl rfl)
theorem dX12_qFloor_1 : decode cX12_qFloor 1 = .ok (.lconst 0, 1) := q_lconst0 (bat_get dg_X12_qFloor_0_0 1 rfl rfl)
theorem dX12_qFloor_2 : decode cX12_qFloor 2 = .ok (.lcmp, 1) := q_lcmp (bat_get dg_X12_qFloor_0_0 2 rfl rfl)
theorem dX12_qFloor_3 : decode cX12_qFloor 3 = .ok (.ifCond .ne 5, 3) := q_ifCond_ne (bat_get dg_X12_qFloor_0_0 3 rfl rfl) rfl
theorem dX12_qFloor_8 : decode cX12_qFloor 8 = .ok (.lload_n 0, 1) := q_lload_n0 (bat_get dg_X12_qFloor_0_0 4 rfl rfl)
theorem dX12_qFloor_9 : decode cX12_qFloor 9 = .ok (.lload_n 2, 1) := q_lload_n2 (bat_get dg_X12_qFloor_0_0 5 rfl rfl)
theorem dX12_qFloor_10 : decode cX12_qFloor 10 = .ok (.ldiv, 1) := q_ldiv (bat_get dg_X12_qFloor_0_0 6 rfl rfl)
theorem dX12_qFloor_11 : decode cX12_qFloor 11 = .ok (.lstore 4, 2) := q_lstore (bat_get dg_X12_qFloor_0_0 7 rfl rfl)
theorem dX12_qFloor_13 : decode cX12_qFloor 13 = .ok (.lload_n 0, 1) := q_lload_n0 (bat_get dg_X12_qFloor_0_0 8 rfl rfl)
theorem dX12_qFloor_14 : decode cX12_qFloor 14 = .ok (.lload_n 2, 1) := q_lload_n2 (bat_get dg_X12_qFloor_0_0 9 rfl rfl)
theorem dX12_qFloor_15 : decode cX12_qFloor 15 = .ok (.lrem, 1) := q_lrem (bat_get dg_X12_qFloor_0_0 10 rfl rfl)
theorem dX12_qFloor_16 : decode cX12_qFloor 16 = .ok (.lconst 0, 1) := q_lconst0 (bat_get dg_X12_qFloor_0_0 11 rfl rfl)
theorem dX12_qFloor_17 : decode cX12_qFloor 17 = .ok (.lcmp, 1) := q_lcmp (bat_get dg_X12_qFloor_0_0 12 rfl rfl)
theorem dX12_qFloor_18 : decode cX12_qFloor 18 = .ok (.ifCond .eq 35, 3) := q_ifCond_eq (bat_get dg_X12_qFloor_0_0 13 rfl rfl) rfl
theorem dX12_qFloor_53 : decode cX12_qFloor 53 = .ok (.lload 4, 2) := q_lload (bat_get dg_X12_qFloor_0_0 14 rfl rfl)
theorem dX12_qFloor_55 : decode cX12_qFloor 55 = .ok (.lreturn, 1) := q_lreturn (bat_get dg_X12_qFloor_0_0 15 rfl rfl)
theorem dX12_qFloor_21 : decode cX12_qFloor 21 = .ok (.lload_n 0, 1) := q_lload_n0 (bat_get dg_X12_qFloor_0_0 16 rfl rfl)
theorem dX12_qFloor_22 : decode cX12_qFloor 22 = .ok (.lconst 0, 1) := q_lconst0 (bat_get dg_X12_qFloor_0_0 17 rfl rfl)
theorem dX12_qFloor_23 : decode cX12_qFloor 23 = .ok (.lcmp, 1) := q_lcmp (bat_get dg_X12_qFloor_0_0 18 rfl rfl)
theorem dX12_qFloor_24 : decode cX12_qFloor 24 = .ok (.ifCond .ge 7, 3) := q_ifCond_ge (bat_get dg_X12_qFloor_0_0 19 rfl rfl) rfl
theorem dX12_qFloor_31 : decode cX12_qFloor 31 = .ok (.iconst 0, 1) := q_iconst0 (bat_get dg_X12_qFloor_0_0 20 rfl rfl)
theorem dX12_qFloor_32 : decode cX12_qFloor 32 = .ok (.lload_n 2, 1) := q_lload_n2 (bat_get dg_X12_qFloor_0_0 21 rfl rfl)
theorem dX12_qFloor_33 : decode cX12_qFloor 33 = .ok (.lconst 0, 1) := q_lconst0 (bat_get dg_X12_qFloor_0_0 22 rfl rfl)
theorem dX12_qFloor_34 : decode cX12_qFloor 34 = .ok (.lcmp, 1) := q_lcmp (bat_get dg_X12_qFloor_0_0 23 rfl rfl)
theorem dX12_qFloor_35 : decode cX12_qFloor 35 = .ok (.ifCond .ge 7, 3) := q_ifCond_ge (bat_get dg_X12_qFloor_0_0 24 rfl rfl) rfl
theorem dX12_qFloor_42 : decode cX12_qFloor 42 = .ok (.iconst 0, 1) := q_iconst0 (bat_get dg_X12_qFloor_0_0 25 rfl rfl)
theorem dX12_qFloor_43 : decode cX12_qFloor 43 = .ok (.if_icmp .eq 10, 3) := q_if_icmp_eq (bat_get dg_X12_qFloor_0_0 26 rfl rfl) rfl
theorem dX12_qFloor_38 : decode cX12_qFloor 38 = .ok (.iconst 1, 1) := q_iconst1 (bat_get dg_X12_qFloor_0_0 27 rfl rfl)
theorem dX12_qFloor_39 : decode cX12_qFloor 39 = .ok (.goto 4, 3) := q_goto (bat_get dg_X12_qFloor_0_0 28 rfl rfl) rfl
theorem dX12_qFloor_46 : decode cX12_qFloor 46 = .ok (.lload 4, 2) := q_lload (bat_get dg_X12_qFloor_0_0 29 rfl rfl)
theorem dX12_qFloor_48 : decode cX12_qFloor 48 = .ok (.lconst 1, 1) := q_lconst1 (bat_get dg_X12_qFloor_0_0 30 rfl rfl)
theorem dX12_qFloor_49 : decode cX12_qFloor 49 = .ok (.lsub, 1) := q_lsub (bat_get dg_X12_qFloor_0_0 31 rfl rfl)
theorem dX12_qFloor_50 : decode cX12_qFloor 50 = .ok (.goto 5, 3) := q_goto (bat_get dg_X12_qFloor_0_0 32 rfl rfl) rfl
theorem dX12_qFloor_27 : decode cX12_qFloor 27 = .ok (.iconst 1, 1) := q_iconst1 (bat_get dg_X12_qFloor_0_0 33 rfl rfl)
theorem dX12_qFloor_28 : decode cX12_qFloor 28 = .ok (.goto 4, 3) := q_goto (bat_get dg_X12_qFloor_0_0 34 rfl rfl) rfl
theorem dX12_qFloor_6 : decode cX12_qFloor 6 = .ok (.lconst 0, 1) := q_lconst0 (bat_get dg_X12_qFloor_0_0 35 rfl rfl)
theorem dX12_qFloor_7 : decode cX12_qFloor 7 = .ok (.lreturn, 1) := q_lreturn (bat_get dg_X12_qFloor_0_0 36 rfl rfl)
theorem w_7_167 : (Cond.code yX12_qFloor cX12_qFloor 6 (some .long)) ∈ wsL_law := sk_mem (ck_7 _ (List.mem_of_getElem? (i := 167) rfl)) rfl
set_option maxHeartbeats 4000000 in
set_option maxRecDepth 100000 in
theorem c_m_qFloor (l : Launch) (D : va_G) (cI cJ cC cZ cS : ClassId) (x : Int64) (y : Int64)  : skM l yX12_qFloor cX12_qFloor 6 (some .long) 0 0 0 0 D (skT cI cJ cC cZ cS) [.long x, .long y] [] (skL D (skT cI cJ cC cZ cS) (fun (r : Int64) (u : va_W) => u = [])) := by
  refine skM_of pf_X12_qFloor (Nat.le_of_ble_eq_true rfl) ?_
  intro p e s m below meth c A ls E hP hD hl
  refine skE_el E (fun hx hb hr hml hlocks hin hown hts hK hA => ?_)
  have hown : s.vm.findClass RX12 = some m.cls := hown
  have hS : va_S A s.heap s.heap [] := va_S.rf
  have hl : lv_has ls 6 [(0, .long x), (2, .long y)] := hl
  refine lv_lload_n hx hb dX12_qFloor_0 rfl (lv_at hl 1 rfl) ?_
  refine lv_lconst (v := 0) hx hb dX12_qFloor_1 (by decide) ?_
  refine W.lcmp hx hb dX12_qFloor_2 ?_
  refine lv_if_ne (tgt := 8) hx hb dX12_qFloor_3 (by decide) (fun c_1 => ?_) (fun c_1 => ?_)
  · skip
    refine lv_lload_n hx hb dX12_qFloor_8 rfl (lv_at hl 0 rfl) ?_
    refine lv_lload_n hx hb dX12_qFloor_9 rfl (lv_at hl 1 rfl) ?_
    refine lv_ldiv hx hb dX12_qFloor_10 (lg_ne0 c_1) ?_
    refine lv_topl (fun v_2 ev_2 => ?_)
    refine lv_lstore (lv' := [(4, .long v_2), (0, .long x), (2, .long y)]) hx hb dX12_qFloor_11 hl (by decide) rfl (fun ls hl => ?_)
    refine lv_lload_n hx hb dX12_qFloor_13 rfl (lv_at hl 1 rfl) ?_
    refine lv_lload_n hx hb dX12_qFloor_14 rfl (lv_at hl 2 rfl) ?_
    refine lv_lrem hx hb dX12_qFloor_15 (lg_ne0 c_1) ?_
    refine lv_topl (fun v_3 ev_3 => ?_)
    refine lv_lconst (v := 0) hx hb dX12_qFloor_16 (by decide) ?_
    refine W.lcmp hx hb dX12_qFloor_17 ?_
    refine lv_if_eq (tgt := 53) hx hb dX12_qFloor_18 (by decide) (fun c_4 => ?_) (fun c_4 => ?_)
    · skip
      refine lv_lload hx hb dX12_qFloor_53 (lv_at hl 0 rfl) ?_
      exact sk_lret hx hb hr hlocks hK hP hD hS rfl (Nat.le_of_ble_eq_true rfl) (Nat.le_of_ble_eq_true rfl) dX12_qFloor_55
    · skip
      refine lv_lload_n hx hb dX12_qFloor_21 rfl (lv_at hl 1 rfl) ?_
      refine lv_lconst (v := 0) hx hb dX12_qFloor_22 (by decide) ?_
      refine W.lcmp hx hb dX12_qFloor_23 ?_
      refine lv_if_ge (tgt := 31) hx hb dX12_qFloor_24 (by decide) (fun c_5 => ?_) (fun c_5 => ?_)
      · skip
        refine lv_iconst (v := 0) hx hb dX12_qFloor_31 (by decide) ?_
        refine lv_lload_n hx hb dX12_qFloor_32 rfl (lv_at hl 2 rfl) ?_
        refine lv_lconst (v := 0) hx hb dX12_qFloor_33 (by decide) ?_
        refine W.lcmp hx hb dX12_qFloor_34 ?_
        refine lv_if_ge (tgt := 42) hx hb dX12_qFloor_35 (by decide) (fun c_6 => ?_) (fun c_6 => ?_)
        · skip
          refine lv_iconst (v := 0) hx hb dX12_qFloor_42 (by decide) ?_
          refine lv_icmp_eq (tgt := 53) hx hb dX12_qFloor_43 (by decide) (fun c_7 => ?_) (fun c => absurd c (by decide))
          refine lv_lload hx hb dX12_qFloor_53 (lv_at hl 0 rfl) ?_
          exact sk_lret hx hb hr hlocks hK hP hD hS rfl (Nat.le_of_ble_eq_true rfl) (Nat.le_of_ble_eq_true rfl) dX12_qFloor_55
        · skip
          refine lv_iconst (v := 1) hx hb dX12_qFloor_38 (by decide) ?_
          refine lv_goto (tgt := 43) hx hb dX12_qFloor_39 (by decide) ?_
          refine lv_icmp_eq (tgt := 53) hx hb dX12_qFloor_43 (by decide) (fun c => absurd c (by decide)) (fun c_8 => ?_)
          refine lv_lload hx hb dX12_qFloor_46 (lv_at hl 0 rfl) ?_
          refine lv_lconst (v := 1) hx hb dX12_qFloor_48 (by decide) ?_
          refine lv_lsub hx hb dX12_qFloor_49 ?_
          refine lv_topl (fun v_9 ev_9 => ?_)
          refine lv_goto (tgt := 55) hx hb dX12_qFloor_50 (by decide) ?_
          exact sk_lret hx hb hr hlocks hK hP hD hS rfl (Nat.le_of_ble_eq_true rfl) (Nat.le_of_ble_eq_true rfl) dX12_qFloor_55
      · skip
        refine lv_iconst (v := 1) hx hb dX12_qFloor_27 (by decide) ?_
        refine lv_goto (tgt := 32) hx hb dX12_qFloor_28 (by decide) ?_
        refine lv_lload_n hx hb dX12_qFloor_32 rfl (lv_at hl 2 rfl) ?_
        refine lv_lconst (v := 0) hx hb dX12_qFloor_33 (by decide) ?_
        refine W.lcmp hx hb dX12_qFloor_34 ?_
        refine lv_if_ge (tgt := 42) hx hb dX12_qFloor_35 (by decide) (fun c_10 => ?_) (fun c_10 => ?_)
        · skip
          refine lv_iconst (v := 0) hx hb dX12_qFloor_42 (by decide) ?_
          refine lv_icmp_eq (tgt := 53) hx hb dX12_qFloor_43 (by decide) (fun c => absurd c (by decide)) (fun c_11 => ?_)
          refine lv_lload hx hb dX12_qFloor_46 (lv_at hl 0 rfl) ?_
          refine lv_lconst (v := 1) hx hb dX12_qFloor_48 (by decide) ?_
          refine lv_lsub hx hb dX12_qFloor_49 ?_
          refine lv_topl (fun v_12 ev_12 => ?_)
          refine lv_goto (tgt := 55) hx hb dX12_qFloor_50 (by decide) ?_
          exact sk_lret hx hb hr hlocks hK hP hD hS rfl (Nat.le_of_ble_eq_true rfl) (Nat.le_of_ble_eq_true rfl) dX12_qFloor_55
        · skip
          refine lv_iconst (v := 1) hx hb dX12_qFloor_38 (by decide) ?_
          refine lv_goto (tgt := 43) hx hb dX12_qFloor_39 (by decide) ?_
          refine lv_icmp_eq (tgt := 53) hx hb dX12_qFloor_43 (by decide) (fun c_13 => ?_) (fun c => absurd c (by decide))
          refine lv_lload hx hb dX12_qFloor_53 (lv_at hl 0 rfl) ?_
          exact sk_lret hx hb hr hlocks hK hP hD hS rfl (Nat.le_of_ble_eq_true rfl) (Nat.le_of_ble_eq_true rfl) dX12_qFloor_55
  · skip
    refine lv_lconst (v := 0) hx hb dX12_qFloor_6 (by decide) ?_
    exact sk_lret hx hb hr hlocks hK hP hD hS rfl (Nat.le_of_ble_eq_true rfl) (Nat.le_of_ble_eq_true rfl) dX12_qFloor_7
