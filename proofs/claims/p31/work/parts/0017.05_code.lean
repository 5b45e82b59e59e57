theorem lg_nonneg {a : Int64} (h : ¬ lg_cmp a 0 < 0) : 0 ≤ a.toInt := by
  rw [lg_cmp_lt, Int64.lt_iff_toInt_lt] at h
  have e0 : (0 : Int64).toInt = 0 := rfl
  rw [e0] at h
  omega
theorem lg_below10 {a : Int64} (h : ¬ 0 ≤ lg_cmp a 10) : a.toInt < (10 : Nat) := by
  rw [lg_cmp_ge, Int64.le_iff_toInt_le] at h
  have e0 : (10 : Int64).toInt = 10 := rfl
  rw [e0] at h
  omega
theorem lg_ne0 {a : Int64} (h : ¬ lg_cmp a 0 = 0) : ¬ a = 0 := fun q => h ((lg_cmp_eq a 0).mpr q)
theorem dg_X0_ofOne_0_0 : bqL cX0_ofOne 0 [(0, [27]), (1, [17, 78, 33]), (4, [160, 0, 15]), (19, [32]), (20, [9]), (21, [148]), (22, [155, 0, 21]), (43, [9]), (44, [173]), (25, [32]), (26, [20, 0, 49]), (29, [148]), (30, [156, 0, 13]), (33, [42]), (34, [180, 0, 24]), (37, [32]), (38, [136]), (39, [47]), (40, [167, 0, 4]), (7, [32]), (8, [9]), (9, [148]), (10, [154, 0, 7]), (17, [9]), (18, [173]), (13, [10]), (14, [167, 0, 4])] = true := by decide +kernel
theorem dX0_ofOne_0 : decode cX0_ofOne 0 = .ok (.iload_n 1, 1) := q_iload_n1 (bat_get dg_X0_ofOne_0_0 0 rfl rfl)
theorem dX0_ofOne_1 : decode cX0_ofOne 1 = .ok (.sipush 20001, 3) := q_sipush (bat_get dg_X0_ofOne_0_0 1 rfl rfl) rfl
theorem dX0_ofOne_4 : decode cX0_ofOne 4 = .ok (.if_icmp .ne 15, 3) := q_if_icmp_ne (bat_get dg_X0_ofOne_0_0 2 rfl rfl) rfl
theorem dX0_ofOne_19 : decode cX0_ofOne 19 = .ok (.lload_n 2, 1) := q_lload_n2 (bat_get dg_X0_ofOne_0_0 3 rfl rfl)
theorem dX0_ofOne_20 : decode cX0_ofOne 20 = .ok (.lconst 0, 1) := q_lconst0 (bat_get dg_X0_ofOne_0_0 4 rfl rfl)
theorem dX0_ofOne_21 : decode cX0_ofOne 21 = .ok (.lcmp, 1) := q_lcmp (bat_get dg_X0_ofOne_0_0 5 rfl rfl)
theorem dX0_ofOne_22 : decode cX0_ofOne 22 = .ok (.ifCond .lt 21, 3) := q_ifCond_lt (bat_get dg_X0_ofOne_0_0 6 rfl rfl) rfl
theorem dX0_ofOne_43 : decode cX0_ofOne 43 = .ok (.lconst 0, 1) := q_lconst0 (bat_get dg_X0_ofOne_0_0 7 rfl rfl)
theorem dX0_ofOne_44 : decode cX0_ofOne 44 = .ok (.lreturn, 1) := q_lreturn (bat_get dg_X0_ofOne_0_0 8 rfl rfl)
theorem dX0_ofOne_25 : decode cX0_ofOne 25 = .ok (.lload_n 2, 1) := q_lload_n2 (bat_get dg_X0_ofOne_0_0 9 rfl rfl)
theorem dX0_ofOne_26 : decode cX0_ofOne 26 = .ok (.ldc2_w 49, 3) := q_ldc2_w (bat_get dg_X0_ofOne_0_0 10 rfl rfl) rfl
theorem dX0_ofOne_29 : decode cX0_ofOne 29 = .ok (.lcmp, 1) := q_lcmp (bat_get dg_X0_ofOne_0_0 11 rfl rfl)
theorem dX0_ofOne_30 : decode cX0_ofOne 30 = .ok (.ifCond .ge 13, 3) := q_ifCond_ge (bat_get dg_X0_ofOne_0_0 12 rfl rfl) rfl
theorem dX0_ofOne_33 : decode cX0_ofOne 33 = .ok (.aload_n 0, 1) := q_aload_n0 (bat_get dg_X0_ofOne_0_0 13 rfl rfl)
theorem dX0_ofOne_34 : decode cX0_ofOne 34 = .ok (.getfield 24, 3) := q_getfield (bat_get dg_X0_ofOne_0_0 14 rfl rfl) rfl
theorem dX0_ofOne_37 : decode cX0_ofOne 37 = .ok (.lload_n 2, 1) := q_lload_n2 (bat_get dg_X0_ofOne_0_0 15 rfl rfl)
theorem dX0_ofOne_38 : decode cX0_ofOne 38 = .ok (.l2i, 1) := q_l2i (bat_get dg_X0_ofOne_0_0 16 rfl rfl)
theorem dX0_ofOne_39 : decode cX0_ofOne 39 = .ok (.laload, 1) := q_laload (bat_get dg_X0_ofOne_0_0 17 rfl rfl)
theorem dX0_ofOne_40 : decode cX0_ofOne 40 = .ok (.goto 4, 3) := q_goto (bat_get dg_X0_ofOne_0_0 18 rfl rfl) rfl
theorem dX0_ofOne_7 : decode cX0_ofOne 7 = .ok (.lload_n 2, 1) := q_lload_n2 (bat_get dg_X0_ofOne_0_0 19 rfl rfl)
theorem dX0_ofOne_8 : decode cX0_ofOne 8 = .ok (.lconst 0, 1) := q_lconst0 (bat_get dg_X0_ofOne_0_0 20 rfl rfl)
theorem dX0_ofOne_9 : decode cX0_ofOne 9 = .ok (.lcmp, 1) := q_lcmp (bat_get dg_X0_ofOne_0_0 21 rfl rfl)
theorem dX0_ofOne_10 : decode cX0_ofOne 10 = .ok (.ifCond .ne 7, 3) := q_ifCond_ne (bat_get dg_X0_ofOne_0_0 22 rfl rfl) rfl
theorem dX0_ofOne_17 : decode cX0_ofOne 17 = .ok (.lconst 0, 1) := q_lconst0 (bat_get dg_X0_ofOne_0_0 23 rfl rfl)
theorem dX0_ofOne_18 : decode cX0_ofOne 18 = .ok (.lreturn, 1) := q_lreturn (bat_get dg_X0_ofOne_0_0 24 rfl rfl)
theorem dX0_ofOne_13 : decode cX0_ofOne 13 = .ok (.lconst 1, 1) := q_lconst1 (bat_get dg_X0_ofOne_0_0 25 rfl rfl)
theorem dX0_ofOne_14 : decode cX0_ofOne 14 = .ok (.goto 4, 3) := q_goto (bat_get dg_X0_ofOne_0_0 26 rfl rfl) rfl
theorem w_4_6 : (Cond.constantLong RX0 49 (10)) ∈ wsL_law := sk_mem (ck_4 _ (List.mem_of_getElem? (i := 6) rfl)) rfl
theorem w_4_5 : (Cond.code yX0_ofOne cX0_ofOne 4 (some .long)) ∈ wsL_law := sk_mem (ck_4 _ (List.mem_of_getElem? (i := 5) rfl)) rfl
set_option maxHeartbeats 4000000 in
set_option maxRecDepth 100000 in
theorem c_Code_ofOne (l : Launch) (D : va_G) (cI cJ cC cZ cS : ClassId) (h0 : Nat) (k1 : Nat) (k2 : Nat) (k3 : Nat) (k4 : Nat) (cl : Nat) (mw : Nat) (f4 : Nat → Int64) (o : Int32) (x : Int64)  : skM l yX0_ofOne cX0_ofOne 4 (some .long) 0 0 0 0 D (skT cI cJ cC cZ cS) [.ref h0, .int o, .long x] [(h0, .inr (0, [.ref k1, .ref k2, .ref k3, .ref k4, .int (nI cl), .int (nI mw)])), (k4, .inl (cJ, 10, .inr (.inl f4)))] (skL D (skT cI cJ cC cZ cS) (fun (r : Int64) (u : va_W) => u = [(h0, .inr (0, [.ref k1, .ref k2, .ref k3, .ref k4, .int (nI cl), .int (nI mw)])), (k4, .inl (cJ, 10, .inr (.inl f4)))])) := by
  refine skM_of pf_X0_ofOne (Nat.le_of_ble_eq_true rfl) ?_
  intro p e s m below meth c A ls E hP hD hl
  refine skE_el E (fun hx hb hr hml hlocks hin hown hts hK hA => ?_)
  have hown : s.vm.findClass RX0 = some m.cls := hown
  have hS : va_S A s.heap s.heap [] := va_S.rf
  have hl : lv_has ls 4 [(0, .ref h0), (1, .int o), (2, .long x)] := hl
  refine lv_iload_n hx hb dX0_ofOne_0 rfl (lv_at hl 1 rfl) ?_
  refine lv_sipush (v := 20001) hx hb dX0_ofOne_1 (by decide) ?_
  refine lv_icmp_ne (tgt := 19) hx hb dX0_ofOne_4 (by decide) (fun c_1 => ?_) (fun c_1 => ?_)
  · skip
    refine lv_lload_n hx hb dX0_ofOne_19 rfl (lv_at hl 2 rfl) ?_
    refine lv_lconst (v := 0) hx hb dX0_ofOne_20 (by decide) ?_
    refine W.lcmp hx hb dX0_ofOne_21 ?_
    refine lv_if_lt (tgt := 43) hx hb dX0_ofOne_22 (by decide) (fun c_2 => ?_) (fun c_2 => ?_)
    · skip
      refine lv_lconst (v := 0) hx hb dX0_ofOne_43 (by decide) ?_
      exact sk_lret hx hb hr hlocks hK hP hD hS rfl (Nat.le_of_ble_eq_true rfl) (Nat.le_of_ble_eq_true rfl) dX0_ofOne_44
    · skip
      refine lv_lload_n hx hb dX0_ofOne_25 rfl (lv_at hl 2 rfl) ?_
      refine lv_ldc2 (v := 10) hx hb hown (hts _ w_4_6) dX0_ofOne_26 ?_
      refine W.lcmp hx hb dX0_ofOne_29 ?_
      refine lv_if_ge (tgt := 43) hx hb dX0_ofOne_30 (by decide) (fun c_3 => ?_) (fun c_3 => ?_)
      · skip
        refine lv_lconst (v := 0) hx hb dX0_ofOne_43 (by decide) ?_
        exact sk_lret hx hb hr hlocks hK hP hD hS rfl (Nat.le_of_ble_eq_true rfl) (Nat.le_of_ble_eq_true rfl) dX0_ofOne_44
      · skip
        refine lv_aload_n hx hb dX0_ofOne_33 rfl (lv_at hl 0 rfl) ?_
        refine sk_get (v := .ref k4) (C := RX0) (T := TX0) (N := 6) hx hb hts inlX0 hown hK hP 0 rfl rfl 3 (by decide) w_1_132 rfl dX0_ofOne_34 ?_
        refine lv_lload_n hx hb dX0_ofOne_37 rfl (lv_at hl 2 rfl) ?_
        refine lv_l2i hx hb dX0_ofOne_38 rfl ?_
        obtain ⟨k_4, hk_4, ek_4⟩ := nl2i (a := x) (n := 10) (lg_nonneg c_2) (lg_below10 c_3) (by omega)
        refine sk_top (nI k_4) ek_4 ?_
        refine va_lald hx hb hK.1 hP 1 1 rfl rfl (vin k_4 10 (by omega) (by omega)) dX0_ofOne_39 ?_
        refine lv_topl (fun v_5 ev_5 => ?_)
        refine lv_goto (tgt := 44) hx hb dX0_ofOne_40 (by decide) ?_
        exact sk_lret hx hb hr hlocks hK hP hD hS rfl (Nat.le_of_ble_eq_true rfl) (Nat.le_of_ble_eq_true rfl) dX0_ofOne_44
  · skip
    refine lv_lload_n hx hb dX0_ofOne_7 rfl (lv_at hl 2 rfl) ?_
    refine lv_lconst (v := 0) hx hb dX0_ofOne_8 (by decide) ?_
    refine W.lcmp hx hb dX0_ofOne_9 ?_
    refine lv_if_ne (tgt := 17) hx hb dX0_ofOne_10 (by decide) (fun c_6 => ?_) (fun c_6 => ?_)
    · skip
      refine lv_lconst (v := 0) hx hb dX0_ofOne_17 (by decide) ?_
      exact sk_lret hx hb hr hlocks hK hP hD hS rfl (Nat.le_of_ble_eq_true rfl) (Nat.le_of_ble_eq_true rfl) dX0_ofOne_18
    · skip
      refine lv_lconst (v := 1) hx hb dX0_ofOne_13 (by decide) ?_
      refine lv_goto (tgt := 18) hx hb dX0_ofOne_14 (by decide) ?_
      exact sk_lret hx hb hr hlocks hK hP hD hS rfl (Nat.le_of_ble_eq_true rfl) (Nat.le_of_ble_eq_true rfl) dX0_ofOne_18
theorem dg_X0_bounded_0_0 : bqL cX0_bounded 0 [(0, [30]), (1, [20, 0, 64]), (4, [148]), (5, [158, 0, 7]), (12, [30]), (13, [20, 0, 66]), (16, [148]), (17, [156, 0, 9]), (26, [30]), (27, [173]), (20, [20, 0, 66]), (23, [167, 0, 4]), (8, [20, 0, 64]), (11, [173])] = true := by decide +kernel
theorem dX0_bounded_0 : decode cX0_bounded 0 = .ok (.lload_n 0, 1) := q_lload_n0 (bat_get dg_X0_bounded_0_0 0 rfl rfl)
theorem dX0_bounded_1 : decode cX0_bounded 1 = .ok (.ldc2_w 64, 3) := q_ldc2_w (bat_get dg_X0_bounded_0_0 1 rfl rfl) rfl
theorem dX0_bounded_4 : decode cX0_bounded 4 = .ok (.lcmp, 1) := q_lcmp (bat_get dg_X0_bounded_0_0 2 rfl rfl)
theorem dX0_bounded_5 : decode cX0_bounded 5 = .ok (.ifCond .le 7, 3) := q_ifCond_le (bat_get dg_X0_bounded_0_0 3 rfl rfl) rfl
theorem dX0_bounded_12 : decode cX0_bounded 12 = .ok (.lload_n 0, 1) := q_lload_n0 (bat_get dg_X0_bounded_0_0 4 rfl rfl)
theorem dX0_bounded_13 : decode cX0_bounded 13 = .ok (.ldc2_w 66, 3) := q_ldc2_w (bat_get dg_X0_bounded_0_0 5 rfl rfl) rfl
theorem dX0_bounded_16 : decode cX0_bounded 16 = .ok (.lcmp, 1) := q_lcmp (bat_get dg_X0_bounded_0_0 6 rfl rfl)
theorem dX0_bounded_17 : decode cX0_bounded 17 = .ok (.ifCond .ge 9, 3) := q_ifCond_ge (bat_get dg_X0_bounded_0_0 7 rfl rfl) rfl
theorem dX0_bounded_26 : decode cX0_bounded 26 = .ok (.lload_n 0, 1) := q_lload_n0 (bat_get dg_X0_bounded_0_0 8 rfl rfl)
theorem dX0_bounded_27 : decode cX0_bounded 27 = .ok (.lreturn, 1) := q_lreturn (bat_get dg_X0_bounded_0_0 9 rfl rfl)
theorem dX0_bounded_20 : decode cX0_bounded 20 = .ok (.ldc2_w 66, 3) := q_ldc2_w (bat_get dg_X0_bounded_0_0 10 rfl rfl) rfl
theorem dX0_bounded_23 : decode cX0_bounded 23 = .ok (.goto 4, 3) := q_goto (bat_get dg_X0_bounded_0_0 11 rfl rfl) rfl
theorem dX0_bounded_8 : decode cX0_bounded 8 = .ok (.ldc2_w 64, 3) := q_ldc2_w (bat_get dg_X0_bounded_0_0 12 rfl rfl) rfl
theorem dX0_bounded_11 : decode cX0_bounded 11 = .ok (.lreturn, 1) := q_lreturn (bat_get dg_X0_bounded_0_0 13 rfl rfl)
theorem w_3_231 : (Cond.constantLong RX0 64 (1000000)) ∈ wsL_law := sk_mem (ck_3 _ (List.mem_of_getElem? (i := 231) rfl)) rfl
theorem w_3_232 : (Cond.constantLong RX0 66 (-1000000)) ∈ wsL_law := sk_mem (ck_3 _ (List.mem_of_getElem? (i := 232) rfl)) rfl
theorem w_3_230 : (Cond.code yX0_bounded cX0_bounded 2 (some .long)) ∈ wsL_law := sk_mem (ck_3 _ (List.mem_of_getElem? (i := 230) rfl)) rfl
set_option maxHeartbeats 4000000 in
set_option maxRecDepth 100000 in
theorem c_bounded (l : Launch) (D : va_G) (cI cJ cC cZ cS : ClassId) (x : Int64)  : skM l yX0_bounded cX0_bounded 2 (some .long) 0 0 0 0 D (skT cI cJ cC cZ cS) [.long x] [] (skL D (skT cI cJ cC cZ cS) (fun (r : Int64) (u : va_W) => u = [])) := by
  refine skM_of pf_X0_bounded (Nat.le_of_ble_eq_true rfl) ?_
  intro p e s m below meth c A ls E hP hD hl
  refine skE_el E (fun hx hb hr hml hlocks hin hown hts hK hA => ?_)
  have hown : s.vm.findClass RX0 = some m.cls := hown
  have hS : va_S A s.heap s.heap [] := va_S.rf
  have hl : lv_has ls 2 [(0, .long x)] := hl
  refine lv_lload_n hx hb dX0_bounded_0 rfl (lv_at hl 0 rfl) ?_
  refine lv_ldc2 (v := 1000000) hx hb hown (hts _ w_3_231) dX0_bounded_1 ?_
  refine W.lcmp hx hb dX0_bounded_4 ?_
  refine lv_if_le (tgt := 12) hx hb dX0_bounded_5 (by decide) (fun c_1 => ?_) (fun c_1 => ?_)
  · skip
    refine lv_lload_n hx hb dX0_bounded_12 rfl (lv_at hl 0 rfl) ?_
    refine lv_ldc2 (v := (-1000000)) hx hb hown (hts _ w_3_232) dX0_bounded_13 ?_
    refine W.lcmp hx hb dX0_bounded_16 ?_
    refine lv_if_ge (tgt := 26) hx hb dX0_bounded_17 (by decide) (fun c_2 => ?_) (fun c_2 => ?_)
    · skip
      refine lv_lload_n hx hb dX0_bounded_26 rfl (lv_at hl 0 rfl) ?_
      exact sk_lret hx hb hr hlocks hK hP hD hS rfl (Nat.le_of_ble_eq_true rfl) (Nat.le_of_ble_eq_true rfl) dX0_bounded_27
    · skip
      refine lv_ldc2 (v := (-1000000)) hx hb hown (hts _ w_3_232) dX0_bounded_20 ?_
      refine lv_goto (tgt := 27) hx hb dX0_bounded_23 (by decide) ?_
      exact sk_lret hx hb hr hlocks hK hP hD hS rfl (Nat.le_of_ble_eq_true rfl) (Nat.le_of_ble_eq_true rfl) dX0_bounded_27
  · skip
    refine lv_ldc2 (v := 1000000) hx hb hown (hts _ w_3_231) dX0_bounded_8 ?_
    exact sk_lret hx hb hr hlocks hK hP hD hS rfl (Nat.le_of_ble_eq_true rfl) (Nat.le_of_ble_eq_true rfl) dX0_bounded_11
theorem dg_J9_floorDiv_f86c9_0_0 : bqL cJ9_floorDiv_f86c9 0 [(0, [30]), (1, [32]), (2, [109]), (3, [55, 4]), (5, [30]), (6, [32]), (7, [131]), (8, [9]), (9, [148]), (10, [156, 0, 17]), (27, [22, 4]), (29, [173]), (13, [22, 4]), (15, [32]), (16, [105]), (17, [30]), (18, [148]), (19, [153, 0, 8]), (22, [22, 4]), (24, [10]), (25, [101]), (26, [173])] = true := by decide +kernel
theorem dJ9_floorDiv_f86c9_0 : decode cJ9_floorDiv_f86c9 0 = .ok (.lload_n 0, 1) := q_lload_n0 (bat_get dg_J9_floorDiv_f86c9_0_0 0 rfl rfl)
theorem dJ9_floorDiv_f86c9_1 : decode cJ9_floorDiv_f86c9 1 = .ok (.lload_n 2, 1) := q_lload_n2 (bat_get dg_J9_floorDiv_f86c9_0_0 1 rfl rfl)
theorem dJ9_floorDiv_f86c9_2 : decode cJ9_floorDiv_f86c9 2 = .ok (.ldiv, 1) := q_ldiv (bat_get dg_J9_floorDiv_f86c9_0_0 2 rfl rfl)
theorem dJ9_floorDiv_f86c9_3 : decode cJ9_floorDiv_f86c9 3 = .ok (.lstore 4, 2) := q_lstore (bat_get dg_J9_floorDiv_f86c9_0_0 3 rfl rfl)
theorem dJ9_floorDiv_f86c9_5 : decode cJ9_floorDiv_f86c9 5 = .ok (.lload_n 0, 1) := q_lload_n0 (bat_get dg_J9_floorDiv_f86c9_0_0 4 rfl rfl)
theorem dJ9_floorDiv_f86c9_6 : decode cJ9_floorDiv_f86c9 6 = .ok (.lload_n 2, 1) := q_lload_n2 (bat_get dg_J9_floorDiv_f86c9_0_0 5 rfl rfl)
theorem dJ9_floorDiv_f86c9_7 : decode cJ9_floorDiv_f86c9 7 = .ok (.lxor, 1) := q_lxor (bat_get dg_J9_floorDiv_f86c9_0_0 6 rfl rfl)
theorem dJ9_floorDiv_f86c9_8 : decode cJ9_floorDiv_f86c9 8 = .ok (.lconst 0, 1) := q_lconst0 (bat_get dg_J9_floorDiv_f86c9_0_0 7 rfl rfl)
theorem dJ9_floorDiv_f86c9_9 : decode cJ9_floorDiv_f86c9 9 = .ok (.lcmp, 1) := q_lcmp (bat_get dg_J9_floorDiv_f86c9_0_0 8 rfl rfl)
theorem dJ9_floorDiv_f86c9_10 : decode cJ9_floorDiv_f86c9 10 = .ok (.ifCond .ge 17, 3) := q_ifCond_ge (bat_get dg_J9_floorDiv_f86c9_0_0 9 rfl rfl) rfl
theorem dJ9_floorDiv_f86c9_27 : decode cJ9_floorDiv_f86c9 27 = .ok (.lload 4, 2) := q_lload (bat_get dg_J9_floorDiv_f86c9_0_0 10 rfl rfl)
theorem dJ9_floorDiv_f86c9_29 : decode cJ9_floorDiv_f86c9 29 = .ok (.lreturn, 1) := q_lreturn (bat_get dg_J9_floorDiv_f86c9_0_0 11 rfl rfl)
theorem dJ9_floorDiv_f86c9_13 : decode cJ9_floorDiv_f86c9 13 = .ok (.lload 4, 2) := q_lload (bat_get dg_J9_floorDiv_f86c9_0_0 12 rfl rfl)
theorem dJ9_floorDiv_f86c9_15 : decode cJ9_floorDiv_f86c9 15 = .ok (.lload_n 2, 1) := q_lload_n2 (bat_get dg_J9_floorDiv_f86c9_0_0 13 rfl rfl)
theorem dJ9_floorDiv_f86c9_16 : decode cJ9_floorDiv_f86c9 16 = .ok (.lmul, 1) := q_lmul (bat_get dg_J9_floorDiv_f86c9_0_0 14 rfl rfl)
theorem dJ9_floorDiv_f86c9_17 : decode cJ9_floorDiv_f86c9 17 = .ok (.lload_n 0, 1) := q_lload_n0 (bat_get dg_J9_floorDiv_f86c9_0_0 15 rfl rfl)
theorem dJ9_floorDiv_f86c9_18 : decode cJ9_floorDiv_f86c9 18 = .ok (.lcmp, 1) := q_lcmp (bat_get dg_J9_floorDiv_f86c9_0_0 16 rfl rfl)
theorem dJ9_floorDiv_f86c9_19 : decode cJ9_floorDiv_f86c9 19 = .ok (.ifCond .eq 8, 3) := q_ifCond_eq (bat_get dg_J9_floorDiv_f86c9_0_0 17 rfl rfl) rfl
theorem dJ9_floorDiv_f86c9_22 : decode cJ9_floorDiv_f86c9 22 = .ok (.lload 4, 2) := q_lload (bat_get dg_J9_floorDiv_f86c9_0_0 18 rfl rfl)
theorem dJ9_floorDiv_f86c9_24 : decode cJ9_floorDiv_f86c9 24 = .ok (.lconst 1, 1) := q_lconst1 (bat_get dg_J9_floorDiv_f86c9_0_0 19 rfl rfl)
theorem dJ9_floorDiv_f86c9_25 : decode cJ9_floorDiv_f86c9 25 = .ok (.lsub, 1) := q_lsub (bat_get dg_J9_floorDiv_f86c9_0_0 20 rfl rfl)
theorem dJ9_floorDiv_f86c9_26 : decode cJ9_floorDiv_f86c9 26 = .ok (.lreturn, 1) := q_lreturn (bat_get dg_J9_floorDiv_f86c9_0_0 21 rfl rfl)
theorem w_3_235 : (Cond.code yJ9_floorDiv_f86c9 cJ9_floorDiv_f86c9 6 (some .long)) ∈ wsL_law := sk_mem (ck_3 _ (List.mem_of_getElem? (i := 235) rfl)) rfl
set_option maxHeartbeats 4000000 in
set_option maxRecDepth 100000 in
theorem c_floorDiv (l : Launch) (D : va_G) (cI cJ cC cZ cS : ClassId) (x : Int64) (y : Int64) (hy : ¬ y = 0) : skM l yJ9_floorDiv_f86c9 cJ9_floorDiv_f86c9 6 (some .long) 0 0 0 0 D (skT cI cJ cC cZ cS) [.long x, .long y] [] (skL D (skT cI cJ cC cZ cS) (fun (r : Int64) (u : va_W) => u = [])) := by
  refine skM_of pf_J9_floorDiv_f86c9 (Nat.le_of_ble_eq_true rfl) ?_
  intro p e s m below meth c A ls E hP hD hl
  refine skE_el E (fun hx hb hr hml hlocks hin hown hts hK hA => ?_)
  have hown : s.vm.findClass RJ9 = some m.cls := hown
  have hS : va_S A s.heap s.heap [] := va_S.rf
  have hl : lv_has ls 6 [(0, .long x), (2, .long y)] := hl
  refine lv_lload_n hx hb dJ9_floorDiv_f86c9_0 rfl (lv_at hl 0 rfl) ?_
  refine lv_lload_n hx hb dJ9_floorDiv_f86c9_1 rfl (lv_at hl 1 rfl) ?_
  refine lv_ldiv hx hb dJ9_floorDiv_f86c9_2 hy ?_
  refine lv_topl (fun v_1 ev_1 => ?_)
  refine lv_lstore (lv' := [(4, .long v_1), (0, .long x), (2, .long y)]) hx hb dJ9_floorDiv_f86c9_3 hl (by decide) rfl (fun ls hl => ?_)
  refine lv_lload_n hx hb dJ9_floorDiv_f86c9_5 rfl (lv_at hl 1 rfl) ?_
  refine lv_lload_n hx hb dJ9_floorDiv_f86c9_6 rfl (lv_at hl 2 rfl) ?_
  refine lv_lxor hx hb dJ9_floorDiv_f86c9_7 ?_
  refine lv_topl (fun v_2 ev_2 => ?_)
  refine lv_lconst (v := 0) hx hb dJ9_floorDiv_f86c9_8 (by decide) ?_
  refine W.lcmp hx hb dJ9_floorDiv_f86c9_9 ?_
  refine lv_if_ge (tgt := 27) hx hb dJ9_floorDiv_f86c9_10 (by decide) (fun c_3 => ?_) (fun c_3 => ?_)
  · skip
    refine lv_lload hx hb dJ9_floorDiv_f86c9_27 (lv_at hl 0 rfl) ?_
    exact sk_lret hx hb hr hlocks hK hP hD hS rfl (Nat.le_of_ble_eq_true rfl) (Nat.le_of_ble_eq_true rfl) dJ9_floorDiv_f86c9_29
  · skip
    refine lv_lload hx hb dJ9_floorDiv_f86c9_13 (lv_at hl 0 rfl) ?_
    refine lv_lload_n hx hb dJ9_floorDiv_f86c9_15 rfl (lv_at hl 2 rfl) ?_
    refine lv_lmul hx hb dJ9_floorDiv_f86c9_16 ?_
    refine lv_topl (fun v_4 ev_4 => ?_)
    refine lv_lload_n hx hb dJ9_floorDiv_f86c9_17 rfl (lv_at hl 1 rfl) ?_
    refine W.lcmp hx hb dJ9_floorDiv_f86c9_18 ?_
    refine lv_if_eq (tgt := 27) hx hb dJ9_floorDiv_f86c9_19 (by decide) (fun c_5 => ?_) (fun c_5 => ?_)
    · skip
      refine lv_lload hx hb dJ9_floorDiv_f86c9_27 (lv_at hl 0 rfl) ?_
      exact sk_lret hx hb hr hlocks hK hP hD hS rfl (Nat.le_of_ble_eq_true rfl) (Nat.le_of_ble_eq_true rfl) dJ9_floorDiv_f86c9_29
    · skip
      refine lv_lload hx hb dJ9_floorDiv_f86c9_22 (lv_at hl 0 rfl) ?_
      refine lv_lconst (v := 1) hx hb dJ9_floorDiv_f86c9_24 (by decide) ?_
      refine lv_lsub hx hb dJ9_floorDiv_f86c9_25 ?_
      refine lv_topl (fun v_6 ev_6 => ?_)
      exact sk_lret hx hb hr hlocks hK hP hD hS rfl (Nat.le_of_ble_eq_true rfl) (Nat.le_of_ble_eq_true rfl) dJ9_floorDiv_f86c9_26
