theorem dg_X1_next_0_0 : bqL cX1_next 0 [(0, [42]), (1, [180, 0, 9]), (4, [27]), (5, [16, 10]), (7, [104]), (8, [28]), (9, [96]), (10, [46]), (11, [42]), (12, [180, 0, 15]), (15, [27]), (16, [46]), (17, [126]), (18, [42]), (19, [180, 0, 18]), (22, [27]), (23, [4]), (24, [96]), (25, [46]), (26, [126]), (27, [172])] = true := by decide +kernel
theorem dX1_next_0 : decode cX1_next 0 = .ok (.aload_n 0, 1) := q_aload_n0 (bat_get dg_X1_next_0_0 0 rfl rfl)
theorem dX1_next_1 : decode cX1_next 1 = .ok (.getfield 9, 3) := q_getfield (bat_get dg_X1_next_0_0 1 rfl rfl) rfl
theorem dX1_next_4 : decode cX1_next 4 = .ok (.iload_n 1, 1) := q_iload_n1 (bat_get dg_X1_next_0_0 2 rfl rfl)
theorem dX1_next_5 : decode cX1_next 5 = .ok (.bipush 10, 2) := q_bipush (bat_get dg_X1_next_0_0 3 rfl rfl) rfl
theorem dX1_next_7 : decode cX1_next 7 = .ok (.imul, 1) := q_imul (bat_get dg_X1_next_0_0 4 rfl rfl)
theorem dX1_next_8 : decode cX1_next 8 = .ok (.iload_n 2, 1) := q_iload_n2 (bat_get dg_X1_next_0_0 5 rfl rfl)
theorem dX1_next_9 : decode cX1_next 9 = .ok (.iadd, 1) := q_iadd (bat_get dg_X1_next_0_0 6 rfl rfl)
theorem dX1_next_10 : decode cX1_next 10 = .ok (.iaload, 1) := q_iaload (bat_get dg_X1_next_0_0 7 rfl rfl)
theorem dX1_next_11 : decode cX1_next 11 = .ok (.aload_n 0, 1) := q_aload_n0 (bat_get dg_X1_next_0_0 8 rfl rfl)
theorem dX1_next_12 : decode cX1_next 12 = .ok (.getfield 15, 3) := q_getfield (bat_get dg_X1_next_0_0 9 rfl rfl) rfl
theorem dX1_next_15 : decode cX1_next 15 = .ok (.iload_n 1, 1) := q_iload_n1 (bat_get dg_X1_next_0_0 10 rfl rfl)
theorem dX1_next_16 : decode cX1_next 16 = .ok (.iaload, 1) := q_iaload (bat_get dg_X1_next_0_0 11 rfl rfl)
theorem dX1_next_17 : decode cX1_next 17 = .ok (.iand, 1) := q_iand (bat_get dg_X1_next_0_0 12 rfl rfl)
theorem dX1_next_18 : decode cX1_next 18 = .ok (.aload_n 0, 1) := q_aload_n0 (bat_get dg_X1_next_0_0 13 rfl rfl)
theorem dX1_next_19 : decode cX1_next 19 = .ok (.getfield 18, 3) := q_getfield (bat_get dg_X1_next_0_0 14 rfl rfl) rfl
theorem dX1_next_22 : decode cX1_next 22 = .ok (.iload_n 1, 1) := q_iload_n1 (bat_get dg_X1_next_0_0 15 rfl rfl)
theorem dX1_next_23 : decode cX1_next 23 = .ok (.iconst 1, 1) := q_iconst1 (bat_get dg_X1_next_0_0 16 rfl rfl)
theorem dX1_next_24 : decode cX1_next 24 = .ok (.iadd, 1) := q_iadd (bat_get dg_X1_next_0_0 17 rfl rfl)
theorem dX1_next_25 : decode cX1_next 25 = .ok (.iaload, 1) := q_iaload (bat_get dg_X1_next_0_0 18 rfl rfl)
theorem dX1_next_26 : decode cX1_next 26 = .ok (.iand, 1) := q_iand (bat_get dg_X1_next_0_0 19 rfl rfl)
theorem dX1_next_27 : decode cX1_next 27 = .ok (.ireturn, 1) := q_ireturn (bat_get dg_X1_next_0_0 20 rfl rfl)
theorem w_2_96 : (Cond.fieldLink RX1 9 "SameKeeper$Graph" "leads" "[I") ∈ wsL_law := sk_mem (ck_2 _ (List.mem_of_getElem? (i := 96) rfl)) rfl
theorem w_2_97 : (Cond.fieldLink RX1 15 "SameKeeper$Graph" "allowed" "[I") ∈ wsL_law := sk_mem (ck_2 _ (List.mem_of_getElem? (i := 97) rfl)) rfl
theorem w_2_98 : (Cond.fieldLink RX1 18 "SameKeeper$Graph" "live" "[I") ∈ wsL_law := sk_mem (ck_2 _ (List.mem_of_getElem? (i := 98) rfl)) rfl
theorem w_4_60 : (Cond.code yX1_next cX1_next 3 (some .int)) ∈ wsL_law := sk_mem (ck_4 _ (List.mem_of_getElem? (i := 60) rfl)) rfl
set_option maxHeartbeats 4000000 in
set_option maxRecDepth 100000 in
theorem c_next (l : Launch) (D : va_G) (cI cJ cC cZ cS : ClassId) (q : Nat → Nat) (gd : Nat) (gs : Nat) (e1 : Nat → Int32) (e2 : Nat → Int32) (e3 : Nat → Int32) (d : Nat) (ah : Nat) (hd : d < 9) (hah : ah < 10) : skM l yX1_next cX1_next 3 (some .int) 0 0 0 0 D (skT cI cJ cC cZ cS) [.ref (q 11), .int (nI d), .int (nI ah)] [(q 11, .inr (1, [.ref (q 10), .ref (q 67), .ref (q 68), .ref (q 69), .ref (q 70), .ref (q 71), .ref (q 72), .int (nI gd), .int (nI gs)])), (q 67, .inl (cI, 90, .inl e1)), (q 68, .inl (cI, 9, .inl e2)), (q 69, .inl (cI, 10, .inl e3))] (skI D (skT cI cJ cC cZ cS) (fun (r : Int32) (u : va_W) => u = [(q 11, .inr (1, [.ref (q 10), .ref (q 67), .ref (q 68), .ref (q 69), .ref (q 70), .ref (q 71), .ref (q 72), .int (nI gd), .int (nI gs)])), (q 67, .inl (cI, 90, .inl e1)), (q 68, .inl (cI, 9, .inl e2)), (q 69, .inl (cI, 10, .inl e3))])) := by
  refine skM_of pf_X1_next (Nat.le_of_ble_eq_true rfl) ?_
  intro p e s m below meth c A ls E hP hD hl
  refine skE_el E (fun hx hb hr hml hlocks hin hown hts hK hA => ?_)
  have hown : s.vm.findClass RX1 = some m.cls := hown
  have hS : va_S A s.heap s.heap [] := va_S.rf
  have hl : lv_has ls 3 [(0, .ref (q 11)), (1, .int (nI d)), (2, .int (nI ah))] := hl
  refine lv_aload_n hx hb dX1_next_0 rfl (lv_at hl 0 rfl) ?_
  refine sk_get (v := .ref (q 67)) (C := RX1) (T := TX1) (N := 9) hx hb hts inlX1 hown hK hP 0 rfl rfl 1 (by decide) w_2_96 rfl dX1_next_1 ?_
  refine lv_iload_n hx hb dX1_next_4 rfl (lv_at hl 1 rfl) ?_
  refine lv_bipush (v := 10) hx hb dX1_next_5 (by decide) ?_
  refine lv_imul hx hb dX1_next_7 ?_
  refine sk_top (nI (d * 10)) (nmul d 10) ?_
  refine lv_iload_n hx hb dX1_next_8 rfl (lv_at hl 2 rfl) ?_
  refine lv_iadd hx hb dX1_next_9 ?_
  refine sk_top (nI (d * 10 + ah)) (nI_add (d * 10) ah) ?_
  refine va_iald hx hb hK.1 hP 1 0 rfl rfl (vin (d * 10 + ah) 90 (by omega) (by omega)) dX1_next_10 ?_
  refine lv_topi (fun v_1 ev_1 => ?_)
  refine lv_aload_n hx hb dX1_next_11 rfl (lv_at hl 0 rfl) ?_
  refine sk_get (v := .ref (q 68)) (C := RX1) (T := TX1) (N := 9) hx hb hts inlX1 hown hK hP 0 rfl rfl 2 (by decide) w_2_97 rfl dX1_next_12 ?_
  refine lv_iload_n hx hb dX1_next_15 rfl (lv_at hl 1 rfl) ?_
  refine va_iald hx hb hK.1 hP 2 0 rfl rfl (vin d 9 (by omega) (by omega)) dX1_next_16 ?_
  refine lv_topi (fun v_2 ev_2 => ?_)
  refine lv_iand hx hb dX1_next_17 ?_
  refine lv_topi (fun v_3 ev_3 => ?_)
  refine lv_aload_n hx hb dX1_next_18 rfl (lv_at hl 0 rfl) ?_
  refine sk_get (v := .ref (q 69)) (C := RX1) (T := TX1) (N := 9) hx hb hts inlX1 hown hK hP 0 rfl rfl 3 (by decide) w_2_98 rfl dX1_next_19 ?_
  refine lv_iload_n hx hb dX1_next_22 rfl (lv_at hl 1 rfl) ?_
  refine lv_iconst (v := 1) hx hb dX1_next_23 (by decide) ?_
  refine lv_iadd hx hb dX1_next_24 ?_
  refine sk_top (nI (d + 1)) (nI_add d 1) ?_
  refine va_iald hx hb hK.1 hP 3 0 rfl rfl (vin (d + 1) 10 (by omega) (by omega)) dX1_next_25 ?_
  refine lv_topi (fun v_4 ev_4 => ?_)
  refine lv_iand hx hb dX1_next_26 ?_
  refine lv_topi (fun v_5 ev_5 => ?_)
  exact sk_iret hx hb hr rfl hlocks hK hP hD hS rfl (Nat.le_of_ble_eq_true rfl) (Nat.le_of_ble_eq_true rfl) dX1_next_27
theorem dg_X1_allowOnly_0_0 : bqL cX1_allowOnly 0 [(0, [42]), (1, [180, 0, 15]), (4, [27]), (5, [92]), (6, [46]), (7, [28]), (8, [126]), (9, [79]), (10, [177])] = true := by decide +kernel
theorem dX1_allowOnly_0 : decode cX1_allowOnly 0 = .ok (.aload_n 0, 1) := q_aload_n0 (bat_get dg_X1_allowOnly_0_0 0 rfl rfl)
theorem dX1_allowOnly_1 : decode cX1_allowOnly 1 = .ok (.getfield 15, 3) := q_getfield (bat_get dg_X1_allowOnly_0_0 1 rfl rfl) rfl
theorem dX1_allowOnly_4 : decode cX1_allowOnly 4 = .ok (.iload_n 1, 1) := q_iload_n1 (bat_get dg_X1_allowOnly_0_0 2 rfl rfl)
theorem dX1_allowOnly_5 : decode cX1_allowOnly 5 = .ok (.dup2, 1) := q_dup2 (bat_get dg_X1_allowOnly_0_0 3 rfl rfl)
theorem dX1_allowOnly_6 : decode cX1_allowOnly 6 = .ok (.iaload, 1) := q_iaload (bat_get dg_X1_allowOnly_0_0 4 rfl rfl)
theorem dX1_allowOnly_7 : decode cX1_allowOnly 7 = .ok (.iload_n 2, 1) := q_iload_n2 (bat_get dg_X1_allowOnly_0_0 5 rfl rfl)
theorem dX1_allowOnly_8 : decode cX1_allowOnly 8 = .ok (.iand, 1) := q_iand (bat_get dg_X1_allowOnly_0_0 6 rfl rfl)
theorem dX1_allowOnly_9 : decode cX1_allowOnly 9 = .ok (.iastore, 1) := q_iastore (bat_get dg_X1_allowOnly_0_0 7 rfl rfl)
theorem dX1_allowOnly_10 : decode cX1_allowOnly 10 = .ok (.return_, 1) := q_return_ (bat_get dg_X1_allowOnly_0_0 8 rfl rfl)
theorem w_4_201 : (Cond.code yX1_allowOnly cX1_allowOnly 3 none) ∈ wsL_law := sk_mem (ck_4 _ (List.mem_of_getElem? (i := 201) rfl)) rfl
set_option maxHeartbeats 4000000 in
set_option maxRecDepth 100000 in
theorem c_allowOnly (l : Launch) (D : va_G) (cI cJ cC cZ cS : ClassId) (q : Nat → Nat) (gd : Nat) (gs : Nat) (e2 : Nat → Int32) (d : Nat) (o : Int32) (hd : d < 9) : skM l yX1_allowOnly cX1_allowOnly 3 none 0 0 0 0 D (skT cI cJ cC cZ cS) [.ref (q 11), .int (nI d), .int o] [(q 11, .inr (1, [.ref (q 10), .ref (q 67), .ref (q 68), .ref (q 69), .ref (q 70), .ref (q 71), .ref (q 72), .int (nI gd), .int (nI gs)])), (q 68, .inl (cI, 9, .inl e2))] (skV D (skT cI cJ cC cZ cS) (fun (u : va_W) => ∃ (g2 : Nat → Int32), u = [(q 11, .inr (1, [.ref (q 10), .ref (q 67), .ref (q 68), .ref (q 69), .ref (q 70), .ref (q 71), .ref (q 72), .int (nI gd), .int (nI gs)])), (q 68, .inl (cI, 9, .inl g2))])) := by
  refine skM_of pf_X1_allowOnly (Nat.le_of_ble_eq_true rfl) ?_
  intro p e s m below meth c A ls E hP hD hl
  refine skE_el E (fun hx hb hr hml hlocks hin hown hts hK hA => ?_)
  have hown : s.vm.findClass RX1 = some m.cls := hown
  have hS : va_S A s.heap s.heap [] := va_S.rf
  have hl : lv_has ls 3 [(0, .ref (q 11)), (1, .int (nI d)), (2, .int o)] := hl
  refine lv_aload_n hx hb dX1_allowOnly_0 rfl (lv_at hl 0 rfl) ?_
  refine sk_get (v := .ref (q 68)) (C := RX1) (T := TX1) (N := 9) hx hb hts inlX1 hown hK hP 0 rfl rfl 2 (by decide) w_2_97 rfl dX1_allowOnly_1 ?_
  refine lv_iload_n hx hb dX1_allowOnly_4 rfl (lv_at hl 1 rfl) ?_
  refine lv_dup2_11 hx hb dX1_allowOnly_5 rfl rfl ?_
  refine va_iald hx hb hK.1 hP 1 0 rfl rfl (vin d 9 (by omega) (by omega)) dX1_allowOnly_6 ?_
  refine lv_topi (fun v_1 ev_1 => ?_)
  refine lv_iload_n hx hb dX1_allowOnly_7 rfl (lv_at hl 2 rfl) ?_
  refine lv_iand hx hb dX1_allowOnly_8 ?_
  refine lv_topi (fun v_2 ev_2 => ?_)
  refine sk_iastO (ws' := fun f_3 => [(q 11, .inr (1, [.ref (q 10), .ref (q 67), .ref (q 68), .ref (q 69), .ref (q 70), .ref (q 71), .ref (q 72), .int (nI gd), .int (nI gs)])), (q 68, .inl (cI, 9, .inl f_3))]) hx hb hK hP hD hS 1 0 rfl rfl (vin d 9 (by omega) (by omega)) (fun _ => rfl) dX1_allowOnly_9 (fun f_3 H locs hP hD hS => ?_)
  exact sk_vret hx hb hr hlocks hK hP hD hS (⟨f_3, rfl⟩) (Nat.le_of_ble_eq_true rfl) (Nat.le_of_ble_eq_true rfl) dX1_allowOnly_10
theorem dg_X1_lay_0_0 : bqL cX1_lay 0 [(0, [42]), (1, [43]), (2, [180, 0, 42]), (5, [181, 0, 31]), (8, [42]), (9, [43]), (10, [180, 0, 45]), (13, [181, 0, 35]), (16, [42]), (17, [180, 0, 15]), (20, [17, 3, 255]), (23, [184, 0, 48]), (26, [3]), (27, [54, 4]), (29, [21, 4]), (31, [42]), (32, [180, 0, 31]), (35, [162, 0, 115]), (150, [177]), (53, [54, 5]), (55, [3]), (56, [54, 6]), (58, [21, 6]), (60, [16, 10]), (62, [162, 0, 82]), (144, [132, 4, 1]), (147, [167, 255, 138]), (65, [21, 4]), (67, [16, 10]), (69, [104]), (70, [21, 6]), (72, [96]), (73, [54, 7]), (75, [21, 5]), (77, [153, 0, 25]), (102, [42]), (103, [180, 0, 9]), (106, [21, 7]), (108, [29]), (109, [154, 0, 16])] = true := by decide +kernel
theorem dX1_lay_0 : decode cX1_lay 0 = .ok (.aload_n 0, 1) := q_aload_n0 (bat_get dg_X1_lay_0_0 0 rfl rfl)
theorem dX1_lay_1 : decode cX1_lay 1 = .ok (.aload_n 1, 1) := q_aload_n1 (bat_get dg_X1_lay_0_0 1 rfl rfl)
theorem dX1_lay_2 : decode cX1_lay 2 = .ok (.getfield 42, 3) := q_getfield (bat_get dg_X1_lay_0_0 2 rfl rfl) rfl
theorem dX1_lay_5 : decode cX1_lay 5 = .ok (.putfield 31, 3) := q_putfield (bat_get dg_X1_lay_0_0 3 rfl rfl) rfl
theorem dX1_lay_8 : decode cX1_lay 8 = .ok (.aload_n 0, 1) := q_aload_n0 (bat_get dg_X1_lay_0_0 4 rfl rfl)
theorem dX1_lay_9 : decode cX1_lay 9 = .ok (.aload_n 1, 1) := q_aload_n1 (bat_get dg_X1_lay_0_0 5 rfl rfl)
theorem dX1_lay_10 : decode cX1_lay 10 = .ok (.getfield 45, 3) := q_getfield (bat_get dg_X1_lay_0_0 6 rfl rfl) rfl
theorem dX1_lay_13 : decode cX1_lay 13 = .ok (.putfield 35, 3) := q_putfield (bat_get dg_X1_lay_0_0 7 rfl rfl) rfl
theorem dX1_lay_16 : decode cX1_lay 16 = .ok (.aload_n 0, 1) := q_aload_n0 (bat_get dg_X1_lay_0_0 8 rfl rfl)
theorem dX1_lay_17 : decode cX1_lay 17 = .ok (.getfield 15, 3) := q_getfield (bat_get dg_X1_lay_0_0 9 rfl rfl) rfl
theorem dX1_lay_20 : decode cX1_lay 20 = .ok (.sipush 1023, 3) := q_sipush (bat_get dg_X1_lay_0_0 10 rfl rfl) rfl
theorem dX1_lay_23 : decode cX1_lay 23 = .ok (.invokestatic 48, 3) := q_invokestatic (bat_get dg_X1_lay_0_0 11 rfl rfl) rfl
theorem dX1_lay_26 : decode cX1_lay 26 = .ok (.iconst 0, 1) := q_iconst0 (bat_get dg_X1_lay_0_0 12 rfl rfl)
theorem dX1_lay_27 : decode cX1_lay 27 = .ok (.istore 4, 2) := q_istore (bat_get dg_X1_lay_0_0 13 rfl rfl)
theorem dX1_lay_29 : decode cX1_lay 29 = .ok (.iload 4, 2) := q_iload (bat_get dg_X1_lay_0_0 14 rfl rfl)
theorem dX1_lay_31 : decode cX1_lay 31 = .ok (.aload_n 0, 1) := q_aload_n0 (bat_get dg_X1_lay_0_0 15 rfl rfl)
theorem dX1_lay_32 : decode cX1_lay 32 = .ok (.getfield 31, 3) := q_getfield (bat_get dg_X1_lay_0_0 16 rfl rfl) rfl
theorem dX1_lay_35 : decode cX1_lay 35 = .ok (.if_icmp .ge 115, 3) := q_if_icmp_ge (bat_get dg_X1_lay_0_0 17 rfl rfl) rfl
theorem dX1_lay_150 : decode cX1_lay 150 = .ok (.return_, 1) := q_return_ (bat_get dg_X1_lay_0_0 18 rfl rfl)
theorem dX1_lay_53 : decode cX1_lay 53 = .ok (.istore 5, 2) := q_istore (bat_get dg_X1_lay_0_0 19 rfl rfl)
theorem dX1_lay_55 : decode cX1_lay 55 = .ok (.iconst 0, 1) := q_iconst0 (bat_get dg_X1_lay_0_0 20 rfl rfl)
theorem dX1_lay_56 : decode cX1_lay 56 = .ok (.istore 6, 2) := q_istore (bat_get dg_X1_lay_0_0 21 rfl rfl)
theorem dX1_lay_58 : decode cX1_lay 58 = .ok (.iload 6, 2) := q_iload (bat_get dg_X1_lay_0_0 22 rfl rfl)
theorem dX1_lay_60 : decode cX1_lay 60 = .ok (.bipush 10, 2) := q_bipush (bat_get dg_X1_lay_0_0 23 rfl rfl) rfl
theorem dX1_lay_62 : decode cX1_lay 62 = .ok (.if_icmp .ge 82, 3) := q_if_icmp_ge (bat_get dg_X1_lay_0_0 24 rfl rfl) rfl
theorem dX1_lay_144 : decode cX1_lay 144 = .ok (.iinc 4 1, 3) := q_iinc (bat_get dg_X1_lay_0_0 25 rfl rfl) rfl
theorem dX1_lay_147 : decode cX1_lay 147 = .ok (.goto (-118), 3) := q_goto (bat_get dg_X1_lay_0_0 26 rfl rfl) rfl
theorem dX1_lay_65 : decode cX1_lay 65 = .ok (.iload 4, 2) := q_iload (bat_get dg_X1_lay_0_0 27 rfl rfl)
theorem dX1_lay_67 : decode cX1_lay 67 = .ok (.bipush 10, 2) := q_bipush (bat_get dg_X1_lay_0_0 28 rfl rfl) rfl
theorem dX1_lay_69 : decode cX1_lay 69 = .ok (.imul, 1) := q_imul (bat_get dg_X1_lay_0_0 29 rfl rfl)
theorem dX1_lay_70 : decode cX1_lay 70 = .ok (.iload 6, 2) := q_iload (bat_get dg_X1_lay_0_0 30 rfl rfl)
theorem dX1_lay_72 : decode cX1_lay 72 = .ok (.iadd, 1) := q_iadd (bat_get dg_X1_lay_0_0 31 rfl rfl)
theorem dX1_lay_73 : decode cX1_lay 73 = .ok (.istore 7, 2) := q_istore (bat_get dg_X1_lay_0_0 32 rfl rfl)
theorem dX1_lay_75 : decode cX1_lay 75 = .ok (.iload 5, 2) := q_iload (bat_get dg_X1_lay_0_0 33 rfl rfl)
theorem dX1_lay_77 : decode cX1_lay 77 = .ok (.ifCond .eq 25, 3) := q_ifCond_eq (bat_get dg_X1_lay_0_0 34 rfl rfl) rfl
theorem dX1_lay_102 : decode cX1_lay 102 = .ok (.aload_n 0, 1) := q_aload_n0 (bat_get dg_X1_lay_0_0 35 rfl rfl)
theorem dX1_lay_103 : decode cX1_lay 103 = .ok (.getfield 9, 3) := q_getfield (bat_get dg_X1_lay_0_0 36 rfl rfl) rfl
theorem dX1_lay_106 : decode cX1_lay 106 = .ok (.iload 7, 2) := q_iload (bat_get dg_X1_lay_0_0 37 rfl rfl)
theorem dX1_lay_108 : decode cX1_lay 108 = .ok (.iload_n 3, 1) := q_iload_n3 (bat_get dg_X1_lay_0_0 38 rfl rfl)
theorem dX1_lay_109 : decode cX1_lay 109 = .ok (.ifCond .ne 16, 3) := q_ifCond_ne (bat_get dg_X1_lay_0_0 39 rfl rfl) rfl
theorem dg_X1_lay_38_125 : bqL cX1_lay 38 [(87, [42]), (88, [180, 0, 38]), (91, [21, 4]), (93, [21, 6]), (95, [29]), (96, [182, 0, 62]), (99, [79]), (100, [132, 6, 1]), (103, [167, 255, 173]), (74, [42]), (75, [180, 0, 38]), (78, [180, 0, 59]), (81, [21, 7]), (83, [46]), (84, [167, 0, 15]), (42, [42]), (43, [180, 0, 9]), (46, [21, 7]), (48, [4]), (49, [42]), (50, [180, 0, 38]), (53, [180, 0, 54]), (56, [21, 7]), (58, [46]), (59, [120]), (60, [79]), (61, [167, 0, 39]), (0, [28]), (1, [21, 4]), (3, [122]), (4, [4]), (5, [126]), (6, [4]), (7, [160, 0, 7]), (14, [3]), (10, [4]), (11, [167, 0, 4])] = true := by decide +kernel
theorem dX1_lay_125 : decode cX1_lay 125 = .ok (.aload_n 0, 1) := q_aload_n0 (bat_get dg_X1_lay_38_125 0 rfl rfl)
theorem dX1_lay_126 : decode cX1_lay 126 = .ok (.getfield 38, 3) := q_getfield (bat_get dg_X1_lay_38_125 1 rfl rfl) rfl
theorem dX1_lay_129 : decode cX1_lay 129 = .ok (.iload 4, 2) := q_iload (bat_get dg_X1_lay_38_125 2 rfl rfl)
