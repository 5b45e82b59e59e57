theorem dg_X0_init_0_0 : bqL cX0_init 0 [(0, [42]), (1, [183, 0, 3]), (4, [42]), (5, [17, 6, 64]), (8, [188, 10]), (10, [181, 0, 11]), (13, [42]), (14, [16, 64]), (16, [188, 11]), (18, [181, 0, 17]), (21, [42]), (22, [16, 9]), (24, [188, 11]), (26, [181, 0, 21]), (29, [42]), (30, [16, 10]), (32, [188, 11]), (34, [181, 0, 24]), (37, [42]), (38, [3]), (39, [181, 0, 27]), (42, [42]), (43, [3]), (44, [181, 0, 31]), (47, [177])] = true := by decide +kernel
theorem dX0_init_0 : decode cX0_init 0 = .ok (.aload_n 0, 1) := q_aload_n0 (bat_get dg_X0_init_0_0 0 rfl rfl)
theorem dX0_init_1 : decode cX0_init 1 = .ok (.invokespecial 3, 3) := q_invokespecial (bat_get dg_X0_init_0_0 1 rfl rfl) rfl
theorem dX0_init_4 : decode cX0_init 4 = .ok (.aload_n 0, 1) := q_aload_n0 (bat_get dg_X0_init_0_0 2 rfl rfl)
theorem dX0_init_5 : decode cX0_init 5 = .ok (.sipush 1600, 3) := q_sipush (bat_get dg_X0_init_0_0 3 rfl rfl) rfl
theorem dX0_init_8 : decode cX0_init 8 = .ok (.newarray .int, 2) := q_newarray_int (bat_get dg_X0_init_0_0 4 rfl rfl)
theorem dX0_init_10 : decode cX0_init 10 = .ok (.putfield 11, 3) := q_putfield (bat_get dg_X0_init_0_0 5 rfl rfl) rfl
theorem dX0_init_13 : decode cX0_init 13 = .ok (.aload_n 0, 1) := q_aload_n0 (bat_get dg_X0_init_0_0 6 rfl rfl)
theorem dX0_init_14 : decode cX0_init 14 = .ok (.bipush 64, 2) := q_bipush (bat_get dg_X0_init_0_0 7 rfl rfl) rfl
theorem dX0_init_16 : decode cX0_init 16 = .ok (.newarray .long, 2) := q_newarray_long (bat_get dg_X0_init_0_0 8 rfl rfl)
theorem dX0_init_18 : decode cX0_init 18 = .ok (.putfield 17, 3) := q_putfield (bat_get dg_X0_init_0_0 9 rfl rfl) rfl
theorem dX0_init_21 : decode cX0_init 21 = .ok (.aload_n 0, 1) := q_aload_n0 (bat_get dg_X0_init_0_0 10 rfl rfl)
theorem dX0_init_22 : decode cX0_init 22 = .ok (.bipush 9, 2) := q_bipush (bat_get dg_X0_init_0_0 11 rfl rfl) rfl
theorem dX0_init_24 : decode cX0_init 24 = .ok (.newarray .long, 2) := q_newarray_long (bat_get dg_X0_init_0_0 12 rfl rfl)
theorem dX0_init_26 : decode cX0_init 26 = .ok (.putfield 21, 3) := q_putfield (bat_get dg_X0_init_0_0 13 rfl rfl) rfl
theorem dX0_init_29 : decode cX0_init 29 = .ok (.aload_n 0, 1) := q_aload_n0 (bat_get dg_X0_init_0_0 14 rfl rfl)
theorem dX0_init_30 : decode cX0_init 30 = .ok (.bipush 10, 2) := q_bipush (bat_get dg_X0_init_0_0 15 rfl rfl) rfl
theorem dX0_init_32 : decode cX0_init 32 = .ok (.newarray .long, 2) := q_newarray_long (bat_get dg_X0_init_0_0 16 rfl rfl)
theorem dX0_init_34 : decode cX0_init 34 = .ok (.putfield 24, 3) := q_putfield (bat_get dg_X0_init_0_0 17 rfl rfl) rfl
theorem dX0_init_37 : decode cX0_init 37 = .ok (.aload_n 0, 1) := q_aload_n0 (bat_get dg_X0_init_0_0 18 rfl rfl)
theorem dX0_init_38 : decode cX0_init 38 = .ok (.iconst 0, 1) := q_iconst0 (bat_get dg_X0_init_0_0 19 rfl rfl)
theorem dX0_init_39 : decode cX0_init 39 = .ok (.putfield 27, 3) := q_putfield (bat_get dg_X0_init_0_0 20 rfl rfl) rfl
theorem dX0_init_42 : decode cX0_init 42 = .ok (.aload_n 0, 1) := q_aload_n0 (bat_get dg_X0_init_0_0 21 rfl rfl)
theorem dX0_init_43 : decode cX0_init 43 = .ok (.iconst 0, 1) := q_iconst0 (bat_get dg_X0_init_0_0 22 rfl rfl)
theorem dX0_init_44 : decode cX0_init 44 = .ok (.putfield 31, 3) := q_putfield (bat_get dg_X0_init_0_0 23 rfl rfl) rfl
theorem dX0_init_47 : decode cX0_init 47 = .ok (.return_, 1) := q_return_ (bat_get dg_X0_init_0_0 24 rfl rfl)
theorem w_1_128 : (Cond.methodLink RX0 3 objectInit) ∈ wsL_law := sk_mem (ck_1 _ (List.mem_of_getElem? (i := 128) rfl)) rfl
theorem w_1_151 : (Cond.arrayClass .long) ∈ wsL_law := sk_mem (ck_1 _ (List.mem_of_getElem? (i := 151) rfl)) rfl
theorem w_1_127 : (Cond.code yX0_init cX0_init 1 none) ∈ wsL_law := sk_mem (ck_1 _ (List.mem_of_getElem? (i := 127) rfl)) rfl
set_option maxHeartbeats 4000000 in
set_option maxRecDepth 100000 in
theorem c_Code_init (l : Launch) (D : va_G) (cI cJ cC cZ cS : ClassId) (h0 : Nat)  : skM l yX0_init cX0_init 1 none 1 20 4 1683 D (skT cI cJ cC cZ cS) [.ref h0] [(h0, .inr (0, [.null, .null, .null, .null, .int 0, .int 0]))] (skV D (skT cI cJ cC cZ cS) (fun (u : va_W) => ∃ (k1 : Nat), ∃ (k2 : Nat), ∃ (k3 : Nat), ∃ (k4 : Nat), u = [(h0, .inr (0, [.ref k1, .ref k2, .ref k3, .ref k4, .int 0, .int 0])), (k1, .inl (cI, 1600, .inl (fun _ => 0))), (k2, .inl (cJ, 64, .inr (.inl (fun _ => 0)))), (k3, .inl (cJ, 9, .inr (.inl (fun _ => 0)))), (k4, .inl (cJ, 10, .inr (.inl (fun _ => 0))))])) := by
  refine skM_of pf_X0_init (Nat.le_of_ble_eq_true rfl) ?_
  intro p e s m below meth c A ls E hP hD hl
  refine skE_el E (fun hx hb hr hml hlocks hin hown hts hK hA => ?_)
  have hown : s.vm.findClass RX0 = some m.cls := hown
  have hin : meth.name = "<init>" := hin
  have hS : va_S A s.heap s.heap [] := va_S.rf
  have hl : lv_has ls 1 [(0, .ref h0)] := hl
  refine lv_aload_n hx hb dX0_init_0 rfl (lv_at hl 0 rfl) ?_
  refine W.objInit hx hb hown (hts _ w_1_128) (hts _ w_1_28) (hts _ w_1_29) rfl (by rw [hml]; exact hl.1) rfl dX0_init_1 (Nat.le_of_ble_eq_true rfl) (Nat.le_of_ble_eq_true rfl) ?_
  refine W.eq (g2 := F0 m 4 ls []) rfl ?_
  refine lv_aload_n hx hb dX0_init_4 rfl (lv_at hl 0 rfl) ?_
  refine lv_sipush (v := 1600) hx hb dX0_init_5 (by decide) ?_
  refine sk_newa (atype := .int) (ty := .int) (a0 := (1600, .inl (fun _ => 0))) (cA := cI) (k1 := 1) (n1 := 1600) hx hb hts w_1_49 rfl (fun _ _ h => h) 0 rfl hK hP hD hS hA (fun _ => vp_cell_i _ _ _) (by decide) (by decide) (Nat.le_of_ble_eq_true rfl) (Nat.le_of_ble_eq_true rfl) (Nat.le_of_ble_eq_true rfl) (Nat.le_of_ble_eq_true rfl) (Nat.le_of_ble_eq_true rfl) dX0_init_8 (fun q_1 H hP hD hS => ?_)
  refine o_re (ws' := [(h0, .inr (0, [.null, .null, .null, .null, .int 0, .int 0])), (q_1, .inl (cI, 1600, .inl (fun _ => 0)))]) hP hD rfl (fun hP hD => ?_)
  refine sk_putF (ws' := [(h0, .inr (0, [.ref q_1, .null, .null, .null, .int 0, .int 0])), (q_1, .inl (cI, 1600, .inl (fun _ => 0)))]) (C := RX0) (T := TX0) (N := 6) (v := .ref q_1) hx hb hts inlX0 tyX0 tyX0_ok nmX0 hown hK hP hD hS 0 rfl rfl 0 (by decide) w_1_129 rfl hin rfl rfl rfl (Nat.le_of_ble_eq_true rfl) rfl dX0_init_10 (fun H locs hP hD hS => ?_)
  refine lv_aload_n hx hb dX0_init_13 rfl (lv_at hl 0 rfl) ?_
  refine lv_bipush (v := 64) hx hb dX0_init_14 (by decide) ?_
  refine sk_newa (atype := .long) (ty := .long) (a0 := (64, .inr (.inl (fun _ => 0)))) (cA := cJ) (k1 := 2) (n1 := 1664) hx hb hts w_1_151 rfl (fun _ _ h => h) 1 rfl hK hP hD hS hA (fun _ => vp_cell_l _ _ _) (by decide) (by decide) (Nat.le_of_ble_eq_true rfl) (Nat.le_of_ble_eq_true rfl) (Nat.le_of_ble_eq_true rfl) (Nat.le_of_ble_eq_true rfl) (Nat.le_of_ble_eq_true rfl) dX0_init_16 (fun q_2 H hP hD hS => ?_)
  refine o_re (ws' := [(h0, .inr (0, [.ref q_1, .null, .null, .null, .int 0, .int 0])), (q_1, .inl (cI, 1600, .inl (fun _ => 0))), (q_2, .inl (cJ, 64, .inr (.inl (fun _ => 0))))]) hP hD rfl (fun hP hD => ?_)
  refine sk_putF (ws' := [(h0, .inr (0, [.ref q_1, .ref q_2, .null, .null, .int 0, .int 0])), (q_1, .inl (cI, 1600, .inl (fun _ => 0))), (q_2, .inl (cJ, 64, .inr (.inl (fun _ => 0))))]) (C := RX0) (T := TX0) (N := 6) (v := .ref q_2) hx hb hts inlX0 tyX0 tyX0_ok nmX0 hown hK hP hD hS 0 rfl rfl 1 (by decide) w_1_130 rfl hin rfl rfl rfl (Nat.le_of_ble_eq_true rfl) rfl dX0_init_18 (fun H locs hP hD hS => ?_)
  refine lv_aload_n hx hb dX0_init_21 rfl (lv_at hl 0 rfl) ?_
  refine lv_bipush (v := 9) hx hb dX0_init_22 (by decide) ?_
  refine sk_newa (atype := .long) (ty := .long) (a0 := (9, .inr (.inl (fun _ => 0)))) (cA := cJ) (k1 := 3) (n1 := 1673) hx hb hts w_1_151 rfl (fun _ _ h => h) 1 rfl hK hP hD hS hA (fun _ => vp_cell_l _ _ _) (by decide) (by decide) (Nat.le_of_ble_eq_true rfl) (Nat.le_of_ble_eq_true rfl) (Nat.le_of_ble_eq_true rfl) (Nat.le_of_ble_eq_true rfl) (Nat.le_of_ble_eq_true rfl) dX0_init_24 (fun q_3 H hP hD hS => ?_)
  refine o_re (ws' := [(h0, .inr (0, [.ref q_1, .ref q_2, .null, .null, .int 0, .int 0])), (q_1, .inl (cI, 1600, .inl (fun _ => 0))), (q_2, .inl (cJ, 64, .inr (.inl (fun _ => 0)))), (q_3, .inl (cJ, 9, .inr (.inl (fun _ => 0))))]) hP hD rfl (fun hP hD => ?_)
  refine sk_putF (ws' := [(h0, .inr (0, [.ref q_1, .ref q_2, .ref q_3, .null, .int 0, .int 0])), (q_1, .inl (cI, 1600, .inl (fun _ => 0))), (q_2, .inl (cJ, 64, .inr (.inl (fun _ => 0)))), (q_3, .inl (cJ, 9, .inr (.inl (fun _ => 0))))]) (C := RX0) (T := TX0) (N := 6) (v := .ref q_3) hx hb hts inlX0 tyX0 tyX0_ok nmX0 hown hK hP hD hS 0 rfl rfl 2 (by decide) w_1_131 rfl hin rfl rfl rfl (Nat.le_of_ble_eq_true rfl) rfl dX0_init_26 (fun H locs hP hD hS => ?_)
  refine lv_aload_n hx hb dX0_init_29 rfl (lv_at hl 0 rfl) ?_
  refine lv_bipush (v := 10) hx hb dX0_init_30 (by decide) ?_
  refine sk_newa (atype := .long) (ty := .long) (a0 := (10, .inr (.inl (fun _ => 0)))) (cA := cJ) (k1 := 4) (n1 := 1683) hx hb hts w_1_151 rfl (fun _ _ h => h) 1 rfl hK hP hD hS hA (fun _ => vp_cell_l _ _ _) (by decide) (by decide) (Nat.le_of_ble_eq_true rfl) (Nat.le_of_ble_eq_true rfl) (Nat.le_of_ble_eq_true rfl) (Nat.le_of_ble_eq_true rfl) (Nat.le_of_ble_eq_true rfl) dX0_init_32 (fun q_4 H hP hD hS => ?_)
  refine o_re (ws' := [(h0, .inr (0, [.ref q_1, .ref q_2, .ref q_3, .null, .int 0, .int 0])), (q_1, .inl (cI, 1600, .inl (fun _ => 0))), (q_2, .inl (cJ, 64, .inr (.inl (fun _ => 0)))), (q_3, .inl (cJ, 9, .inr (.inl (fun _ => 0)))), (q_4, .inl (cJ, 10, .inr (.inl (fun _ => 0))))]) hP hD rfl (fun hP hD => ?_)
  refine sk_putF (ws' := [(h0, .inr (0, [.ref q_1, .ref q_2, .ref q_3, .ref q_4, .int 0, .int 0])), (q_1, .inl (cI, 1600, .inl (fun _ => 0))), (q_2, .inl (cJ, 64, .inr (.inl (fun _ => 0)))), (q_3, .inl (cJ, 9, .inr (.inl (fun _ => 0)))), (q_4, .inl (cJ, 10, .inr (.inl (fun _ => 0))))]) (C := RX0) (T := TX0) (N := 6) (v := .ref q_4) hx hb hts inlX0 tyX0 tyX0_ok nmX0 hown hK hP hD hS 0 rfl rfl 3 (by decide) w_1_132 rfl hin rfl rfl rfl (Nat.le_of_ble_eq_true rfl) rfl dX0_init_34 (fun H locs hP hD hS => ?_)
  refine lv_aload_n hx hb dX0_init_37 rfl (lv_at hl 0 rfl) ?_
  refine lv_iconst (v := 0) hx hb dX0_init_38 (by decide) ?_
  refine sk_put (ws' := [(h0, .inr (0, [.ref q_1, .ref q_2, .ref q_3, .ref q_4, .int 0, .int 0])), (q_1, .inl (cI, 1600, .inl (fun _ => 0))), (q_2, .inl (cJ, 64, .inr (.inl (fun _ => 0)))), (q_3, .inl (cJ, 9, .inr (.inl (fun _ => 0)))), (q_4, .inl (cJ, 10, .inr (.inl (fun _ => 0))))]) (C := RX0) (T := TX0) (N := 6) (v := .int 0) hx hb hts inlX0 tyX0 tyX0_ok nmX0 hown hK hP hD hS 0 rfl rfl 4 (by decide) w_1_133 rfl rfl rfl (Nat.le_of_ble_eq_true rfl) rfl dX0_init_39 (fun H locs hP hD hS => ?_)
  refine lv_aload_n hx hb dX0_init_42 rfl (lv_at hl 0 rfl) ?_
  refine lv_iconst (v := 0) hx hb dX0_init_43 (by decide) ?_
  refine sk_put (ws' := [(h0, .inr (0, [.ref q_1, .ref q_2, .ref q_3, .ref q_4, .int 0, .int 0])), (q_1, .inl (cI, 1600, .inl (fun _ => 0))), (q_2, .inl (cJ, 64, .inr (.inl (fun _ => 0)))), (q_3, .inl (cJ, 9, .inr (.inl (fun _ => 0)))), (q_4, .inl (cJ, 10, .inr (.inl (fun _ => 0))))]) (C := RX0) (T := TX0) (N := 6) (v := .int 0) hx hb hts inlX0 tyX0 tyX0_ok nmX0 hown hK hP hD hS 0 rfl rfl 5 (by decide) w_1_136 rfl rfl rfl (Nat.le_of_ble_eq_true rfl) rfl dX0_init_44 (fun H locs hP hD hS => ?_)
  exact sk_vret hx hb hr hlocks hK hP hD hS (⟨q_1, q_2, q_3, q_4, rfl⟩) (Nat.le_of_ble_eq_true rfl) (Nat.le_of_ble_eq_true rfl) dX0_init_47
theorem dg_X8_init_0_0 : bqL cX8_init 0 [(0, [42]), (1, [183, 0, 3]), (4, [42]), (5, [43]), (6, [181, 0, 9]), (9, [42]), (10, [28]), (11, [181, 0, 15]), (14, [177])] = true := by decide +kernel
theorem dX8_init_0 : decode cX8_init 0 = .ok (.aload_n 0, 1) := q_aload_n0 (bat_get dg_X8_init_0_0 0 rfl rfl)
theorem dX8_init_1 : decode cX8_init 1 = .ok (.invokespecial 3, 3) := q_invokespecial (bat_get dg_X8_init_0_0 1 rfl rfl) rfl
theorem dX8_init_4 : decode cX8_init 4 = .ok (.aload_n 0, 1) := q_aload_n0 (bat_get dg_X8_init_0_0 2 rfl rfl)
theorem dX8_init_5 : decode cX8_init 5 = .ok (.aload_n 1, 1) := q_aload_n1 (bat_get dg_X8_init_0_0 3 rfl rfl)
theorem dX8_init_6 : decode cX8_init 6 = .ok (.putfield 9, 3) := q_putfield (bat_get dg_X8_init_0_0 4 rfl rfl) rfl
theorem dX8_init_9 : decode cX8_init 9 = .ok (.aload_n 0, 1) := q_aload_n0 (bat_get dg_X8_init_0_0 5 rfl rfl)
theorem dX8_init_10 : decode cX8_init 10 = .ok (.iload_n 2, 1) := q_iload_n2 (bat_get dg_X8_init_0_0 6 rfl rfl)
theorem dX8_init_11 : decode cX8_init 11 = .ok (.putfield 15, 3) := q_putfield (bat_get dg_X8_init_0_0 7 rfl rfl) rfl
theorem dX8_init_14 : decode cX8_init 14 = .ok (.return_, 1) := q_return_ (bat_get dg_X8_init_0_0 8 rfl rfl)
theorem w_1_99 : (Cond.methodLink RX8 3 objectInit) ∈ wsL_law := sk_mem (ck_1 _ (List.mem_of_getElem? (i := 99) rfl)) rfl
theorem w_1_98 : (Cond.code yX8_init cX8_init 3 none) ∈ wsL_law := sk_mem (ck_1 _ (List.mem_of_getElem? (i := 98) rfl)) rfl
set_option maxHeartbeats 4000000 in
set_option maxRecDepth 100000 in
theorem c_Sums_init (l : Launch) (D : va_G) (cI cJ cC cZ cS : ClassId) (h0 : Nat) (rd : Nat) (kd : Int32)  : skM l yX8_init cX8_init 3 none 1 20 0 0 D (skT cI cJ cC cZ cS) [.ref h0, .ref rd, .int kd] [(h0, .inr (8, [.null, .int 0]))] (skV D (skT cI cJ cC cZ cS) (fun (u : va_W) => u = [(h0, .inr (8, [.ref rd, .int kd]))])) := by
  refine skM_of pf_X8_init (Nat.le_of_ble_eq_true rfl) ?_
  intro p e s m below meth c A ls E hP hD hl
  refine skE_el E (fun hx hb hr hml hlocks hin hown hts hK hA => ?_)
  have hown : s.vm.findClass RX8 = some m.cls := hown
  have hin : meth.name = "<init>" := hin
  have hS : va_S A s.heap s.heap [] := va_S.rf
  have hl : lv_has ls 3 [(0, .ref h0), (1, .ref rd), (2, .int kd)] := hl
  refine lv_aload_n hx hb dX8_init_0 rfl (lv_at hl 0 rfl) ?_
  refine W.objInit hx hb hown (hts _ w_1_99) (hts _ w_1_28) (hts _ w_1_29) rfl (by rw [hml]; exact hl.1) rfl dX8_init_1 (Nat.le_of_ble_eq_true rfl) (Nat.le_of_ble_eq_true rfl) ?_
  refine W.eq (g2 := F0 m 4 ls []) rfl ?_
  refine lv_aload_n hx hb dX8_init_4 rfl (lv_at hl 0 rfl) ?_
  refine lv_aload_n hx hb dX8_init_5 rfl (lv_at hl 1 rfl) ?_
  refine sk_putF (ws' := [(h0, .inr (8, [.ref rd, .int 0]))]) (C := RX8) (T := TX8) (N := 2) (v := .ref rd) hx hb hts inlX8 tyX8 tyX8_ok nmX8 hown hK hP hD hS 0 rfl rfl 0 (by decide) w_1_100 rfl hin rfl rfl rfl (Nat.le_of_ble_eq_true rfl) rfl dX8_init_6 (fun H locs hP hD hS => ?_)
  refine lv_aload_n hx hb dX8_init_9 rfl (lv_at hl 0 rfl) ?_
  refine lv_iload_n hx hb dX8_init_10 rfl (lv_at hl 2 rfl) ?_
  refine sk_putF (ws' := [(h0, .inr (8, [.ref rd, .int kd]))]) (C := RX8) (T := TX8) (N := 2) (v := .int kd) hx hb hts inlX8 tyX8 tyX8_ok nmX8 hown hK hP hD hS 0 rfl rfl 1 (by decide) w_1_101 rfl hin rfl rfl rfl (Nat.le_of_ble_eq_true rfl) rfl dX8_init_11 (fun H locs hP hD hS => ?_)
  exact sk_vret hx hb hr hlocks hK hP hD hS rfl (Nat.le_of_ble_eq_true rfl) (Nat.le_of_ble_eq_true rfl) dX8_init_14
theorem dg_X6_init_0_0 : bqL cX6_init 0 [(0, [42]), (1, [183, 0, 3]), (4, [42]), (5, [3]), (6, [181, 0, 9]), (9, [42]), (10, [3]), (11, [181, 0, 15]), (14, [42]), (15, [3]), (16, [181, 0, 18]), (19, [42]), (20, [2]), (21, [181, 0, 21]), (24, [42]), (25, [3]), (26, [181, 0, 24]), (29, [42]), (30, [3]), (31, [181, 0, 27]), (34, [42]), (35, [2]), (36, [181, 0, 30]), (39, [42]), (40, [43]), (41, [181, 0, 33]), (44, [177])] = true := by decide +kernel
theorem dX6_init_0 : decode cX6_init 0 = .ok (.aload_n 0, 1) := q_aload_n0 (bat_get dg_X6_init_0_0 0 rfl rfl)
theorem dX6_init_1 : decode cX6_init 1 = .ok (.invokespecial 3, 3) := q_invokespecial (bat_get dg_X6_init_0_0 1 rfl rfl) rfl
theorem dX6_init_4 : decode cX6_init 4 = .ok (.aload_n 0, 1) := q_aload_n0 (bat_get dg_X6_init_0_0 2 rfl rfl)
theorem dX6_init_5 : decode cX6_init 5 = .ok (.iconst 0, 1) := q_iconst0 (bat_get dg_X6_init_0_0 3 rfl rfl)
theorem dX6_init_6 : decode cX6_init 6 = .ok (.putfield 9, 3) := q_putfield (bat_get dg_X6_init_0_0 4 rfl rfl) rfl
theorem dX6_init_9 : decode cX6_init 9 = .ok (.aload_n 0, 1) := q_aload_n0 (bat_get dg_X6_init_0_0 5 rfl rfl)
theorem dX6_init_10 : decode cX6_init 10 = .ok (.iconst 0, 1) := q_iconst0 (bat_get dg_X6_init_0_0 6 rfl rfl)
theorem dX6_init_11 : decode cX6_init 11 = .ok (.putfield 15, 3) := q_putfield (bat_get dg_X6_init_0_0 7 rfl rfl) rfl
theorem dX6_init_14 : decode cX6_init 14 = .ok (.aload_n 0, 1) := q_aload_n0 (bat_get dg_X6_init_0_0 8 rfl rfl)
