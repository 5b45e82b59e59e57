theorem dg_X9_init_0_0 : bqL cX9_init 0 [(0, [42]), (1, [183, 0, 3]), (4, [42]), (5, [16, 90]), (7, [188, 10]), (9, [181, 0, 9]), (12, [42]), (13, [17, 3, 132]), (16, [188, 10]), (18, [181, 0, 15]), (21, [42]), (22, [16, 90]), (24, [188, 10]), (26, [181, 0, 18]), (29, [42]), (30, [16, 90]), (32, [188, 10]), (34, [181, 0, 21]), (37, [42]), (38, [16, 90]), (40, [188, 11]), (42, [181, 0, 24]), (45, [42]), (46, [16, 9]), (48, [188, 10]), (50, [181, 0, 28]), (53, [177])] = true := by decide +kernel
theorem dX9_init_0 : decode cX9_init 0 = .ok (.aload_n 0, 1) := q_aload_n0 (bat_get dg_X9_init_0_0 0 rfl rfl)
theorem dX9_init_1 : decode cX9_init 1 = .ok (.invokespecial 3, 3) := q_invokespecial (bat_get dg_X9_init_0_0 1 rfl rfl) rfl
theorem dX9_init_4 : decode cX9_init 4 = .ok (.aload_n 0, 1) := q_aload_n0 (bat_get dg_X9_init_0_0 2 rfl rfl)
theorem dX9_init_5 : decode cX9_init 5 = .ok (.bipush 90, 2) := q_bipush (bat_get dg_X9_init_0_0 3 rfl rfl) rfl
theorem dX9_init_7 : decode cX9_init 7 = .ok (.newarray .int, 2) := q_newarray_int (bat_get dg_X9_init_0_0 4 rfl rfl)
theorem dX9_init_9 : decode cX9_init 9 = .ok (.putfield 9, 3) := q_putfield (bat_get dg_X9_init_0_0 5 rfl rfl) rfl
theorem dX9_init_12 : decode cX9_init 12 = .ok (.aload_n 0, 1) := q_aload_n0 (bat_get dg_X9_init_0_0 6 rfl rfl)
theorem dX9_init_13 : decode cX9_init 13 = .ok (.sipush 900, 3) := q_sipush (bat_get dg_X9_init_0_0 7 rfl rfl) rfl
theorem dX9_init_16 : decode cX9_init 16 = .ok (.newarray .int, 2) := q_newarray_int (bat_get dg_X9_init_0_0 8 rfl rfl)
theorem dX9_init_18 : decode cX9_init 18 = .ok (.putfield 15, 3) := q_putfield (bat_get dg_X9_init_0_0 9 rfl rfl) rfl
theorem dX9_init_21 : decode cX9_init 21 = .ok (.aload_n 0, 1) := q_aload_n0 (bat_get dg_X9_init_0_0 10 rfl rfl)
theorem dX9_init_22 : decode cX9_init 22 = .ok (.bipush 90, 2) := q_bipush (bat_get dg_X9_init_0_0 11 rfl rfl) rfl
theorem dX9_init_24 : decode cX9_init 24 = .ok (.newarray .int, 2) := q_newarray_int (bat_get dg_X9_init_0_0 12 rfl rfl)
theorem dX9_init_26 : decode cX9_init 26 = .ok (.putfield 18, 3) := q_putfield (bat_get dg_X9_init_0_0 13 rfl rfl) rfl
theorem dX9_init_29 : decode cX9_init 29 = .ok (.aload_n 0, 1) := q_aload_n0 (bat_get dg_X9_init_0_0 14 rfl rfl)
theorem dX9_init_30 : decode cX9_init 30 = .ok (.bipush 90, 2) := q_bipush (bat_get dg_X9_init_0_0 15 rfl rfl) rfl
theorem dX9_init_32 : decode cX9_init 32 = .ok (.newarray .int, 2) := q_newarray_int (bat_get dg_X9_init_0_0 16 rfl rfl)
theorem dX9_init_34 : decode cX9_init 34 = .ok (.putfield 21, 3) := q_putfield (bat_get dg_X9_init_0_0 17 rfl rfl) rfl
theorem dX9_init_37 : decode cX9_init 37 = .ok (.aload_n 0, 1) := q_aload_n0 (bat_get dg_X9_init_0_0 18 rfl rfl)
theorem dX9_init_38 : decode cX9_init 38 = .ok (.bipush 90, 2) := q_bipush (bat_get dg_X9_init_0_0 19 rfl rfl) rfl
theorem dX9_init_40 : decode cX9_init 40 = .ok (.newarray .long, 2) := q_newarray_long (bat_get dg_X9_init_0_0 20 rfl rfl)
theorem dX9_init_42 : decode cX9_init 42 = .ok (.putfield 24, 3) := q_putfield (bat_get dg_X9_init_0_0 21 rfl rfl) rfl
theorem dX9_init_45 : decode cX9_init 45 = .ok (.aload_n 0, 1) := q_aload_n0 (bat_get dg_X9_init_0_0 22 rfl rfl)
theorem dX9_init_46 : decode cX9_init 46 = .ok (.bipush 9, 2) := q_bipush (bat_get dg_X9_init_0_0 23 rfl rfl) rfl
theorem dX9_init_48 : decode cX9_init 48 = .ok (.newarray .int, 2) := q_newarray_int (bat_get dg_X9_init_0_0 24 rfl rfl)
theorem dX9_init_50 : decode cX9_init 50 = .ok (.putfield 28, 3) := q_putfield (bat_get dg_X9_init_0_0 25 rfl rfl) rfl
theorem dX9_init_53 : decode cX9_init 53 = .ok (.return_, 1) := q_return_ (bat_get dg_X9_init_0_0 26 rfl rfl)
theorem w_2_62 : (Cond.methodLink RX9 3 objectInit) ∈ wsL_law := sk_mem (ck_2 _ (List.mem_of_getElem? (i := 62) rfl)) rfl
theorem w_2_61 : (Cond.code yX9_init cX9_init 1 none) ∈ wsL_law := sk_mem (ck_2 _ (List.mem_of_getElem? (i := 61) rfl)) rfl
set_option maxHeartbeats 4000000 in
set_option maxRecDepth 100000 in
theorem c_Table_init (l : Launch) (D : va_G) (cI cJ cC cZ cS : ClassId) (h0 : Nat)  : skM l yX9_init cX9_init 1 none 1 20 6 1269 D (skT cI cJ cC cZ cS) [.ref h0] [(h0, .inr (9, [.null, .null, .null, .null, .null, .null]))] (skV D (skT cI cJ cC cZ cS) (fun (u : va_W) => ∃ (k1 : Nat), ∃ (k2 : Nat), ∃ (k3 : Nat), ∃ (k4 : Nat), ∃ (k5 : Nat), ∃ (k6 : Nat), u = [(h0, .inr (9, [.ref k1, .ref k2, .ref k3, .ref k4, .ref k5, .ref k6])), (k1, .inl (cI, 90, .inl (fun _ => 0))), (k2, .inl (cI, 900, .inl (fun _ => 0))), (k3, .inl (cI, 90, .inl (fun _ => 0))), (k4, .inl (cI, 90, .inl (fun _ => 0))), (k5, .inl (cJ, 90, .inr (.inl (fun _ => 0)))), (k6, .inl (cI, 9, .inl (fun _ => 0)))])) := by
  refine skM_of pf_X9_init (Nat.le_of_ble_eq_true rfl) ?_
  intro p e s m below meth c A ls E hP hD hl
  refine skE_el E (fun hx hb hr hml hlocks hin hown hts hK hA => ?_)
  have hown : s.vm.findClass RX9 = some m.cls := hown
  have hin : meth.name = "<init>" := hin
  have hS : va_S A s.heap s.heap [] := va_S.rf
  have hl : lv_has ls 1 [(0, .ref h0)] := hl
  refine lv_aload_n hx hb dX9_init_0 rfl (lv_at hl 0 rfl) ?_
  refine W.objInit hx hb hown (hts _ w_2_62) (hts _ w_1_28) (hts _ w_1_29) rfl (by rw [hml]; exact hl.1) rfl dX9_init_1 (Nat.le_of_ble_eq_true rfl) (Nat.le_of_ble_eq_true rfl) ?_
  refine W.eq (g2 := F0 m 4 ls []) rfl ?_
  refine lv_aload_n hx hb dX9_init_4 rfl (lv_at hl 0 rfl) ?_
  refine lv_bipush (v := 90) hx hb dX9_init_5 (by decide) ?_
  refine sk_newa (atype := .int) (ty := .int) (a0 := (90, .inl (fun _ => 0))) (cA := cI) (k1 := 1) (n1 := 90) hx hb hts w_1_49 rfl (fun _ _ h => h) 0 rfl hK hP hD hS hA (fun _ => vp_cell_i _ _ _) (by decide) (by decide) (Nat.le_of_ble_eq_true rfl) (Nat.le_of_ble_eq_true rfl) (Nat.le_of_ble_eq_true rfl) (Nat.le_of_ble_eq_true rfl) (Nat.le_of_ble_eq_true rfl) dX9_init_7 (fun q_1 H hP hD hS => ?_)
  refine o_re (ws' := [(h0, .inr (9, [.null, .null, .null, .null, .null, .null])), (q_1, .inl (cI, 90, .inl (fun _ => 0)))]) hP hD rfl (fun hP hD => ?_)
  refine sk_putF (ws' := [(h0, .inr (9, [.ref q_1, .null, .null, .null, .null, .null])), (q_1, .inl (cI, 90, .inl (fun _ => 0)))]) (C := RX9) (T := TX9) (N := 6) (v := .ref q_1) hx hb hts inlX9 tyX9 tyX9_ok nmX9 hown hK hP hD hS 0 rfl rfl 0 (by decide) w_2_63 rfl hin rfl rfl rfl (Nat.le_of_ble_eq_true rfl) rfl dX9_init_9 (fun H locs hP hD hS => ?_)
  refine lv_aload_n hx hb dX9_init_12 rfl (lv_at hl 0 rfl) ?_
  refine lv_sipush (v := 900) hx hb dX9_init_13 (by decide) ?_
  refine sk_newa (atype := .int) (ty := .int) (a0 := (900, .inl (fun _ => 0))) (cA := cI) (k1 := 2) (n1 := 990) hx hb hts w_1_49 rfl (fun _ _ h => h) 0 rfl hK hP hD hS hA (fun _ => vp_cell_i _ _ _) (by decide) (by decide) (Nat.le_of_ble_eq_true rfl) (Nat.le_of_ble_eq_true rfl) (Nat.le_of_ble_eq_true rfl) (Nat.le_of_ble_eq_true rfl) (Nat.le_of_ble_eq_true rfl) dX9_init_16 (fun q_2 H hP hD hS => ?_)
  refine o_re (ws' := [(h0, .inr (9, [.ref q_1, .null, .null, .null, .null, .null])), (q_1, .inl (cI, 90, .inl (fun _ => 0))), (q_2, .inl (cI, 900, .inl (fun _ => 0)))]) hP hD rfl (fun hP hD => ?_)
  refine sk_putF (ws' := [(h0, .inr (9, [.ref q_1, .ref q_2, .null, .null, .null, .null])), (q_1, .inl (cI, 90, .inl (fun _ => 0))), (q_2, .inl (cI, 900, .inl (fun _ => 0)))]) (C := RX9) (T := TX9) (N := 6) (v := .ref q_2) hx hb hts inlX9 tyX9 tyX9_ok nmX9 hown hK hP hD hS 0 rfl rfl 1 (by decide) w_2_65 rfl hin rfl rfl rfl (Nat.le_of_ble_eq_true rfl) rfl dX9_init_18 (fun H locs hP hD hS => ?_)
  refine lv_aload_n hx hb dX9_init_21 rfl (lv_at hl 0 rfl) ?_
  refine lv_bipush (v := 90) hx hb dX9_init_22 (by decide) ?_
  refine sk_newa (atype := .int) (ty := .int) (a0 := (90, .inl (fun _ => 0))) (cA := cI) (k1 := 3) (n1 := 1080) hx hb hts w_1_49 rfl (fun _ _ h => h) 0 rfl hK hP hD hS hA (fun _ => vp_cell_i _ _ _) (by decide) (by decide) (Nat.le_of_ble_eq_true rfl) (Nat.le_of_ble_eq_true rfl) (Nat.le_of_ble_eq_true rfl) (Nat.le_of_ble_eq_true rfl) (Nat.le_of_ble_eq_true rfl) dX9_init_24 (fun q_3 H hP hD hS => ?_)
  refine o_re (ws' := [(h0, .inr (9, [.ref q_1, .ref q_2, .null, .null, .null, .null])), (q_1, .inl (cI, 90, .inl (fun _ => 0))), (q_2, .inl (cI, 900, .inl (fun _ => 0))), (q_3, .inl (cI, 90, .inl (fun _ => 0)))]) hP hD rfl (fun hP hD => ?_)
  refine sk_putF (ws' := [(h0, .inr (9, [.ref q_1, .ref q_2, .ref q_3, .null, .null, .null])), (q_1, .inl (cI, 90, .inl (fun _ => 0))), (q_2, .inl (cI, 900, .inl (fun _ => 0))), (q_3, .inl (cI, 90, .inl (fun _ => 0)))]) (C := RX9) (T := TX9) (N := 6) (v := .ref q_3) hx hb hts inlX9 tyX9 tyX9_ok nmX9 hown hK hP hD hS 0 rfl rfl 2 (by decide) w_2_67 rfl hin rfl rfl rfl (Nat.le_of_ble_eq_true rfl) rfl dX9_init_26 (fun H locs hP hD hS => ?_)
  refine lv_aload_n hx hb dX9_init_29 rfl (lv_at hl 0 rfl) ?_
  refine lv_bipush (v := 90) hx hb dX9_init_30 (by decide) ?_
  refine sk_newa (atype := .int) (ty := .int) (a0 := (90, .inl (fun _ => 0))) (cA := cI) (k1 := 4) (n1 := 1170) hx hb hts w_1_49 rfl (fun _ _ h => h) 0 rfl hK hP hD hS hA (fun _ => vp_cell_i _ _ _) (by decide) (by decide) (Nat.le_of_ble_eq_true rfl) (Nat.le_of_ble_eq_true rfl) (Nat.le_of_ble_eq_true rfl) (Nat.le_of_ble_eq_true rfl) (Nat.le_of_ble_eq_true rfl) dX9_init_32 (fun q_4 H hP hD hS => ?_)
  refine o_re (ws' := [(h0, .inr (9, [.ref q_1, .ref q_2, .ref q_3, .null, .null, .null])), (q_1, .inl (cI, 90, .inl (fun _ => 0))), (q_2, .inl (cI, 900, .inl (fun _ => 0))), (q_3, .inl (cI, 90, .inl (fun _ => 0))), (q_4, .inl (cI, 90, .inl (fun _ => 0)))]) hP hD rfl (fun hP hD => ?_)
  refine sk_putF (ws' := [(h0, .inr (9, [.ref q_1, .ref q_2, .ref q_3, .ref q_4, .null, .null])), (q_1, .inl (cI, 90, .inl (fun _ => 0))), (q_2, .inl (cI, 900, .inl (fun _ => 0))), (q_3, .inl (cI, 90, .inl (fun _ => 0))), (q_4, .inl (cI, 90, .inl (fun _ => 0)))]) (C := RX9) (T := TX9) (N := 6) (v := .ref q_4) hx hb hts inlX9 tyX9 tyX9_ok nmX9 hown hK hP hD hS 0 rfl rfl 3 (by decide) w_2_70 rfl hin rfl rfl rfl (Nat.le_of_ble_eq_true rfl) rfl dX9_init_34 (fun H locs hP hD hS => ?_)
  refine lv_aload_n hx hb dX9_init_37 rfl (lv_at hl 0 rfl) ?_
  refine lv_bipush (v := 90) hx hb dX9_init_38 (by decide) ?_
  refine sk_newa (atype := .long) (ty := .long) (a0 := (90, .inr (.inl (fun _ => 0)))) (cA := cJ) (k1 := 5) (n1 := 1260) hx hb hts w_1_151 rfl (fun _ _ h => h) 1 rfl hK hP hD hS hA (fun _ => vp_cell_l _ _ _) (by decide) (by decide) (Nat.le_of_ble_eq_true rfl) (Nat.le_of_ble_eq_true rfl) (Nat.le_of_ble_eq_true rfl) (Nat.le_of_ble_eq_true rfl) (Nat.le_of_ble_eq_true rfl) dX9_init_40 (fun q_5 H hP hD hS => ?_)
  refine o_re (ws' := [(h0, .inr (9, [.ref q_1, .ref q_2, .ref q_3, .ref q_4, .null, .null])), (q_1, .inl (cI, 90, .inl (fun _ => 0))), (q_2, .inl (cI, 900, .inl (fun _ => 0))), (q_3, .inl (cI, 90, .inl (fun _ => 0))), (q_4, .inl (cI, 90, .inl (fun _ => 0))), (q_5, .inl (cJ, 90, .inr (.inl (fun _ => 0))))]) hP hD rfl (fun hP hD => ?_)
  refine sk_putF (ws' := [(h0, .inr (9, [.ref q_1, .ref q_2, .ref q_3, .ref q_4, .ref q_5, .null])), (q_1, .inl (cI, 90, .inl (fun _ => 0))), (q_2, .inl (cI, 900, .inl (fun _ => 0))), (q_3, .inl (cI, 90, .inl (fun _ => 0))), (q_4, .inl (cI, 90, .inl (fun _ => 0))), (q_5, .inl (cJ, 90, .inr (.inl (fun _ => 0))))]) (C := RX9) (T := TX9) (N := 6) (v := .ref q_5) hx hb hts inlX9 tyX9 tyX9_ok nmX9 hown hK hP hD hS 0 rfl rfl 4 (by decide) w_2_72 rfl hin rfl rfl rfl (Nat.le_of_ble_eq_true rfl) rfl dX9_init_42 (fun H locs hP hD hS => ?_)
  refine lv_aload_n hx hb dX9_init_45 rfl (lv_at hl 0 rfl) ?_
  refine lv_bipush (v := 9) hx hb dX9_init_46 (by decide) ?_
  refine sk_newa (atype := .int) (ty := .int) (a0 := (9, .inl (fun _ => 0))) (cA := cI) (k1 := 6) (n1 := 1269) hx hb hts w_1_49 rfl (fun _ _ h => h) 0 rfl hK hP hD hS hA (fun _ => vp_cell_i _ _ _) (by decide) (by decide) (Nat.le_of_ble_eq_true rfl) (Nat.le_of_ble_eq_true rfl) (Nat.le_of_ble_eq_true rfl) (Nat.le_of_ble_eq_true rfl) (Nat.le_of_ble_eq_true rfl) dX9_init_48 (fun q_6 H hP hD hS => ?_)
  refine o_re (ws' := [(h0, .inr (9, [.ref q_1, .ref q_2, .ref q_3, .ref q_4, .ref q_5, .null])), (q_1, .inl (cI, 90, .inl (fun _ => 0))), (q_2, .inl (cI, 900, .inl (fun _ => 0))), (q_3, .inl (cI, 90, .inl (fun _ => 0))), (q_4, .inl (cI, 90, .inl (fun _ => 0))), (q_5, .inl (cJ, 90, .inr (.inl (fun _ => 0)))), (q_6, .inl (cI, 9, .inl (fun _ => 0)))]) hP hD rfl (fun hP hD => ?_)
  refine sk_putF (ws' := [(h0, .inr (9, [.ref q_1, .ref q_2, .ref q_3, .ref q_4, .ref q_5, .ref q_6])), (q_1, .inl (cI, 90, .inl (fun _ => 0))), (q_2, .inl (cI, 900, .inl (fun _ => 0))), (q_3, .inl (cI, 90, .inl (fun _ => 0))), (q_4, .inl (cI, 90, .inl (fun _ => 0))), (q_5, .inl (cJ, 90, .inr (.inl (fun _ => 0)))), (q_6, .inl (cI, 9, .inl (fun _ => 0)))]) (C := RX9) (T := TX9) (N := 6) (v := .ref q_6) hx hb hts inlX9 tyX9 tyX9_ok nmX9 hown hK hP hD hS 0 rfl rfl 5 (by decide) w_2_75 rfl hin rfl rfl rfl (Nat.le_of_ble_eq_true rfl) rfl dX9_init_50 (fun H locs hP hD hS => ?_)
  exact sk_vret hx hb hr hlocks hK hP hD hS (⟨q_1, q_2, q_3, q_4, q_5, q_6, rfl⟩) (Nat.le_of_ble_eq_true rfl) (Nat.le_of_ble_eq_true rfl) dX9_init_53
theorem dg_X1_init_0_0 : bqL cX1_init 0 [(0, [42]), (1, [183, 0, 3]), (4, [42]), (5, [16, 90]), (7, [188, 10]), (9, [181, 0, 9]), (12, [42]), (13, [16, 9]), (15, [188, 10]), (17, [181, 0, 15]), (20, [42]), (21, [16, 10]), (23, [188, 10]), (25, [181, 0, 18]), (28, [42]), (29, [16, 100]), (31, [188, 11]), (33, [181, 0, 21]), (36, [42]), (37, [16, 100]), (39, [188, 11]), (41, [181, 0, 25]), (44, [42]), (45, [16, 100]), (47, [188, 11]), (49, [181, 0, 28]), (52, [42]), (53, [3]), (54, [181, 0, 31]), (57, [42]), (58, [3]), (59, [181, 0, 35]), (62, [42]), (63, [43]), (64, [181, 0, 38]), (67, [177])] = true := by decide +kernel
theorem dX1_init_0 : decode cX1_init 0 = .ok (.aload_n 0, 1) := q_aload_n0 (bat_get dg_X1_init_0_0 0 rfl rfl)
theorem dX1_init_1 : decode cX1_init 1 = .ok (.invokespecial 3, 3) := q_invokespecial (bat_get dg_X1_init_0_0 1 rfl rfl) rfl
theorem dX1_init_4 : decode cX1_init 4 = .ok (.aload_n 0, 1) := q_aload_n0 (bat_get dg_X1_init_0_0 2 rfl rfl)
theorem dX1_init_5 : decode cX1_init 5 = .ok (.bipush 90, 2) := q_bipush (bat_get dg_X1_init_0_0 3 rfl rfl) rfl
theorem dX1_init_7 : decode cX1_init 7 = .ok (.newarray .int, 2) := q_newarray_int (bat_get dg_X1_init_0_0 4 rfl rfl)
theorem dX1_init_9 : decode cX1_init 9 = .ok (.putfield 9, 3) := q_putfield (bat_get dg_X1_init_0_0 5 rfl rfl) rfl
theorem dX1_init_12 : decode cX1_init 12 = .ok (.aload_n 0, 1) := q_aload_n0 (bat_get dg_X1_init_0_0 6 rfl rfl)
theorem dX1_init_13 : decode cX1_init 13 = .ok (.bipush 9, 2) := q_bipush (bat_get dg_X1_init_0_0 7 rfl rfl) rfl
theorem dX1_init_15 : decode cX1_init 15 = .ok (.newarray .int, 2) := q_newarray_int (bat_get dg_X1_init_0_0 8 rfl rfl)
theorem dX1_init_17 : decode cX1_init 17 = .ok (.putfield 15, 3) := q_putfield (bat_get dg_X1_init_0_0 9 rfl rfl) rfl
theorem dX1_init_20 : decode cX1_init 20 = .ok (.aload_n 0, 1) := q_aload_n0 (bat_get dg_X1_init_0_0 10 rfl rfl)
theorem dX1_init_21 : decode cX1_init 21 = .ok (.bipush 10, 2) := q_bipush (bat_get dg_X1_init_0_0 11 rfl rfl) rfl
theorem dX1_init_23 : decode cX1_init 23 = .ok (.newarray .int, 2) := q_newarray_int (bat_get dg_X1_init_0_0 12 rfl rfl)
theorem dX1_init_25 : decode cX1_init 25 = .ok (.putfield 18, 3) := q_putfield (bat_get dg_X1_init_0_0 13 rfl rfl) rfl
theorem dX1_init_28 : decode cX1_init 28 = .ok (.aload_n 0, 1) := q_aload_n0 (bat_get dg_X1_init_0_0 14 rfl rfl)
theorem dX1_init_29 : decode cX1_init 29 = .ok (.bipush 100, 2) := q_bipush (bat_get dg_X1_init_0_0 15 rfl rfl) rfl
theorem dX1_init_31 : decode cX1_init 31 = .ok (.newarray .long, 2) := q_newarray_long (bat_get dg_X1_init_0_0 16 rfl rfl)
theorem dX1_init_33 : decode cX1_init 33 = .ok (.putfield 21, 3) := q_putfield (bat_get dg_X1_init_0_0 17 rfl rfl) rfl
theorem dX1_init_36 : decode cX1_init 36 = .ok (.aload_n 0, 1) := q_aload_n0 (bat_get dg_X1_init_0_0 18 rfl rfl)
theorem dX1_init_37 : decode cX1_init 37 = .ok (.bipush 100, 2) := q_bipush (bat_get dg_X1_init_0_0 19 rfl rfl) rfl
theorem dX1_init_39 : decode cX1_init 39 = .ok (.newarray .long, 2) := q_newarray_long (bat_get dg_X1_init_0_0 20 rfl rfl)
theorem dX1_init_41 : decode cX1_init 41 = .ok (.putfield 25, 3) := q_putfield (bat_get dg_X1_init_0_0 21 rfl rfl) rfl
