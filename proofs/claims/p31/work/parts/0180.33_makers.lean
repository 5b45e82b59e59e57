theorem dg_X10_init_0_0 : bqL cX10_init 0 [(0, [42]), (1, [183, 0, 1]), (4, [42]), (5, [3]), (6, [181, 0, 7]), (9, [42]), (10, [27]), (11, [3]), (12, [184, 0, 13]), (15, [188, 10]), (17, [181, 0, 19]), (20, [177])] = true := by decide +kernel
theorem dX10_init_0 : decode cX10_init 0 = .ok (.aload_n 0, 1) := q_aload_n0 (bat_get dg_X10_init_0_0 0 rfl rfl)
theorem dX10_init_1 : decode cX10_init 1 = .ok (.invokespecial 1, 3) := q_invokespecial (bat_get dg_X10_init_0_0 1 rfl rfl) rfl
theorem dX10_init_4 : decode cX10_init 4 = .ok (.aload_n 0, 1) := q_aload_n0 (bat_get dg_X10_init_0_0 2 rfl rfl)
theorem dX10_init_5 : decode cX10_init 5 = .ok (.iconst 0, 1) := q_iconst0 (bat_get dg_X10_init_0_0 3 rfl rfl)
theorem dX10_init_6 : decode cX10_init 6 = .ok (.putfield 7, 3) := q_putfield (bat_get dg_X10_init_0_0 4 rfl rfl) rfl
theorem dX10_init_9 : decode cX10_init 9 = .ok (.aload_n 0, 1) := q_aload_n0 (bat_get dg_X10_init_0_0 5 rfl rfl)
theorem dX10_init_10 : decode cX10_init 10 = .ok (.iload_n 1, 1) := q_iload_n1 (bat_get dg_X10_init_0_0 6 rfl rfl)
theorem dX10_init_11 : decode cX10_init 11 = .ok (.iconst 0, 1) := q_iconst0 (bat_get dg_X10_init_0_0 7 rfl rfl)
theorem dX10_init_12 : decode cX10_init 12 = .ok (.invokestatic 13, 3) := q_invokestatic (bat_get dg_X10_init_0_0 8 rfl rfl) rfl
theorem dX10_init_15 : decode cX10_init 15 = .ok (.newarray .int, 2) := q_newarray_int (bat_get dg_X10_init_0_0 9 rfl rfl)
theorem dX10_init_17 : decode cX10_init 17 = .ok (.putfield 19, 3) := q_putfield (bat_get dg_X10_init_0_0 10 rfl rfl) rfl
theorem dX10_init_20 : decode cX10_init 20 = .ok (.return_, 1) := q_return_ (bat_get dg_X10_init_0_0 11 rfl rfl)
theorem w_1_35 : (Cond.methodLink RX10 1 objectInit) ∈ wsL_law := sk_mem (ck_1 _ (List.mem_of_getElem? (i := 35) rfl)) rfl
theorem w_1_28 : (Cond.instanceMethod objectInit) ∈ wsL_law := sk_mem (ck_1 _ (List.mem_of_getElem? (i := 28) rfl)) rfl
theorem w_1_29 : (Cond.code objectInit ⟨#[0xb1]⟩ 1 none) ∈ wsL_law := sk_mem (ck_1 _ (List.mem_of_getElem? (i := 29) rfl)) rfl
theorem w_1_36 : (Cond.methodLink RX10 13 Lib.Math.max.name) ∈ wsL_law := sk_mem (ck_1 _ (List.mem_of_getElem? (i := 36) rfl)) rfl
theorem w_1_49 : (Cond.arrayClass .int) ∈ wsL_law := sk_mem (ck_1 _ (List.mem_of_getElem? (i := 49) rfl)) rfl
theorem w_1_34 : (Cond.code yX10_init cX10_init 2 none) ∈ wsL_law := sk_mem (ck_1 _ (List.mem_of_getElem? (i := 34) rfl)) rfl
set_option maxHeartbeats 4000000 in
set_option maxRecDepth 100000 in
theorem c_Tape_init_1600 (l : Launch) (D : va_G) (cI cJ cC cZ cS : ClassId) (h0 : Nat)  : skM l yX10_init cX10_init 2 none 1 21 1 1600 D (skT cI cJ cC cZ cS) [.ref h0, .int 1600] [(h0, .inr (10, [.null, .int 0]))] (skV D (skT cI cJ cC cZ cS) (fun (u : va_W) => ∃ (k1 : Nat), u = [(h0, .inr (10, [.ref k1, .int 0])), (k1, .inl (cI, 1600, .inl (fun _ => 0)))])) := by
  refine skM_of pf_X10_init (Nat.le_of_ble_eq_true rfl) ?_
  intro p e s m below meth c A ls E hP hD hl
  refine skE_el E (fun hx hb hr hml hlocks hin hown hts hK hA => ?_)
  have hown : s.vm.findClass RX10 = some m.cls := hown
  have hin : meth.name = "<init>" := hin
  have hS : va_S A s.heap s.heap [] := va_S.rf
  have hl : lv_has ls 2 [(0, .ref h0), (1, .int 1600)] := hl
  refine lv_aload_n hx hb dX10_init_0 rfl (lv_at hl 0 rfl) ?_
  refine W.objInit hx hb hown (hts _ w_1_35) (hts _ w_1_28) (hts _ w_1_29) rfl (by rw [hml]; exact hl.1) rfl dX10_init_1 (Nat.le_of_ble_eq_true rfl) (Nat.le_of_ble_eq_true rfl) ?_
  refine W.eq (g2 := F0 m 4 ls []) rfl ?_
  refine lv_aload_n hx hb dX10_init_4 rfl (lv_at hl 0 rfl) ?_
  refine lv_iconst (v := 0) hx hb dX10_init_5 (by decide) ?_
  refine sk_put (ws' := [(h0, .inr (10, [.null, .int 0]))]) (C := RX10) (T := TX10) (N := 2) (v := .int 0) hx hb hts inlX10 tyX10 tyX10_ok nmX10 hown hK hP hD hS 0 rfl rfl 1 (by decide) w_1_41 rfl rfl rfl (Nat.le_of_ble_eq_true rfl) rfl dX10_init_6 (fun H locs hP hD hS => ?_)
  refine lv_aload_n hx hb dX10_init_9 rfl (lv_at hl 0 rfl) ?_
  refine lv_iload_n hx hb dX10_init_10 rfl (lv_at hl 1 rfl) ?_
  refine lv_iconst (v := 0) hx hb dX10_init_11 (by decide) ?_
  refine va_mmax hx hb (by rw [hml]; exact hl.1.symm) hown (hts _ w_1_36) (hts _ w_1_37) (hts _ w_1_3) (hts _ w_1_38) (Nat.le_of_ble_eq_true rfl) (Nat.le_of_ble_eq_true rfl) (Nat.le_of_ble_eq_true rfl) (Nat.le_of_ble_eq_true rfl) dX10_init_12 ?_
  refine sk_top 1600 (by decide) ?_
  refine sk_newa (atype := .int) (ty := .int) (a0 := (1600, .inl (fun _ => 0))) (cA := cI) (k1 := 1) (n1 := 1600) hx hb hts w_1_49 rfl (fun _ _ h => h) 0 rfl hK hP hD hS hA (fun _ => vp_cell_i _ _ _) (by decide) (by decide) (Nat.le_of_ble_eq_true rfl) (Nat.le_of_ble_eq_true rfl) (Nat.le_of_ble_eq_true rfl) (Nat.le_of_ble_eq_true rfl) (Nat.le_of_ble_eq_true rfl) dX10_init_15 (fun q_1 H hP hD hS => ?_)
  refine o_re (ws' := [(h0, .inr (10, [.null, .int 0])), (q_1, .inl (cI, 1600, .inl (fun _ => 0)))]) hP hD rfl (fun hP hD => ?_)
  refine sk_putF (ws' := [(h0, .inr (10, [.ref q_1, .int 0])), (q_1, .inl (cI, 1600, .inl (fun _ => 0)))]) (C := RX10) (T := TX10) (N := 2) (v := .ref q_1) hx hb hts inlX10 tyX10 tyX10_ok nmX10 hown hK hP hD hS 0 rfl rfl 0 (by decide) w_1_39 rfl hin rfl rfl rfl (Nat.le_of_ble_eq_true rfl) rfl dX10_init_17 (fun H locs hP hD hS => ?_)
  exact sk_vret hx hb hr hlocks hK hP hD hS (⟨q_1, rfl⟩) (Nat.le_of_ble_eq_true rfl) (Nat.le_of_ble_eq_true rfl) dX10_init_20
set_option maxHeartbeats 4000000 in
set_option maxRecDepth 100000 in
theorem c_Tape_init_31 (l : Launch) (D : va_G) (cI cJ cC cZ cS : ClassId) (h0 : Nat)  : skM l yX10_init cX10_init 2 none 1 21 1 31 D (skT cI cJ cC cZ cS) [.ref h0, .int 31] [(h0, .inr (10, [.null, .int 0]))] (skV D (skT cI cJ cC cZ cS) (fun (u : va_W) => ∃ (k1 : Nat), u = [(h0, .inr (10, [.ref k1, .int 0])), (k1, .inl (cI, 31, .inl (fun _ => 0)))])) := by
  refine skM_of pf_X10_init (Nat.le_of_ble_eq_true rfl) ?_
  intro p e s m below meth c A ls E hP hD hl
  refine skE_el E (fun hx hb hr hml hlocks hin hown hts hK hA => ?_)
  have hown : s.vm.findClass RX10 = some m.cls := hown
  have hin : meth.name = "<init>" := hin
  have hS : va_S A s.heap s.heap [] := va_S.rf
  have hl : lv_has ls 2 [(0, .ref h0), (1, .int 31)] := hl
  refine lv_aload_n hx hb dX10_init_0 rfl (lv_at hl 0 rfl) ?_
  refine W.objInit hx hb hown (hts _ w_1_35) (hts _ w_1_28) (hts _ w_1_29) rfl (by rw [hml]; exact hl.1) rfl dX10_init_1 (Nat.le_of_ble_eq_true rfl) (Nat.le_of_ble_eq_true rfl) ?_
  refine W.eq (g2 := F0 m 4 ls []) rfl ?_
  refine lv_aload_n hx hb dX10_init_4 rfl (lv_at hl 0 rfl) ?_
  refine lv_iconst (v := 0) hx hb dX10_init_5 (by decide) ?_
  refine sk_put (ws' := [(h0, .inr (10, [.null, .int 0]))]) (C := RX10) (T := TX10) (N := 2) (v := .int 0) hx hb hts inlX10 tyX10 tyX10_ok nmX10 hown hK hP hD hS 0 rfl rfl 1 (by decide) w_1_41 rfl rfl rfl (Nat.le_of_ble_eq_true rfl) rfl dX10_init_6 (fun H locs hP hD hS => ?_)
  refine lv_aload_n hx hb dX10_init_9 rfl (lv_at hl 0 rfl) ?_
  refine lv_iload_n hx hb dX10_init_10 rfl (lv_at hl 1 rfl) ?_
  refine lv_iconst (v := 0) hx hb dX10_init_11 (by decide) ?_
  refine va_mmax hx hb (by rw [hml]; exact hl.1.symm) hown (hts _ w_1_36) (hts _ w_1_37) (hts _ w_1_3) (hts _ w_1_38) (Nat.le_of_ble_eq_true rfl) (Nat.le_of_ble_eq_true rfl) (Nat.le_of_ble_eq_true rfl) (Nat.le_of_ble_eq_true rfl) dX10_init_12 ?_
  refine sk_top 31 (by decide) ?_
  refine sk_newa (atype := .int) (ty := .int) (a0 := (31, .inl (fun _ => 0))) (cA := cI) (k1 := 1) (n1 := 31) hx hb hts w_1_49 rfl (fun _ _ h => h) 0 rfl hK hP hD hS hA (fun _ => vp_cell_i _ _ _) (by decide) (by decide) (Nat.le_of_ble_eq_true rfl) (Nat.le_of_ble_eq_true rfl) (Nat.le_of_ble_eq_true rfl) (Nat.le_of_ble_eq_true rfl) (Nat.le_of_ble_eq_true rfl) dX10_init_15 (fun q_1 H hP hD hS => ?_)
  refine o_re (ws' := [(h0, .inr (10, [.null, .int 0])), (q_1, .inl (cI, 31, .inl (fun _ => 0)))]) hP hD rfl (fun hP hD => ?_)
  refine sk_putF (ws' := [(h0, .inr (10, [.ref q_1, .int 0])), (q_1, .inl (cI, 31, .inl (fun _ => 0)))]) (C := RX10) (T := TX10) (N := 2) (v := .ref q_1) hx hb hts inlX10 tyX10 tyX10_ok nmX10 hown hK hP hD hS 0 rfl rfl 0 (by decide) w_1_39 rfl hin rfl rfl rfl (Nat.le_of_ble_eq_true rfl) rfl dX10_init_17 (fun H locs hP hD hS => ?_)
  exact sk_vret hx hb hr hlocks hK hP hD hS (⟨q_1, rfl⟩) (Nat.le_of_ble_eq_true rfl) (Nat.le_of_ble_eq_true rfl) dX10_init_20
theorem dg_X7_init_0_0 : bqL cX7_init 0 [(0, [42]), (1, [183, 0, 3]), (4, [42]), (5, [16, 9]), (7, [188, 10]), (9, [181, 0, 9]), (12, [42]), (13, [16, 9]), (15, [188, 10]), (17, [181, 0, 15]), (20, [42]), (21, [3]), (22, [181, 0, 18]), (25, [42]), (26, [3]), (27, [181, 0, 22]), (30, [42]), (31, [3]), (32, [181, 0, 25]), (35, [42]), (36, [3]), (37, [181, 0, 28]), (40, [42]), (41, [3]), (42, [181, 0, 31]), (45, [177])] = true := by decide +kernel
theorem dX7_init_0 : decode cX7_init 0 = .ok (.aload_n 0, 1) := q_aload_n0 (bat_get dg_X7_init_0_0 0 rfl rfl)
theorem dX7_init_1 : decode cX7_init 1 = .ok (.invokespecial 3, 3) := q_invokespecial (bat_get dg_X7_init_0_0 1 rfl rfl) rfl
theorem dX7_init_4 : decode cX7_init 4 = .ok (.aload_n 0, 1) := q_aload_n0 (bat_get dg_X7_init_0_0 2 rfl rfl)
theorem dX7_init_5 : decode cX7_init 5 = .ok (.bipush 9, 2) := q_bipush (bat_get dg_X7_init_0_0 3 rfl rfl) rfl
theorem dX7_init_7 : decode cX7_init 7 = .ok (.newarray .int, 2) := q_newarray_int (bat_get dg_X7_init_0_0 4 rfl rfl)
theorem dX7_init_9 : decode cX7_init 9 = .ok (.putfield 9, 3) := q_putfield (bat_get dg_X7_init_0_0 5 rfl rfl) rfl
theorem dX7_init_12 : decode cX7_init 12 = .ok (.aload_n 0, 1) := q_aload_n0 (bat_get dg_X7_init_0_0 6 rfl rfl)
theorem dX7_init_13 : decode cX7_init 13 = .ok (.bipush 9, 2) := q_bipush (bat_get dg_X7_init_0_0 7 rfl rfl) rfl
theorem dX7_init_15 : decode cX7_init 15 = .ok (.newarray .int, 2) := q_newarray_int (bat_get dg_X7_init_0_0 8 rfl rfl)
theorem dX7_init_17 : decode cX7_init 17 = .ok (.putfield 15, 3) := q_putfield (bat_get dg_X7_init_0_0 9 rfl rfl) rfl
theorem dX7_init_20 : decode cX7_init 20 = .ok (.aload_n 0, 1) := q_aload_n0 (bat_get dg_X7_init_0_0 10 rfl rfl)
theorem dX7_init_21 : decode cX7_init 21 = .ok (.iconst 0, 1) := q_iconst0 (bat_get dg_X7_init_0_0 11 rfl rfl)
theorem dX7_init_22 : decode cX7_init 22 = .ok (.putfield 18, 3) := q_putfield (bat_get dg_X7_init_0_0 12 rfl rfl) rfl
theorem dX7_init_25 : decode cX7_init 25 = .ok (.aload_n 0, 1) := q_aload_n0 (bat_get dg_X7_init_0_0 13 rfl rfl)
theorem dX7_init_26 : decode cX7_init 26 = .ok (.iconst 0, 1) := q_iconst0 (bat_get dg_X7_init_0_0 14 rfl rfl)
theorem dX7_init_27 : decode cX7_init 27 = .ok (.putfield 22, 3) := q_putfield (bat_get dg_X7_init_0_0 15 rfl rfl) rfl
theorem dX7_init_30 : decode cX7_init 30 = .ok (.aload_n 0, 1) := q_aload_n0 (bat_get dg_X7_init_0_0 16 rfl rfl)
theorem dX7_init_31 : decode cX7_init 31 = .ok (.iconst 0, 1) := q_iconst0 (bat_get dg_X7_init_0_0 17 rfl rfl)
theorem dX7_init_32 : decode cX7_init 32 = .ok (.putfield 25, 3) := q_putfield (bat_get dg_X7_init_0_0 18 rfl rfl) rfl
theorem dX7_init_35 : decode cX7_init 35 = .ok (.aload_n 0, 1) := q_aload_n0 (bat_get dg_X7_init_0_0 19 rfl rfl)
theorem dX7_init_36 : decode cX7_init 36 = .ok (.iconst 0, 1) := q_iconst0 (bat_get dg_X7_init_0_0 20 rfl rfl)
theorem dX7_init_37 : decode cX7_init 37 = .ok (.putfield 28, 3) := q_putfield (bat_get dg_X7_init_0_0 21 rfl rfl) rfl
theorem dX7_init_40 : decode cX7_init 40 = .ok (.aload_n 0, 1) := q_aload_n0 (bat_get dg_X7_init_0_0 22 rfl rfl)
theorem dX7_init_41 : decode cX7_init 41 = .ok (.iconst 0, 1) := q_iconst0 (bat_get dg_X7_init_0_0 23 rfl rfl)
theorem dX7_init_42 : decode cX7_init 42 = .ok (.putfield 31, 3) := q_putfield (bat_get dg_X7_init_0_0 24 rfl rfl) rfl
theorem dX7_init_45 : decode cX7_init 45 = .ok (.return_, 1) := q_return_ (bat_get dg_X7_init_0_0 25 rfl rfl)
theorem w_1_229 : (Cond.methodLink RX7 3 objectInit) ∈ wsL_law := sk_mem (ck_1 _ (List.mem_of_getElem? (i := 229) rfl)) rfl
theorem w_1_228 : (Cond.code yX7_init cX7_init 1 none) ∈ wsL_law := sk_mem (ck_1 _ (List.mem_of_getElem? (i := 228) rfl)) rfl
set_option maxHeartbeats 4000000 in
set_option maxRecDepth 100000 in
theorem c_State_init (l : Launch) (D : va_G) (cI cJ cC cZ cS : ClassId) (h0 : Nat)  : skM l yX7_init cX7_init 1 none 1 20 2 18 D (skT cI cJ cC cZ cS) [.ref h0] [(h0, .inr (7, [.null, .null, .int 0, .int 0, .int 0, .int 0, .int 0]))] (skV D (skT cI cJ cC cZ cS) (fun (u : va_W) => ∃ (k1 : Nat), ∃ (k2 : Nat), u = [(h0, .inr (7, [.ref k1, .ref k2, .int 0, .int 0, .int 0, .int 0, .int 0])), (k1, .inl (cI, 9, .inl (fun _ => 0))), (k2, .inl (cI, 9, .inl (fun _ => 0)))])) := by
  refine skM_of pf_X7_init (Nat.le_of_ble_eq_true rfl) ?_
  intro p e s m below meth c A ls E hP hD hl
  refine skE_el E (fun hx hb hr hml hlocks hin hown hts hK hA => ?_)
  have hown : s.vm.findClass RX7 = some m.cls := hown
  have hin : meth.name = "<init>" := hin
  have hS : va_S A s.heap s.heap [] := va_S.rf
  have hl : lv_has ls 1 [(0, .ref h0)] := hl
  refine lv_aload_n hx hb dX7_init_0 rfl (lv_at hl 0 rfl) ?_
  refine W.objInit hx hb hown (hts _ w_1_229) (hts _ w_1_28) (hts _ w_1_29) rfl (by rw [hml]; exact hl.1) rfl dX7_init_1 (Nat.le_of_ble_eq_true rfl) (Nat.le_of_ble_eq_true rfl) ?_
  refine W.eq (g2 := F0 m 4 ls []) rfl ?_
  refine lv_aload_n hx hb dX7_init_4 rfl (lv_at hl 0 rfl) ?_
  refine lv_bipush (v := 9) hx hb dX7_init_5 (by decide) ?_
  refine sk_newa (atype := .int) (ty := .int) (a0 := (9, .inl (fun _ => 0))) (cA := cI) (k1 := 1) (n1 := 9) hx hb hts w_1_49 rfl (fun _ _ h => h) 0 rfl hK hP hD hS hA (fun _ => vp_cell_i _ _ _) (by decide) (by decide) (Nat.le_of_ble_eq_true rfl) (Nat.le_of_ble_eq_true rfl) (Nat.le_of_ble_eq_true rfl) (Nat.le_of_ble_eq_true rfl) (Nat.le_of_ble_eq_true rfl) dX7_init_7 (fun q_1 H hP hD hS => ?_)
  refine o_re (ws' := [(h0, .inr (7, [.null, .null, .int 0, .int 0, .int 0, .int 0, .int 0])), (q_1, .inl (cI, 9, .inl (fun _ => 0)))]) hP hD rfl (fun hP hD => ?_)
  refine sk_putF (ws' := [(h0, .inr (7, [.ref q_1, .null, .int 0, .int 0, .int 0, .int 0, .int 0])), (q_1, .inl (cI, 9, .inl (fun _ => 0)))]) (C := RX7) (T := TX7) (N := 7) (v := .ref q_1) hx hb hts inlX7 tyX7 tyX7_ok nmX7 hown hK hP hD hS 0 rfl rfl 0 (by decide) w_1_230 rfl hin rfl rfl rfl (Nat.le_of_ble_eq_true rfl) rfl dX7_init_9 (fun H locs hP hD hS => ?_)
  refine lv_aload_n hx hb dX7_init_12 rfl (lv_at hl 0 rfl) ?_
  refine lv_bipush (v := 9) hx hb dX7_init_13 (by decide) ?_
  refine sk_newa (atype := .int) (ty := .int) (a0 := (9, .inl (fun _ => 0))) (cA := cI) (k1 := 2) (n1 := 18) hx hb hts w_1_49 rfl (fun _ _ h => h) 0 rfl hK hP hD hS hA (fun _ => vp_cell_i _ _ _) (by decide) (by decide) (Nat.le_of_ble_eq_true rfl) (Nat.le_of_ble_eq_true rfl) (Nat.le_of_ble_eq_true rfl) (Nat.le_of_ble_eq_true rfl) (Nat.le_of_ble_eq_true rfl) dX7_init_15 (fun q_2 H hP hD hS => ?_)
  refine o_re (ws' := [(h0, .inr (7, [.ref q_1, .null, .int 0, .int 0, .int 0, .int 0, .int 0])), (q_1, .inl (cI, 9, .inl (fun _ => 0))), (q_2, .inl (cI, 9, .inl (fun _ => 0)))]) hP hD rfl (fun hP hD => ?_)
  refine sk_putF (ws' := [(h0, .inr (7, [.ref q_1, .ref q_2, .int 0, .int 0, .int 0, .int 0, .int 0])), (q_1, .inl (cI, 9, .inl (fun _ => 0))), (q_2, .inl (cI, 9, .inl (fun _ => 0)))]) (C := RX7) (T := TX7) (N := 7) (v := .ref q_2) hx hb hts inlX7 tyX7 tyX7_ok nmX7 hown hK hP hD hS 0 rfl rfl 1 (by decide) w_1_234 rfl hin rfl rfl rfl (Nat.le_of_ble_eq_true rfl) rfl dX7_init_17 (fun H locs hP hD hS => ?_)
  refine lv_aload_n hx hb dX7_init_20 rfl (lv_at hl 0 rfl) ?_
  refine lv_iconst (v := 0) hx hb dX7_init_21 (by decide) ?_
  refine sk_put (ws' := [(h0, .inr (7, [.ref q_1, .ref q_2, .int 0, .int 0, .int 0, .int 0, .int 0])), (q_1, .inl (cI, 9, .inl (fun _ => 0))), (q_2, .inl (cI, 9, .inl (fun _ => 0)))]) (C := RX7) (T := TX7) (N := 7) (v := .int 0) hx hb hts inlX7 tyX7 tyX7_ok nmX7 hown hK hP hD hS 0 rfl rfl 2 (by decide) w_1_238 rfl rfl rfl (Nat.le_of_ble_eq_true rfl) rfl dX7_init_22 (fun H locs hP hD hS => ?_)
  refine lv_aload_n hx hb dX7_init_25 rfl (lv_at hl 0 rfl) ?_
  refine lv_iconst (v := 0) hx hb dX7_init_26 (by decide) ?_
  refine sk_put (ws' := [(h0, .inr (7, [.ref q_1, .ref q_2, .int 0, .int 0, .int 0, .int 0, .int 0])), (q_1, .inl (cI, 9, .inl (fun _ => 0))), (q_2, .inl (cI, 9, .inl (fun _ => 0)))]) (C := RX7) (T := TX7) (N := 7) (v := .int 0) hx hb hts inlX7 tyX7 tyX7_ok nmX7 hown hK hP hD hS 0 rfl rfl 3 (by decide) w_2_3 rfl rfl rfl (Nat.le_of_ble_eq_true rfl) rfl dX7_init_27 (fun H locs hP hD hS => ?_)
  refine lv_aload_n hx hb dX7_init_30 rfl (lv_at hl 0 rfl) ?_
  refine lv_iconst (v := 0) hx hb dX7_init_31 (by decide) ?_
  refine sk_put (ws' := [(h0, .inr (7, [.ref q_1, .ref q_2, .int 0, .int 0, .int 0, .int 0, .int 0])), (q_1, .inl (cI, 9, .inl (fun _ => 0))), (q_2, .inl (cI, 9, .inl (fun _ => 0)))]) (C := RX7) (T := TX7) (N := 7) (v := .int 0) hx hb hts inlX7 tyX7 tyX7_ok nmX7 hown hK hP hD hS 0 rfl rfl 4 (by decide) w_2_8 rfl rfl rfl (Nat.le_of_ble_eq_true rfl) rfl dX7_init_32 (fun H locs hP hD hS => ?_)
  refine lv_aload_n hx hb dX7_init_35 rfl (lv_at hl 0 rfl) ?_
  refine lv_iconst (v := 0) hx hb dX7_init_36 (by decide) ?_
  refine sk_put (ws' := [(h0, .inr (7, [.ref q_1, .ref q_2, .int 0, .int 0, .int 0, .int 0, .int 0])), (q_1, .inl (cI, 9, .inl (fun _ => 0))), (q_2, .inl (cI, 9, .inl (fun _ => 0)))]) (C := RX7) (T := TX7) (N := 7) (v := .int 0) hx hb hts inlX7 tyX7 tyX7_ok nmX7 hown hK hP hD hS 0 rfl rfl 5 (by decide) w_2_11 rfl rfl rfl (Nat.le_of_ble_eq_true rfl) rfl dX7_init_37 (fun H locs hP hD hS => ?_)
  refine lv_aload_n hx hb dX7_init_40 rfl (lv_at hl 0 rfl) ?_
  refine lv_iconst (v := 0) hx hb dX7_init_41 (by decide) ?_
  refine sk_put (ws' := [(h0, .inr (7, [.ref q_1, .ref q_2, .int 0, .int 0, .int 0, .int 0, .int 0])), (q_1, .inl (cI, 9, .inl (fun _ => 0))), (q_2, .inl (cI, 9, .inl (fun _ => 0)))]) (C := RX7) (T := TX7) (N := 7) (v := .int 0) hx hb hts inlX7 tyX7 tyX7_ok nmX7 hown hK hP hD hS 0 rfl rfl 6 (by decide) w_2_13 rfl rfl rfl (Nat.le_of_ble_eq_true rfl) rfl dX7_init_42 (fun H locs hP hD hS => ?_)
  exact sk_vret hx hb hr hlocks hK hP hD hS (⟨q_1, q_2, rfl⟩) (Nat.le_of_ble_eq_true rfl) (Nat.le_of_ble_eq_true rfl) dX7_init_45
