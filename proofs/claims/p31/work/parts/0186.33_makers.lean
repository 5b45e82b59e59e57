theorem dX1_init_44 : decode cX1_init 44 = .ok (.aload_n 0, 1) := q_aload_n0 (bat_get dg_X1_init_0_0 22 rfl rfl)
theorem dX1_init_45 : decode cX1_init 45 = .ok (.bipush 100, 2) := q_bipush (bat_get dg_X1_init_0_0 23 rfl rfl) rfl
theorem dX1_init_47 : decode cX1_init 47 = .ok (.newarray .long, 2) := q_newarray_long (bat_get dg_X1_init_0_0 24 rfl rfl)
theorem dX1_init_49 : decode cX1_init 49 = .ok (.putfield 28, 3) := q_putfield (bat_get dg_X1_init_0_0 25 rfl rfl) rfl
theorem dX1_init_52 : decode cX1_init 52 = .ok (.aload_n 0, 1) := q_aload_n0 (bat_get dg_X1_init_0_0 26 rfl rfl)
theorem dX1_init_53 : decode cX1_init 53 = .ok (.iconst 0, 1) := q_iconst0 (bat_get dg_X1_init_0_0 27 rfl rfl)
theorem dX1_init_54 : decode cX1_init 54 = .ok (.putfield 31, 3) := q_putfield (bat_get dg_X1_init_0_0 28 rfl rfl) rfl
theorem dX1_init_57 : decode cX1_init 57 = .ok (.aload_n 0, 1) := q_aload_n0 (bat_get dg_X1_init_0_0 29 rfl rfl)
theorem dX1_init_58 : decode cX1_init 58 = .ok (.iconst 0, 1) := q_iconst0 (bat_get dg_X1_init_0_0 30 rfl rfl)
theorem dX1_init_59 : decode cX1_init 59 = .ok (.putfield 35, 3) := q_putfield (bat_get dg_X1_init_0_0 31 rfl rfl) rfl
theorem dX1_init_62 : decode cX1_init 62 = .ok (.aload_n 0, 1) := q_aload_n0 (bat_get dg_X1_init_0_0 32 rfl rfl)
theorem dX1_init_63 : decode cX1_init 63 = .ok (.aload_n 1, 1) := q_aload_n1 (bat_get dg_X1_init_0_0 33 rfl rfl)
theorem dX1_init_64 : decode cX1_init 64 = .ok (.putfield 38, 3) := q_putfield (bat_get dg_X1_init_0_0 34 rfl rfl) rfl
theorem dX1_init_67 : decode cX1_init 67 = .ok (.return_, 1) := q_return_ (bat_get dg_X1_init_0_0 35 rfl rfl)
theorem w_2_94 : (Cond.methodLink RX1 3 objectInit) ∈ wsL_law := sk_mem (ck_2 _ (List.mem_of_getElem? (i := 94) rfl)) rfl
theorem w_2_93 : (Cond.code yX1_init cX1_init 2 none) ∈ wsL_law := sk_mem (ck_2 _ (List.mem_of_getElem? (i := 93) rfl)) rfl
set_option maxHeartbeats 4000000 in
set_option maxRecDepth 100000 in
theorem c_Graph_init (l : Launch) (D : va_G) (cI cJ cC cZ cS : ClassId) (h0 : Nat) (tb : Nat)  : skM l yX1_init cX1_init 2 none 1 20 6 409 D (skT cI cJ cC cZ cS) [.ref h0, .ref tb] [(h0, .inr (1, [.null, .null, .null, .null, .null, .null, .null, .int 0, .int 0]))] (skV D (skT cI cJ cC cZ cS) (fun (u : va_W) => ∃ (k1 : Nat), ∃ (k2 : Nat), ∃ (k3 : Nat), ∃ (k4 : Nat), ∃ (k5 : Nat), ∃ (k6 : Nat), u = [(h0, .inr (1, [.ref tb, .ref k1, .ref k2, .ref k3, .ref k4, .ref k5, .ref k6, .int 0, .int 0])), (k1, .inl (cI, 90, .inl (fun _ => 0))), (k2, .inl (cI, 9, .inl (fun _ => 0))), (k3, .inl (cI, 10, .inl (fun _ => 0))), (k4, .inl (cJ, 100, .inr (.inl (fun _ => 0)))), (k5, .inl (cJ, 100, .inr (.inl (fun _ => 0)))), (k6, .inl (cJ, 100, .inr (.inl (fun _ => 0))))])) := by
  refine skM_of pf_X1_init (Nat.le_of_ble_eq_true rfl) ?_
  intro p e s m below meth c A ls E hP hD hl
  refine skE_el E (fun hx hb hr hml hlocks hin hown hts hK hA => ?_)
  have hown : s.vm.findClass RX1 = some m.cls := hown
  have hin : meth.name = "<init>" := hin
  have hS : va_S A s.heap s.heap [] := va_S.rf
  have hl : lv_has ls 2 [(0, .ref h0), (1, .ref tb)] := hl
  refine lv_aload_n hx hb dX1_init_0 rfl (lv_at hl 0 rfl) ?_
  refine W.objInit hx hb hown (hts _ w_2_94) (hts _ w_1_28) (hts _ w_1_29) rfl (by rw [hml]; exact hl.1) rfl dX1_init_1 (Nat.le_of_ble_eq_true rfl) (Nat.le_of_ble_eq_true rfl) ?_
  refine W.eq (g2 := F0 m 4 ls []) rfl ?_
  refine lv_aload_n hx hb dX1_init_4 rfl (lv_at hl 0 rfl) ?_
  refine lv_bipush (v := 90) hx hb dX1_init_5 (by decide) ?_
  refine sk_newa (atype := .int) (ty := .int) (a0 := (90, .inl (fun _ => 0))) (cA := cI) (k1 := 1) (n1 := 90) hx hb hts w_1_49 rfl (fun _ _ h => h) 0 rfl hK hP hD hS hA (fun _ => vp_cell_i _ _ _) (by decide) (by decide) (Nat.le_of_ble_eq_true rfl) (Nat.le_of_ble_eq_true rfl) (Nat.le_of_ble_eq_true rfl) (Nat.le_of_ble_eq_true rfl) (Nat.le_of_ble_eq_true rfl) dX1_init_7 (fun q_1 H hP hD hS => ?_)
  refine o_re (ws' := [(h0, .inr (1, [.null, .null, .null, .null, .null, .null, .null, .int 0, .int 0])), (q_1, .inl (cI, 90, .inl (fun _ => 0)))]) hP hD rfl (fun hP hD => ?_)
  refine sk_putF (ws' := [(h0, .inr (1, [.null, .ref q_1, .null, .null, .null, .null, .null, .int 0, .int 0])), (q_1, .inl (cI, 90, .inl (fun _ => 0)))]) (C := RX1) (T := TX1) (N := 9) (v := .ref q_1) hx hb hts inlX1 tyX1 tyX1_ok nmX1 hown hK hP hD hS 0 rfl rfl 1 (by decide) w_2_96 rfl hin rfl rfl rfl (Nat.le_of_ble_eq_true rfl) rfl dX1_init_9 (fun H locs hP hD hS => ?_)
  refine lv_aload_n hx hb dX1_init_12 rfl (lv_at hl 0 rfl) ?_
  refine lv_bipush (v := 9) hx hb dX1_init_13 (by decide) ?_
  refine sk_newa (atype := .int) (ty := .int) (a0 := (9, .inl (fun _ => 0))) (cA := cI) (k1 := 2) (n1 := 99) hx hb hts w_1_49 rfl (fun _ _ h => h) 0 rfl hK hP hD hS hA (fun _ => vp_cell_i _ _ _) (by decide) (by decide) (Nat.le_of_ble_eq_true rfl) (Nat.le_of_ble_eq_true rfl) (Nat.le_of_ble_eq_true rfl) (Nat.le_of_ble_eq_true rfl) (Nat.le_of_ble_eq_true rfl) dX1_init_15 (fun q_2 H hP hD hS => ?_)
  refine o_re (ws' := [(h0, .inr (1, [.null, .ref q_1, .null, .null, .null, .null, .null, .int 0, .int 0])), (q_1, .inl (cI, 90, .inl (fun _ => 0))), (q_2, .inl (cI, 9, .inl (fun _ => 0)))]) hP hD rfl (fun hP hD => ?_)
  refine sk_putF (ws' := [(h0, .inr (1, [.null, .ref q_1, .ref q_2, .null, .null, .null, .null, .int 0, .int 0])), (q_1, .inl (cI, 90, .inl (fun _ => 0))), (q_2, .inl (cI, 9, .inl (fun _ => 0)))]) (C := RX1) (T := TX1) (N := 9) (v := .ref q_2) hx hb hts inlX1 tyX1 tyX1_ok nmX1 hown hK hP hD hS 0 rfl rfl 2 (by decide) w_2_97 rfl hin rfl rfl rfl (Nat.le_of_ble_eq_true rfl) rfl dX1_init_17 (fun H locs hP hD hS => ?_)
  refine lv_aload_n hx hb dX1_init_20 rfl (lv_at hl 0 rfl) ?_
  refine lv_bipush (v := 10) hx hb dX1_init_21 (by decide) ?_
  refine sk_newa (atype := .int) (ty := .int) (a0 := (10, .inl (fun _ => 0))) (cA := cI) (k1 := 3) (n1 := 109) hx hb hts w_1_49 rfl (fun _ _ h => h) 0 rfl hK hP hD hS hA (fun _ => vp_cell_i _ _ _) (by decide) (by decide) (Nat.le_of_ble_eq_true rfl) (Nat.le_of_ble_eq_true rfl) (Nat.le_of_ble_eq_true rfl) (Nat.le_of_ble_eq_true rfl) (Nat.le_of_ble_eq_true rfl) dX1_init_23 (fun q_3 H hP hD hS => ?_)
  refine o_re (ws' := [(h0, .inr (1, [.null, .ref q_1, .ref q_2, .null, .null, .null, .null, .int 0, .int 0])), (q_1, .inl (cI, 90, .inl (fun _ => 0))), (q_2, .inl (cI, 9, .inl (fun _ => 0))), (q_3, .inl (cI, 10, .inl (fun _ => 0)))]) hP hD rfl (fun hP hD => ?_)
  refine sk_putF (ws' := [(h0, .inr (1, [.null, .ref q_1, .ref q_2, .ref q_3, .null, .null, .null, .int 0, .int 0])), (q_1, .inl (cI, 90, .inl (fun _ => 0))), (q_2, .inl (cI, 9, .inl (fun _ => 0))), (q_3, .inl (cI, 10, .inl (fun _ => 0)))]) (C := RX1) (T := TX1) (N := 9) (v := .ref q_3) hx hb hts inlX1 tyX1 tyX1_ok nmX1 hown hK hP hD hS 0 rfl rfl 3 (by decide) w_2_98 rfl hin rfl rfl rfl (Nat.le_of_ble_eq_true rfl) rfl dX1_init_25 (fun H locs hP hD hS => ?_)
  refine lv_aload_n hx hb dX1_init_28 rfl (lv_at hl 0 rfl) ?_
  refine lv_bipush (v := 100) hx hb dX1_init_29 (by decide) ?_
  refine sk_newa (atype := .long) (ty := .long) (a0 := (100, .inr (.inl (fun _ => 0)))) (cA := cJ) (k1 := 4) (n1 := 209) hx hb hts w_1_151 rfl (fun _ _ h => h) 1 rfl hK hP hD hS hA (fun _ => vp_cell_l _ _ _) (by decide) (by decide) (Nat.le_of_ble_eq_true rfl) (Nat.le_of_ble_eq_true rfl) (Nat.le_of_ble_eq_true rfl) (Nat.le_of_ble_eq_true rfl) (Nat.le_of_ble_eq_true rfl) dX1_init_31 (fun q_4 H hP hD hS => ?_)
  refine o_re (ws' := [(h0, .inr (1, [.null, .ref q_1, .ref q_2, .ref q_3, .null, .null, .null, .int 0, .int 0])), (q_1, .inl (cI, 90, .inl (fun _ => 0))), (q_2, .inl (cI, 9, .inl (fun _ => 0))), (q_3, .inl (cI, 10, .inl (fun _ => 0))), (q_4, .inl (cJ, 100, .inr (.inl (fun _ => 0))))]) hP hD rfl (fun hP hD => ?_)
  refine sk_putF (ws' := [(h0, .inr (1, [.null, .ref q_1, .ref q_2, .ref q_3, .ref q_4, .null, .null, .int 0, .int 0])), (q_1, .inl (cI, 90, .inl (fun _ => 0))), (q_2, .inl (cI, 9, .inl (fun _ => 0))), (q_3, .inl (cI, 10, .inl (fun _ => 0))), (q_4, .inl (cJ, 100, .inr (.inl (fun _ => 0))))]) (C := RX1) (T := TX1) (N := 9) (v := .ref q_4) hx hb hts inlX1 tyX1 tyX1_ok nmX1 hown hK hP hD hS 0 rfl rfl 4 (by decide) w_2_99 rfl hin rfl rfl rfl (Nat.le_of_ble_eq_true rfl) rfl dX1_init_33 (fun H locs hP hD hS => ?_)
  refine lv_aload_n hx hb dX1_init_36 rfl (lv_at hl 0 rfl) ?_
  refine lv_bipush (v := 100) hx hb dX1_init_37 (by decide) ?_
  refine sk_newa (atype := .long) (ty := .long) (a0 := (100, .inr (.inl (fun _ => 0)))) (cA := cJ) (k1 := 5) (n1 := 309) hx hb hts w_1_151 rfl (fun _ _ h => h) 1 rfl hK hP hD hS hA (fun _ => vp_cell_l _ _ _) (by decide) (by decide) (Nat.le_of_ble_eq_true rfl) (Nat.le_of_ble_eq_true rfl) (Nat.le_of_ble_eq_true rfl) (Nat.le_of_ble_eq_true rfl) (Nat.le_of_ble_eq_true rfl) dX1_init_39 (fun q_5 H hP hD hS => ?_)
  refine o_re (ws' := [(h0, .inr (1, [.null, .ref q_1, .ref q_2, .ref q_3, .ref q_4, .null, .null, .int 0, .int 0])), (q_1, .inl (cI, 90, .inl (fun _ => 0))), (q_2, .inl (cI, 9, .inl (fun _ => 0))), (q_3, .inl (cI, 10, .inl (fun _ => 0))), (q_4, .inl (cJ, 100, .inr (.inl (fun _ => 0)))), (q_5, .inl (cJ, 100, .inr (.inl (fun _ => 0))))]) hP hD rfl (fun hP hD => ?_)
  refine sk_putF (ws' := [(h0, .inr (1, [.null, .ref q_1, .ref q_2, .ref q_3, .ref q_4, .ref q_5, .null, .int 0, .int 0])), (q_1, .inl (cI, 90, .inl (fun _ => 0))), (q_2, .inl (cI, 9, .inl (fun _ => 0))), (q_3, .inl (cI, 10, .inl (fun _ => 0))), (q_4, .inl (cJ, 100, .inr (.inl (fun _ => 0)))), (q_5, .inl (cJ, 100, .inr (.inl (fun _ => 0))))]) (C := RX1) (T := TX1) (N := 9) (v := .ref q_5) hx hb hts inlX1 tyX1 tyX1_ok nmX1 hown hK hP hD hS 0 rfl rfl 5 (by decide) w_2_100 rfl hin rfl rfl rfl (Nat.le_of_ble_eq_true rfl) rfl dX1_init_41 (fun H locs hP hD hS => ?_)
  refine lv_aload_n hx hb dX1_init_44 rfl (lv_at hl 0 rfl) ?_
  refine lv_bipush (v := 100) hx hb dX1_init_45 (by decide) ?_
  refine sk_newa (atype := .long) (ty := .long) (a0 := (100, .inr (.inl (fun _ => 0)))) (cA := cJ) (k1 := 6) (n1 := 409) hx hb hts w_1_151 rfl (fun _ _ h => h) 1 rfl hK hP hD hS hA (fun _ => vp_cell_l _ _ _) (by decide) (by decide) (Nat.le_of_ble_eq_true rfl) (Nat.le_of_ble_eq_true rfl) (Nat.le_of_ble_eq_true rfl) (Nat.le_of_ble_eq_true rfl) (Nat.le_of_ble_eq_true rfl) dX1_init_47 (fun q_6 H hP hD hS => ?_)
  refine o_re (ws' := [(h0, .inr (1, [.null, .ref q_1, .ref q_2, .ref q_3, .ref q_4, .ref q_5, .null, .int 0, .int 0])), (q_1, .inl (cI, 90, .inl (fun _ => 0))), (q_2, .inl (cI, 9, .inl (fun _ => 0))), (q_3, .inl (cI, 10, .inl (fun _ => 0))), (q_4, .inl (cJ, 100, .inr (.inl (fun _ => 0)))), (q_5, .inl (cJ, 100, .inr (.inl (fun _ => 0)))), (q_6, .inl (cJ, 100, .inr (.inl (fun _ => 0))))]) hP hD rfl (fun hP hD => ?_)
  refine sk_putF (ws' := [(h0, .inr (1, [.null, .ref q_1, .ref q_2, .ref q_3, .ref q_4, .ref q_5, .ref q_6, .int 0, .int 0])), (q_1, .inl (cI, 90, .inl (fun _ => 0))), (q_2, .inl (cI, 9, .inl (fun _ => 0))), (q_3, .inl (cI, 10, .inl (fun _ => 0))), (q_4, .inl (cJ, 100, .inr (.inl (fun _ => 0)))), (q_5, .inl (cJ, 100, .inr (.inl (fun _ => 0)))), (q_6, .inl (cJ, 100, .inr (.inl (fun _ => 0))))]) (C := RX1) (T := TX1) (N := 9) (v := .ref q_6) hx hb hts inlX1 tyX1 tyX1_ok nmX1 hown hK hP hD hS 0 rfl rfl 6 (by decide) w_2_101 rfl hin rfl rfl rfl (Nat.le_of_ble_eq_true rfl) rfl dX1_init_49 (fun H locs hP hD hS => ?_)
  refine lv_aload_n hx hb dX1_init_52 rfl (lv_at hl 0 rfl) ?_
  refine lv_iconst (v := 0) hx hb dX1_init_53 (by decide) ?_
  refine sk_put (ws' := [(h0, .inr (1, [.null, .ref q_1, .ref q_2, .ref q_3, .ref q_4, .ref q_5, .ref q_6, .int 0, .int 0])), (q_1, .inl (cI, 90, .inl (fun _ => 0))), (q_2, .inl (cI, 9, .inl (fun _ => 0))), (q_3, .inl (cI, 10, .inl (fun _ => 0))), (q_4, .inl (cJ, 100, .inr (.inl (fun _ => 0)))), (q_5, .inl (cJ, 100, .inr (.inl (fun _ => 0)))), (q_6, .inl (cJ, 100, .inr (.inl (fun _ => 0))))]) (C := RX1) (T := TX1) (N := 9) (v := .int 0) hx hb hts inlX1 tyX1 tyX1_ok nmX1 hown hK hP hD hS 0 rfl rfl 7 (by decide) w_2_102 rfl rfl rfl (Nat.le_of_ble_eq_true rfl) rfl dX1_init_54 (fun H locs hP hD hS => ?_)
  refine lv_aload_n hx hb dX1_init_57 rfl (lv_at hl 0 rfl) ?_
  refine lv_iconst (v := 0) hx hb dX1_init_58 (by decide) ?_
  refine sk_put (ws' := [(h0, .inr (1, [.null, .ref q_1, .ref q_2, .ref q_3, .ref q_4, .ref q_5, .ref q_6, .int 0, .int 0])), (q_1, .inl (cI, 90, .inl (fun _ => 0))), (q_2, .inl (cI, 9, .inl (fun _ => 0))), (q_3, .inl (cI, 10, .inl (fun _ => 0))), (q_4, .inl (cJ, 100, .inr (.inl (fun _ => 0)))), (q_5, .inl (cJ, 100, .inr (.inl (fun _ => 0)))), (q_6, .inl (cJ, 100, .inr (.inl (fun _ => 0))))]) (C := RX1) (T := TX1) (N := 9) (v := .int 0) hx hb hts inlX1 tyX1 tyX1_ok nmX1 hown hK hP hD hS 0 rfl rfl 8 (by decide) w_2_103 rfl rfl rfl (Nat.le_of_ble_eq_true rfl) rfl dX1_init_59 (fun H locs hP hD hS => ?_)
  refine lv_aload_n hx hb dX1_init_62 rfl (lv_at hl 0 rfl) ?_
  refine lv_aload_n hx hb dX1_init_63 rfl (lv_at hl 1 rfl) ?_
  refine sk_putF (ws' := [(h0, .inr (1, [.ref tb, .ref q_1, .ref q_2, .ref q_3, .ref q_4, .ref q_5, .ref q_6, .int 0, .int 0])), (q_1, .inl (cI, 90, .inl (fun _ => 0))), (q_2, .inl (cI, 9, .inl (fun _ => 0))), (q_3, .inl (cI, 10, .inl (fun _ => 0))), (q_4, .inl (cJ, 100, .inr (.inl (fun _ => 0)))), (q_5, .inl (cJ, 100, .inr (.inl (fun _ => 0)))), (q_6, .inl (cJ, 100, .inr (.inl (fun _ => 0))))]) (C := RX1) (T := TX1) (N := 9) (v := .ref tb) hx hb hts inlX1 tyX1 tyX1_ok nmX1 hown hK hP hD hS 0 rfl rfl 0 (by decide) w_2_95 rfl hin rfl rfl rfl (Nat.le_of_ble_eq_true rfl) rfl dX1_init_64 (fun H locs hP hD hS => ?_)
  exact sk_vret hx hb hr hlocks hK hP hD hS (⟨q_1, q_2, q_3, q_4, q_5, q_6, rfl⟩) (Nat.le_of_ble_eq_true rfl) (Nat.le_of_ble_eq_true rfl) dX1_init_67

