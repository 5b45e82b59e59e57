theorem dX6_init_15 : decode cX6_init 15 = .ok (.iconst 0, 1) := q_iconst0 (bat_get dg_X6_init_0_0 9 rfl rfl)
theorem dX6_init_16 : decode cX6_init 16 = .ok (.putfield 18, 3) := q_putfield (bat_get dg_X6_init_0_0 10 rfl rfl) rfl
theorem dX6_init_19 : decode cX6_init 19 = .ok (.aload_n 0, 1) := q_aload_n0 (bat_get dg_X6_init_0_0 11 rfl rfl)
theorem dX6_init_20 : decode cX6_init 20 = .ok (.iconst (-1), 1) := q_iconstm1 (bat_get dg_X6_init_0_0 12 rfl rfl)
theorem dX6_init_21 : decode cX6_init 21 = .ok (.putfield 21, 3) := q_putfield (bat_get dg_X6_init_0_0 13 rfl rfl) rfl
theorem dX6_init_24 : decode cX6_init 24 = .ok (.aload_n 0, 1) := q_aload_n0 (bat_get dg_X6_init_0_0 14 rfl rfl)
theorem dX6_init_25 : decode cX6_init 25 = .ok (.iconst 0, 1) := q_iconst0 (bat_get dg_X6_init_0_0 15 rfl rfl)
theorem dX6_init_26 : decode cX6_init 26 = .ok (.putfield 24, 3) := q_putfield (bat_get dg_X6_init_0_0 16 rfl rfl) rfl
theorem dX6_init_29 : decode cX6_init 29 = .ok (.aload_n 0, 1) := q_aload_n0 (bat_get dg_X6_init_0_0 17 rfl rfl)
theorem dX6_init_30 : decode cX6_init 30 = .ok (.iconst 0, 1) := q_iconst0 (bat_get dg_X6_init_0_0 18 rfl rfl)
theorem dX6_init_31 : decode cX6_init 31 = .ok (.putfield 27, 3) := q_putfield (bat_get dg_X6_init_0_0 19 rfl rfl) rfl
theorem dX6_init_34 : decode cX6_init 34 = .ok (.aload_n 0, 1) := q_aload_n0 (bat_get dg_X6_init_0_0 20 rfl rfl)
theorem dX6_init_35 : decode cX6_init 35 = .ok (.iconst (-1), 1) := q_iconstm1 (bat_get dg_X6_init_0_0 21 rfl rfl)
theorem dX6_init_36 : decode cX6_init 36 = .ok (.putfield 30, 3) := q_putfield (bat_get dg_X6_init_0_0 22 rfl rfl) rfl
theorem dX6_init_39 : decode cX6_init 39 = .ok (.aload_n 0, 1) := q_aload_n0 (bat_get dg_X6_init_0_0 23 rfl rfl)
theorem dX6_init_40 : decode cX6_init 40 = .ok (.aload_n 1, 1) := q_aload_n1 (bat_get dg_X6_init_0_0 24 rfl rfl)
theorem dX6_init_41 : decode cX6_init 41 = .ok (.putfield 33, 3) := q_putfield (bat_get dg_X6_init_0_0 25 rfl rfl) rfl
theorem dX6_init_44 : decode cX6_init 44 = .ok (.return_, 1) := q_return_ (bat_get dg_X6_init_0_0 26 rfl rfl)
theorem w_1_55 : (Cond.methodLink RX6 3 objectInit) ∈ wsL_law := sk_mem (ck_1 _ (List.mem_of_getElem? (i := 55) rfl)) rfl
theorem w_1_54 : (Cond.code yX6_init cX6_init 2 none) ∈ wsL_law := sk_mem (ck_1 _ (List.mem_of_getElem? (i := 54) rfl)) rfl
set_option maxHeartbeats 4000000 in
set_option maxRecDepth 100000 in
theorem c_Reader_init (l : Launch) (D : va_G) (cI cJ cC cZ cS : ClassId) (h0 : Nat) (tp : Nat)  : skM l yX6_init cX6_init 2 none 1 20 0 0 D (skT cI cJ cC cZ cS) [.ref h0, .ref tp] [(h0, .inr (6, [.null, .int 0, .int 0, .int 0, .int 0, .int 0, .int 0, .int 0]))] (skV D (skT cI cJ cC cZ cS) (fun (u : va_W) => u = [(h0, .inr (6, [.ref tp, .int 0, .int 0, .int 0, .int (-1), .int 0, .int 0, .int (-1)]))])) := by
  refine skM_of pf_X6_init (Nat.le_of_ble_eq_true rfl) ?_
  intro p e s m below meth c A ls E hP hD hl
  refine skE_el E (fun hx hb hr hml hlocks hin hown hts hK hA => ?_)
  have hown : s.vm.findClass RX6 = some m.cls := hown
  have hin : meth.name = "<init>" := hin
  have hS : va_S A s.heap s.heap [] := va_S.rf
  have hl : lv_has ls 2 [(0, .ref h0), (1, .ref tp)] := hl
  refine lv_aload_n hx hb dX6_init_0 rfl (lv_at hl 0 rfl) ?_
  refine W.objInit hx hb hown (hts _ w_1_55) (hts _ w_1_28) (hts _ w_1_29) rfl (by rw [hml]; exact hl.1) rfl dX6_init_1 (Nat.le_of_ble_eq_true rfl) (Nat.le_of_ble_eq_true rfl) ?_
  refine W.eq (g2 := F0 m 4 ls []) rfl ?_
  refine lv_aload_n hx hb dX6_init_4 rfl (lv_at hl 0 rfl) ?_
  refine lv_iconst (v := 0) hx hb dX6_init_5 (by decide) ?_
  refine sk_put (ws' := [(h0, .inr (6, [.null, .int 0, .int 0, .int 0, .int 0, .int 0, .int 0, .int 0]))]) (C := RX6) (T := TX6) (N := 8) (v := .int 0) hx hb hts inlX6 tyX6 tyX6_ok nmX6 hown hK hP hD hS 0 rfl rfl 1 (by decide) w_1_57 rfl rfl rfl (Nat.le_of_ble_eq_true rfl) rfl dX6_init_6 (fun H locs hP hD hS => ?_)
  refine lv_aload_n hx hb dX6_init_9 rfl (lv_at hl 0 rfl) ?_
  refine lv_iconst (v := 0) hx hb dX6_init_10 (by decide) ?_
  refine sk_put (ws' := [(h0, .inr (6, [.null, .int 0, .int 0, .int 0, .int 0, .int 0, .int 0, .int 0]))]) (C := RX6) (T := TX6) (N := 8) (v := .int 0) hx hb hts inlX6 tyX6 tyX6_ok nmX6 hown hK hP hD hS 0 rfl rfl 2 (by decide) w_1_58 rfl rfl rfl (Nat.le_of_ble_eq_true rfl) rfl dX6_init_11 (fun H locs hP hD hS => ?_)
  refine lv_aload_n hx hb dX6_init_14 rfl (lv_at hl 0 rfl) ?_
  refine lv_iconst (v := 0) hx hb dX6_init_15 (by decide) ?_
  refine sk_put (ws' := [(h0, .inr (6, [.null, .int 0, .int 0, .int 0, .int 0, .int 0, .int 0, .int 0]))]) (C := RX6) (T := TX6) (N := 8) (v := .int 0) hx hb hts inlX6 tyX6 tyX6_ok nmX6 hown hK hP hD hS 0 rfl rfl 3 (by decide) w_1_59 rfl rfl rfl (Nat.le_of_ble_eq_true rfl) rfl dX6_init_16 (fun H locs hP hD hS => ?_)
  refine lv_aload_n hx hb dX6_init_19 rfl (lv_at hl 0 rfl) ?_
  refine lv_iconst (v := (-1)) hx hb dX6_init_20 (by decide) ?_
  refine sk_put (ws' := [(h0, .inr (6, [.null, .int 0, .int 0, .int 0, .int (-1), .int 0, .int 0, .int 0]))]) (C := RX6) (T := TX6) (N := 8) (v := .int (-1)) hx hb hts inlX6 tyX6 tyX6_ok nmX6 hown hK hP hD hS 0 rfl rfl 4 (by decide) w_1_60 rfl rfl rfl (Nat.le_of_ble_eq_true rfl) rfl dX6_init_21 (fun H locs hP hD hS => ?_)
  refine lv_aload_n hx hb dX6_init_24 rfl (lv_at hl 0 rfl) ?_
  refine lv_iconst (v := 0) hx hb dX6_init_25 (by decide) ?_
  refine sk_put (ws' := [(h0, .inr (6, [.null, .int 0, .int 0, .int 0, .int (-1), .int 0, .int 0, .int 0]))]) (C := RX6) (T := TX6) (N := 8) (v := .int 0) hx hb hts inlX6 tyX6 tyX6_ok nmX6 hown hK hP hD hS 0 rfl rfl 5 (by decide) w_1_64 rfl rfl rfl (Nat.le_of_ble_eq_true rfl) rfl dX6_init_26 (fun H locs hP hD hS => ?_)
  refine lv_aload_n hx hb dX6_init_29 rfl (lv_at hl 0 rfl) ?_
  refine lv_iconst (v := 0) hx hb dX6_init_30 (by decide) ?_
  refine sk_put (ws' := [(h0, .inr (6, [.null, .int 0, .int 0, .int 0, .int (-1), .int 0, .int 0, .int 0]))]) (C := RX6) (T := TX6) (N := 8) (v := .int 0) hx hb hts inlX6 tyX6 tyX6_ok nmX6 hown hK hP hD hS 0 rfl rfl 6 (by decide) w_1_66 rfl rfl rfl (Nat.le_of_ble_eq_true rfl) rfl dX6_init_31 (fun H locs hP hD hS => ?_)
  refine lv_aload_n hx hb dX6_init_34 rfl (lv_at hl 0 rfl) ?_
  refine lv_iconst (v := (-1)) hx hb dX6_init_35 (by decide) ?_
  refine sk_put (ws' := [(h0, .inr (6, [.null, .int 0, .int 0, .int 0, .int (-1), .int 0, .int 0, .int (-1)]))]) (C := RX6) (T := TX6) (N := 8) (v := .int (-1)) hx hb hts inlX6 tyX6 tyX6_ok nmX6 hown hK hP hD hS 0 rfl rfl 7 (by decide) w_1_69 rfl rfl rfl (Nat.le_of_ble_eq_true rfl) rfl dX6_init_36 (fun H locs hP hD hS => ?_)
  refine lv_aload_n hx hb dX6_init_39 rfl (lv_at hl 0 rfl) ?_
  refine lv_aload_n hx hb dX6_init_40 rfl (lv_at hl 1 rfl) ?_
  refine sk_putF (ws' := [(h0, .inr (6, [.ref tp, .int 0, .int 0, .int 0, .int (-1), .int 0, .int 0, .int (-1)]))]) (C := RX6) (T := TX6) (N := 8) (v := .ref tp) hx hb hts inlX6 tyX6 tyX6_ok nmX6 hown hK hP hD hS 0 rfl rfl 0 (by decide) w_1_56 rfl hin rfl rfl rfl (Nat.le_of_ble_eq_true rfl) rfl dX6_init_41 (fun H locs hP hD hS => ?_)
  exact sk_vret hx hb hr hlocks hK hP hD hS rfl (Nat.le_of_ble_eq_true rfl) (Nat.le_of_ble_eq_true rfl) dX6_init_44
theorem dg_X3_init_0_0 : bqL cX3_init 0 [(0, [42]), (1, [183, 0, 3]), (4, [42]), (5, [43]), (6, [181, 0, 9]), (9, [42]), (10, [187, 0, 15]), (13, [89]), (14, [43]), (15, [3]), (16, [183, 0, 17]), (19, [181, 0, 20]), (22, [42]), (23, [187, 0, 15]), (26, [89]), (27, [43]), (28, [4]), (29, [183, 0, 17]), (32, [181, 0, 24]), (35, [177])] = true := by decide +kernel
theorem dX3_init_0 : decode cX3_init 0 = .ok (.aload_n 0, 1) := q_aload_n0 (bat_get dg_X3_init_0_0 0 rfl rfl)
theorem dX3_init_1 : decode cX3_init 1 = .ok (.invokespecial 3, 3) := q_invokespecial (bat_get dg_X3_init_0_0 1 rfl rfl) rfl
theorem dX3_init_4 : decode cX3_init 4 = .ok (.aload_n 0, 1) := q_aload_n0 (bat_get dg_X3_init_0_0 2 rfl rfl)
theorem dX3_init_5 : decode cX3_init 5 = .ok (.aload_n 1, 1) := q_aload_n1 (bat_get dg_X3_init_0_0 3 rfl rfl)
theorem dX3_init_6 : decode cX3_init 6 = .ok (.putfield 9, 3) := q_putfield (bat_get dg_X3_init_0_0 4 rfl rfl) rfl
theorem dX3_init_9 : decode cX3_init 9 = .ok (.aload_n 0, 1) := q_aload_n0 (bat_get dg_X3_init_0_0 5 rfl rfl)
theorem dX3_init_10 : decode cX3_init 10 = .ok (.new 15, 3) := q_new (bat_get dg_X3_init_0_0 6 rfl rfl) rfl
theorem dX3_init_13 : decode cX3_init 13 = .ok (.dup, 1) := q_dup (bat_get dg_X3_init_0_0 7 rfl rfl)
theorem dX3_init_14 : decode cX3_init 14 = .ok (.aload_n 1, 1) := q_aload_n1 (bat_get dg_X3_init_0_0 8 rfl rfl)
theorem dX3_init_15 : decode cX3_init 15 = .ok (.iconst 0, 1) := q_iconst0 (bat_get dg_X3_init_0_0 9 rfl rfl)
theorem dX3_init_16 : decode cX3_init 16 = .ok (.invokespecial 17, 3) := q_invokespecial (bat_get dg_X3_init_0_0 10 rfl rfl) rfl
theorem dX3_init_19 : decode cX3_init 19 = .ok (.putfield 20, 3) := q_putfield (bat_get dg_X3_init_0_0 11 rfl rfl) rfl
theorem dX3_init_22 : decode cX3_init 22 = .ok (.aload_n 0, 1) := q_aload_n0 (bat_get dg_X3_init_0_0 12 rfl rfl)
theorem dX3_init_23 : decode cX3_init 23 = .ok (.new 15, 3) := q_new (bat_get dg_X3_init_0_0 13 rfl rfl) rfl
theorem dX3_init_26 : decode cX3_init 26 = .ok (.dup, 1) := q_dup (bat_get dg_X3_init_0_0 14 rfl rfl)
theorem dX3_init_27 : decode cX3_init 27 = .ok (.aload_n 1, 1) := q_aload_n1 (bat_get dg_X3_init_0_0 15 rfl rfl)
theorem dX3_init_28 : decode cX3_init 28 = .ok (.iconst 1, 1) := q_iconst1 (bat_get dg_X3_init_0_0 16 rfl rfl)
theorem dX3_init_29 : decode cX3_init 29 = .ok (.invokespecial 17, 3) := q_invokespecial (bat_get dg_X3_init_0_0 17 rfl rfl) rfl
theorem dX3_init_32 : decode cX3_init 32 = .ok (.putfield 24, 3) := q_putfield (bat_get dg_X3_init_0_0 18 rfl rfl) rfl
theorem dX3_init_35 : decode cX3_init 35 = .ok (.return_, 1) := q_return_ (bat_get dg_X3_init_0_0 19 rfl rfl)
theorem w_1_93 : (Cond.methodLink RX3 3 objectInit) ∈ wsL_law := sk_mem (ck_1 _ (List.mem_of_getElem? (i := 93) rfl)) rfl
theorem w_1_94 : (Cond.classLink RX3 15 RX8) ∈ wsL_law := sk_mem (ck_1 _ (List.mem_of_getElem? (i := 94) rfl)) rfl
theorem w_1_95 : (Cond.instantiable RX8 2) ∈ wsL_law := sk_mem (ck_1 _ (List.mem_of_getElem? (i := 95) rfl)) rfl
theorem w_1_96 : (Cond.methodLink RX3 17 yX8_init) ∈ wsL_law := sk_mem (ck_1 _ (List.mem_of_getElem? (i := 96) rfl)) rfl
theorem w_1_97 : (Cond.instanceMethod yX8_init) ∈ wsL_law := sk_mem (ck_1 _ (List.mem_of_getElem? (i := 97) rfl)) rfl
theorem w_1_92 : (Cond.code yX3_init cX3_init 2 none) ∈ wsL_law := sk_mem (ck_1 _ (List.mem_of_getElem? (i := 92) rfl)) rfl
theorem hd_X8_init_2 : skD yX8_init 2 := by decide +kernel
set_option maxHeartbeats 4000000 in
set_option maxRecDepth 100000 in
theorem c_LockText_init (l : Launch) (D : va_G) (cI cJ cC cZ cS : ClassId) (h0 : Nat) (rd : Nat)  : skM l yX3_init cX3_init 2 none 2 42 2 4 D (skT cI cJ cC cZ cS) [.ref h0, .ref rd] [(h0, .inr (3, [.null, .null, .null]))] (skV D (skT cI cJ cC cZ cS) (fun (u : va_W) => ∃ (k1 : Nat), ∃ (k2 : Nat), u = [(h0, .inr (3, [.ref rd, .ref k1, .ref k2])), (k1, .inr (8, [.ref rd, .int 0])), (k2, .inr (8, [.ref rd, .int 1]))])) := by
  refine skM_of pf_X3_init (Nat.le_of_ble_eq_true rfl) ?_
  intro p e s m below meth c A ls E hP hD hl
  refine skE_el E (fun hx hb hr hml hlocks hin hown hts hK hA => ?_)
  have hown : s.vm.findClass RX3 = some m.cls := hown
  have hin : meth.name = "<init>" := hin
  have hS : va_S A s.heap s.heap [] := va_S.rf
  have hl : lv_has ls 2 [(0, .ref h0), (1, .ref rd)] := hl
  refine lv_aload_n hx hb dX3_init_0 rfl (lv_at hl 0 rfl) ?_
  refine W.objInit hx hb hown (hts _ w_1_93) (hts _ w_1_28) (hts _ w_1_29) rfl (by rw [hml]; exact hl.1) rfl dX3_init_1 (Nat.le_of_ble_eq_true rfl) (Nat.le_of_ble_eq_true rfl) ?_
  refine W.eq (g2 := F0 m 4 ls []) rfl ?_
  refine lv_aload_n hx hb dX3_init_4 rfl (lv_at hl 0 rfl) ?_
  refine lv_aload_n hx hb dX3_init_5 rfl (lv_at hl 1 rfl) ?_
  refine sk_putF (ws' := [(h0, .inr (3, [.ref rd, .null, .null]))]) (C := RX3) (T := TX3) (N := 3) (v := .ref rd) hx hb hts inlX3 tyX3 tyX3_ok nmX3 hown hK hP hD hS 0 rfl rfl 0 (by decide) w_1_107 rfl hin rfl rfl rfl (Nat.le_of_ble_eq_true rfl) rfl dX3_init_6 (fun H locs hP hD hS => ?_)
  refine lv_aload_n hx hb dX3_init_9 rfl (lv_at hl 0 rfl) ?_
  refine sk_new (ci := 8) (fs := [.null, .int 0]) (C := RX8) (T := TX8) (N := 2) (k1 := 1) (n1 := 2) hx hb hts inlX8 tyX8 tyX8_ok hown w_1_94 w_1_95 w_1_6 hK hP hD hS hA rfl (fun j hj => by rcases (show j = 0 ∨ j = 1 by omega) with rfl | rfl <;> rfl) (Nat.le_of_ble_eq_true rfl) (Nat.le_of_ble_eq_true rfl) (Nat.le_of_ble_eq_true rfl) (Nat.le_of_ble_eq_true rfl) dX3_init_10 (fun q_1 H hP hD hS => ?_)
  refine o_re (ws' := [(h0, .inr (3, [.ref rd, .null, .null])), (q_1, .inr (8, [.null, .int 0]))]) hP hD rfl (fun hP hD => ?_)
  refine lv_dup hx hb dX3_init_13 rfl ?_
  refine lv_aload_n hx hb dX3_init_14 rfl (lv_at hl 1 rfl) ?_
  refine lv_iconst (v := 0) hx hb dX3_init_15 (by decide) ?_
  refine sk_Iv (n := 2) (rest := [.ref q_1, .ref h0]) (wr := fmR om_2_1 _) ⟨hx, hb, hml, hown, hts⟩ hl.1 (c_Sums_init l D cI cJ cC cZ cS q_1 rd 0) w_1_96 w_1_97 w_1_6 w_1_98 rfl hd_X8_init_2 ⟨⟨(Nat.le_of_ble_eq_true rfl), (Nat.le_of_ble_eq_true rfl)⟩, (Nat.le_of_ble_eq_true rfl), (Nat.le_of_ble_eq_true rfl)⟩ hK hP hD hS hA (fmT om_2_1 0) (fmF om_2_1 0) (fm_C1 rfl rfl) (fm_R rfl rfl) (fm_nT om_2_1 0) (fm_nF om_2_1 0) (fm_di om_2_1 0) rfl rfl (Nat.le_of_ble_eq_true rfl) dX3_init_16 (fun u H locs hw hP hD hS => ?_)
  refine o_mgE (ws' := [(h0, .inr (3, [.ref rd, .null, .null])), (q_1, .inr (8, [.ref rd, .int 0]))]) hw hP hD rfl (fun hP hD => ?_)
  refine sk_putF (ws' := [(h0, .inr (3, [.ref rd, .ref q_1, .null])), (q_1, .inr (8, [.ref rd, .int 0]))]) (C := RX3) (T := TX3) (N := 3) (v := .ref q_1) hx hb hts inlX3 tyX3 tyX3_ok nmX3 hown hK hP hD hS 0 rfl rfl 1 (by decide) w_1_108 rfl hin rfl rfl rfl (Nat.le_of_ble_eq_true rfl) rfl dX3_init_19 (fun H locs hP hD hS => ?_)
  refine lv_aload_n hx hb dX3_init_22 rfl (lv_at hl 0 rfl) ?_
  refine sk_new (ci := 8) (fs := [.null, .int 0]) (C := RX8) (T := TX8) (N := 2) (k1 := 2) (n1 := 4) hx hb hts inlX8 tyX8 tyX8_ok hown w_1_94 w_1_95 w_1_6 hK hP hD hS hA rfl (fun j hj => by rcases (show j = 0 ∨ j = 1 by omega) with rfl | rfl <;> rfl) (Nat.le_of_ble_eq_true rfl) (Nat.le_of_ble_eq_true rfl) (Nat.le_of_ble_eq_true rfl) (Nat.le_of_ble_eq_true rfl) dX3_init_23 (fun q_2 H hP hD hS => ?_)
  refine o_re (ws' := [(h0, .inr (3, [.ref rd, .ref q_1, .null])), (q_1, .inr (8, [.ref rd, .int 0])), (q_2, .inr (8, [.null, .int 0]))]) hP hD rfl (fun hP hD => ?_)
  refine lv_dup hx hb dX3_init_26 rfl ?_
  refine lv_aload_n hx hb dX3_init_27 rfl (lv_at hl 1 rfl) ?_
  refine lv_iconst (v := 1) hx hb dX3_init_28 (by decide) ?_
  refine sk_Iv (n := 2) (rest := [.ref q_2, .ref h0]) (wr := fmR om_3_1 _) ⟨hx, hb, hml, hown, hts⟩ hl.1 (c_Sums_init l D cI cJ cC cZ cS q_2 rd 1) w_1_96 w_1_97 w_1_6 w_1_98 rfl hd_X8_init_2 ⟨⟨(Nat.le_of_ble_eq_true rfl), (Nat.le_of_ble_eq_true rfl)⟩, (Nat.le_of_ble_eq_true rfl), (Nat.le_of_ble_eq_true rfl)⟩ hK hP hD hS hA (fmT om_3_1 0) (fmF om_3_1 0) (fm_C1 rfl rfl) (fm_R rfl rfl) (fm_nT om_3_1 0) (fm_nF om_3_1 0) (fm_di om_3_1 0) rfl rfl (Nat.le_of_ble_eq_true rfl) dX3_init_29 (fun u H locs hw hP hD hS => ?_)
  refine o_mgE (ws' := [(h0, .inr (3, [.ref rd, .ref q_1, .null])), (q_1, .inr (8, [.ref rd, .int 0])), (q_2, .inr (8, [.ref rd, .int 1]))]) hw hP hD rfl (fun hP hD => ?_)
  refine sk_putF (ws' := [(h0, .inr (3, [.ref rd, .ref q_1, .ref q_2])), (q_1, .inr (8, [.ref rd, .int 0])), (q_2, .inr (8, [.ref rd, .int 1]))]) (C := RX3) (T := TX3) (N := 3) (v := .ref q_2) hx hb hts inlX3 tyX3 tyX3_ok nmX3 hown hK hP hD hS 0 rfl rfl 2 (by decide) w_1_109 rfl hin rfl rfl rfl (Nat.le_of_ble_eq_true rfl) rfl dX3_init_32 (fun H locs hP hD hS => ?_)
  exact sk_vret hx hb hr hlocks hK hP hD hS (⟨q_1, q_2, rfl⟩) (Nat.le_of_ble_eq_true rfl) (Nat.le_of_ble_eq_true rfl) dX3_init_35
theorem dg_X5_init_0_0 : bqL cX5_init 0 [(0, [42]), (1, [183, 0, 3]), (4, [42]), (5, [187, 0, 9]), (8, [89]), (9, [183, 0, 11]), (12, [181, 0, 12]), (15, [42]), (16, [16, 254]), (18, [181, 0, 20]), (21, [42]), (22, [43]), (23, [181, 0, 24]), (26, [42]), (27, [187, 0, 28]), (30, [89]), (31, [43]), (32, [5]), (33, [183, 0, 30]), (36, [181, 0, 33]), (39, [177])] = true := by decide +kernel
