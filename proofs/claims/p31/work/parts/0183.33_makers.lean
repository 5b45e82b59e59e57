theorem dX5_init_0 : decode cX5_init 0 = .ok (.aload_n 0, 1) := q_aload_n0 (bat_get dg_X5_init_0_0 0 rfl rfl)
theorem dX5_init_1 : decode cX5_init 1 = .ok (.invokespecial 3, 3) := q_invokespecial (bat_get dg_X5_init_0_0 1 rfl rfl) rfl
theorem dX5_init_4 : decode cX5_init 4 = .ok (.aload_n 0, 1) := q_aload_n0 (bat_get dg_X5_init_0_0 2 rfl rfl)
theorem dX5_init_5 : decode cX5_init 5 = .ok (.new 9, 3) := q_new (bat_get dg_X5_init_0_0 3 rfl rfl) rfl
theorem dX5_init_8 : decode cX5_init 8 = .ok (.dup, 1) := q_dup (bat_get dg_X5_init_0_0 4 rfl rfl)
theorem dX5_init_9 : decode cX5_init 9 = .ok (.invokespecial 11, 3) := q_invokespecial (bat_get dg_X5_init_0_0 5 rfl rfl) rfl
theorem dX5_init_12 : decode cX5_init 12 = .ok (.putfield 12, 3) := q_putfield (bat_get dg_X5_init_0_0 6 rfl rfl) rfl
theorem dX5_init_15 : decode cX5_init 15 = .ok (.aload_n 0, 1) := q_aload_n0 (bat_get dg_X5_init_0_0 7 rfl rfl)
theorem dX5_init_16 : decode cX5_init 16 = .ok (.bipush (-2), 2) := q_bipush (bat_get dg_X5_init_0_0 8 rfl rfl) rfl
theorem dX5_init_18 : decode cX5_init 18 = .ok (.putfield 20, 3) := q_putfield (bat_get dg_X5_init_0_0 9 rfl rfl) rfl
theorem dX5_init_21 : decode cX5_init 21 = .ok (.aload_n 0, 1) := q_aload_n0 (bat_get dg_X5_init_0_0 10 rfl rfl)
theorem dX5_init_22 : decode cX5_init 22 = .ok (.aload_n 1, 1) := q_aload_n1 (bat_get dg_X5_init_0_0 11 rfl rfl)
theorem dX5_init_23 : decode cX5_init 23 = .ok (.putfield 24, 3) := q_putfield (bat_get dg_X5_init_0_0 12 rfl rfl) rfl
theorem dX5_init_26 : decode cX5_init 26 = .ok (.aload_n 0, 1) := q_aload_n0 (bat_get dg_X5_init_0_0 13 rfl rfl)
theorem dX5_init_27 : decode cX5_init 27 = .ok (.new 28, 3) := q_new (bat_get dg_X5_init_0_0 14 rfl rfl) rfl
theorem dX5_init_30 : decode cX5_init 30 = .ok (.dup, 1) := q_dup (bat_get dg_X5_init_0_0 15 rfl rfl)
theorem dX5_init_31 : decode cX5_init 31 = .ok (.aload_n 1, 1) := q_aload_n1 (bat_get dg_X5_init_0_0 16 rfl rfl)
theorem dX5_init_32 : decode cX5_init 32 = .ok (.iconst 2, 1) := q_iconst2 (bat_get dg_X5_init_0_0 17 rfl rfl)
theorem dX5_init_33 : decode cX5_init 33 = .ok (.invokespecial 30, 3) := q_invokespecial (bat_get dg_X5_init_0_0 18 rfl rfl) rfl
theorem dX5_init_36 : decode cX5_init 36 = .ok (.putfield 33, 3) := q_putfield (bat_get dg_X5_init_0_0 19 rfl rfl) rfl
theorem dX5_init_39 : decode cX5_init 39 = .ok (.return_, 1) := q_return_ (bat_get dg_X5_init_0_0 20 rfl rfl)
theorem w_1_122 : (Cond.methodLink RX5 3 objectInit) ∈ wsL_law := sk_mem (ck_1 _ (List.mem_of_getElem? (i := 122) rfl)) rfl
theorem w_1_123 : (Cond.classLink RX5 9 RX0) ∈ wsL_law := sk_mem (ck_1 _ (List.mem_of_getElem? (i := 123) rfl)) rfl
theorem w_1_124 : (Cond.instantiable RX0 6) ∈ wsL_law := sk_mem (ck_1 _ (List.mem_of_getElem? (i := 124) rfl)) rfl
theorem w_1_126 : (Cond.instanceMethod yX0_init) ∈ wsL_law := sk_mem (ck_1 _ (List.mem_of_getElem? (i := 126) rfl)) rfl
theorem w_1_152 : (Cond.classLink RX5 28 RX8) ∈ wsL_law := sk_mem (ck_1 _ (List.mem_of_getElem? (i := 152) rfl)) rfl
theorem w_1_153 : (Cond.methodLink RX5 30 yX8_init) ∈ wsL_law := sk_mem (ck_1 _ (List.mem_of_getElem? (i := 153) rfl)) rfl
theorem w_1_121 : (Cond.code yX5_init cX5_init 2 none) ∈ wsL_law := sk_mem (ck_1 _ (List.mem_of_getElem? (i := 121) rfl)) rfl
def om_7_1 : List Bool := false :: false :: false :: false :: false :: false :: true :: []
theorem hd_X0_init_0 : skD yX0_init 0 := by decide +kernel
set_option maxHeartbeats 4000000 in
set_option maxRecDepth 100000 in
theorem c_Question_init (l : Launch) (D : va_G) (cI cJ cC cZ cS : ClassId) (h0 : Nat) (rd : Nat)  : skM l yX5_init cX5_init 2 none 2 42 6 1691 D (skT cI cJ cC cZ cS) [.ref h0, .ref rd] [(h0, .inr (5, [.null, .null, .null, .int 0]))] (skV D (skT cI cJ cC cZ cS) (fun (u : va_W) => ∃ (k1 : Nat), ∃ (k2 : Nat), ∃ (k3 : Nat), ∃ (k4 : Nat), ∃ (k5 : Nat), ∃ (k6 : Nat), u = [(h0, .inr (5, [.ref rd, .ref k1, .ref k2, .int (-2)])), (k1, .inr (8, [.ref rd, .int 2])), (k2, .inr (0, [.ref k3, .ref k4, .ref k5, .ref k6, .int 0, .int 0])), (k3, .inl (cI, 1600, .inl (fun _ => 0))), (k4, .inl (cJ, 64, .inr (.inl (fun _ => 0)))), (k5, .inl (cJ, 9, .inr (.inl (fun _ => 0)))), (k6, .inl (cJ, 10, .inr (.inl (fun _ => 0))))])) := by
  refine skM_of pf_X5_init (Nat.le_of_ble_eq_true rfl) ?_
  intro p e s m below meth c A ls E hP hD hl
  refine skE_el E (fun hx hb hr hml hlocks hin hown hts hK hA => ?_)
  have hown : s.vm.findClass RX5 = some m.cls := hown
  have hin : meth.name = "<init>" := hin
  have hS : va_S A s.heap s.heap [] := va_S.rf
  have hl : lv_has ls 2 [(0, .ref h0), (1, .ref rd)] := hl
  refine lv_aload_n hx hb dX5_init_0 rfl (lv_at hl 0 rfl) ?_
  refine W.objInit hx hb hown (hts _ w_1_122) (hts _ w_1_28) (hts _ w_1_29) rfl (by rw [hml]; exact hl.1) rfl dX5_init_1 (Nat.le_of_ble_eq_true rfl) (Nat.le_of_ble_eq_true rfl) ?_
  refine W.eq (g2 := F0 m 4 ls []) rfl ?_
  refine lv_aload_n hx hb dX5_init_4 rfl (lv_at hl 0 rfl) ?_
  refine sk_new (ci := 0) (fs := [.null, .null, .null, .null, .int 0, .int 0]) (C := RX0) (T := TX0) (N := 6) (k1 := 1) (n1 := 6) hx hb hts inlX0 tyX0 tyX0_ok hown w_1_123 w_1_124 w_1_8 hK hP hD hS hA rfl (fun j hj => by rcases (show j = 0 ∨ j = 1 ∨ j = 2 ∨ j = 3 ∨ j = 4 ∨ j = 5 by omega) with rfl | rfl | rfl | rfl | rfl | rfl <;> rfl) (Nat.le_of_ble_eq_true rfl) (Nat.le_of_ble_eq_true rfl) (Nat.le_of_ble_eq_true rfl) (Nat.le_of_ble_eq_true rfl) dX5_init_5 (fun q_1 H hP hD hS => ?_)
  refine o_re (ws' := [(h0, .inr (5, [.null, .null, .null, .int 0])), (q_1, .inr (0, [.null, .null, .null, .null, .int 0, .int 0]))]) hP hD rfl (fun hP hD => ?_)
  refine lv_dup hx hb dX5_init_8 rfl ?_
  refine sk_INv (n := 0) (rest := [.ref q_1, .ref h0]) (wr := fmR om_2_1 _) ⟨hx, hb, hml, hown, hts⟩ hl.1 (c_Code_init l D cI cJ cC cZ cS q_1) hK.2.2.2.2.2.2.2 w_1_126 w_1_8 w_1_127 rfl hd_X0_init_0 ⟨⟨(Nat.le_of_ble_eq_true rfl), (Nat.le_of_ble_eq_true rfl)⟩, (Nat.le_of_ble_eq_true rfl), (Nat.le_of_ble_eq_true rfl)⟩ hK hP hD hS hA (fmT om_2_1 0) (fmF om_2_1 0) (fm_C1 rfl rfl) (fm_R rfl rfl) (fm_nT om_2_1 0) (fm_nF om_2_1 0) (fm_di om_2_1 0) rfl rfl (Nat.le_of_ble_eq_true rfl) dX5_init_9 (fun u H locs hw hP hD hS => ?_)
  refine exE hw (fun k1_2 hw1 => exE hw1 (fun k2_3 hw2 => exE hw2 (fun k3_4 hw3 => exE hw3 (fun k4_5 eu_6 => ?_))))
  clear hw hw1 hw2 hw3
  refine o_mgE (ws' := [(h0, .inr (5, [.null, .null, .null, .int 0])), (q_1, .inr (0, [.ref k1_2, .ref k2_3, .ref k3_4, .ref k4_5, .int 0, .int 0])), (k1_2, .inl (cI, 1600, .inl (fun _ => 0))), (k2_3, .inl (cJ, 64, .inr (.inl (fun _ => 0)))), (k3_4, .inl (cJ, 9, .inr (.inl (fun _ => 0)))), (k4_5, .inl (cJ, 10, .inr (.inl (fun _ => 0))))]) eu_6 hP hD rfl (fun hP hD => ?_)
  refine W.widen (k := 5) (n := 1689) (Nat.le_of_ble_eq_true rfl) (Nat.le_of_ble_eq_true rfl) ?_
  refine sk_putF (ws' := [(h0, .inr (5, [.null, .null, .ref q_1, .int 0])), (q_1, .inr (0, [.ref k1_2, .ref k2_3, .ref k3_4, .ref k4_5, .int 0, .int 0])), (k1_2, .inl (cI, 1600, .inl (fun _ => 0))), (k2_3, .inl (cJ, 64, .inr (.inl (fun _ => 0)))), (k3_4, .inl (cJ, 9, .inr (.inl (fun _ => 0)))), (k4_5, .inl (cJ, 10, .inr (.inl (fun _ => 0))))]) (C := RX5) (T := TX5) (N := 4) (v := .ref q_1) hx hb hts inlX5 tyX5 tyX5_ok nmX5 hown hK hP hD hS 0 rfl rfl 2 (by decide) w_1_156 rfl hin rfl rfl rfl (Nat.le_of_ble_eq_true rfl) rfl dX5_init_12 (fun H locs hP hD hS => ?_)
  refine lv_aload_n hx hb dX5_init_15 rfl (lv_at hl 0 rfl) ?_
  refine lv_bipush (v := (-2)) hx hb dX5_init_16 (by decide) ?_
  refine sk_put (ws' := [(h0, .inr (5, [.null, .null, .ref q_1, .int (-2)])), (q_1, .inr (0, [.ref k1_2, .ref k2_3, .ref k3_4, .ref k4_5, .int 0, .int 0])), (k1_2, .inl (cI, 1600, .inl (fun _ => 0))), (k2_3, .inl (cJ, 64, .inr (.inl (fun _ => 0)))), (k3_4, .inl (cJ, 9, .inr (.inl (fun _ => 0)))), (k4_5, .inl (cJ, 10, .inr (.inl (fun _ => 0))))]) (C := RX5) (T := TX5) (N := 4) (v := .int (-2)) hx hb hts inlX5 tyX5 tyX5_ok nmX5 hown hK hP hD hS 0 rfl rfl 3 (by decide) w_1_157 rfl rfl rfl (Nat.le_of_ble_eq_true rfl) rfl dX5_init_18 (fun H locs hP hD hS => ?_)
  refine lv_aload_n hx hb dX5_init_21 rfl (lv_at hl 0 rfl) ?_
  refine lv_aload_n hx hb dX5_init_22 rfl (lv_at hl 1 rfl) ?_
  refine sk_putF (ws' := [(h0, .inr (5, [.ref rd, .null, .ref q_1, .int (-2)])), (q_1, .inr (0, [.ref k1_2, .ref k2_3, .ref k3_4, .ref k4_5, .int 0, .int 0])), (k1_2, .inl (cI, 1600, .inl (fun _ => 0))), (k2_3, .inl (cJ, 64, .inr (.inl (fun _ => 0)))), (k3_4, .inl (cJ, 9, .inr (.inl (fun _ => 0)))), (k4_5, .inl (cJ, 10, .inr (.inl (fun _ => 0))))]) (C := RX5) (T := TX5) (N := 4) (v := .ref rd) hx hb hts inlX5 tyX5 tyX5_ok nmX5 hown hK hP hD hS 0 rfl rfl 0 (by decide) w_1_154 rfl hin rfl rfl rfl (Nat.le_of_ble_eq_true rfl) rfl dX5_init_23 (fun H locs hP hD hS => ?_)
  refine lv_aload_n hx hb dX5_init_26 rfl (lv_at hl 0 rfl) ?_
  refine sk_new (ci := 8) (fs := [.null, .int 0]) (C := RX8) (T := TX8) (N := 2) (k1 := 6) (n1 := 1691) hx hb hts inlX8 tyX8 tyX8_ok hown w_1_152 w_1_95 w_1_6 hK hP hD hS hA rfl (fun j hj => by rcases (show j = 0 ∨ j = 1 by omega) with rfl | rfl <;> rfl) (Nat.le_of_ble_eq_true rfl) (Nat.le_of_ble_eq_true rfl) (Nat.le_of_ble_eq_true rfl) (Nat.le_of_ble_eq_true rfl) dX5_init_27 (fun q_7 H hP hD hS => ?_)
  refine o_re (ws' := [(h0, .inr (5, [.ref rd, .null, .ref q_1, .int (-2)])), (q_1, .inr (0, [.ref k1_2, .ref k2_3, .ref k3_4, .ref k4_5, .int 0, .int 0])), (k1_2, .inl (cI, 1600, .inl (fun _ => 0))), (k2_3, .inl (cJ, 64, .inr (.inl (fun _ => 0)))), (k3_4, .inl (cJ, 9, .inr (.inl (fun _ => 0)))), (k4_5, .inl (cJ, 10, .inr (.inl (fun _ => 0)))), (q_7, .inr (8, [.null, .int 0]))]) hP hD rfl (fun hP hD => ?_)
  refine lv_dup hx hb dX5_init_30 rfl ?_
  refine lv_aload_n hx hb dX5_init_31 rfl (lv_at hl 1 rfl) ?_
  refine lv_iconst (v := 2) hx hb dX5_init_32 (by decide) ?_
  refine sk_Iv (n := 2) (rest := [.ref q_7, .ref h0]) (wr := fmR om_7_1 _) ⟨hx, hb, hml, hown, hts⟩ hl.1 (c_Sums_init l D cI cJ cC cZ cS q_7 rd 2) w_1_153 w_1_97 w_1_6 w_1_98 rfl hd_X8_init_2 ⟨⟨(Nat.le_of_ble_eq_true rfl), (Nat.le_of_ble_eq_true rfl)⟩, (Nat.le_of_ble_eq_true rfl), (Nat.le_of_ble_eq_true rfl)⟩ hK hP hD hS hA (fmT om_7_1 0) (fmF om_7_1 0) (fm_C1 rfl rfl) (fm_R rfl rfl) (fm_nT om_7_1 0) (fm_nF om_7_1 0) (fm_di om_7_1 0) rfl rfl (Nat.le_of_ble_eq_true rfl) dX5_init_33 (fun u H locs hw hP hD hS => ?_)
  refine o_mgE (ws' := [(h0, .inr (5, [.ref rd, .null, .ref q_1, .int (-2)])), (q_1, .inr (0, [.ref k1_2, .ref k2_3, .ref k3_4, .ref k4_5, .int 0, .int 0])), (k1_2, .inl (cI, 1600, .inl (fun _ => 0))), (k2_3, .inl (cJ, 64, .inr (.inl (fun _ => 0)))), (k3_4, .inl (cJ, 9, .inr (.inl (fun _ => 0)))), (k4_5, .inl (cJ, 10, .inr (.inl (fun _ => 0)))), (q_7, .inr (8, [.ref rd, .int 2]))]) hw hP hD rfl (fun hP hD => ?_)
  refine sk_putF (ws' := [(h0, .inr (5, [.ref rd, .ref q_7, .ref q_1, .int (-2)])), (q_1, .inr (0, [.ref k1_2, .ref k2_3, .ref k3_4, .ref k4_5, .int 0, .int 0])), (k1_2, .inl (cI, 1600, .inl (fun _ => 0))), (k2_3, .inl (cJ, 64, .inr (.inl (fun _ => 0)))), (k3_4, .inl (cJ, 9, .inr (.inl (fun _ => 0)))), (k4_5, .inl (cJ, 10, .inr (.inl (fun _ => 0)))), (q_7, .inr (8, [.ref rd, .int 2]))]) (C := RX5) (T := TX5) (N := 4) (v := .ref q_7) hx hb hts inlX5 tyX5 tyX5_ok nmX5 hown hK hP hD hS 0 rfl rfl 1 (by decide) w_1_155 rfl hin rfl rfl rfl (Nat.le_of_ble_eq_true rfl) rfl dX5_init_36 (fun H locs hP hD hS => ?_)
  refine o_or (ws' := [(h0, .inr (5, [.ref rd, .ref q_7, .ref q_1, .int (-2)])), (q_7, .inr (8, [.ref rd, .int 2])), (q_1, .inr (0, [.ref k1_2, .ref k2_3, .ref k3_4, .ref k4_5, .int 0, .int 0])), (k1_2, .inl (cI, 1600, .inl (fun _ => 0))), (k2_3, .inl (cJ, 64, .inr (.inl (fun _ => 0)))), (k3_4, .inl (cJ, 9, .inr (.inl (fun _ => 0)))), (k4_5, .inl (cJ, 10, .inr (.inl (fun _ => 0))))]) [0, 6, 1, 2, 3, 4, 5] hP hD (by decide +kernel) rfl (fun hP hD => ?_)
  exact sk_vret hx hb hr hlocks hK hP hD hS (⟨q_7, q_1, k1_2, k2_3, k3_4, k4_5, rfl⟩) (Nat.le_of_ble_eq_true rfl) (Nat.le_of_ble_eq_true rfl) dX5_init_39
theorem dg_X2_init_0_0 : bqL cX2_init 0 [(0, [42]), (1, [183, 0, 3]), (4, [42]), (5, [187, 0, 9]), (8, [89]), (9, [183, 0, 11]), (12, [181, 0, 12]), (15, [42]), (16, [16, 9]), (18, [188, 10]), (20, [181, 0, 18]), (23, [42]), (24, [16, 9]), (26, [188, 10]), (28, [181, 0, 22]), (31, [42]), (32, [6]), (33, [188, 10]), (35, [181, 0, 25]), (38, [42]), (39, [6]), (40, [188, 10]), (42, [181, 0, 28]), (45, [42]), (46, [3]), (47, [181, 0, 31]), (50, [42]), (51, [3]), (52, [181, 0, 35]), (55, [42]), (56, [3]), (57, [181, 0, 38]), (60, [42]), (61, [3]), (62, [181, 0, 41]), (65, [42]), (66, [3]), (67, [181, 0, 44]), (70, [177])] = true := by decide +kernel
theorem dX2_init_0 : decode cX2_init 0 = .ok (.aload_n 0, 1) := q_aload_n0 (bat_get dg_X2_init_0_0 0 rfl rfl)
theorem dX2_init_1 : decode cX2_init 1 = .ok (.invokespecial 3, 3) := q_invokespecial (bat_get dg_X2_init_0_0 1 rfl rfl) rfl
theorem dX2_init_4 : decode cX2_init 4 = .ok (.aload_n 0, 1) := q_aload_n0 (bat_get dg_X2_init_0_0 2 rfl rfl)
theorem dX2_init_5 : decode cX2_init 5 = .ok (.new 9, 3) := q_new (bat_get dg_X2_init_0_0 3 rfl rfl) rfl
theorem dX2_init_8 : decode cX2_init 8 = .ok (.dup, 1) := q_dup (bat_get dg_X2_init_0_0 4 rfl rfl)
theorem dX2_init_9 : decode cX2_init 9 = .ok (.invokespecial 11, 3) := q_invokespecial (bat_get dg_X2_init_0_0 5 rfl rfl) rfl
theorem dX2_init_12 : decode cX2_init 12 = .ok (.putfield 12, 3) := q_putfield (bat_get dg_X2_init_0_0 6 rfl rfl) rfl
theorem dX2_init_15 : decode cX2_init 15 = .ok (.aload_n 0, 1) := q_aload_n0 (bat_get dg_X2_init_0_0 7 rfl rfl)
theorem dX2_init_16 : decode cX2_init 16 = .ok (.bipush 9, 2) := q_bipush (bat_get dg_X2_init_0_0 8 rfl rfl) rfl
theorem dX2_init_18 : decode cX2_init 18 = .ok (.newarray .int, 2) := q_newarray_int (bat_get dg_X2_init_0_0 9 rfl rfl)
theorem dX2_init_20 : decode cX2_init 20 = .ok (.putfield 18, 3) := q_putfield (bat_get dg_X2_init_0_0 10 rfl rfl) rfl
theorem dX2_init_23 : decode cX2_init 23 = .ok (.aload_n 0, 1) := q_aload_n0 (bat_get dg_X2_init_0_0 11 rfl rfl)
theorem dX2_init_24 : decode cX2_init 24 = .ok (.bipush 9, 2) := q_bipush (bat_get dg_X2_init_0_0 12 rfl rfl) rfl
theorem dX2_init_26 : decode cX2_init 26 = .ok (.newarray .int, 2) := q_newarray_int (bat_get dg_X2_init_0_0 13 rfl rfl)
theorem dX2_init_28 : decode cX2_init 28 = .ok (.putfield 22, 3) := q_putfield (bat_get dg_X2_init_0_0 14 rfl rfl) rfl
theorem dX2_init_31 : decode cX2_init 31 = .ok (.aload_n 0, 1) := q_aload_n0 (bat_get dg_X2_init_0_0 15 rfl rfl)
theorem dX2_init_32 : decode cX2_init 32 = .ok (.iconst 3, 1) := q_iconst3 (bat_get dg_X2_init_0_0 16 rfl rfl)
theorem dX2_init_33 : decode cX2_init 33 = .ok (.newarray .int, 2) := q_newarray_int (bat_get dg_X2_init_0_0 17 rfl rfl)
theorem dX2_init_35 : decode cX2_init 35 = .ok (.putfield 25, 3) := q_putfield (bat_get dg_X2_init_0_0 18 rfl rfl) rfl
theorem dX2_init_38 : decode cX2_init 38 = .ok (.aload_n 0, 1) := q_aload_n0 (bat_get dg_X2_init_0_0 19 rfl rfl)
theorem dX2_init_39 : decode cX2_init 39 = .ok (.iconst 3, 1) := q_iconst3 (bat_get dg_X2_init_0_0 20 rfl rfl)
theorem dX2_init_40 : decode cX2_init 40 = .ok (.newarray .int, 2) := q_newarray_int (bat_get dg_X2_init_0_0 21 rfl rfl)
theorem dX2_init_42 : decode cX2_init 42 = .ok (.putfield 28, 3) := q_putfield (bat_get dg_X2_init_0_0 22 rfl rfl) rfl
theorem dX2_init_45 : decode cX2_init 45 = .ok (.aload_n 0, 1) := q_aload_n0 (bat_get dg_X2_init_0_0 23 rfl rfl)
theorem dX2_init_46 : decode cX2_init 46 = .ok (.iconst 0, 1) := q_iconst0 (bat_get dg_X2_init_0_0 24 rfl rfl)
theorem dX2_init_47 : decode cX2_init 47 = .ok (.putfield 31, 3) := q_putfield (bat_get dg_X2_init_0_0 25 rfl rfl) rfl
theorem dX2_init_50 : decode cX2_init 50 = .ok (.aload_n 0, 1) := q_aload_n0 (bat_get dg_X2_init_0_0 26 rfl rfl)
theorem dX2_init_51 : decode cX2_init 51 = .ok (.iconst 0, 1) := q_iconst0 (bat_get dg_X2_init_0_0 27 rfl rfl)
theorem dX2_init_52 : decode cX2_init 52 = .ok (.putfield 35, 3) := q_putfield (bat_get dg_X2_init_0_0 28 rfl rfl) rfl
theorem dX2_init_55 : decode cX2_init 55 = .ok (.aload_n 0, 1) := q_aload_n0 (bat_get dg_X2_init_0_0 29 rfl rfl)
theorem dX2_init_56 : decode cX2_init 56 = .ok (.iconst 0, 1) := q_iconst0 (bat_get dg_X2_init_0_0 30 rfl rfl)
theorem dX2_init_57 : decode cX2_init 57 = .ok (.putfield 38, 3) := q_putfield (bat_get dg_X2_init_0_0 31 rfl rfl) rfl
