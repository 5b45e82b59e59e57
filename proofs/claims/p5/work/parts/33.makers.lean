theorem dX10_init_0 : decode cX10_init 0 = .ok (.aload_n 0, 1) := by decide +kernel
theorem dX10_init_1 : decode cX10_init 1 = .ok (.invokespecial 1, 3) := by decide +kernel
theorem dX10_init_4 : decode cX10_init 4 = .ok (.aload_n 0, 1) := by decide +kernel
theorem dX10_init_5 : decode cX10_init 5 = .ok (.iconst 0, 1) := by decide +kernel
theorem dX10_init_6 : decode cX10_init 6 = .ok (.putfield 7, 3) := by decide +kernel
theorem dX10_init_9 : decode cX10_init 9 = .ok (.aload_n 0, 1) := by decide +kernel
theorem dX10_init_10 : decode cX10_init 10 = .ok (.iload_n 1, 1) := by decide +kernel
theorem dX10_init_11 : decode cX10_init 11 = .ok (.iconst 0, 1) := by decide +kernel
theorem dX10_init_12 : decode cX10_init 12 = .ok (.invokestatic 13, 3) := by decide +kernel
theorem dX10_init_15 : decode cX10_init 15 = .ok (.newarray .int, 2) := by decide +kernel
theorem dX10_init_17 : decode cX10_init 17 = .ok (.putfield 19, 3) := by decide +kernel
theorem dX10_init_20 : decode cX10_init 20 = .ok (.return_, 1) := by decide +kernel
theorem w_1_35 : (Cond.methodLink RX10 1 objectInit) ∈ wsL_law := sk_mem (ck_1 _ (List.mem_of_getElem? (i := 35) rfl)) rfl
theorem w_1_28 : (Cond.instanceMethod objectInit) ∈ wsL_law := sk_mem (ck_1 _ (List.mem_of_getElem? (i := 28) rfl)) rfl
theorem w_1_29 : (Cond.code objectInit ⟨#[0xb1]⟩ 1 none) ∈ wsL_law := sk_mem (ck_1 _ (List.mem_of_getElem? (i := 29) rfl)) rfl
theorem w_1_36 : (Cond.methodLink RX10 13 Lib.Math.max.name) ∈ wsL_law := sk_mem (ck_1 _ (List.mem_of_getElem? (i := 36) rfl)) rfl
theorem w_1_49 : (Cond.arrayClass .int) ∈ wsL_law := sk_mem (ck_1 _ (List.mem_of_getElem? (i := 49) rfl)) rfl
theorem w_1_34 : (Cond.code yX10_init cX10_init 2 none) ∈ wsL_law := sk_mem (ck_1 _ (List.mem_of_getElem? (i := 34) rfl)) rfl
set_option maxHeartbeats 4000000 in
set_option maxRecDepth 100000 in
theorem c_Tape_init_1600 (l : Launch) (D : va_G) (cI cJ cC cZ cS : ClassId) (h0 : Nat)  : skM l yX10_init cX10_init 2 none 1 21 1 1600 D (skT cI cJ cC cZ cS) [.ref h0, .int 1600] [(h0, .inr (10, [.null, .int 0]))] (skV D (skT cI cJ cC cZ cS) (fun (u : va_W) => ∃ (k1 : Nat), u = [(h0, .inr (10, [.ref k1, .int 0])), (k1, .inl (cI, 1600, .inl (fun _ => 0)))])) := by
  refine skM_of (by decide +kernel) (Nat.le_of_ble_eq_true rfl) ?_
  intro p e s m below meth c A ls E hP hD hl
  obtain ⟨hx, hb, hr, hml, hlocks, hin, hown, hts, hK, hA⟩ := E
  have hown : s.vm.findClass RX10 = some m.cls := hown
  have hin : meth.name = "<init>" := hin
  have hS : va_S A s.heap s.heap [] := va_S.rf
  have hl : lv_has ls 2 [(0, .ref h0), (1, .int 1600)] := hl
  refine lv_aload_n hx hb dX10_init_0 rfl (lv_at hl 0 rfl) ?_
  refine W.objInit hx hb hown (hts _ w_1_35) (hts _ w_1_28) (hts _ w_1_29) rfl (by rw [hml]; exact hl.1) rfl dX10_init_1 (Nat.le_of_ble_eq_true rfl) (Nat.le_of_ble_eq_true rfl) ?_
  refine W.eq (g2 := F0 m 4 ls []) rfl ?_
  refine lv_aload_n hx hb dX10_init_4 rfl (lv_at hl 0 rfl) ?_
  refine lv_iconst (v := 0) hx hb dX10_init_5 (by decide) ?_
  refine sk_put (ws' := [(h0, .inr (10, [.null, .int 0]))]) (C := RX10) (T := TX10) (N := 2) (v := .int 0) hx hb hts inlX10 tyX10 tyX10_ok nmX10 hown hK hP hD hS 0 rfl rfl 1 (by decide) w_1_41 rfl rfl rfl (Nat.le_of_ble_eq_true rfl) rfl dX10_init_6 (fun H locs hP hD hS => ?_)
  refine lv_aload_n hx hb dX10_init_9 rfl (lv_at hl 0 rfl) ?_
  refine lv_iload_n hx hb dX10_init_10 rfl (lv_at hl 1 rfl) ?_
  refine lv_iconst (v := 0) hx hb dX10_init_11 (by decide) ?_
  refine va_mmax hx hb (by rw [hml]; exact hl.1.symm) hown (hts _ w_1_36) (hts _ w_1_37) (hts _ w_1_3) (hts _ w_1_38) (Nat.le_of_ble_eq_true rfl) (Nat.le_of_ble_eq_true rfl) (Nat.le_of_ble_eq_true rfl) (Nat.le_of_ble_eq_true rfl) dX10_init_12 ?_
  refine sk_top 1600 (by decide) ?_
  refine sk_newa (atype := .int) (ty := .int) (a0 := (1600, .inl (fun _ => 0))) (cA := cI) (k1 := 1) (n1 := 1600) hx hb hts w_1_49 rfl (fun _ _ h => h) 0 rfl hK hP hD hS hA (fun _ => vp_cell_i _ _ _) (by decide) (by decide) (Nat.le_of_ble_eq_true rfl) (Nat.le_of_ble_eq_true rfl) (Nat.le_of_ble_eq_true rfl) (Nat.le_of_ble_eq_true rfl) (Nat.le_of_ble_eq_true rfl) dX10_init_15 (fun q_1 H hP hD hS => ?_)
  have hP : va_P D vwCl [(h0, .inr (10, [.null, .int 0])), (q_1, .inl (cI, 1600, .inl (fun _ => 0)))] H := hP
  have hD : va_D A [(h0, .inr (10, [.null, .int 0])), (q_1, .inl (cI, 1600, .inl (fun _ => 0)))] := hD
  refine sk_putF (ws' := [(h0, .inr (10, [.ref q_1, .int 0])), (q_1, .inl (cI, 1600, .inl (fun _ => 0)))]) (C := RX10) (T := TX10) (N := 2) (v := .ref q_1) hx hb hts inlX10 tyX10 tyX10_ok nmX10 hown hK hP hD hS 0 rfl rfl 0 (by decide) w_1_39 rfl hin rfl rfl rfl (Nat.le_of_ble_eq_true rfl) rfl dX10_init_17 (fun H locs hP hD hS => ?_)
  exact sk_vret hx hb hr hlocks hK hP hD hS (⟨q_1, rfl⟩) (Nat.le_of_ble_eq_true rfl) (Nat.le_of_ble_eq_true rfl) dX10_init_20
set_option maxHeartbeats 4000000 in
set_option maxRecDepth 100000 in
theorem c_Tape_init_31 (l : Launch) (D : va_G) (cI cJ cC cZ cS : ClassId) (h0 : Nat)  : skM l yX10_init cX10_init 2 none 1 21 1 31 D (skT cI cJ cC cZ cS) [.ref h0, .int 31] [(h0, .inr (10, [.null, .int 0]))] (skV D (skT cI cJ cC cZ cS) (fun (u : va_W) => ∃ (k1 : Nat), u = [(h0, .inr (10, [.ref k1, .int 0])), (k1, .inl (cI, 31, .inl (fun _ => 0)))])) := by
  refine skM_of (by decide +kernel) (Nat.le_of_ble_eq_true rfl) ?_
  intro p e s m below meth c A ls E hP hD hl
  obtain ⟨hx, hb, hr, hml, hlocks, hin, hown, hts, hK, hA⟩ := E
  have hown : s.vm.findClass RX10 = some m.cls := hown
  have hin : meth.name = "<init>" := hin
  have hS : va_S A s.heap s.heap [] := va_S.rf
  have hl : lv_has ls 2 [(0, .ref h0), (1, .int 31)] := hl
  refine lv_aload_n hx hb dX10_init_0 rfl (lv_at hl 0 rfl) ?_
  refine W.objInit hx hb hown (hts _ w_1_35) (hts _ w_1_28) (hts _ w_1_29) rfl (by rw [hml]; exact hl.1) rfl dX10_init_1 (Nat.le_of_ble_eq_true rfl) (Nat.le_of_ble_eq_true rfl) ?_
  refine W.eq (g2 := F0 m 4 ls []) rfl ?_
  refine lv_aload_n hx hb dX10_init_4 rfl (lv_at hl 0 rfl) ?_
  refine lv_iconst (v := 0) hx hb dX10_init_5 (by decide) ?_
  refine sk_put (ws' := [(h0, .inr (10, [.null, .int 0]))]) (C := RX10) (T := TX10) (N := 2) (v := .int 0) hx hb hts inlX10 tyX10 tyX10_ok nmX10 hown hK hP hD hS 0 rfl rfl 1 (by decide) w_1_41 rfl rfl rfl (Nat.le_of_ble_eq_true rfl) rfl dX10_init_6 (fun H locs hP hD hS => ?_)
  refine lv_aload_n hx hb dX10_init_9 rfl (lv_at hl 0 rfl) ?_
  refine lv_iload_n hx hb dX10_init_10 rfl (lv_at hl 1 rfl) ?_
  refine lv_iconst (v := 0) hx hb dX10_init_11 (by decide) ?_
  refine va_mmax hx hb (by rw [hml]; exact hl.1.symm) hown (hts _ w_1_36) (hts _ w_1_37) (hts _ w_1_3) (hts _ w_1_38) (Nat.le_of_ble_eq_true rfl) (Nat.le_of_ble_eq_true rfl) (Nat.le_of_ble_eq_true rfl) (Nat.le_of_ble_eq_true rfl) dX10_init_12 ?_
  refine sk_top 31 (by decide) ?_
  refine sk_newa (atype := .int) (ty := .int) (a0 := (31, .inl (fun _ => 0))) (cA := cI) (k1 := 1) (n1 := 31) hx hb hts w_1_49 rfl (fun _ _ h => h) 0 rfl hK hP hD hS hA (fun _ => vp_cell_i _ _ _) (by decide) (by decide) (Nat.le_of_ble_eq_true rfl) (Nat.le_of_ble_eq_true rfl) (Nat.le_of_ble_eq_true rfl) (Nat.le_of_ble_eq_true rfl) (Nat.le_of_ble_eq_true rfl) dX10_init_15 (fun q_1 H hP hD hS => ?_)
  have hP : va_P D vwCl [(h0, .inr (10, [.null, .int 0])), (q_1, .inl (cI, 31, .inl (fun _ => 0)))] H := hP
  have hD : va_D A [(h0, .inr (10, [.null, .int 0])), (q_1, .inl (cI, 31, .inl (fun _ => 0)))] := hD
  refine sk_putF (ws' := [(h0, .inr (10, [.ref q_1, .int 0])), (q_1, .inl (cI, 31, .inl (fun _ => 0)))]) (C := RX10) (T := TX10) (N := 2) (v := .ref q_1) hx hb hts inlX10 tyX10 tyX10_ok nmX10 hown hK hP hD hS 0 rfl rfl 0 (by decide) w_1_39 rfl hin rfl rfl rfl (Nat.le_of_ble_eq_true rfl) rfl dX10_init_17 (fun H locs hP hD hS => ?_)
  exact sk_vret hx hb hr hlocks hK hP hD hS (⟨q_1, rfl⟩) (Nat.le_of_ble_eq_true rfl) (Nat.le_of_ble_eq_true rfl) dX10_init_20
theorem dX7_init_0 : decode cX7_init 0 = .ok (.aload_n 0, 1) := by decide +kernel
theorem dX7_init_1 : decode cX7_init 1 = .ok (.invokespecial 3, 3) := by decide +kernel
theorem dX7_init_4 : decode cX7_init 4 = .ok (.aload_n 0, 1) := by decide +kernel
theorem dX7_init_5 : decode cX7_init 5 = .ok (.bipush 9, 2) := by decide +kernel
theorem dX7_init_7 : decode cX7_init 7 = .ok (.newarray .int, 2) := by decide +kernel
theorem dX7_init_9 : decode cX7_init 9 = .ok (.putfield 9, 3) := by decide +kernel
theorem dX7_init_12 : decode cX7_init 12 = .ok (.aload_n 0, 1) := by decide +kernel
theorem dX7_init_13 : decode cX7_init 13 = .ok (.bipush 9, 2) := by decide +kernel
theorem dX7_init_15 : decode cX7_init 15 = .ok (.newarray .int, 2) := by decide +kernel
theorem dX7_init_17 : decode cX7_init 17 = .ok (.putfield 15, 3) := by decide +kernel
theorem dX7_init_20 : decode cX7_init 20 = .ok (.aload_n 0, 1) := by decide +kernel
theorem dX7_init_21 : decode cX7_init 21 = .ok (.iconst 0, 1) := by decide +kernel
theorem dX7_init_22 : decode cX7_init 22 = .ok (.putfield 18, 3) := by decide +kernel
theorem dX7_init_25 : decode cX7_init 25 = .ok (.aload_n 0, 1) := by decide +kernel
theorem dX7_init_26 : decode cX7_init 26 = .ok (.iconst 0, 1) := by decide +kernel
theorem dX7_init_27 : decode cX7_init 27 = .ok (.putfield 22, 3) := by decide +kernel
theorem dX7_init_30 : decode cX7_init 30 = .ok (.aload_n 0, 1) := by decide +kernel
theorem dX7_init_31 : decode cX7_init 31 = .ok (.iconst 0, 1) := by decide +kernel
theorem dX7_init_32 : decode cX7_init 32 = .ok (.putfield 25, 3) := by decide +kernel
theorem dX7_init_35 : decode cX7_init 35 = .ok (.aload_n 0, 1) := by decide +kernel
theorem dX7_init_36 : decode cX7_init 36 = .ok (.iconst 0, 1) := by decide +kernel
theorem dX7_init_37 : decode cX7_init 37 = .ok (.putfield 28, 3) := by decide +kernel
theorem dX7_init_40 : decode cX7_init 40 = .ok (.aload_n 0, 1) := by decide +kernel
theorem dX7_init_41 : decode cX7_init 41 = .ok (.iconst 0, 1) := by decide +kernel
theorem dX7_init_42 : decode cX7_init 42 = .ok (.putfield 31, 3) := by decide +kernel
theorem dX7_init_45 : decode cX7_init 45 = .ok (.return_, 1) := by decide +kernel
theorem w_1_229 : (Cond.methodLink RX7 3 objectInit) ∈ wsL_law := sk_mem (ck_1 _ (List.mem_of_getElem? (i := 229) rfl)) rfl
theorem w_1_228 : (Cond.code yX7_init cX7_init 1 none) ∈ wsL_law := sk_mem (ck_1 _ (List.mem_of_getElem? (i := 228) rfl)) rfl
set_option maxHeartbeats 4000000 in
set_option maxRecDepth 100000 in
theorem c_State_init (l : Launch) (D : va_G) (cI cJ cC cZ cS : ClassId) (h0 : Nat)  : skM l yX7_init cX7_init 1 none 1 20 2 18 D (skT cI cJ cC cZ cS) [.ref h0] [(h0, .inr (7, [.null, .null, .int 0, .int 0, .int 0, .int 0, .int 0]))] (skV D (skT cI cJ cC cZ cS) (fun (u : va_W) => ∃ (k1 : Nat), ∃ (k2 : Nat), u = [(h0, .inr (7, [.ref k1, .ref k2, .int 0, .int 0, .int 0, .int 0, .int 0])), (k1, .inl (cI, 9, .inl (fun _ => 0))), (k2, .inl (cI, 9, .inl (fun _ => 0)))])) := by
  refine skM_of (by decide +kernel) (Nat.le_of_ble_eq_true rfl) ?_
  intro p e s m below meth c A ls E hP hD hl
  obtain ⟨hx, hb, hr, hml, hlocks, hin, hown, hts, hK, hA⟩ := E
  have hown : s.vm.findClass RX7 = some m.cls := hown
  have hin : meth.name = "<init>" := hin
  have hS : va_S A s.heap s.heap [] := va_S.rf
  have hl : lv_has ls 1 [(0, .ref h0)] := hl
  refine lv_aload_n hx hb dX7_init_0 rfl (lv_at hl 0 rfl) ?_
  refine W.objInit hx hb hown (hts _ w_1_229) (hts _ w_1_28) (hts _ w_1_29) rfl (by rw [hml]; exact hl.1) rfl dX7_init_1 (Nat.le_of_ble_eq_true rfl) (Nat.le_of_ble_eq_true rfl) ?_
  refine W.eq (g2 := F0 m 4 ls []) rfl ?_
  refine lv_aload_n hx hb dX7_init_4 rfl (lv_at hl 0 rfl) ?_
  refine lv_bipush (v := 9) hx hb dX7_init_5 (by decide) ?_
  refine sk_newa (atype := .int) (ty := .int) (a0 := (9, .inl (fun _ => 0))) (cA := cI) (k1 := 1) (n1 := 9) hx hb hts w_1_49 rfl (fun _ _ h => h) 0 rfl hK hP hD hS hA (fun _ => vp_cell_i _ _ _) (by decide) (by decide) (Nat.le_of_ble_eq_true rfl) (Nat.le_of_ble_eq_true rfl) (Nat.le_of_ble_eq_true rfl) (Nat.le_of_ble_eq_true rfl) (Nat.le_of_ble_eq_true rfl) dX7_init_7 (fun q_1 H hP hD hS => ?_)
  have hP : va_P D vwCl [(h0, .inr (7, [.null, .null, .int 0, .int 0, .int 0, .int 0, .int 0])), (q_1, .inl (cI, 9, .inl (fun _ => 0)))] H := hP
  have hD : va_D A [(h0, .inr (7, [.null, .null, .int 0, .int 0, .int 0, .int 0, .int 0])), (q_1, .inl (cI, 9, .inl (fun _ => 0)))] := hD
  refine sk_putF (ws' := [(h0, .inr (7, [.ref q_1, .null, .int 0, .int 0, .int 0, .int 0, .int 0])), (q_1, .inl (cI, 9, .inl (fun _ => 0)))]) (C := RX7) (T := TX7) (N := 7) (v := .ref q_1) hx hb hts inlX7 tyX7 tyX7_ok nmX7 hown hK hP hD hS 0 rfl rfl 0 (by decide) w_1_230 rfl hin rfl rfl rfl (Nat.le_of_ble_eq_true rfl) rfl dX7_init_9 (fun H locs hP hD hS => ?_)
  refine lv_aload_n hx hb dX7_init_12 rfl (lv_at hl 0 rfl) ?_
  refine lv_bipush (v := 9) hx hb dX7_init_13 (by decide) ?_
  refine sk_newa (atype := .int) (ty := .int) (a0 := (9, .inl (fun _ => 0))) (cA := cI) (k1 := 2) (n1 := 18) hx hb hts w_1_49 rfl (fun _ _ h => h) 0 rfl hK hP hD hS hA (fun _ => vp_cell_i _ _ _) (by decide) (by decide) (Nat.le_of_ble_eq_true rfl) (Nat.le_of_ble_eq_true rfl) (Nat.le_of_ble_eq_true rfl) (Nat.le_of_ble_eq_true rfl) (Nat.le_of_ble_eq_true rfl) dX7_init_15 (fun q_2 H hP hD hS => ?_)
  have hP : va_P D vwCl [(h0, .inr (7, [.ref q_1, .null, .int 0, .int 0, .int 0, .int 0, .int 0])), (q_1, .inl (cI, 9, .inl (fun _ => 0))), (q_2, .inl (cI, 9, .inl (fun _ => 0)))] H := hP
  have hD : va_D A [(h0, .inr (7, [.ref q_1, .null, .int 0, .int 0, .int 0, .int 0, .int 0])), (q_1, .inl (cI, 9, .inl (fun _ => 0))), (q_2, .inl (cI, 9, .inl (fun _ => 0)))] := hD
  refine sk_putF (ws' := [(h0, .inr (7, [.ref q_1, .ref q_2, .int 0, .int 0, .int 0, .int 0, .int 0])), (q_1, .inl (cI, 9, .inl (fun _ => 0))), (q_2, .inl (cI, 9, .inl (fun _ => 0)))]) (C := RX7) (T := TX7) (N := 7) (v := .ref q_2) hx hb hts inlX7 tyX7 tyX7_ok nmX7 hown hK hP hD hS 0 rfl rfl 1 (by decide) w_1_234 rfl hin rfl rfl rfl (Nat.le_of_ble_eq_true rfl) rfl dX7_init_17 (fun H locs hP hD hS => ?_)
  refine lv_aload_n hx hb dX7_init_20 rfl (lv_at hl 0 rfl) ?_
  refine lv_iconst (v := 0) hx hb dX7_init_21 (by decide) ?_
  refine sk_put (ws' := [(h0, .inr (7, [.ref q_1, .ref q_2, .int 0, .int 0, .int 0, .int 0, .int 0])), (q_1, .inl (cI, 9, .inl (fun _ => 0))), (q_2, .inl (cI, 9, .inl (fun _ => 0)))]) (C := RX7) (T := TX7) (N := 7) (v := .int 0) hx hb hts inlX7 tyX7 tyX7_ok nmX7 hown hK hP hD hS 0 rfl rfl 2 (by decide) w_1_238 rfl rfl rfl (Nat.le_of_ble_eq_true rfl) rfl dX7_init_22 (fun H locs hP hD hS => ?_)
  refine lv_aload_n hx hb dX7_init_25 rfl (lv_at hl 0 rfl) ?_
  refine lv_iconst (v := 0) hx hb dX7_init_26 (by decide) ?_
  refine sk_put (ws' := [(h0, .inr (7, [.ref q_1, .ref q_2, .int 0, .int 0, .int 0, .int 0, .int 0])), (q_1, .inl (cI, 9, .inl (fun _ => 0))), (q_2, .inl (cI, 9, .inl (fun _ => 0)))]) (C := RX7) (T := TX7) (N := 7) (v := .int 0) hx hb hts inlX7 tyX7 tyX7_ok nmX7 hown hK hP hD hS 0 rfl rfl 3 (by decide) w_2_3 rfl rfl rfl (Nat.le_of_ble_eq_true rfl) rfl dX7_init_27 (fun H locs hP hD hS => ?_)
  refine lv_aload_n hx hb dX7_init_30 rfl (lv_at hl 0 rfl) ?_
  refine lv_iconst (v := 0) hx hb dX7_init_31 (by decide) ?_
  refine sk_put (ws' := [(h0, .inr (7, [.ref q_1, .ref q_2, .int 0, .int 0, .int 0, .int 0, .int 0])), (q_1, .inl (cI, 9, .inl (fun _ => 0))), (q_2, .inl (cI, 9, .inl (fun _ => 0)))]) (C := RX7) (T := TX7) (N := 7) (v := .int 0) hx hb hts inlX7 tyX7 tyX7_ok nmX7 hown hK hP hD hS 0 rfl rfl 4 (by decide) w_2_8 rfl rfl rfl (Nat.le_of_ble_eq_true rfl) rfl dX7_init_32 (fun H locs hP hD hS => ?_)
  refine lv_aload_n hx hb dX7_init_35 rfl (lv_at hl 0 rfl) ?_
  refine lv_iconst (v := 0) hx hb dX7_init_36 (by decide) ?_
  refine sk_put (ws' := [(h0, .inr (7, [.ref q_1, .ref q_2, .int 0, .int 0, .int 0, .int 0, .int 0])), (q_1, .inl (cI, 9, .inl (fun _ => 0))), (q_2, .inl (cI, 9, .inl (fun _ => 0)))]) (C := RX7) (T := TX7) (N := 7) (v := .int 0) hx hb hts inlX7 tyX7 tyX7_ok nmX7 hown hK hP hD hS 0 rfl rfl 5 (by decide) w_2_11 rfl rfl rfl (Nat.le_of_ble_eq_true rfl) rfl dX7_init_37 (fun H locs hP hD hS => ?_)
  refine lv_aload_n hx hb dX7_init_40 rfl (lv_at hl 0 rfl) ?_
  refine lv_iconst (v := 0) hx hb dX7_init_41 (by decide) ?_
  refine sk_put (ws' := [(h0, .inr (7, [.ref q_1, .ref q_2, .int 0, .int 0, .int 0, .int 0, .int 0])), (q_1, .inl (cI, 9, .inl (fun _ => 0))), (q_2, .inl (cI, 9, .inl (fun _ => 0)))]) (C := RX7) (T := TX7) (N := 7) (v := .int 0) hx hb hts inlX7 tyX7 tyX7_ok nmX7 hown hK hP hD hS 0 rfl rfl 6 (by decide) w_2_13 rfl rfl rfl (Nat.le_of_ble_eq_true rfl) rfl dX7_init_42 (fun H locs hP hD hS => ?_)
  exact sk_vret hx hb hr hlocks hK hP hD hS (⟨q_1, q_2, rfl⟩) (Nat.le_of_ble_eq_true rfl) (Nat.le_of_ble_eq_true rfl) dX7_init_45
theorem dX0_init_0 : decode cX0_init 0 = .ok (.aload_n 0, 1) := by decide +kernel
theorem dX0_init_1 : decode cX0_init 1 = .ok (.invokespecial 3, 3) := by decide +kernel
theorem dX0_init_4 : decode cX0_init 4 = .ok (.aload_n 0, 1) := by decide +kernel
theorem dX0_init_5 : decode cX0_init 5 = .ok (.sipush 1600, 3) := by decide +kernel
theorem dX0_init_8 : decode cX0_init 8 = .ok (.newarray .int, 2) := by decide +kernel
theorem dX0_init_10 : decode cX0_init 10 = .ok (.putfield 11, 3) := by decide +kernel
theorem dX0_init_13 : decode cX0_init 13 = .ok (.aload_n 0, 1) := by decide +kernel
theorem dX0_init_14 : decode cX0_init 14 = .ok (.bipush 64, 2) := by decide +kernel
theorem dX0_init_16 : decode cX0_init 16 = .ok (.newarray .long, 2) := by decide +kernel
theorem dX0_init_18 : decode cX0_init 18 = .ok (.putfield 17, 3) := by decide +kernel
theorem dX0_init_21 : decode cX0_init 21 = .ok (.aload_n 0, 1) := by decide +kernel
theorem dX0_init_22 : decode cX0_init 22 = .ok (.bipush 9, 2) := by decide +kernel
theorem dX0_init_24 : decode cX0_init 24 = .ok (.newarray .long, 2) := by decide +kernel
theorem dX0_init_26 : decode cX0_init 26 = .ok (.putfield 21, 3) := by decide +kernel
theorem dX0_init_29 : decode cX0_init 29 = .ok (.aload_n 0, 1) := by decide +kernel
theorem dX0_init_30 : decode cX0_init 30 = .ok (.bipush 10, 2) := by decide +kernel
theorem dX0_init_32 : decode cX0_init 32 = .ok (.newarray .long, 2) := by decide +kernel
theorem dX0_init_34 : decode cX0_init 34 = .ok (.putfield 24, 3) := by decide +kernel
theorem dX0_init_37 : decode cX0_init 37 = .ok (.aload_n 0, 1) := by decide +kernel
theorem dX0_init_38 : decode cX0_init 38 = .ok (.iconst 0, 1) := by decide +kernel
theorem dX0_init_39 : decode cX0_init 39 = .ok (.putfield 27, 3) := by decide +kernel
theorem dX0_init_42 : decode cX0_init 42 = .ok (.aload_n 0, 1) := by decide +kernel
theorem dX0_init_43 : decode cX0_init 43 = .ok (.iconst 0, 1) := by decide +kernel
theorem dX0_init_44 : decode cX0_init 44 = .ok (.putfield 31, 3) := by decide +kernel
theorem dX0_init_47 : decode cX0_init 47 = .ok (.return_, 1) := by decide +kernel
theorem w_1_128 : (Cond.methodLink RX0 3 objectInit) ∈ wsL_law := sk_mem (ck_1 _ (List.mem_of_getElem? (i := 128) rfl)) rfl
theorem w_1_151 : (Cond.arrayClass .long) ∈ wsL_law := sk_mem (ck_1 _ (List.mem_of_getElem? (i := 151) rfl)) rfl
theorem w_1_127 : (Cond.code yX0_init cX0_init 1 none) ∈ wsL_law := sk_mem (ck_1 _ (List.mem_of_getElem? (i := 127) rfl)) rfl
set_option maxHeartbeats 4000000 in
set_option maxRecDepth 100000 in
theorem c_Code_init (l : Launch) (D : va_G) (cI cJ cC cZ cS : ClassId) (h0 : Nat)  : skM l yX0_init cX0_init 1 none 1 20 4 1683 D (skT cI cJ cC cZ cS) [.ref h0] [(h0, .inr (0, [.null, .null, .null, .null, .int 0, .int 0]))] (skV D (skT cI cJ cC cZ cS) (fun (u : va_W) => ∃ (k1 : Nat), ∃ (k2 : Nat), ∃ (k3 : Nat), ∃ (k4 : Nat), u = [(h0, .inr (0, [.ref k1, .ref k2, .ref k3, .ref k4, .int 0, .int 0])), (k1, .inl (cI, 1600, .inl (fun _ => 0))), (k2, .inl (cJ, 64, .inr (.inl (fun _ => 0)))), (k3, .inl (cJ, 9, .inr (.inl (fun _ => 0)))), (k4, .inl (cJ, 10, .inr (.inl (fun _ => 0))))])) := by
  refine skM_of (by decide +kernel) (Nat.le_of_ble_eq_true rfl) ?_
  intro p e s m below meth c A ls E hP hD hl
  obtain ⟨hx, hb, hr, hml, hlocks, hin, hown, hts, hK, hA⟩ := E
  have hown : s.vm.findClass RX0 = some m.cls := hown
  have hin : meth.name = "<init>" := hin
  have hS : va_S A s.heap s.heap [] := va_S.rf
  have hl : lv_has ls 1 [(0, .ref h0)] := hl
  refine lv_aload_n hx hb dX0_init_0 rfl (lv_at hl 0 rfl) ?_
  refine W.objInit hx hb hown (hts _ w_1_128) (hts _ w_1_28) (hts _ w_1_29) rfl (by rw [hml]; exact hl.1) rfl dX0_init_1 (Nat.le_of_ble_eq_true rfl) (Nat.le_of_ble_eq_true rfl) ?_
  refine W.eq (g2 := F0 m 4 ls []) rfl ?_
  refine lv_aload_n hx hb dX0_init_4 rfl (lv_at hl 0 rfl) ?_
  refine lv_sipush (v := 1600) hx hb dX0_init_5 (by decide) ?_
  refine sk_newa (atype := .int) (ty := .int) (a0 := (1600, .inl (fun _ => 0))) (cA := cI) (k1 := 1) (n1 := 1600) hx hb hts w_1_49 rfl (fun _ _ h => h) 0 rfl hK hP hD hS hA (fun _ => vp_cell_i _ _ _) (by decide) (by decide) (Nat.le_of_ble_eq_true rfl) (Nat.le_of_ble_eq_true rfl) (Nat.le_of_ble_eq_true rfl) (Nat.le_of_ble_eq_true rfl) (Nat.le_of_ble_eq_true rfl) dX0_init_8 (fun q_1 H hP hD hS => ?_)
  have hP : va_P D vwCl [(h0, .inr (0, [.null, .null, .null, .null, .int 0, .int 0])), (q_1, .inl (cI, 1600, .inl (fun _ => 0)))] H := hP
  have hD : va_D A [(h0, .inr (0, [.null, .null, .null, .null, .int 0, .int 0])), (q_1, .inl (cI, 1600, .inl (fun _ => 0)))] := hD
  refine sk_putF (ws' := [(h0, .inr (0, [.ref q_1, .null, .null, .null, .int 0, .int 0])), (q_1, .inl (cI, 1600, .inl (fun _ => 0)))]) (C := RX0) (T := TX0) (N := 6) (v := .ref q_1) hx hb hts inlX0 tyX0 tyX0_ok nmX0 hown hK hP hD hS 0 rfl rfl 0 (by decide) w_1_129 rfl hin rfl rfl rfl (Nat.le_of_ble_eq_true rfl) rfl dX0_init_10 (fun H locs hP hD hS => ?_)
  refine lv_aload_n hx hb dX0_init_13 rfl (lv_at hl 0 rfl) ?_
  refine lv_bipush (v := 64) hx hb dX0_init_14 (by decide) ?_
  refine sk_newa (atype := .long) (ty := .long) (a0 := (64, .inr (.inl (fun _ => 0)))) (cA := cJ) (k1 := 2) (n1 := 1664) hx hb hts w_1_151 rfl (fun _ _ h => h) 1 rfl hK hP hD hS hA (fun _ => vp_cell_l _ _ _) (by decide) (by decide) (Nat.le_of_ble_eq_true rfl) (Nat.le_of_ble_eq_true rfl) (Nat.le_of_ble_eq_true rfl) (Nat.le_of_ble_eq_true rfl) (Nat.le_of_ble_eq_true rfl) dX0_init_16 (fun q_2 H hP hD hS => ?_)
  have hP : va_P D vwCl [(h0, .inr (0, [.ref q_1, .null, .null, .null, .int 0, .int 0])), (q_1, .inl (cI, 1600, .inl (fun _ => 0))), (q_2, .inl (cJ, 64, .inr (.inl (fun _ => 0))))] H := hP
  have hD : va_D A [(h0, .inr (0, [.ref q_1, .null, .null, .null, .int 0, .int 0])), (q_1, .inl (cI, 1600, .inl (fun _ => 0))), (q_2, .inl (cJ, 64, .inr (.inl (fun _ => 0))))] := hD
  refine sk_putF (ws' := [(h0, .inr (0, [.ref q_1, .ref q_2, .null, .null, .int 0, .int 0])), (q_1, .inl (cI, 1600, .inl (fun _ => 0))), (q_2, .inl (cJ, 64, .inr (.inl (fun _ => 0))))]) (C := RX0) (T := TX0) (N := 6) (v := .ref q_2) hx hb hts inlX0 tyX0 tyX0_ok nmX0 hown hK hP hD hS 0 rfl rfl 1 (by decide) w_1_130 rfl hin rfl rfl rfl (Nat.le_of_ble_eq_true rfl) rfl dX0_init_18 (fun H locs hP hD hS => ?_)
  refine lv_aload_n hx hb dX0_init_21 rfl (lv_at hl 0 rfl) ?_
  refine lv_bipush (v := 9) hx hb dX0_init_22 (by decide) ?_
  refine sk_newa (atype := .long) (ty := .long) (a0 := (9, .inr (.inl (fun _ => 0)))) (cA := cJ) (k1 := 3) (n1 := 1673) hx hb hts w_1_151 rfl (fun _ _ h => h) 1 rfl hK hP hD hS hA (fun _ => vp_cell_l _ _ _) (by decide) (by decide) (Nat.le_of_ble_eq_true rfl) (Nat.le_of_ble_eq_true rfl) (Nat.le_of_ble_eq_true rfl) (Nat.le_of_ble_eq_true rfl) (Nat.le_of_ble_eq_true rfl) dX0_init_24 (fun q_3 H hP hD hS => ?_)
  have hP : va_P D vwCl [(h0, .inr (0, [.ref q_1, .ref q_2, .null, .null, .int 0, .int 0])), (q_1, .inl (cI, 1600, .inl (fun _ => 0))), (q_2, .inl (cJ, 64, .inr (.inl (fun _ => 0)))), (q_3, .inl (cJ, 9, .inr (.inl (fun _ => 0))))] H := hP
  have hD : va_D A [(h0, .inr (0, [.ref q_1, .ref q_2, .null, .null, .int 0, .int 0])), (q_1, .inl (cI, 1600, .inl (fun _ => 0))), (q_2, .inl (cJ, 64, .inr (.inl (fun _ => 0)))), (q_3, .inl (cJ, 9, .inr (.inl (fun _ => 0))))] := hD
  refine sk_putF (ws' := [(h0, .inr (0, [.ref q_1, .ref q_2, .ref q_3, .null, .int 0, .int 0])), (q_1, .inl (cI, 1600, .inl (fun _ => 0))), (q_2, .inl (cJ, 64, .inr (.inl (fun _ => 0)))), (q_3, .inl (cJ, 9, .inr (.inl (fun _ => 0))))]) (C := RX0) (T := TX0) (N := 6) (v := .ref q_3) hx hb hts inlX0 tyX0 tyX0_ok nmX0 hown hK hP hD hS 0 rfl rfl 2 (by decide) w_1_131 rfl hin rfl rfl rfl (Nat.le_of_ble_eq_true rfl) rfl dX0_init_26 (fun H locs hP hD hS => ?_)
  refine lv_aload_n hx hb dX0_init_29 rfl (lv_at hl 0 rfl) ?_
  refine lv_bipush (v := 10) hx hb dX0_init_30 (by decide) ?_
  refine sk_newa (atype := .long) (ty := .long) (a0 := (10, .inr (.inl (fun _ => 0)))) (cA := cJ) (k1 := 4) (n1 := 1683) hx hb hts w_1_151 rfl (fun _ _ h => h) 1 rfl hK hP hD hS hA (fun _ => vp_cell_l _ _ _) (by decide) (by decide) (Nat.le_of_ble_eq_true rfl) (Nat.le_of_ble_eq_true rfl) (Nat.le_of_ble_eq_true rfl) (Nat.le_of_ble_eq_true rfl) (Nat.le_of_ble_eq_true rfl) dX0_init_32 (fun q_4 H hP hD hS => ?_)
  have hP : va_P D vwCl [(h0, .inr (0, [.ref q_1, .ref q_2, .ref q_3, .null, .int 0, .int 0])), (q_1, .inl (cI, 1600, .inl (fun _ => 0))), (q_2, .inl (cJ, 64, .inr (.inl (fun _ => 0)))), (q_3, .inl (cJ, 9, .inr (.inl (fun _ => 0)))), (q_4, .inl (cJ, 10, .inr (.inl (fun _ => 0))))] H := hP
  have hD : va_D A [(h0, .inr (0, [.ref q_1, .ref q_2, .ref q_3, .null, .int 0, .int 0])), (q_1, .inl (cI, 1600, .inl (fun _ => 0))), (q_2, .inl (cJ, 64, .inr (.inl (fun _ => 0)))), (q_3, .inl (cJ, 9, .inr (.inl (fun _ => 0)))), (q_4, .inl (cJ, 10, .inr (.inl (fun _ => 0))))] := hD
  refine sk_putF (ws' := [(h0, .inr (0, [.ref q_1, .ref q_2, .ref q_3, .ref q_4, .int 0, .int 0])), (q_1, .inl (cI, 1600, .inl (fun _ => 0))), (q_2, .inl (cJ, 64, .inr (.inl (fun _ => 0)))), (q_3, .inl (cJ, 9, .inr (.inl (fun _ => 0)))), (q_4, .inl (cJ, 10, .inr (.inl (fun _ => 0))))]) (C := RX0) (T := TX0) (N := 6) (v := .ref q_4) hx hb hts inlX0 tyX0 tyX0_ok nmX0 hown hK hP hD hS 0 rfl rfl 3 (by decide) w_1_132 rfl hin rfl rfl rfl (Nat.le_of_ble_eq_true rfl) rfl dX0_init_34 (fun H locs hP hD hS => ?_)
  refine lv_aload_n hx hb dX0_init_37 rfl (lv_at hl 0 rfl) ?_
  refine lv_iconst (v := 0) hx hb dX0_init_38 (by decide) ?_
  refine sk_put (ws' := [(h0, .inr (0, [.ref q_1, .ref q_2, .ref q_3, .ref q_4, .int 0, .int 0])), (q_1, .inl (cI, 1600, .inl (fun _ => 0))), (q_2, .inl (cJ, 64, .inr (.inl (fun _ => 0)))), (q_3, .inl (cJ, 9, .inr (.inl (fun _ => 0)))), (q_4, .inl (cJ, 10, .inr (.inl (fun _ => 0))))]) (C := RX0) (T := TX0) (N := 6) (v := .int 0) hx hb hts inlX0 tyX0 tyX0_ok nmX0 hown hK hP hD hS 0 rfl rfl 4 (by decide) w_1_133 rfl rfl rfl (Nat.le_of_ble_eq_true rfl) rfl dX0_init_39 (fun H locs hP hD hS => ?_)
  refine lv_aload_n hx hb dX0_init_42 rfl (lv_at hl 0 rfl) ?_
  refine lv_iconst (v := 0) hx hb dX0_init_43 (by decide) ?_
  refine sk_put (ws' := [(h0, .inr (0, [.ref q_1, .ref q_2, .ref q_3, .ref q_4, .int 0, .int 0])), (q_1, .inl (cI, 1600, .inl (fun _ => 0))), (q_2, .inl (cJ, 64, .inr (.inl (fun _ => 0)))), (q_3, .inl (cJ, 9, .inr (.inl (fun _ => 0)))), (q_4, .inl (cJ, 10, .inr (.inl (fun _ => 0))))]) (C := RX0) (T := TX0) (N := 6) (v := .int 0) hx hb hts inlX0 tyX0 tyX0_ok nmX0 hown hK hP hD hS 0 rfl rfl 5 (by decide) w_1_136 rfl rfl rfl (Nat.le_of_ble_eq_true rfl) rfl dX0_init_44 (fun H locs hP hD hS => ?_)
  exact sk_vret hx hb hr hlocks hK hP hD hS (⟨q_1, q_2, q_3, q_4, rfl⟩) (Nat.le_of_ble_eq_true rfl) (Nat.le_of_ble_eq_true rfl) dX0_init_47
theorem dX8_init_0 : decode cX8_init 0 = .ok (.aload_n 0, 1) := by decide +kernel
theorem dX8_init_1 : decode cX8_init 1 = .ok (.invokespecial 3, 3) := by decide +kernel
theorem dX8_init_4 : decode cX8_init 4 = .ok (.aload_n 0, 1) := by decide +kernel
theorem dX8_init_5 : decode cX8_init 5 = .ok (.aload_n 1, 1) := by decide +kernel
theorem dX8_init_6 : decode cX8_init 6 = .ok (.putfield 9, 3) := by decide +kernel
theorem dX8_init_9 : decode cX8_init 9 = .ok (.aload_n 0, 1) := by decide +kernel
theorem dX8_init_10 : decode cX8_init 10 = .ok (.iload_n 2, 1) := by decide +kernel
theorem dX8_init_11 : decode cX8_init 11 = .ok (.putfield 15, 3) := by decide +kernel
theorem dX8_init_14 : decode cX8_init 14 = .ok (.return_, 1) := by decide +kernel
theorem w_1_99 : (Cond.methodLink RX8 3 objectInit) ∈ wsL_law := sk_mem (ck_1 _ (List.mem_of_getElem? (i := 99) rfl)) rfl
theorem w_1_98 : (Cond.code yX8_init cX8_init 3 none) ∈ wsL_law := sk_mem (ck_1 _ (List.mem_of_getElem? (i := 98) rfl)) rfl
set_option maxHeartbeats 4000000 in
set_option maxRecDepth 100000 in
theorem c_Sums_init (l : Launch) (D : va_G) (cI cJ cC cZ cS : ClassId) (h0 : Nat) (rd : Nat) (kd : Int32)  : skM l yX8_init cX8_init 3 none 1 20 0 0 D (skT cI cJ cC cZ cS) [.ref h0, .ref rd, .int kd] [(h0, .inr (8, [.null, .int 0]))] (skV D (skT cI cJ cC cZ cS) (fun (u : va_W) => u = [(h0, .inr (8, [.ref rd, .int kd]))])) := by
  refine skM_of (by decide +kernel) (Nat.le_of_ble_eq_true rfl) ?_
  intro p e s m below meth c A ls E hP hD hl
  obtain ⟨hx, hb, hr, hml, hlocks, hin, hown, hts, hK, hA⟩ := E
  have hown : s.vm.findClass RX8 = some m.cls := hown
  have hin : meth.name = "<init>" := hin
  have hS : va_S A s.heap s.heap [] := va_S.rf
  have hl : lv_has ls 3 [(0, .ref h0), (1, .ref rd), (2, .int kd)] := hl
  refine lv_aload_n hx hb dX8_init_0 rfl (lv_at hl 0 rfl) ?_
  refine W.objInit hx hb hown (hts _ w_1_99) (hts _ w_1_28) (hts _ w_1_29) rfl (by rw [hml]; exact hl.1) rfl dX8_init_1 (Nat.le_of_ble_eq_true rfl) (Nat.le_of_ble_eq_true rfl) ?_
  refine W.eq (g2 := F0 m 4 ls []) rfl ?_
  refine lv_aload_n hx hb dX8_init_4 rfl (lv_at hl 0 rfl) ?_
  refine lv_aload_n hx hb dX8_init_5 rfl (lv_at hl 1 rfl) ?_
  refine sk_putF (ws' := [(h0, .inr (8, [.ref rd, .int 0]))]) (C := RX8) (T := TX8) (N := 2) (v := .ref rd) hx hb hts inlX8 tyX8 tyX8_ok nmX8 hown hK hP hD hS 0 rfl rfl 0 (by decide) w_1_100 rfl hin rfl rfl rfl (Nat.le_of_ble_eq_true rfl) rfl dX8_init_6 (fun H locs hP hD hS => ?_)
  refine lv_aload_n hx hb dX8_init_9 rfl (lv_at hl 0 rfl) ?_
  refine lv_iload_n hx hb dX8_init_10 rfl (lv_at hl 2 rfl) ?_
  refine sk_putF (ws' := [(h0, .inr (8, [.ref rd, .int kd]))]) (C := RX8) (T := TX8) (N := 2) (v := .int kd) hx hb hts inlX8 tyX8 tyX8_ok nmX8 hown hK hP hD hS 0 rfl rfl 1 (by decide) w_1_101 rfl hin rfl rfl rfl (Nat.le_of_ble_eq_true rfl) rfl dX8_init_11 (fun H locs hP hD hS => ?_)
  exact sk_vret hx hb hr hlocks hK hP hD hS rfl (Nat.le_of_ble_eq_true rfl) (Nat.le_of_ble_eq_true rfl) dX8_init_14
theorem dX6_init_0 : decode cX6_init 0 = .ok (.aload_n 0, 1) := by decide +kernel
theorem dX6_init_1 : decode cX6_init 1 = .ok (.invokespecial 3, 3) := by decide +kernel
theorem dX6_init_4 : decode cX6_init 4 = .ok (.aload_n 0, 1) := by decide +kernel
theorem dX6_init_5 : decode cX6_init 5 = .ok (.iconst 0, 1) := by decide +kernel
theorem dX6_init_6 : decode cX6_init 6 = .ok (.putfield 9, 3) := by decide +kernel
theorem dX6_init_9 : decode cX6_init 9 = .ok (.aload_n 0, 1) := by decide +kernel
theorem dX6_init_10 : decode cX6_init 10 = .ok (.iconst 0, 1) := by decide +kernel
theorem dX6_init_11 : decode cX6_init 11 = .ok (.putfield 15, 3) := by decide +kernel
theorem dX6_init_14 : decode cX6_init 14 = .ok (.aload_n 0, 1) := by decide +kernel
theorem dX6_init_15 : decode cX6_init 15 = .ok (.iconst 0, 1) := by decide +kernel
theorem dX6_init_16 : decode cX6_init 16 = .ok (.putfield 18, 3) := by decide +kernel
theorem dX6_init_19 : decode cX6_init 19 = .ok (.aload_n 0, 1) := by decide +kernel
theorem dX6_init_20 : decode cX6_init 20 = .ok (.iconst (-1), 1) := by decide +kernel
theorem dX6_init_21 : decode cX6_init 21 = .ok (.putfield 21, 3) := by decide +kernel
theorem dX6_init_24 : decode cX6_init 24 = .ok (.aload_n 0, 1) := by decide +kernel
theorem dX6_init_25 : decode cX6_init 25 = .ok (.iconst 0, 1) := by decide +kernel
theorem dX6_init_26 : decode cX6_init 26 = .ok (.putfield 24, 3) := by decide +kernel
theorem dX6_init_29 : decode cX6_init 29 = .ok (.aload_n 0, 1) := by decide +kernel
theorem dX6_init_30 : decode cX6_init 30 = .ok (.iconst 0, 1) := by decide +kernel
theorem dX6_init_31 : decode cX6_init 31 = .ok (.putfield 27, 3) := by decide +kernel
theorem dX6_init_34 : decode cX6_init 34 = .ok (.aload_n 0, 1) := by decide +kernel
theorem dX6_init_35 : decode cX6_init 35 = .ok (.iconst (-1), 1) := by decide +kernel
theorem dX6_init_36 : decode cX6_init 36 = .ok (.putfield 30, 3) := by decide +kernel
theorem dX6_init_39 : decode cX6_init 39 = .ok (.aload_n 0, 1) := by decide +kernel
theorem dX6_init_40 : decode cX6_init 40 = .ok (.aload_n 1, 1) := by decide +kernel
theorem dX6_init_41 : decode cX6_init 41 = .ok (.putfield 33, 3) := by decide +kernel
theorem dX6_init_44 : decode cX6_init 44 = .ok (.return_, 1) := by decide +kernel
theorem w_1_55 : (Cond.methodLink RX6 3 objectInit) ∈ wsL_law := sk_mem (ck_1 _ (List.mem_of_getElem? (i := 55) rfl)) rfl
theorem w_1_54 : (Cond.code yX6_init cX6_init 2 none) ∈ wsL_law := sk_mem (ck_1 _ (List.mem_of_getElem? (i := 54) rfl)) rfl
set_option maxHeartbeats 4000000 in
set_option maxRecDepth 100000 in
theorem c_Reader_init (l : Launch) (D : va_G) (cI cJ cC cZ cS : ClassId) (h0 : Nat) (tp : Nat)  : skM l yX6_init cX6_init 2 none 1 20 0 0 D (skT cI cJ cC cZ cS) [.ref h0, .ref tp] [(h0, .inr (6, [.null, .int 0, .int 0, .int 0, .int 0, .int 0, .int 0, .int 0]))] (skV D (skT cI cJ cC cZ cS) (fun (u : va_W) => u = [(h0, .inr (6, [.ref tp, .int 0, .int 0, .int 0, .int (-1), .int 0, .int 0, .int (-1)]))])) := by
  refine skM_of (by decide +kernel) (Nat.le_of_ble_eq_true rfl) ?_
  intro p e s m below meth c A ls E hP hD hl
  obtain ⟨hx, hb, hr, hml, hlocks, hin, hown, hts, hK, hA⟩ := E
  have hown : s.vm.findClass RX6 = some m.cls := hown
  have hin : meth.name = "<init>" := hin
  have hS : va_S A s.heap s.heap [] := va_S.rf
  have hl : lv_has ls 2 [(0, .ref h0), (1, .ref tp)] := hl
  refine lv_aload_n hx hb dX6_init_0 rfl (lv_at hl 0 rfl) ?_
  refine W.objInit hx hb hown (hts _ w_1_55) (hts _ w_1_28) (hts _ w_1_29) rfl (by rw [hml]; exact hl.1) rfl dX6_init_1 (Nat.le_of_ble_eq_true rfl) (Nat.le_of_ble_eq_true rfl) ?_
  refine W.eq (g2 := F0 m 4 ls []) rfl ?_
  refine lv_aload_n hx hb dX6_init_4 rfl (lv_at hl 0 rfl) ?_
  refine lv_iconst (v := 0) hx hb dX6_init_5 (by decide) ?_
  refine sk_put (ws' := [(h0, .inr (6, [.null, .int 0, .int 0, .int 0, .int 0, .int 0, .int 0, .int 0]))]) (C := RX6) (T := TX6) (N := 8) (v := .int 0) hx hb hts inlX6 tyX6 tyX6_ok nmX6 hown hK hP hD hS 0 rfl rfl 1 (by decide) w_1_57 rfl rfl rfl (Nat.le_of_ble_eq_true rfl) rfl dX6_init_6 (fun H locs hP hD hS => ?_)
  refine lv_aload_n hx hb dX6_init_9 rfl (lv_at hl 0 rfl) ?_
  refine lv_iconst (v := 0) hx hb dX6_init_10 (by decide) ?_
  refine sk_put (ws' := [(h0, .inr (6, [.null, .int 0, .int 0, .int 0, .int 0, .int 0, .int 0, .int 0]))]) (C := RX6) (T := TX6) (N := 8) (v := .int 0) hx hb hts inlX6 tyX6 tyX6_ok nmX6 hown hK hP hD hS 0 rfl rfl 2 (by decide) w_1_58 rfl rfl rfl (Nat.le_of_ble_eq_true rfl) rfl dX6_init_11 (fun H locs hP hD hS => ?_)
  refine lv_aload_n hx hb dX6_init_14 rfl (lv_at hl 0 rfl) ?_
  refine lv_iconst (v := 0) hx hb dX6_init_15 (by decide) ?_
  refine sk_put (ws' := [(h0, .inr (6, [.null, .int 0, .int 0, .int 0, .int 0, .int 0, .int 0, .int 0]))]) (C := RX6) (T := TX6) (N := 8) (v := .int 0) hx hb hts inlX6 tyX6 tyX6_ok nmX6 hown hK hP hD hS 0 rfl rfl 3 (by decide) w_1_59 rfl rfl rfl (Nat.le_of_ble_eq_true rfl) rfl dX6_init_16 (fun H locs hP hD hS => ?_)
  refine lv_aload_n hx hb dX6_init_19 rfl (lv_at hl 0 rfl) ?_
  refine lv_iconst (v := (-1)) hx hb dX6_init_20 (by decide) ?_
  refine sk_put (ws' := [(h0, .inr (6, [.null, .int 0, .int 0, .int 0, .int (-1), .int 0, .int 0, .int 0]))]) (C := RX6) (T := TX6) (N := 8) (v := .int (-1)) hx hb hts inlX6 tyX6 tyX6_ok nmX6 hown hK hP hD hS 0 rfl rfl 4 (by decide) w_1_60 rfl rfl rfl (Nat.le_of_ble_eq_true rfl) rfl dX6_init_21 (fun H locs hP hD hS => ?_)
  refine lv_aload_n hx hb dX6_init_24 rfl (lv_at hl 0 rfl) ?_
  refine lv_iconst (v := 0) hx hb dX6_init_25 (by decide) ?_
  refine sk_put (ws' := [(h0, .inr (6, [.null, .int 0, .int 0, .int 0, .int (-1), .int 0, .int 0, .int 0]))]) (C := RX6) (T := TX6) (N := 8) (v := .int 0) hx hb hts inlX6 tyX6 tyX6_ok nmX6 hown hK hP hD hS 0 rfl rfl 5 (by decide) w_1_64 rfl rfl rfl (Nat.le_of_ble_eq_true rfl) rfl dX6_init_26 (fun H locs hP hD hS => ?_)
  refine lv_aload_n hx hb dX6_init_29 rfl (lv_at hl 0 rfl) ?_
  refine lv_iconst (v := 0) hx hb dX6_init_30 (by decide) ?_
  refine sk_put (ws' := [(h0, .inr (6, [.null, .int 0, .int 0, .int 0, .int (-1), .int 0, .int 0, .int 0]))]) (C := RX6) (T := TX6) (N := 8) (v := .int 0) hx hb hts inlX6 tyX6 tyX6_ok nmX6 hown hK hP hD hS 0 rfl rfl 6 (by decide) w_1_66 rfl rfl rfl (Nat.le_of_ble_eq_true rfl) rfl dX6_init_31 (fun H locs hP hD hS => ?_)
  refine lv_aload_n hx hb dX6_init_34 rfl (lv_at hl 0 rfl) ?_
  refine lv_iconst (v := (-1)) hx hb dX6_init_35 (by decide) ?_
  refine sk_put (ws' := [(h0, .inr (6, [.null, .int 0, .int 0, .int 0, .int (-1), .int 0, .int 0, .int (-1)]))]) (C := RX6) (T := TX6) (N := 8) (v := .int (-1)) hx hb hts inlX6 tyX6 tyX6_ok nmX6 hown hK hP hD hS 0 rfl rfl 7 (by decide) w_1_69 rfl rfl rfl (Nat.le_of_ble_eq_true rfl) rfl dX6_init_36 (fun H locs hP hD hS => ?_)
  refine lv_aload_n hx hb dX6_init_39 rfl (lv_at hl 0 rfl) ?_
  refine lv_aload_n hx hb dX6_init_40 rfl (lv_at hl 1 rfl) ?_
  refine sk_putF (ws' := [(h0, .inr (6, [.ref tp, .int 0, .int 0, .int 0, .int (-1), .int 0, .int 0, .int (-1)]))]) (C := RX6) (T := TX6) (N := 8) (v := .ref tp) hx hb hts inlX6 tyX6 tyX6_ok nmX6 hown hK hP hD hS 0 rfl rfl 0 (by decide) w_1_56 rfl hin rfl rfl rfl (Nat.le_of_ble_eq_true rfl) rfl dX6_init_41 (fun H locs hP hD hS => ?_)
  exact sk_vret hx hb hr hlocks hK hP hD hS rfl (Nat.le_of_ble_eq_true rfl) (Nat.le_of_ble_eq_true rfl) dX6_init_44
theorem dX3_init_0 : decode cX3_init 0 = .ok (.aload_n 0, 1) := by decide +kernel
theorem dX3_init_1 : decode cX3_init 1 = .ok (.invokespecial 3, 3) := by decide +kernel
theorem dX3_init_4 : decode cX3_init 4 = .ok (.aload_n 0, 1) := by decide +kernel
theorem dX3_init_5 : decode cX3_init 5 = .ok (.aload_n 1, 1) := by decide +kernel
theorem dX3_init_6 : decode cX3_init 6 = .ok (.putfield 9, 3) := by decide +kernel
theorem dX3_init_9 : decode cX3_init 9 = .ok (.aload_n 0, 1) := by decide +kernel
theorem dX3_init_10 : decode cX3_init 10 = .ok (.new 15, 3) := by decide +kernel
theorem dX3_init_13 : decode cX3_init 13 = .ok (.dup, 1) := by decide +kernel
theorem dX3_init_14 : decode cX3_init 14 = .ok (.aload_n 1, 1) := by decide +kernel
theorem dX3_init_15 : decode cX3_init 15 = .ok (.iconst 0, 1) := by decide +kernel
theorem dX3_init_16 : decode cX3_init 16 = .ok (.invokespecial 17, 3) := by decide +kernel
theorem dX3_init_19 : decode cX3_init 19 = .ok (.putfield 20, 3) := by decide +kernel
theorem dX3_init_22 : decode cX3_init 22 = .ok (.aload_n 0, 1) := by decide +kernel
theorem dX3_init_23 : decode cX3_init 23 = .ok (.new 15, 3) := by decide +kernel
theorem dX3_init_26 : decode cX3_init 26 = .ok (.dup, 1) := by decide +kernel
theorem dX3_init_27 : decode cX3_init 27 = .ok (.aload_n 1, 1) := by decide +kernel
theorem dX3_init_28 : decode cX3_init 28 = .ok (.iconst 1, 1) := by decide +kernel
theorem dX3_init_29 : decode cX3_init 29 = .ok (.invokespecial 17, 3) := by decide +kernel
theorem dX3_init_32 : decode cX3_init 32 = .ok (.putfield 24, 3) := by decide +kernel
theorem dX3_init_35 : decode cX3_init 35 = .ok (.return_, 1) := by decide +kernel
theorem w_1_93 : (Cond.methodLink RX3 3 objectInit) ∈ wsL_law := sk_mem (ck_1 _ (List.mem_of_getElem? (i := 93) rfl)) rfl
theorem w_1_94 : (Cond.classLink RX3 15 RX8) ∈ wsL_law := sk_mem (ck_1 _ (List.mem_of_getElem? (i := 94) rfl)) rfl
theorem w_1_95 : (Cond.instantiable RX8 2) ∈ wsL_law := sk_mem (ck_1 _ (List.mem_of_getElem? (i := 95) rfl)) rfl
theorem w_1_96 : (Cond.methodLink RX3 17 yX8_init) ∈ wsL_law := sk_mem (ck_1 _ (List.mem_of_getElem? (i := 96) rfl)) rfl
theorem w_1_97 : (Cond.instanceMethod yX8_init) ∈ wsL_law := sk_mem (ck_1 _ (List.mem_of_getElem? (i := 97) rfl)) rfl
theorem w_1_92 : (Cond.code yX3_init cX3_init 2 none) ∈ wsL_law := sk_mem (ck_1 _ (List.mem_of_getElem? (i := 92) rfl)) rfl
set_option maxHeartbeats 4000000 in
set_option maxRecDepth 100000 in
theorem c_LockText_init (l : Launch) (D : va_G) (cI cJ cC cZ cS : ClassId) (h0 : Nat) (rd : Nat)  : skM l yX3_init cX3_init 2 none 2 42 2 4 D (skT cI cJ cC cZ cS) [.ref h0, .ref rd] [(h0, .inr (3, [.null, .null, .null]))] (skV D (skT cI cJ cC cZ cS) (fun (u : va_W) => ∃ (k1 : Nat), ∃ (k2 : Nat), u = [(h0, .inr (3, [.ref rd, .ref k1, .ref k2])), (k1, .inr (8, [.ref rd, .int 0])), (k2, .inr (8, [.ref rd, .int 1]))])) := by
  refine skM_of (by decide +kernel) (Nat.le_of_ble_eq_true rfl) ?_
  intro p e s m below meth c A ls E hP hD hl
  obtain ⟨hx, hb, hr, hml, hlocks, hin, hown, hts, hK, hA⟩ := E
  have hown : s.vm.findClass RX3 = some m.cls := hown
  have hin : meth.name = "<init>" := hin
  have hS : va_S A s.heap s.heap [] := va_S.rf
  have hl : lv_has ls 2 [(0, .ref h0), (1, .ref rd)] := hl
  refine lv_aload_n hx hb dX3_init_0 rfl (lv_at hl 0 rfl) ?_
  refine W.objInit hx hb hown (hts _ w_1_93) (hts _ w_1_28) (hts _ w_1_29) rfl (by rw [hml]; exact hl.1) rfl dX3_init_1 (Nat.le_of_ble_eq_true rfl) (Nat.le_of_ble_eq_true rfl) ?_
  refine W.eq (g2 := F0 m 4 ls []) rfl ?_
  refine lv_aload_n hx hb dX3_init_4 rfl (lv_at hl 0 rfl) ?_
  refine lv_aload_n hx hb dX3_init_5 rfl (lv_at hl 1 rfl) ?_
  refine sk_putF (ws' := [(h0, .inr (3, [.ref rd, .null, .null]))]) (C := RX3) (T := TX3) (N := 3) (v := .ref rd) hx hb hts inlX3 tyX3 tyX3_ok nmX3 hown hK hP hD hS 0 rfl rfl 0 (by decide) w_1_107 rfl hin rfl rfl rfl (Nat.le_of_ble_eq_true rfl) rfl dX3_init_6 (fun H locs hP hD hS => ?_)
  refine lv_aload_n hx hb dX3_init_9 rfl (lv_at hl 0 rfl) ?_
  refine sk_new (ci := 8) (fs := [.null, .int 0]) (C := RX8) (T := TX8) (N := 2) (k1 := 1) (n1 := 2) hx hb hts inlX8 tyX8 tyX8_ok hown w_1_94 w_1_95 w_1_6 hK hP hD hS hA rfl (fun j hj => by rcases (show j = 0 ∨ j = 1 by omega) with rfl | rfl <;> rfl) (Nat.le_of_ble_eq_true rfl) (Nat.le_of_ble_eq_true rfl) (Nat.le_of_ble_eq_true rfl) (Nat.le_of_ble_eq_true rfl) dX3_init_10 (fun q_1 H hP hD hS => ?_)
  have hP : va_P D vwCl [(h0, .inr (3, [.ref rd, .null, .null])), (q_1, .inr (8, [.null, .int 0]))] H := hP
  have hD : va_D A [(h0, .inr (3, [.ref rd, .null, .null])), (q_1, .inr (8, [.null, .int 0]))] := hD
  refine lv_dup hx hb dX3_init_13 rfl ?_
  refine lv_aload_n hx hb dX3_init_14 rfl (lv_at hl 1 rfl) ?_
  refine lv_iconst (v := 0) hx hb dX3_init_15 (by decide) ?_
  refine sk_Iv (n := 2) (rest := [.ref q_1, .ref h0]) (wr := [(h0, .inr (3, [.ref rd, .null, .null]))]) ⟨hx, hb, hml, hown, hts⟩ hl.1 (c_Sums_init l D cI cJ cC cZ cS q_1 rd 0) w_1_96 w_1_97 w_1_6 w_1_98 rfl (by decide +kernel) ⟨⟨(Nat.le_of_ble_eq_true rfl), (Nat.le_of_ble_eq_true rfl)⟩, (Nat.le_of_ble_eq_true rfl), (Nat.le_of_ble_eq_true rfl)⟩ hK hP hD hS hA [1] [0] rfl rfl (by decide +kernel) (by decide +kernel) (by decide +kernel) rfl rfl (Nat.le_of_ble_eq_true rfl) dX3_init_16 (fun u H locs hw hP hD hS => ?_)
  obtain rfl := hw
  have hP : va_P D vwCl [(h0, .inr (3, [.ref rd, .null, .null])), (q_1, .inr (8, [.ref rd, .int 0]))] H := hP
  have hD : va_D A [(h0, .inr (3, [.ref rd, .null, .null])), (q_1, .inr (8, [.ref rd, .int 0]))] := hD
  refine sk_putF (ws' := [(h0, .inr (3, [.ref rd, .ref q_1, .null])), (q_1, .inr (8, [.ref rd, .int 0]))]) (C := RX3) (T := TX3) (N := 3) (v := .ref q_1) hx hb hts inlX3 tyX3 tyX3_ok nmX3 hown hK hP hD hS 0 rfl rfl 1 (by decide) w_1_108 rfl hin rfl rfl rfl (Nat.le_of_ble_eq_true rfl) rfl dX3_init_19 (fun H locs hP hD hS => ?_)
  refine lv_aload_n hx hb dX3_init_22 rfl (lv_at hl 0 rfl) ?_
  refine sk_new (ci := 8) (fs := [.null, .int 0]) (C := RX8) (T := TX8) (N := 2) (k1 := 2) (n1 := 4) hx hb hts inlX8 tyX8 tyX8_ok hown w_1_94 w_1_95 w_1_6 hK hP hD hS hA rfl (fun j hj => by rcases (show j = 0 ∨ j = 1 by omega) with rfl | rfl <;> rfl) (Nat.le_of_ble_eq_true rfl) (Nat.le_of_ble_eq_true rfl) (Nat.le_of_ble_eq_true rfl) (Nat.le_of_ble_eq_true rfl) dX3_init_23 (fun q_2 H hP hD hS => ?_)
  have hP : va_P D vwCl [(h0, .inr (3, [.ref rd, .ref q_1, .null])), (q_1, .inr (8, [.ref rd, .int 0])), (q_2, .inr (8, [.null, .int 0]))] H := hP
  have hD : va_D A [(h0, .inr (3, [.ref rd, .ref q_1, .null])), (q_1, .inr (8, [.ref rd, .int 0])), (q_2, .inr (8, [.null, .int 0]))] := hD
  refine lv_dup hx hb dX3_init_26 rfl ?_
  refine lv_aload_n hx hb dX3_init_27 rfl (lv_at hl 1 rfl) ?_
  refine lv_iconst (v := 1) hx hb dX3_init_28 (by decide) ?_
  refine sk_Iv (n := 2) (rest := [.ref q_2, .ref h0]) (wr := [(h0, .inr (3, [.ref rd, .ref q_1, .null])), (q_1, .inr (8, [.ref rd, .int 0]))]) ⟨hx, hb, hml, hown, hts⟩ hl.1 (c_Sums_init l D cI cJ cC cZ cS q_2 rd 1) w_1_96 w_1_97 w_1_6 w_1_98 rfl (by decide +kernel) ⟨⟨(Nat.le_of_ble_eq_true rfl), (Nat.le_of_ble_eq_true rfl)⟩, (Nat.le_of_ble_eq_true rfl), (Nat.le_of_ble_eq_true rfl)⟩ hK hP hD hS hA [2] [0, 1] rfl rfl (by decide +kernel) (by decide +kernel) (by decide +kernel) rfl rfl (Nat.le_of_ble_eq_true rfl) dX3_init_29 (fun u H locs hw hP hD hS => ?_)
  obtain rfl := hw
  have hP : va_P D vwCl [(h0, .inr (3, [.ref rd, .ref q_1, .null])), (q_1, .inr (8, [.ref rd, .int 0])), (q_2, .inr (8, [.ref rd, .int 1]))] H := hP
  have hD : va_D A [(h0, .inr (3, [.ref rd, .ref q_1, .null])), (q_1, .inr (8, [.ref rd, .int 0])), (q_2, .inr (8, [.ref rd, .int 1]))] := hD
  refine sk_putF (ws' := [(h0, .inr (3, [.ref rd, .ref q_1, .ref q_2])), (q_1, .inr (8, [.ref rd, .int 0])), (q_2, .inr (8, [.ref rd, .int 1]))]) (C := RX3) (T := TX3) (N := 3) (v := .ref q_2) hx hb hts inlX3 tyX3 tyX3_ok nmX3 hown hK hP hD hS 0 rfl rfl 2 (by decide) w_1_109 rfl hin rfl rfl rfl (Nat.le_of_ble_eq_true rfl) rfl dX3_init_32 (fun H locs hP hD hS => ?_)
  exact sk_vret hx hb hr hlocks hK hP hD hS (⟨q_1, q_2, rfl⟩) (Nat.le_of_ble_eq_true rfl) (Nat.le_of_ble_eq_true rfl) dX3_init_35
theorem dX5_init_0 : decode cX5_init 0 = .ok (.aload_n 0, 1) := by decide +kernel
theorem dX5_init_1 : decode cX5_init 1 = .ok (.invokespecial 3, 3) := by decide +kernel
theorem dX5_init_4 : decode cX5_init 4 = .ok (.aload_n 0, 1) := by decide +kernel
theorem dX5_init_5 : decode cX5_init 5 = .ok (.new 9, 3) := by decide +kernel
theorem dX5_init_8 : decode cX5_init 8 = .ok (.dup, 1) := by decide +kernel
theorem dX5_init_9 : decode cX5_init 9 = .ok (.invokespecial 11, 3) := by decide +kernel
theorem dX5_init_12 : decode cX5_init 12 = .ok (.putfield 12, 3) := by decide +kernel
theorem dX5_init_15 : decode cX5_init 15 = .ok (.aload_n 0, 1) := by decide +kernel
theorem dX5_init_16 : decode cX5_init 16 = .ok (.bipush (-2), 2) := by decide +kernel
theorem dX5_init_18 : decode cX5_init 18 = .ok (.putfield 20, 3) := by decide +kernel
theorem dX5_init_21 : decode cX5_init 21 = .ok (.aload_n 0, 1) := by decide +kernel
theorem dX5_init_22 : decode cX5_init 22 = .ok (.aload_n 1, 1) := by decide +kernel
theorem dX5_init_23 : decode cX5_init 23 = .ok (.putfield 24, 3) := by decide +kernel
theorem dX5_init_26 : decode cX5_init 26 = .ok (.aload_n 0, 1) := by decide +kernel
theorem dX5_init_27 : decode cX5_init 27 = .ok (.new 28, 3) := by decide +kernel
theorem dX5_init_30 : decode cX5_init 30 = .ok (.dup, 1) := by decide +kernel
theorem dX5_init_31 : decode cX5_init 31 = .ok (.aload_n 1, 1) := by decide +kernel
theorem dX5_init_32 : decode cX5_init 32 = .ok (.iconst 2, 1) := by decide +kernel
theorem dX5_init_33 : decode cX5_init 33 = .ok (.invokespecial 30, 3) := by decide +kernel
theorem dX5_init_36 : decode cX5_init 36 = .ok (.putfield 33, 3) := by decide +kernel
theorem dX5_init_39 : decode cX5_init 39 = .ok (.return_, 1) := by decide +kernel
theorem w_1_122 : (Cond.methodLink RX5 3 objectInit) ∈ wsL_law := sk_mem (ck_1 _ (List.mem_of_getElem? (i := 122) rfl)) rfl
theorem w_1_123 : (Cond.classLink RX5 9 RX0) ∈ wsL_law := sk_mem (ck_1 _ (List.mem_of_getElem? (i := 123) rfl)) rfl
theorem w_1_124 : (Cond.instantiable RX0 6) ∈ wsL_law := sk_mem (ck_1 _ (List.mem_of_getElem? (i := 124) rfl)) rfl
theorem w_1_126 : (Cond.instanceMethod yX0_init) ∈ wsL_law := sk_mem (ck_1 _ (List.mem_of_getElem? (i := 126) rfl)) rfl
theorem w_1_152 : (Cond.classLink RX5 28 RX8) ∈ wsL_law := sk_mem (ck_1 _ (List.mem_of_getElem? (i := 152) rfl)) rfl
theorem w_1_153 : (Cond.methodLink RX5 30 yX8_init) ∈ wsL_law := sk_mem (ck_1 _ (List.mem_of_getElem? (i := 153) rfl)) rfl
theorem w_1_121 : (Cond.code yX5_init cX5_init 2 none) ∈ wsL_law := sk_mem (ck_1 _ (List.mem_of_getElem? (i := 121) rfl)) rfl
set_option maxHeartbeats 4000000 in
set_option maxRecDepth 100000 in
theorem c_Question_init (l : Launch) (D : va_G) (cI cJ cC cZ cS : ClassId) (h0 : Nat) (rd : Nat)  : skM l yX5_init cX5_init 2 none 2 42 6 1691 D (skT cI cJ cC cZ cS) [.ref h0, .ref rd] [(h0, .inr (5, [.null, .null, .null, .int 0]))] (skV D (skT cI cJ cC cZ cS) (fun (u : va_W) => ∃ (k1 : Nat), ∃ (k2 : Nat), ∃ (k3 : Nat), ∃ (k4 : Nat), ∃ (k5 : Nat), ∃ (k6 : Nat), u = [(h0, .inr (5, [.ref rd, .ref k1, .ref k2, .int (-2)])), (k1, .inr (8, [.ref rd, .int 2])), (k2, .inr (0, [.ref k3, .ref k4, .ref k5, .ref k6, .int 0, .int 0])), (k3, .inl (cI, 1600, .inl (fun _ => 0))), (k4, .inl (cJ, 64, .inr (.inl (fun _ => 0)))), (k5, .inl (cJ, 9, .inr (.inl (fun _ => 0)))), (k6, .inl (cJ, 10, .inr (.inl (fun _ => 0))))])) := by
  refine skM_of (by decide +kernel) (Nat.le_of_ble_eq_true rfl) ?_
  intro p e s m below meth c A ls E hP hD hl
  obtain ⟨hx, hb, hr, hml, hlocks, hin, hown, hts, hK, hA⟩ := E
  have hown : s.vm.findClass RX5 = some m.cls := hown
  have hin : meth.name = "<init>" := hin
  have hS : va_S A s.heap s.heap [] := va_S.rf
  have hl : lv_has ls 2 [(0, .ref h0), (1, .ref rd)] := hl
  refine lv_aload_n hx hb dX5_init_0 rfl (lv_at hl 0 rfl) ?_
  refine W.objInit hx hb hown (hts _ w_1_122) (hts _ w_1_28) (hts _ w_1_29) rfl (by rw [hml]; exact hl.1) rfl dX5_init_1 (Nat.le_of_ble_eq_true rfl) (Nat.le_of_ble_eq_true rfl) ?_
  refine W.eq (g2 := F0 m 4 ls []) rfl ?_
  refine lv_aload_n hx hb dX5_init_4 rfl (lv_at hl 0 rfl) ?_
  refine sk_new (ci := 0) (fs := [.null, .null, .null, .null, .int 0, .int 0]) (C := RX0) (T := TX0) (N := 6) (k1 := 1) (n1 := 6) hx hb hts inlX0 tyX0 tyX0_ok hown w_1_123 w_1_124 w_1_8 hK hP hD hS hA rfl (fun j hj => by rcases (show j = 0 ∨ j = 1 ∨ j = 2 ∨ j = 3 ∨ j = 4 ∨ j = 5 by omega) with rfl | rfl | rfl | rfl | rfl | rfl <;> rfl) (Nat.le_of_ble_eq_true rfl) (Nat.le_of_ble_eq_true rfl) (Nat.le_of_ble_eq_true rfl) (Nat.le_of_ble_eq_true rfl) dX5_init_5 (fun q_1 H hP hD hS => ?_)
  have hP : va_P D vwCl [(h0, .inr (5, [.null, .null, .null, .int 0])), (q_1, .inr (0, [.null, .null, .null, .null, .int 0, .int 0]))] H := hP
  have hD : va_D A [(h0, .inr (5, [.null, .null, .null, .int 0])), (q_1, .inr (0, [.null, .null, .null, .null, .int 0, .int 0]))] := hD
  refine lv_dup hx hb dX5_init_8 rfl ?_
  refine sk_INv (n := 0) (rest := [.ref q_1, .ref h0]) (wr := [(h0, .inr (5, [.null, .null, .null, .int 0]))]) ⟨hx, hb, hml, hown, hts⟩ hl.1 (c_Code_init l D cI cJ cC cZ cS q_1) hK.2.2.2.2.2.2.2 w_1_126 w_1_8 w_1_127 rfl (by decide +kernel) ⟨⟨(Nat.le_of_ble_eq_true rfl), (Nat.le_of_ble_eq_true rfl)⟩, (Nat.le_of_ble_eq_true rfl), (Nat.le_of_ble_eq_true rfl)⟩ hK hP hD hS hA [1] [0] rfl rfl (by decide +kernel) (by decide +kernel) (by decide +kernel) rfl rfl (Nat.le_of_ble_eq_true rfl) dX5_init_9 (fun u H locs hw hP hD hS => ?_)
  obtain ⟨k1_2, k2_3, k3_4, k4_5, rfl⟩ := hw
  have hP : va_P D vwCl [(h0, .inr (5, [.null, .null, .null, .int 0])), (q_1, .inr (0, [.ref k1_2, .ref k2_3, .ref k3_4, .ref k4_5, .int 0, .int 0])), (k1_2, .inl (cI, 1600, .inl (fun _ => 0))), (k2_3, .inl (cJ, 64, .inr (.inl (fun _ => 0)))), (k3_4, .inl (cJ, 9, .inr (.inl (fun _ => 0)))), (k4_5, .inl (cJ, 10, .inr (.inl (fun _ => 0))))] H := hP
  have hD : va_D A [(h0, .inr (5, [.null, .null, .null, .int 0])), (q_1, .inr (0, [.ref k1_2, .ref k2_3, .ref k3_4, .ref k4_5, .int 0, .int 0])), (k1_2, .inl (cI, 1600, .inl (fun _ => 0))), (k2_3, .inl (cJ, 64, .inr (.inl (fun _ => 0)))), (k3_4, .inl (cJ, 9, .inr (.inl (fun _ => 0)))), (k4_5, .inl (cJ, 10, .inr (.inl (fun _ => 0))))] := hD
  refine W.widen (k := 5) (n := 1689) (Nat.le_of_ble_eq_true rfl) (Nat.le_of_ble_eq_true rfl) ?_
  refine sk_putF (ws' := [(h0, .inr (5, [.null, .null, .ref q_1, .int 0])), (q_1, .inr (0, [.ref k1_2, .ref k2_3, .ref k3_4, .ref k4_5, .int 0, .int 0])), (k1_2, .inl (cI, 1600, .inl (fun _ => 0))), (k2_3, .inl (cJ, 64, .inr (.inl (fun _ => 0)))), (k3_4, .inl (cJ, 9, .inr (.inl (fun _ => 0)))), (k4_5, .inl (cJ, 10, .inr (.inl (fun _ => 0))))]) (C := RX5) (T := TX5) (N := 4) (v := .ref q_1) hx hb hts inlX5 tyX5 tyX5_ok nmX5 hown hK hP hD hS 0 rfl rfl 2 (by decide) w_1_156 rfl hin rfl rfl rfl (Nat.le_of_ble_eq_true rfl) rfl dX5_init_12 (fun H locs hP hD hS => ?_)
  refine lv_aload_n hx hb dX5_init_15 rfl (lv_at hl 0 rfl) ?_
  refine lv_bipush (v := (-2)) hx hb dX5_init_16 (by decide) ?_
  refine sk_put (ws' := [(h0, .inr (5, [.null, .null, .ref q_1, .int (-2)])), (q_1, .inr (0, [.ref k1_2, .ref k2_3, .ref k3_4, .ref k4_5, .int 0, .int 0])), (k1_2, .inl (cI, 1600, .inl (fun _ => 0))), (k2_3, .inl (cJ, 64, .inr (.inl (fun _ => 0)))), (k3_4, .inl (cJ, 9, .inr (.inl (fun _ => 0)))), (k4_5, .inl (cJ, 10, .inr (.inl (fun _ => 0))))]) (C := RX5) (T := TX5) (N := 4) (v := .int (-2)) hx hb hts inlX5 tyX5 tyX5_ok nmX5 hown hK hP hD hS 0 rfl rfl 3 (by decide) w_1_157 rfl rfl rfl (Nat.le_of_ble_eq_true rfl) rfl dX5_init_18 (fun H locs hP hD hS => ?_)
  refine lv_aload_n hx hb dX5_init_21 rfl (lv_at hl 0 rfl) ?_
  refine lv_aload_n hx hb dX5_init_22 rfl (lv_at hl 1 rfl) ?_
  refine sk_putF (ws' := [(h0, .inr (5, [.ref rd, .null, .ref q_1, .int (-2)])), (q_1, .inr (0, [.ref k1_2, .ref k2_3, .ref k3_4, .ref k4_5, .int 0, .int 0])), (k1_2, .inl (cI, 1600, .inl (fun _ => 0))), (k2_3, .inl (cJ, 64, .inr (.inl (fun _ => 0)))), (k3_4, .inl (cJ, 9, .inr (.inl (fun _ => 0)))), (k4_5, .inl (cJ, 10, .inr (.inl (fun _ => 0))))]) (C := RX5) (T := TX5) (N := 4) (v := .ref rd) hx hb hts inlX5 tyX5 tyX5_ok nmX5 hown hK hP hD hS 0 rfl rfl 0 (by decide) w_1_154 rfl hin rfl rfl rfl (Nat.le_of_ble_eq_true rfl) rfl dX5_init_23 (fun H locs hP hD hS => ?_)
  refine lv_aload_n hx hb dX5_init_26 rfl (lv_at hl 0 rfl) ?_
  refine sk_new (ci := 8) (fs := [.null, .int 0]) (C := RX8) (T := TX8) (N := 2) (k1 := 6) (n1 := 1691) hx hb hts inlX8 tyX8 tyX8_ok hown w_1_152 w_1_95 w_1_6 hK hP hD hS hA rfl (fun j hj => by rcases (show j = 0 ∨ j = 1 by omega) with rfl | rfl <;> rfl) (Nat.le_of_ble_eq_true rfl) (Nat.le_of_ble_eq_true rfl) (Nat.le_of_ble_eq_true rfl) (Nat.le_of_ble_eq_true rfl) dX5_init_27 (fun q_6 H hP hD hS => ?_)
  have hP : va_P D vwCl [(h0, .inr (5, [.ref rd, .null, .ref q_1, .int (-2)])), (q_1, .inr (0, [.ref k1_2, .ref k2_3, .ref k3_4, .ref k4_5, .int 0, .int 0])), (k1_2, .inl (cI, 1600, .inl (fun _ => 0))), (k2_3, .inl (cJ, 64, .inr (.inl (fun _ => 0)))), (k3_4, .inl (cJ, 9, .inr (.inl (fun _ => 0)))), (k4_5, .inl (cJ, 10, .inr (.inl (fun _ => 0)))), (q_6, .inr (8, [.null, .int 0]))] H := hP
  have hD : va_D A [(h0, .inr (5, [.ref rd, .null, .ref q_1, .int (-2)])), (q_1, .inr (0, [.ref k1_2, .ref k2_3, .ref k3_4, .ref k4_5, .int 0, .int 0])), (k1_2, .inl (cI, 1600, .inl (fun _ => 0))), (k2_3, .inl (cJ, 64, .inr (.inl (fun _ => 0)))), (k3_4, .inl (cJ, 9, .inr (.inl (fun _ => 0)))), (k4_5, .inl (cJ, 10, .inr (.inl (fun _ => 0)))), (q_6, .inr (8, [.null, .int 0]))] := hD
  refine lv_dup hx hb dX5_init_30 rfl ?_
  refine lv_aload_n hx hb dX5_init_31 rfl (lv_at hl 1 rfl) ?_
  refine lv_iconst (v := 2) hx hb dX5_init_32 (by decide) ?_
  refine sk_Iv (n := 2) (rest := [.ref q_6, .ref h0]) (wr := [(h0, .inr (5, [.ref rd, .null, .ref q_1, .int (-2)])), (q_1, .inr (0, [.ref k1_2, .ref k2_3, .ref k3_4, .ref k4_5, .int 0, .int 0])), (k1_2, .inl (cI, 1600, .inl (fun _ => 0))), (k2_3, .inl (cJ, 64, .inr (.inl (fun _ => 0)))), (k3_4, .inl (cJ, 9, .inr (.inl (fun _ => 0)))), (k4_5, .inl (cJ, 10, .inr (.inl (fun _ => 0))))]) ⟨hx, hb, hml, hown, hts⟩ hl.1 (c_Sums_init l D cI cJ cC cZ cS q_6 rd 2) w_1_153 w_1_97 w_1_6 w_1_98 rfl (by decide +kernel) ⟨⟨(Nat.le_of_ble_eq_true rfl), (Nat.le_of_ble_eq_true rfl)⟩, (Nat.le_of_ble_eq_true rfl), (Nat.le_of_ble_eq_true rfl)⟩ hK hP hD hS hA [6] [0, 1, 2, 3, 4, 5] rfl rfl (by decide +kernel) (by decide +kernel) (by decide +kernel) rfl rfl (Nat.le_of_ble_eq_true rfl) dX5_init_33 (fun u H locs hw hP hD hS => ?_)
  obtain rfl := hw
  have hP : va_P D vwCl [(h0, .inr (5, [.ref rd, .null, .ref q_1, .int (-2)])), (q_1, .inr (0, [.ref k1_2, .ref k2_3, .ref k3_4, .ref k4_5, .int 0, .int 0])), (k1_2, .inl (cI, 1600, .inl (fun _ => 0))), (k2_3, .inl (cJ, 64, .inr (.inl (fun _ => 0)))), (k3_4, .inl (cJ, 9, .inr (.inl (fun _ => 0)))), (k4_5, .inl (cJ, 10, .inr (.inl (fun _ => 0)))), (q_6, .inr (8, [.ref rd, .int 2]))] H := hP
  have hD : va_D A [(h0, .inr (5, [.ref rd, .null, .ref q_1, .int (-2)])), (q_1, .inr (0, [.ref k1_2, .ref k2_3, .ref k3_4, .ref k4_5, .int 0, .int 0])), (k1_2, .inl (cI, 1600, .inl (fun _ => 0))), (k2_3, .inl (cJ, 64, .inr (.inl (fun _ => 0)))), (k3_4, .inl (cJ, 9, .inr (.inl (fun _ => 0)))), (k4_5, .inl (cJ, 10, .inr (.inl (fun _ => 0)))), (q_6, .inr (8, [.ref rd, .int 2]))] := hD
  refine sk_putF (ws' := [(h0, .inr (5, [.ref rd, .ref q_6, .ref q_1, .int (-2)])), (q_1, .inr (0, [.ref k1_2, .ref k2_3, .ref k3_4, .ref k4_5, .int 0, .int 0])), (k1_2, .inl (cI, 1600, .inl (fun _ => 0))), (k2_3, .inl (cJ, 64, .inr (.inl (fun _ => 0)))), (k3_4, .inl (cJ, 9, .inr (.inl (fun _ => 0)))), (k4_5, .inl (cJ, 10, .inr (.inl (fun _ => 0)))), (q_6, .inr (8, [.ref rd, .int 2]))]) (C := RX5) (T := TX5) (N := 4) (v := .ref q_6) hx hb hts inlX5 tyX5 tyX5_ok nmX5 hown hK hP hD hS 0 rfl rfl 1 (by decide) w_1_155 rfl hin rfl rfl rfl (Nat.le_of_ble_eq_true rfl) rfl dX5_init_36 (fun H locs hP hD hS => ?_)
  have hP := hP.sub (ws' := [(h0, .inr (5, [.ref rd, .ref q_6, .ref q_1, .int (-2)])), (q_6, .inr (8, [.ref rd, .int 2])), (q_1, .inr (0, [.ref k1_2, .ref k2_3, .ref k3_4, .ref k4_5, .int 0, .int 0])), (k1_2, .inl (cI, 1600, .inl (fun _ => 0))), (k2_3, .inl (cJ, 64, .inr (.inl (fun _ => 0)))), (k3_4, .inl (cJ, 9, .inr (.inl (fun _ => 0)))), (k4_5, .inl (cJ, 10, .inr (.inl (fun _ => 0))))]) [0, 6, 1, 2, 3, 4, 5] rfl
  have hD := hD.sub (ws' := [(h0, .inr (5, [.ref rd, .ref q_6, .ref q_1, .int (-2)])), (q_6, .inr (8, [.ref rd, .int 2])), (q_1, .inr (0, [.ref k1_2, .ref k2_3, .ref k3_4, .ref k4_5, .int 0, .int 0])), (k1_2, .inl (cI, 1600, .inl (fun _ => 0))), (k2_3, .inl (cJ, 64, .inr (.inl (fun _ => 0)))), (k3_4, .inl (cJ, 9, .inr (.inl (fun _ => 0)))), (k4_5, .inl (cJ, 10, .inr (.inl (fun _ => 0))))]) [0, 6, 1, 2, 3, 4, 5] (by decide +kernel) rfl
  exact sk_vret hx hb hr hlocks hK hP hD hS (⟨q_6, q_1, k1_2, k2_3, k3_4, k4_5, rfl⟩) (Nat.le_of_ble_eq_true rfl) (Nat.le_of_ble_eq_true rfl) dX5_init_39
theorem dX2_init_0 : decode cX2_init 0 = .ok (.aload_n 0, 1) := by decide +kernel
theorem dX2_init_1 : decode cX2_init 1 = .ok (.invokespecial 3, 3) := by decide +kernel
theorem dX2_init_4 : decode cX2_init 4 = .ok (.aload_n 0, 1) := by decide +kernel
theorem dX2_init_5 : decode cX2_init 5 = .ok (.new 9, 3) := by decide +kernel
theorem dX2_init_8 : decode cX2_init 8 = .ok (.dup, 1) := by decide +kernel
theorem dX2_init_9 : decode cX2_init 9 = .ok (.invokespecial 11, 3) := by decide +kernel
theorem dX2_init_12 : decode cX2_init 12 = .ok (.putfield 12, 3) := by decide +kernel
theorem dX2_init_15 : decode cX2_init 15 = .ok (.aload_n 0, 1) := by decide +kernel
theorem dX2_init_16 : decode cX2_init 16 = .ok (.bipush 9, 2) := by decide +kernel
theorem dX2_init_18 : decode cX2_init 18 = .ok (.newarray .int, 2) := by decide +kernel
theorem dX2_init_20 : decode cX2_init 20 = .ok (.putfield 18, 3) := by decide +kernel
theorem dX2_init_23 : decode cX2_init 23 = .ok (.aload_n 0, 1) := by decide +kernel
theorem dX2_init_24 : decode cX2_init 24 = .ok (.bipush 9, 2) := by decide +kernel
theorem dX2_init_26 : decode cX2_init 26 = .ok (.newarray .int, 2) := by decide +kernel
theorem dX2_init_28 : decode cX2_init 28 = .ok (.putfield 22, 3) := by decide +kernel
theorem dX2_init_31 : decode cX2_init 31 = .ok (.aload_n 0, 1) := by decide +kernel
theorem dX2_init_32 : decode cX2_init 32 = .ok (.iconst 3, 1) := by decide +kernel
theorem dX2_init_33 : decode cX2_init 33 = .ok (.newarray .int, 2) := by decide +kernel
theorem dX2_init_35 : decode cX2_init 35 = .ok (.putfield 25, 3) := by decide +kernel
theorem dX2_init_38 : decode cX2_init 38 = .ok (.aload_n 0, 1) := by decide +kernel
theorem dX2_init_39 : decode cX2_init 39 = .ok (.iconst 3, 1) := by decide +kernel
theorem dX2_init_40 : decode cX2_init 40 = .ok (.newarray .int, 2) := by decide +kernel
theorem dX2_init_42 : decode cX2_init 42 = .ok (.putfield 28, 3) := by decide +kernel
theorem dX2_init_45 : decode cX2_init 45 = .ok (.aload_n 0, 1) := by decide +kernel
theorem dX2_init_46 : decode cX2_init 46 = .ok (.iconst 0, 1) := by decide +kernel
theorem dX2_init_47 : decode cX2_init 47 = .ok (.putfield 31, 3) := by decide +kernel
theorem dX2_init_50 : decode cX2_init 50 = .ok (.aload_n 0, 1) := by decide +kernel
theorem dX2_init_51 : decode cX2_init 51 = .ok (.iconst 0, 1) := by decide +kernel
theorem dX2_init_52 : decode cX2_init 52 = .ok (.putfield 35, 3) := by decide +kernel
theorem dX2_init_55 : decode cX2_init 55 = .ok (.aload_n 0, 1) := by decide +kernel
theorem dX2_init_56 : decode cX2_init 56 = .ok (.iconst 0, 1) := by decide +kernel
theorem dX2_init_57 : decode cX2_init 57 = .ok (.putfield 38, 3) := by decide +kernel
theorem dX2_init_60 : decode cX2_init 60 = .ok (.aload_n 0, 1) := by decide +kernel
theorem dX2_init_61 : decode cX2_init 61 = .ok (.iconst 0, 1) := by decide +kernel
theorem dX2_init_62 : decode cX2_init 62 = .ok (.putfield 41, 3) := by decide +kernel
theorem dX2_init_65 : decode cX2_init 65 = .ok (.aload_n 0, 1) := by decide +kernel
theorem dX2_init_66 : decode cX2_init 66 = .ok (.iconst 0, 1) := by decide +kernel
theorem dX2_init_67 : decode cX2_init 67 = .ok (.putfield 44, 3) := by decide +kernel
theorem dX2_init_70 : decode cX2_init 70 = .ok (.return_, 1) := by decide +kernel
theorem w_1_172 : (Cond.methodLink RX2 3 objectInit) ∈ wsL_law := sk_mem (ck_1 _ (List.mem_of_getElem? (i := 172) rfl)) rfl
theorem w_1_173 : (Cond.classLink RX2 9 RX0) ∈ wsL_law := sk_mem (ck_1 _ (List.mem_of_getElem? (i := 173) rfl)) rfl
theorem w_1_188 : (Cond.fieldLink RX2 31 "SameKeeper$Lock" "days" "I") ∈ wsL_law := sk_mem (ck_1 _ (List.mem_of_getElem? (i := 188) rfl)) rfl
theorem w_1_191 : (Cond.fieldLink RX2 35 "SameKeeper$Lock" "mood" "I") ∈ wsL_law := sk_mem (ck_1 _ (List.mem_of_getElem? (i := 191) rfl)) rfl
theorem w_1_171 : (Cond.code yX2_init cX2_init 1 none) ∈ wsL_law := sk_mem (ck_1 _ (List.mem_of_getElem? (i := 171) rfl)) rfl
set_option maxHeartbeats 4000000 in
set_option maxRecDepth 100000 in
theorem c_Lock_init (l : Launch) (D : va_G) (cI cJ cC cZ cS : ClassId) (h0 : Nat)  : skM l yX2_init cX2_init 1 none 2 40 9 1713 D (skT cI cJ cC cZ cS) [.ref h0] [(h0, .inr (2, [.null, .null, .null, .null, .null, .int 0, .int 0, .int 0, .int 0, .int 0]))] (skV D (skT cI cJ cC cZ cS) (fun (u : va_W) => ∃ (k1 : Nat), ∃ (k2 : Nat), ∃ (k3 : Nat), ∃ (k4 : Nat), ∃ (k5 : Nat), ∃ (k6 : Nat), ∃ (k7 : Nat), ∃ (k8 : Nat), ∃ (k9 : Nat), u = [(h0, .inr (2, [.ref k1, .ref k2, .ref k3, .ref k4, .ref k5, .int 0, .int 0, .int 0, .int 0, .int 0])), (k1, .inr (0, [.ref k6, .ref k7, .ref k8, .ref k9, .int 0, .int 0])), (k6, .inl (cI, 1600, .inl (fun _ => 0))), (k7, .inl (cJ, 64, .inr (.inl (fun _ => 0)))), (k8, .inl (cJ, 9, .inr (.inl (fun _ => 0)))), (k9, .inl (cJ, 10, .inr (.inl (fun _ => 0)))), (k4, .inl (cI, 3, .inl (fun _ => 0))), (k5, .inl (cI, 3, .inl (fun _ => 0))), (k2, .inl (cI, 9, .inl (fun _ => 0))), (k3, .inl (cI, 9, .inl (fun _ => 0)))])) := by
  refine skM_of (by decide +kernel) (Nat.le_of_ble_eq_true rfl) ?_
  intro p e s m below meth c A ls E hP hD hl
  obtain ⟨hx, hb, hr, hml, hlocks, hin, hown, hts, hK, hA⟩ := E
  have hown : s.vm.findClass RX2 = some m.cls := hown
  have hin : meth.name = "<init>" := hin
  have hS : va_S A s.heap s.heap [] := va_S.rf
  have hl : lv_has ls 1 [(0, .ref h0)] := hl
  refine lv_aload_n hx hb dX2_init_0 rfl (lv_at hl 0 rfl) ?_
  refine W.objInit hx hb hown (hts _ w_1_172) (hts _ w_1_28) (hts _ w_1_29) rfl (by rw [hml]; exact hl.1) rfl dX2_init_1 (Nat.le_of_ble_eq_true rfl) (Nat.le_of_ble_eq_true rfl) ?_
  refine W.eq (g2 := F0 m 4 ls []) rfl ?_
  refine lv_aload_n hx hb dX2_init_4 rfl (lv_at hl 0 rfl) ?_
  refine sk_new (ci := 0) (fs := [.null, .null, .null, .null, .int 0, .int 0]) (C := RX0) (T := TX0) (N := 6) (k1 := 1) (n1 := 6) hx hb hts inlX0 tyX0 tyX0_ok hown w_1_173 w_1_124 w_1_8 hK hP hD hS hA rfl (fun j hj => by rcases (show j = 0 ∨ j = 1 ∨ j = 2 ∨ j = 3 ∨ j = 4 ∨ j = 5 by omega) with rfl | rfl | rfl | rfl | rfl | rfl <;> rfl) (Nat.le_of_ble_eq_true rfl) (Nat.le_of_ble_eq_true rfl) (Nat.le_of_ble_eq_true rfl) (Nat.le_of_ble_eq_true rfl) dX2_init_5 (fun q_1 H hP hD hS => ?_)
  have hP : va_P D vwCl [(h0, .inr (2, [.null, .null, .null, .null, .null, .int 0, .int 0, .int 0, .int 0, .int 0])), (q_1, .inr (0, [.null, .null, .null, .null, .int 0, .int 0]))] H := hP
  have hD : va_D A [(h0, .inr (2, [.null, .null, .null, .null, .null, .int 0, .int 0, .int 0, .int 0, .int 0])), (q_1, .inr (0, [.null, .null, .null, .null, .int 0, .int 0]))] := hD
  refine lv_dup hx hb dX2_init_8 rfl ?_
  refine sk_INv (n := 0) (rest := [.ref q_1, .ref h0]) (wr := [(h0, .inr (2, [.null, .null, .null, .null, .null, .int 0, .int 0, .int 0, .int 0, .int 0]))]) ⟨hx, hb, hml, hown, hts⟩ hl.1 (c_Code_init l D cI cJ cC cZ cS q_1) hK.2.2.2.2.2.1 w_1_126 w_1_8 w_1_127 rfl (by decide +kernel) ⟨⟨(Nat.le_of_ble_eq_true rfl), (Nat.le_of_ble_eq_true rfl)⟩, (Nat.le_of_ble_eq_true rfl), (Nat.le_of_ble_eq_true rfl)⟩ hK hP hD hS hA [1] [0] rfl rfl (by decide +kernel) (by decide +kernel) (by decide +kernel) rfl rfl (Nat.le_of_ble_eq_true rfl) dX2_init_9 (fun u H locs hw hP hD hS => ?_)
  obtain ⟨k1_2, k2_3, k3_4, k4_5, rfl⟩ := hw
  have hP : va_P D vwCl [(h0, .inr (2, [.null, .null, .null, .null, .null, .int 0, .int 0, .int 0, .int 0, .int 0])), (q_1, .inr (0, [.ref k1_2, .ref k2_3, .ref k3_4, .ref k4_5, .int 0, .int 0])), (k1_2, .inl (cI, 1600, .inl (fun _ => 0))), (k2_3, .inl (cJ, 64, .inr (.inl (fun _ => 0)))), (k3_4, .inl (cJ, 9, .inr (.inl (fun _ => 0)))), (k4_5, .inl (cJ, 10, .inr (.inl (fun _ => 0))))] H := hP
  have hD : va_D A [(h0, .inr (2, [.null, .null, .null, .null, .null, .int 0, .int 0, .int 0, .int 0, .int 0])), (q_1, .inr (0, [.ref k1_2, .ref k2_3, .ref k3_4, .ref k4_5, .int 0, .int 0])), (k1_2, .inl (cI, 1600, .inl (fun _ => 0))), (k2_3, .inl (cJ, 64, .inr (.inl (fun _ => 0)))), (k3_4, .inl (cJ, 9, .inr (.inl (fun _ => 0)))), (k4_5, .inl (cJ, 10, .inr (.inl (fun _ => 0))))] := hD
  refine W.widen (k := 5) (n := 1689) (Nat.le_of_ble_eq_true rfl) (Nat.le_of_ble_eq_true rfl) ?_
  refine sk_putF (ws' := [(h0, .inr (2, [.ref q_1, .null, .null, .null, .null, .int 0, .int 0, .int 0, .int 0, .int 0])), (q_1, .inr (0, [.ref k1_2, .ref k2_3, .ref k3_4, .ref k4_5, .int 0, .int 0])), (k1_2, .inl (cI, 1600, .inl (fun _ => 0))), (k2_3, .inl (cJ, 64, .inr (.inl (fun _ => 0)))), (k3_4, .inl (cJ, 9, .inr (.inl (fun _ => 0)))), (k4_5, .inl (cJ, 10, .inr (.inl (fun _ => 0))))]) (C := RX2) (T := TX2) (N := 10) (v := .ref q_1) hx hb hts inlX2 tyX2 tyX2_ok nmX2 hown hK hP hD hS 0 rfl rfl 0 (by decide) w_1_175 rfl hin rfl rfl rfl (Nat.le_of_ble_eq_true rfl) rfl dX2_init_12 (fun H locs hP hD hS => ?_)
  refine lv_aload_n hx hb dX2_init_15 rfl (lv_at hl 0 rfl) ?_
  refine lv_bipush (v := 9) hx hb dX2_init_16 (by decide) ?_
  refine sk_newa (atype := .int) (ty := .int) (a0 := (9, .inl (fun _ => 0))) (cA := cI) (k1 := 6) (n1 := 1698) hx hb hts w_1_49 rfl (fun _ _ h => h) 0 rfl hK hP hD hS hA (fun _ => vp_cell_i _ _ _) (by decide) (by decide) (Nat.le_of_ble_eq_true rfl) (Nat.le_of_ble_eq_true rfl) (Nat.le_of_ble_eq_true rfl) (Nat.le_of_ble_eq_true rfl) (Nat.le_of_ble_eq_true rfl) dX2_init_18 (fun q_6 H hP hD hS => ?_)
  have hP : va_P D vwCl [(h0, .inr (2, [.ref q_1, .null, .null, .null, .null, .int 0, .int 0, .int 0, .int 0, .int 0])), (q_1, .inr (0, [.ref k1_2, .ref k2_3, .ref k3_4, .ref k4_5, .int 0, .int 0])), (k1_2, .inl (cI, 1600, .inl (fun _ => 0))), (k2_3, .inl (cJ, 64, .inr (.inl (fun _ => 0)))), (k3_4, .inl (cJ, 9, .inr (.inl (fun _ => 0)))), (k4_5, .inl (cJ, 10, .inr (.inl (fun _ => 0)))), (q_6, .inl (cI, 9, .inl (fun _ => 0)))] H := hP
  have hD : va_D A [(h0, .inr (2, [.ref q_1, .null, .null, .null, .null, .int 0, .int 0, .int 0, .int 0, .int 0])), (q_1, .inr (0, [.ref k1_2, .ref k2_3, .ref k3_4, .ref k4_5, .int 0, .int 0])), (k1_2, .inl (cI, 1600, .inl (fun _ => 0))), (k2_3, .inl (cJ, 64, .inr (.inl (fun _ => 0)))), (k3_4, .inl (cJ, 9, .inr (.inl (fun _ => 0)))), (k4_5, .inl (cJ, 10, .inr (.inl (fun _ => 0)))), (q_6, .inl (cI, 9, .inl (fun _ => 0)))] := hD
  refine sk_putF (ws' := [(h0, .inr (2, [.ref q_1, .ref q_6, .null, .null, .null, .int 0, .int 0, .int 0, .int 0, .int 0])), (q_1, .inr (0, [.ref k1_2, .ref k2_3, .ref k3_4, .ref k4_5, .int 0, .int 0])), (k1_2, .inl (cI, 1600, .inl (fun _ => 0))), (k2_3, .inl (cJ, 64, .inr (.inl (fun _ => 0)))), (k3_4, .inl (cJ, 9, .inr (.inl (fun _ => 0)))), (k4_5, .inl (cJ, 10, .inr (.inl (fun _ => 0)))), (q_6, .inl (cI, 9, .inl (fun _ => 0)))]) (C := RX2) (T := TX2) (N := 10) (v := .ref q_6) hx hb hts inlX2 tyX2 tyX2_ok nmX2 hown hK hP hD hS 0 rfl rfl 1 (by decide) w_1_178 rfl hin rfl rfl rfl (Nat.le_of_ble_eq_true rfl) rfl dX2_init_20 (fun H locs hP hD hS => ?_)
  refine lv_aload_n hx hb dX2_init_23 rfl (lv_at hl 0 rfl) ?_
  refine lv_bipush (v := 9) hx hb dX2_init_24 (by decide) ?_
  refine sk_newa (atype := .int) (ty := .int) (a0 := (9, .inl (fun _ => 0))) (cA := cI) (k1 := 7) (n1 := 1707) hx hb hts w_1_49 rfl (fun _ _ h => h) 0 rfl hK hP hD hS hA (fun _ => vp_cell_i _ _ _) (by decide) (by decide) (Nat.le_of_ble_eq_true rfl) (Nat.le_of_ble_eq_true rfl) (Nat.le_of_ble_eq_true rfl) (Nat.le_of_ble_eq_true rfl) (Nat.le_of_ble_eq_true rfl) dX2_init_26 (fun q_7 H hP hD hS => ?_)
  have hP : va_P D vwCl [(h0, .inr (2, [.ref q_1, .ref q_6, .null, .null, .null, .int 0, .int 0, .int 0, .int 0, .int 0])), (q_1, .inr (0, [.ref k1_2, .ref k2_3, .ref k3_4, .ref k4_5, .int 0, .int 0])), (k1_2, .inl (cI, 1600, .inl (fun _ => 0))), (k2_3, .inl (cJ, 64, .inr (.inl (fun _ => 0)))), (k3_4, .inl (cJ, 9, .inr (.inl (fun _ => 0)))), (k4_5, .inl (cJ, 10, .inr (.inl (fun _ => 0)))), (q_6, .inl (cI, 9, .inl (fun _ => 0))), (q_7, .inl (cI, 9, .inl (fun _ => 0)))] H := hP
  have hD : va_D A [(h0, .inr (2, [.ref q_1, .ref q_6, .null, .null, .null, .int 0, .int 0, .int 0, .int 0, .int 0])), (q_1, .inr (0, [.ref k1_2, .ref k2_3, .ref k3_4, .ref k4_5, .int 0, .int 0])), (k1_2, .inl (cI, 1600, .inl (fun _ => 0))), (k2_3, .inl (cJ, 64, .inr (.inl (fun _ => 0)))), (k3_4, .inl (cJ, 9, .inr (.inl (fun _ => 0)))), (k4_5, .inl (cJ, 10, .inr (.inl (fun _ => 0)))), (q_6, .inl (cI, 9, .inl (fun _ => 0))), (q_7, .inl (cI, 9, .inl (fun _ => 0)))] := hD
  refine sk_putF (ws' := [(h0, .inr (2, [.ref q_1, .ref q_6, .ref q_7, .null, .null, .int 0, .int 0, .int 0, .int 0, .int 0])), (q_1, .inr (0, [.ref k1_2, .ref k2_3, .ref k3_4, .ref k4_5, .int 0, .int 0])), (k1_2, .inl (cI, 1600, .inl (fun _ => 0))), (k2_3, .inl (cJ, 64, .inr (.inl (fun _ => 0)))), (k3_4, .inl (cJ, 9, .inr (.inl (fun _ => 0)))), (k4_5, .inl (cJ, 10, .inr (.inl (fun _ => 0)))), (q_6, .inl (cI, 9, .inl (fun _ => 0))), (q_7, .inl (cI, 9, .inl (fun _ => 0)))]) (C := RX2) (T := TX2) (N := 10) (v := .ref q_7) hx hb hts inlX2 tyX2 tyX2_ok nmX2 hown hK hP hD hS 0 rfl rfl 2 (by decide) w_1_181 rfl hin rfl rfl rfl (Nat.le_of_ble_eq_true rfl) rfl dX2_init_28 (fun H locs hP hD hS => ?_)
  refine lv_aload_n hx hb dX2_init_31 rfl (lv_at hl 0 rfl) ?_
  refine lv_iconst (v := 3) hx hb dX2_init_32 (by decide) ?_
  refine sk_newa (atype := .int) (ty := .int) (a0 := (3, .inl (fun _ => 0))) (cA := cI) (k1 := 8) (n1 := 1710) hx hb hts w_1_49 rfl (fun _ _ h => h) 0 rfl hK hP hD hS hA (fun _ => vp_cell_i _ _ _) (by decide) (by decide) (Nat.le_of_ble_eq_true rfl) (Nat.le_of_ble_eq_true rfl) (Nat.le_of_ble_eq_true rfl) (Nat.le_of_ble_eq_true rfl) (Nat.le_of_ble_eq_true rfl) dX2_init_33 (fun q_8 H hP hD hS => ?_)
  have hP : va_P D vwCl [(h0, .inr (2, [.ref q_1, .ref q_6, .ref q_7, .null, .null, .int 0, .int 0, .int 0, .int 0, .int 0])), (q_1, .inr (0, [.ref k1_2, .ref k2_3, .ref k3_4, .ref k4_5, .int 0, .int 0])), (k1_2, .inl (cI, 1600, .inl (fun _ => 0))), (k2_3, .inl (cJ, 64, .inr (.inl (fun _ => 0)))), (k3_4, .inl (cJ, 9, .inr (.inl (fun _ => 0)))), (k4_5, .inl (cJ, 10, .inr (.inl (fun _ => 0)))), (q_6, .inl (cI, 9, .inl (fun _ => 0))), (q_7, .inl (cI, 9, .inl (fun _ => 0))), (q_8, .inl (cI, 3, .inl (fun _ => 0)))] H := hP
  have hD : va_D A [(h0, .inr (2, [.ref q_1, .ref q_6, .ref q_7, .null, .null, .int 0, .int 0, .int 0, .int 0, .int 0])), (q_1, .inr (0, [.ref k1_2, .ref k2_3, .ref k3_4, .ref k4_5, .int 0, .int 0])), (k1_2, .inl (cI, 1600, .inl (fun _ => 0))), (k2_3, .inl (cJ, 64, .inr (.inl (fun _ => 0)))), (k3_4, .inl (cJ, 9, .inr (.inl (fun _ => 0)))), (k4_5, .inl (cJ, 10, .inr (.inl (fun _ => 0)))), (q_6, .inl (cI, 9, .inl (fun _ => 0))), (q_7, .inl (cI, 9, .inl (fun _ => 0))), (q_8, .inl (cI, 3, .inl (fun _ => 0)))] := hD
  refine sk_putF (ws' := [(h0, .inr (2, [.ref q_1, .ref q_6, .ref q_7, .ref q_8, .null, .int 0, .int 0, .int 0, .int 0, .int 0])), (q_1, .inr (0, [.ref k1_2, .ref k2_3, .ref k3_4, .ref k4_5, .int 0, .int 0])), (k1_2, .inl (cI, 1600, .inl (fun _ => 0))), (k2_3, .inl (cJ, 64, .inr (.inl (fun _ => 0)))), (k3_4, .inl (cJ, 9, .inr (.inl (fun _ => 0)))), (k4_5, .inl (cJ, 10, .inr (.inl (fun _ => 0)))), (q_6, .inl (cI, 9, .inl (fun _ => 0))), (q_7, .inl (cI, 9, .inl (fun _ => 0))), (q_8, .inl (cI, 3, .inl (fun _ => 0)))]) (C := RX2) (T := TX2) (N := 10) (v := .ref q_8) hx hb hts inlX2 tyX2 tyX2_ok nmX2 hown hK hP hD hS 0 rfl rfl 3 (by decide) w_1_184 rfl hin rfl rfl rfl (Nat.le_of_ble_eq_true rfl) rfl dX2_init_35 (fun H locs hP hD hS => ?_)
  refine lv_aload_n hx hb dX2_init_38 rfl (lv_at hl 0 rfl) ?_
  refine lv_iconst (v := 3) hx hb dX2_init_39 (by decide) ?_
  refine sk_newa (atype := .int) (ty := .int) (a0 := (3, .inl (fun _ => 0))) (cA := cI) (k1 := 9) (n1 := 1713) hx hb hts w_1_49 rfl (fun _ _ h => h) 0 rfl hK hP hD hS hA (fun _ => vp_cell_i _ _ _) (by decide) (by decide) (Nat.le_of_ble_eq_true rfl) (Nat.le_of_ble_eq_true rfl) (Nat.le_of_ble_eq_true rfl) (Nat.le_of_ble_eq_true rfl) (Nat.le_of_ble_eq_true rfl) dX2_init_40 (fun q_9 H hP hD hS => ?_)
  have hP : va_P D vwCl [(h0, .inr (2, [.ref q_1, .ref q_6, .ref q_7, .ref q_8, .null, .int 0, .int 0, .int 0, .int 0, .int 0])), (q_1, .inr (0, [.ref k1_2, .ref k2_3, .ref k3_4, .ref k4_5, .int 0, .int 0])), (k1_2, .inl (cI, 1600, .inl (fun _ => 0))), (k2_3, .inl (cJ, 64, .inr (.inl (fun _ => 0)))), (k3_4, .inl (cJ, 9, .inr (.inl (fun _ => 0)))), (k4_5, .inl (cJ, 10, .inr (.inl (fun _ => 0)))), (q_6, .inl (cI, 9, .inl (fun _ => 0))), (q_7, .inl (cI, 9, .inl (fun _ => 0))), (q_8, .inl (cI, 3, .inl (fun _ => 0))), (q_9, .inl (cI, 3, .inl (fun _ => 0)))] H := hP
  have hD : va_D A [(h0, .inr (2, [.ref q_1, .ref q_6, .ref q_7, .ref q_8, .null, .int 0, .int 0, .int 0, .int 0, .int 0])), (q_1, .inr (0, [.ref k1_2, .ref k2_3, .ref k3_4, .ref k4_5, .int 0, .int 0])), (k1_2, .inl (cI, 1600, .inl (fun _ => 0))), (k2_3, .inl (cJ, 64, .inr (.inl (fun _ => 0)))), (k3_4, .inl (cJ, 9, .inr (.inl (fun _ => 0)))), (k4_5, .inl (cJ, 10, .inr (.inl (fun _ => 0)))), (q_6, .inl (cI, 9, .inl (fun _ => 0))), (q_7, .inl (cI, 9, .inl (fun _ => 0))), (q_8, .inl (cI, 3, .inl (fun _ => 0))), (q_9, .inl (cI, 3, .inl (fun _ => 0)))] := hD
  refine sk_putF (ws' := [(h0, .inr (2, [.ref q_1, .ref q_6, .ref q_7, .ref q_8, .ref q_9, .int 0, .int 0, .int 0, .int 0, .int 0])), (q_1, .inr (0, [.ref k1_2, .ref k2_3, .ref k3_4, .ref k4_5, .int 0, .int 0])), (k1_2, .inl (cI, 1600, .inl (fun _ => 0))), (k2_3, .inl (cJ, 64, .inr (.inl (fun _ => 0)))), (k3_4, .inl (cJ, 9, .inr (.inl (fun _ => 0)))), (k4_5, .inl (cJ, 10, .inr (.inl (fun _ => 0)))), (q_6, .inl (cI, 9, .inl (fun _ => 0))), (q_7, .inl (cI, 9, .inl (fun _ => 0))), (q_8, .inl (cI, 3, .inl (fun _ => 0))), (q_9, .inl (cI, 3, .inl (fun _ => 0)))]) (C := RX2) (T := TX2) (N := 10) (v := .ref q_9) hx hb hts inlX2 tyX2 tyX2_ok nmX2 hown hK hP hD hS 0 rfl rfl 4 (by decide) w_1_186 rfl hin rfl rfl rfl (Nat.le_of_ble_eq_true rfl) rfl dX2_init_42 (fun H locs hP hD hS => ?_)
  refine lv_aload_n hx hb dX2_init_45 rfl (lv_at hl 0 rfl) ?_
  refine lv_iconst (v := 0) hx hb dX2_init_46 (by decide) ?_
  refine sk_put (ws' := [(h0, .inr (2, [.ref q_1, .ref q_6, .ref q_7, .ref q_8, .ref q_9, .int 0, .int 0, .int 0, .int 0, .int 0])), (q_1, .inr (0, [.ref k1_2, .ref k2_3, .ref k3_4, .ref k4_5, .int 0, .int 0])), (k1_2, .inl (cI, 1600, .inl (fun _ => 0))), (k2_3, .inl (cJ, 64, .inr (.inl (fun _ => 0)))), (k3_4, .inl (cJ, 9, .inr (.inl (fun _ => 0)))), (k4_5, .inl (cJ, 10, .inr (.inl (fun _ => 0)))), (q_6, .inl (cI, 9, .inl (fun _ => 0))), (q_7, .inl (cI, 9, .inl (fun _ => 0))), (q_8, .inl (cI, 3, .inl (fun _ => 0))), (q_9, .inl (cI, 3, .inl (fun _ => 0)))]) (C := RX2) (T := TX2) (N := 10) (v := .int 0) hx hb hts inlX2 tyX2 tyX2_ok nmX2 hown hK hP hD hS 0 rfl rfl 5 (by decide) w_1_188 rfl rfl rfl (Nat.le_of_ble_eq_true rfl) rfl dX2_init_47 (fun H locs hP hD hS => ?_)
  refine lv_aload_n hx hb dX2_init_50 rfl (lv_at hl 0 rfl) ?_
  refine lv_iconst (v := 0) hx hb dX2_init_51 (by decide) ?_
  refine sk_put (ws' := [(h0, .inr (2, [.ref q_1, .ref q_6, .ref q_7, .ref q_8, .ref q_9, .int 0, .int 0, .int 0, .int 0, .int 0])), (q_1, .inr (0, [.ref k1_2, .ref k2_3, .ref k3_4, .ref k4_5, .int 0, .int 0])), (k1_2, .inl (cI, 1600, .inl (fun _ => 0))), (k2_3, .inl (cJ, 64, .inr (.inl (fun _ => 0)))), (k3_4, .inl (cJ, 9, .inr (.inl (fun _ => 0)))), (k4_5, .inl (cJ, 10, .inr (.inl (fun _ => 0)))), (q_6, .inl (cI, 9, .inl (fun _ => 0))), (q_7, .inl (cI, 9, .inl (fun _ => 0))), (q_8, .inl (cI, 3, .inl (fun _ => 0))), (q_9, .inl (cI, 3, .inl (fun _ => 0)))]) (C := RX2) (T := TX2) (N := 10) (v := .int 0) hx hb hts inlX2 tyX2 tyX2_ok nmX2 hown hK hP hD hS 0 rfl rfl 6 (by decide) w_1_191 rfl rfl rfl (Nat.le_of_ble_eq_true rfl) rfl dX2_init_52 (fun H locs hP hD hS => ?_)
  refine lv_aload_n hx hb dX2_init_55 rfl (lv_at hl 0 rfl) ?_
  refine lv_iconst (v := 0) hx hb dX2_init_56 (by decide) ?_
  refine sk_put (ws' := [(h0, .inr (2, [.ref q_1, .ref q_6, .ref q_7, .ref q_8, .ref q_9, .int 0, .int 0, .int 0, .int 0, .int 0])), (q_1, .inr (0, [.ref k1_2, .ref k2_3, .ref k3_4, .ref k4_5, .int 0, .int 0])), (k1_2, .inl (cI, 1600, .inl (fun _ => 0))), (k2_3, .inl (cJ, 64, .inr (.inl (fun _ => 0)))), (k3_4, .inl (cJ, 9, .inr (.inl (fun _ => 0)))), (k4_5, .inl (cJ, 10, .inr (.inl (fun _ => 0)))), (q_6, .inl (cI, 9, .inl (fun _ => 0))), (q_7, .inl (cI, 9, .inl (fun _ => 0))), (q_8, .inl (cI, 3, .inl (fun _ => 0))), (q_9, .inl (cI, 3, .inl (fun _ => 0)))]) (C := RX2) (T := TX2) (N := 10) (v := .int 0) hx hb hts inlX2 tyX2 tyX2_ok nmX2 hown hK hP hD hS 0 rfl rfl 7 (by decide) w_1_194 rfl rfl rfl (Nat.le_of_ble_eq_true rfl) rfl dX2_init_57 (fun H locs hP hD hS => ?_)
  refine lv_aload_n hx hb dX2_init_60 rfl (lv_at hl 0 rfl) ?_
  refine lv_iconst (v := 0) hx hb dX2_init_61 (by decide) ?_
  refine sk_put (ws' := [(h0, .inr (2, [.ref q_1, .ref q_6, .ref q_7, .ref q_8, .ref q_9, .int 0, .int 0, .int 0, .int 0, .int 0])), (q_1, .inr (0, [.ref k1_2, .ref k2_3, .ref k3_4, .ref k4_5, .int 0, .int 0])), (k1_2, .inl (cI, 1600, .inl (fun _ => 0))), (k2_3, .inl (cJ, 64, .inr (.inl (fun _ => 0)))), (k3_4, .inl (cJ, 9, .inr (.inl (fun _ => 0)))), (k4_5, .inl (cJ, 10, .inr (.inl (fun _ => 0)))), (q_6, .inl (cI, 9, .inl (fun _ => 0))), (q_7, .inl (cI, 9, .inl (fun _ => 0))), (q_8, .inl (cI, 3, .inl (fun _ => 0))), (q_9, .inl (cI, 3, .inl (fun _ => 0)))]) (C := RX2) (T := TX2) (N := 10) (v := .int 0) hx hb hts inlX2 tyX2 tyX2_ok nmX2 hown hK hP hD hS 0 rfl rfl 8 (by decide) w_1_197 rfl rfl rfl (Nat.le_of_ble_eq_true rfl) rfl dX2_init_62 (fun H locs hP hD hS => ?_)
  refine lv_aload_n hx hb dX2_init_65 rfl (lv_at hl 0 rfl) ?_
  refine lv_iconst (v := 0) hx hb dX2_init_66 (by decide) ?_
  refine sk_put (ws' := [(h0, .inr (2, [.ref q_1, .ref q_6, .ref q_7, .ref q_8, .ref q_9, .int 0, .int 0, .int 0, .int 0, .int 0])), (q_1, .inr (0, [.ref k1_2, .ref k2_3, .ref k3_4, .ref k4_5, .int 0, .int 0])), (k1_2, .inl (cI, 1600, .inl (fun _ => 0))), (k2_3, .inl (cJ, 64, .inr (.inl (fun _ => 0)))), (k3_4, .inl (cJ, 9, .inr (.inl (fun _ => 0)))), (k4_5, .inl (cJ, 10, .inr (.inl (fun _ => 0)))), (q_6, .inl (cI, 9, .inl (fun _ => 0))), (q_7, .inl (cI, 9, .inl (fun _ => 0))), (q_8, .inl (cI, 3, .inl (fun _ => 0))), (q_9, .inl (cI, 3, .inl (fun _ => 0)))]) (C := RX2) (T := TX2) (N := 10) (v := .int 0) hx hb hts inlX2 tyX2 tyX2_ok nmX2 hown hK hP hD hS 0 rfl rfl 9 (by decide) w_1_200 rfl rfl rfl (Nat.le_of_ble_eq_true rfl) rfl dX2_init_67 (fun H locs hP hD hS => ?_)
  have hP := hP.sub (ws' := [(h0, .inr (2, [.ref q_1, .ref q_6, .ref q_7, .ref q_8, .ref q_9, .int 0, .int 0, .int 0, .int 0, .int 0])), (q_1, .inr (0, [.ref k1_2, .ref k2_3, .ref k3_4, .ref k4_5, .int 0, .int 0])), (k1_2, .inl (cI, 1600, .inl (fun _ => 0))), (k2_3, .inl (cJ, 64, .inr (.inl (fun _ => 0)))), (k3_4, .inl (cJ, 9, .inr (.inl (fun _ => 0)))), (k4_5, .inl (cJ, 10, .inr (.inl (fun _ => 0)))), (q_8, .inl (cI, 3, .inl (fun _ => 0))), (q_9, .inl (cI, 3, .inl (fun _ => 0))), (q_6, .inl (cI, 9, .inl (fun _ => 0))), (q_7, .inl (cI, 9, .inl (fun _ => 0)))]) [0, 1, 2, 3, 4, 5, 8, 9, 6, 7] rfl
  have hD := hD.sub (ws' := [(h0, .inr (2, [.ref q_1, .ref q_6, .ref q_7, .ref q_8, .ref q_9, .int 0, .int 0, .int 0, .int 0, .int 0])), (q_1, .inr (0, [.ref k1_2, .ref k2_3, .ref k3_4, .ref k4_5, .int 0, .int 0])), (k1_2, .inl (cI, 1600, .inl (fun _ => 0))), (k2_3, .inl (cJ, 64, .inr (.inl (fun _ => 0)))), (k3_4, .inl (cJ, 9, .inr (.inl (fun _ => 0)))), (k4_5, .inl (cJ, 10, .inr (.inl (fun _ => 0)))), (q_8, .inl (cI, 3, .inl (fun _ => 0))), (q_9, .inl (cI, 3, .inl (fun _ => 0))), (q_6, .inl (cI, 9, .inl (fun _ => 0))), (q_7, .inl (cI, 9, .inl (fun _ => 0)))]) [0, 1, 2, 3, 4, 5, 8, 9, 6, 7] (by decide +kernel) rfl
  exact sk_vret hx hb hr hlocks hK hP hD hS (⟨q_1, q_6, q_7, q_8, q_9, k1_2, k2_3, k3_4, k4_5, rfl⟩) (Nat.le_of_ble_eq_true rfl) (Nat.le_of_ble_eq_true rfl) dX2_init_70
theorem dX9_init_0 : decode cX9_init 0 = .ok (.aload_n 0, 1) := by decide +kernel
theorem dX9_init_1 : decode cX9_init 1 = .ok (.invokespecial 3, 3) := by decide +kernel
theorem dX9_init_4 : decode cX9_init 4 = .ok (.aload_n 0, 1) := by decide +kernel
theorem dX9_init_5 : decode cX9_init 5 = .ok (.bipush 90, 2) := by decide +kernel
theorem dX9_init_7 : decode cX9_init 7 = .ok (.newarray .int, 2) := by decide +kernel
theorem dX9_init_9 : decode cX9_init 9 = .ok (.putfield 9, 3) := by decide +kernel
theorem dX9_init_12 : decode cX9_init 12 = .ok (.aload_n 0, 1) := by decide +kernel
theorem dX9_init_13 : decode cX9_init 13 = .ok (.sipush 900, 3) := by decide +kernel
theorem dX9_init_16 : decode cX9_init 16 = .ok (.newarray .int, 2) := by decide +kernel
theorem dX9_init_18 : decode cX9_init 18 = .ok (.putfield 15, 3) := by decide +kernel
theorem dX9_init_21 : decode cX9_init 21 = .ok (.aload_n 0, 1) := by decide +kernel
theorem dX9_init_22 : decode cX9_init 22 = .ok (.bipush 90, 2) := by decide +kernel
theorem dX9_init_24 : decode cX9_init 24 = .ok (.newarray .int, 2) := by decide +kernel
theorem dX9_init_26 : decode cX9_init 26 = .ok (.putfield 18, 3) := by decide +kernel
theorem dX9_init_29 : decode cX9_init 29 = .ok (.aload_n 0, 1) := by decide +kernel
theorem dX9_init_30 : decode cX9_init 30 = .ok (.bipush 90, 2) := by decide +kernel
theorem dX9_init_32 : decode cX9_init 32 = .ok (.newarray .int, 2) := by decide +kernel
theorem dX9_init_34 : decode cX9_init 34 = .ok (.putfield 21, 3) := by decide +kernel
theorem dX9_init_37 : decode cX9_init 37 = .ok (.aload_n 0, 1) := by decide +kernel
theorem dX9_init_38 : decode cX9_init 38 = .ok (.bipush 90, 2) := by decide +kernel
theorem dX9_init_40 : decode cX9_init 40 = .ok (.newarray .long, 2) := by decide +kernel
theorem dX9_init_42 : decode cX9_init 42 = .ok (.putfield 24, 3) := by decide +kernel
theorem dX9_init_45 : decode cX9_init 45 = .ok (.aload_n 0, 1) := by decide +kernel
theorem dX9_init_46 : decode cX9_init 46 = .ok (.bipush 9, 2) := by decide +kernel
theorem dX9_init_48 : decode cX9_init 48 = .ok (.newarray .int, 2) := by decide +kernel
theorem dX9_init_50 : decode cX9_init 50 = .ok (.putfield 28, 3) := by decide +kernel
theorem dX9_init_53 : decode cX9_init 53 = .ok (.return_, 1) := by decide +kernel
theorem w_2_62 : (Cond.methodLink RX9 3 objectInit) ∈ wsL_law := sk_mem (ck_2 _ (List.mem_of_getElem? (i := 62) rfl)) rfl
theorem w_2_61 : (Cond.code yX9_init cX9_init 1 none) ∈ wsL_law := sk_mem (ck_2 _ (List.mem_of_getElem? (i := 61) rfl)) rfl
set_option maxHeartbeats 4000000 in
set_option maxRecDepth 100000 in
theorem c_Table_init (l : Launch) (D : va_G) (cI cJ cC cZ cS : ClassId) (h0 : Nat)  : skM l yX9_init cX9_init 1 none 1 20 6 1269 D (skT cI cJ cC cZ cS) [.ref h0] [(h0, .inr (9, [.null, .null, .null, .null, .null, .null]))] (skV D (skT cI cJ cC cZ cS) (fun (u : va_W) => ∃ (k1 : Nat), ∃ (k2 : Nat), ∃ (k3 : Nat), ∃ (k4 : Nat), ∃ (k5 : Nat), ∃ (k6 : Nat), u = [(h0, .inr (9, [.ref k1, .ref k2, .ref k3, .ref k4, .ref k5, .ref k6])), (k1, .inl (cI, 90, .inl (fun _ => 0))), (k2, .inl (cI, 900, .inl (fun _ => 0))), (k3, .inl (cI, 90, .inl (fun _ => 0))), (k4, .inl (cI, 90, .inl (fun _ => 0))), (k5, .inl (cJ, 90, .inr (.inl (fun _ => 0)))), (k6, .inl (cI, 9, .inl (fun _ => 0)))])) := by
  refine skM_of (by decide +kernel) (Nat.le_of_ble_eq_true rfl) ?_
  intro p e s m below meth c A ls E hP hD hl
  obtain ⟨hx, hb, hr, hml, hlocks, hin, hown, hts, hK, hA⟩ := E
  have hown : s.vm.findClass RX9 = some m.cls := hown
  have hin : meth.name = "<init>" := hin
  have hS : va_S A s.heap s.heap [] := va_S.rf
  have hl : lv_has ls 1 [(0, .ref h0)] := hl
  refine lv_aload_n hx hb dX9_init_0 rfl (lv_at hl 0 rfl) ?_
  refine W.objInit hx hb hown (hts _ w_2_62) (hts _ w_1_28) (hts _ w_1_29) rfl (by rw [hml]; exact hl.1) rfl dX9_init_1 (Nat.le_of_ble_eq_true rfl) (Nat.le_of_ble_eq_true rfl) ?_
  refine W.eq (g2 := F0 m 4 ls []) rfl ?_
  refine lv_aload_n hx hb dX9_init_4 rfl (lv_at hl 0 rfl) ?_
  refine lv_bipush (v := 90) hx hb dX9_init_5 (by decide) ?_
  refine sk_newa (atype := .int) (ty := .int) (a0 := (90, .inl (fun _ => 0))) (cA := cI) (k1 := 1) (n1 := 90) hx hb hts w_1_49 rfl (fun _ _ h => h) 0 rfl hK hP hD hS hA (fun _ => vp_cell_i _ _ _) (by decide) (by decide) (Nat.le_of_ble_eq_true rfl) (Nat.le_of_ble_eq_true rfl) (Nat.le_of_ble_eq_true rfl) (Nat.le_of_ble_eq_true rfl) (Nat.le_of_ble_eq_true rfl) dX9_init_7 (fun q_1 H hP hD hS => ?_)
  have hP : va_P D vwCl [(h0, .inr (9, [.null, .null, .null, .null, .null, .null])), (q_1, .inl (cI, 90, .inl (fun _ => 0)))] H := hP
  have hD : va_D A [(h0, .inr (9, [.null, .null, .null, .null, .null, .null])), (q_1, .inl (cI, 90, .inl (fun _ => 0)))] := hD
  refine sk_putF (ws' := [(h0, .inr (9, [.ref q_1, .null, .null, .null, .null, .null])), (q_1, .inl (cI, 90, .inl (fun _ => 0)))]) (C := RX9) (T := TX9) (N := 6) (v := .ref q_1) hx hb hts inlX9 tyX9 tyX9_ok nmX9 hown hK hP hD hS 0 rfl rfl 0 (by decide) w_2_63 rfl hin rfl rfl rfl (Nat.le_of_ble_eq_true rfl) rfl dX9_init_9 (fun H locs hP hD hS => ?_)
  refine lv_aload_n hx hb dX9_init_12 rfl (lv_at hl 0 rfl) ?_
  refine lv_sipush (v := 900) hx hb dX9_init_13 (by decide) ?_
  refine sk_newa (atype := .int) (ty := .int) (a0 := (900, .inl (fun _ => 0))) (cA := cI) (k1 := 2) (n1 := 990) hx hb hts w_1_49 rfl (fun _ _ h => h) 0 rfl hK hP hD hS hA (fun _ => vp_cell_i _ _ _) (by decide) (by decide) (Nat.le_of_ble_eq_true rfl) (Nat.le_of_ble_eq_true rfl) (Nat.le_of_ble_eq_true rfl) (Nat.le_of_ble_eq_true rfl) (Nat.le_of_ble_eq_true rfl) dX9_init_16 (fun q_2 H hP hD hS => ?_)
  have hP : va_P D vwCl [(h0, .inr (9, [.ref q_1, .null, .null, .null, .null, .null])), (q_1, .inl (cI, 90, .inl (fun _ => 0))), (q_2, .inl (cI, 900, .inl (fun _ => 0)))] H := hP
  have hD : va_D A [(h0, .inr (9, [.ref q_1, .null, .null, .null, .null, .null])), (q_1, .inl (cI, 90, .inl (fun _ => 0))), (q_2, .inl (cI, 900, .inl (fun _ => 0)))] := hD
  refine sk_putF (ws' := [(h0, .inr (9, [.ref q_1, .ref q_2, .null, .null, .null, .null])), (q_1, .inl (cI, 90, .inl (fun _ => 0))), (q_2, .inl (cI, 900, .inl (fun _ => 0)))]) (C := RX9) (T := TX9) (N := 6) (v := .ref q_2) hx hb hts inlX9 tyX9 tyX9_ok nmX9 hown hK hP hD hS 0 rfl rfl 1 (by decide) w_2_65 rfl hin rfl rfl rfl (Nat.le_of_ble_eq_true rfl) rfl dX9_init_18 (fun H locs hP hD hS => ?_)
  refine lv_aload_n hx hb dX9_init_21 rfl (lv_at hl 0 rfl) ?_
  refine lv_bipush (v := 90) hx hb dX9_init_22 (by decide) ?_
  refine sk_newa (atype := .int) (ty := .int) (a0 := (90, .inl (fun _ => 0))) (cA := cI) (k1 := 3) (n1 := 1080) hx hb hts w_1_49 rfl (fun _ _ h => h) 0 rfl hK hP hD hS hA (fun _ => vp_cell_i _ _ _) (by decide) (by decide) (Nat.le_of_ble_eq_true rfl) (Nat.le_of_ble_eq_true rfl) (Nat.le_of_ble_eq_true rfl) (Nat.le_of_ble_eq_true rfl) (Nat.le_of_ble_eq_true rfl) dX9_init_24 (fun q_3 H hP hD hS => ?_)
  have hP : va_P D vwCl [(h0, .inr (9, [.ref q_1, .ref q_2, .null, .null, .null, .null])), (q_1, .inl (cI, 90, .inl (fun _ => 0))), (q_2, .inl (cI, 900, .inl (fun _ => 0))), (q_3, .inl (cI, 90, .inl (fun _ => 0)))] H := hP
  have hD : va_D A [(h0, .inr (9, [.ref q_1, .ref q_2, .null, .null, .null, .null])), (q_1, .inl (cI, 90, .inl (fun _ => 0))), (q_2, .inl (cI, 900, .inl (fun _ => 0))), (q_3, .inl (cI, 90, .inl (fun _ => 0)))] := hD
  refine sk_putF (ws' := [(h0, .inr (9, [.ref q_1, .ref q_2, .ref q_3, .null, .null, .null])), (q_1, .inl (cI, 90, .inl (fun _ => 0))), (q_2, .inl (cI, 900, .inl (fun _ => 0))), (q_3, .inl (cI, 90, .inl (fun _ => 0)))]) (C := RX9) (T := TX9) (N := 6) (v := .ref q_3) hx hb hts inlX9 tyX9 tyX9_ok nmX9 hown hK hP hD hS 0 rfl rfl 2 (by decide) w_2_67 rfl hin rfl rfl rfl (Nat.le_of_ble_eq_true rfl) rfl dX9_init_26 (fun H locs hP hD hS => ?_)
  refine lv_aload_n hx hb dX9_init_29 rfl (lv_at hl 0 rfl) ?_
  refine lv_bipush (v := 90) hx hb dX9_init_30 (by decide) ?_
  refine sk_newa (atype := .int) (ty := .int) (a0 := (90, .inl (fun _ => 0))) (cA := cI) (k1 := 4) (n1 := 1170) hx hb hts w_1_49 rfl (fun _ _ h => h) 0 rfl hK hP hD hS hA (fun _ => vp_cell_i _ _ _) (by decide) (by decide) (Nat.le_of_ble_eq_true rfl) (Nat.le_of_ble_eq_true rfl) (Nat.le_of_ble_eq_true rfl) (Nat.le_of_ble_eq_true rfl) (Nat.le_of_ble_eq_true rfl) dX9_init_32 (fun q_4 H hP hD hS => ?_)
  have hP : va_P D vwCl [(h0, .inr (9, [.ref q_1, .ref q_2, .ref q_3, .null, .null, .null])), (q_1, .inl (cI, 90, .inl (fun _ => 0))), (q_2, .inl (cI, 900, .inl (fun _ => 0))), (q_3, .inl (cI, 90, .inl (fun _ => 0))), (q_4, .inl (cI, 90, .inl (fun _ => 0)))] H := hP
  have hD : va_D A [(h0, .inr (9, [.ref q_1, .ref q_2, .ref q_3, .null, .null, .null])), (q_1, .inl (cI, 90, .inl (fun _ => 0))), (q_2, .inl (cI, 900, .inl (fun _ => 0))), (q_3, .inl (cI, 90, .inl (fun _ => 0))), (q_4, .inl (cI, 90, .inl (fun _ => 0)))] := hD
  refine sk_putF (ws' := [(h0, .inr (9, [.ref q_1, .ref q_2, .ref q_3, .ref q_4, .null, .null])), (q_1, .inl (cI, 90, .inl (fun _ => 0))), (q_2, .inl (cI, 900, .inl (fun _ => 0))), (q_3, .inl (cI, 90, .inl (fun _ => 0))), (q_4, .inl (cI, 90, .inl (fun _ => 0)))]) (C := RX9) (T := TX9) (N := 6) (v := .ref q_4) hx hb hts inlX9 tyX9 tyX9_ok nmX9 hown hK hP hD hS 0 rfl rfl 3 (by decide) w_2_70 rfl hin rfl rfl rfl (Nat.le_of_ble_eq_true rfl) rfl dX9_init_34 (fun H locs hP hD hS => ?_)
  refine lv_aload_n hx hb dX9_init_37 rfl (lv_at hl 0 rfl) ?_
  refine lv_bipush (v := 90) hx hb dX9_init_38 (by decide) ?_
  refine sk_newa (atype := .long) (ty := .long) (a0 := (90, .inr (.inl (fun _ => 0)))) (cA := cJ) (k1 := 5) (n1 := 1260) hx hb hts w_1_151 rfl (fun _ _ h => h) 1 rfl hK hP hD hS hA (fun _ => vp_cell_l _ _ _) (by decide) (by decide) (Nat.le_of_ble_eq_true rfl) (Nat.le_of_ble_eq_true rfl) (Nat.le_of_ble_eq_true rfl) (Nat.le_of_ble_eq_true rfl) (Nat.le_of_ble_eq_true rfl) dX9_init_40 (fun q_5 H hP hD hS => ?_)
  have hP : va_P D vwCl [(h0, .inr (9, [.ref q_1, .ref q_2, .ref q_3, .ref q_4, .null, .null])), (q_1, .inl (cI, 90, .inl (fun _ => 0))), (q_2, .inl (cI, 900, .inl (fun _ => 0))), (q_3, .inl (cI, 90, .inl (fun _ => 0))), (q_4, .inl (cI, 90, .inl (fun _ => 0))), (q_5, .inl (cJ, 90, .inr (.inl (fun _ => 0))))] H := hP
  have hD : va_D A [(h0, .inr (9, [.ref q_1, .ref q_2, .ref q_3, .ref q_4, .null, .null])), (q_1, .inl (cI, 90, .inl (fun _ => 0))), (q_2, .inl (cI, 900, .inl (fun _ => 0))), (q_3, .inl (cI, 90, .inl (fun _ => 0))), (q_4, .inl (cI, 90, .inl (fun _ => 0))), (q_5, .inl (cJ, 90, .inr (.inl (fun _ => 0))))] := hD
  refine sk_putF (ws' := [(h0, .inr (9, [.ref q_1, .ref q_2, .ref q_3, .ref q_4, .ref q_5, .null])), (q_1, .inl (cI, 90, .inl (fun _ => 0))), (q_2, .inl (cI, 900, .inl (fun _ => 0))), (q_3, .inl (cI, 90, .inl (fun _ => 0))), (q_4, .inl (cI, 90, .inl (fun _ => 0))), (q_5, .inl (cJ, 90, .inr (.inl (fun _ => 0))))]) (C := RX9) (T := TX9) (N := 6) (v := .ref q_5) hx hb hts inlX9 tyX9 tyX9_ok nmX9 hown hK hP hD hS 0 rfl rfl 4 (by decide) w_2_72 rfl hin rfl rfl rfl (Nat.le_of_ble_eq_true rfl) rfl dX9_init_42 (fun H locs hP hD hS => ?_)
  refine lv_aload_n hx hb dX9_init_45 rfl (lv_at hl 0 rfl) ?_
  refine lv_bipush (v := 9) hx hb dX9_init_46 (by decide) ?_
  refine sk_newa (atype := .int) (ty := .int) (a0 := (9, .inl (fun _ => 0))) (cA := cI) (k1 := 6) (n1 := 1269) hx hb hts w_1_49 rfl (fun _ _ h => h) 0 rfl hK hP hD hS hA (fun _ => vp_cell_i _ _ _) (by decide) (by decide) (Nat.le_of_ble_eq_true rfl) (Nat.le_of_ble_eq_true rfl) (Nat.le_of_ble_eq_true rfl) (Nat.le_of_ble_eq_true rfl) (Nat.le_of_ble_eq_true rfl) dX9_init_48 (fun q_6 H hP hD hS => ?_)
  have hP : va_P D vwCl [(h0, .inr (9, [.ref q_1, .ref q_2, .ref q_3, .ref q_4, .ref q_5, .null])), (q_1, .inl (cI, 90, .inl (fun _ => 0))), (q_2, .inl (cI, 900, .inl (fun _ => 0))), (q_3, .inl (cI, 90, .inl (fun _ => 0))), (q_4, .inl (cI, 90, .inl (fun _ => 0))), (q_5, .inl (cJ, 90, .inr (.inl (fun _ => 0)))), (q_6, .inl (cI, 9, .inl (fun _ => 0)))] H := hP
  have hD : va_D A [(h0, .inr (9, [.ref q_1, .ref q_2, .ref q_3, .ref q_4, .ref q_5, .null])), (q_1, .inl (cI, 90, .inl (fun _ => 0))), (q_2, .inl (cI, 900, .inl (fun _ => 0))), (q_3, .inl (cI, 90, .inl (fun _ => 0))), (q_4, .inl (cI, 90, .inl (fun _ => 0))), (q_5, .inl (cJ, 90, .inr (.inl (fun _ => 0)))), (q_6, .inl (cI, 9, .inl (fun _ => 0)))] := hD
  refine sk_putF (ws' := [(h0, .inr (9, [.ref q_1, .ref q_2, .ref q_3, .ref q_4, .ref q_5, .ref q_6])), (q_1, .inl (cI, 90, .inl (fun _ => 0))), (q_2, .inl (cI, 900, .inl (fun _ => 0))), (q_3, .inl (cI, 90, .inl (fun _ => 0))), (q_4, .inl (cI, 90, .inl (fun _ => 0))), (q_5, .inl (cJ, 90, .inr (.inl (fun _ => 0)))), (q_6, .inl (cI, 9, .inl (fun _ => 0)))]) (C := RX9) (T := TX9) (N := 6) (v := .ref q_6) hx hb hts inlX9 tyX9 tyX9_ok nmX9 hown hK hP hD hS 0 rfl rfl 5 (by decide) w_2_75 rfl hin rfl rfl rfl (Nat.le_of_ble_eq_true rfl) rfl dX9_init_50 (fun H locs hP hD hS => ?_)
  exact sk_vret hx hb hr hlocks hK hP hD hS (⟨q_1, q_2, q_3, q_4, q_5, q_6, rfl⟩) (Nat.le_of_ble_eq_true rfl) (Nat.le_of_ble_eq_true rfl) dX9_init_53
theorem dX1_init_0 : decode cX1_init 0 = .ok (.aload_n 0, 1) := by decide +kernel
theorem dX1_init_1 : decode cX1_init 1 = .ok (.invokespecial 3, 3) := by decide +kernel
theorem dX1_init_4 : decode cX1_init 4 = .ok (.aload_n 0, 1) := by decide +kernel
theorem dX1_init_5 : decode cX1_init 5 = .ok (.bipush 90, 2) := by decide +kernel
theorem dX1_init_7 : decode cX1_init 7 = .ok (.newarray .int, 2) := by decide +kernel
theorem dX1_init_9 : decode cX1_init 9 = .ok (.putfield 9, 3) := by decide +kernel
theorem dX1_init_12 : decode cX1_init 12 = .ok (.aload_n 0, 1) := by decide +kernel
theorem dX1_init_13 : decode cX1_init 13 = .ok (.bipush 9, 2) := by decide +kernel
theorem dX1_init_15 : decode cX1_init 15 = .ok (.newarray .int, 2) := by decide +kernel
theorem dX1_init_17 : decode cX1_init 17 = .ok (.putfield 15, 3) := by decide +kernel
theorem dX1_init_20 : decode cX1_init 20 = .ok (.aload_n 0, 1) := by decide +kernel
theorem dX1_init_21 : decode cX1_init 21 = .ok (.bipush 10, 2) := by decide +kernel
theorem dX1_init_23 : decode cX1_init 23 = .ok (.newarray .int, 2) := by decide +kernel
theorem dX1_init_25 : decode cX1_init 25 = .ok (.putfield 18, 3) := by decide +kernel
theorem dX1_init_28 : decode cX1_init 28 = .ok (.aload_n 0, 1) := by decide +kernel
theorem dX1_init_29 : decode cX1_init 29 = .ok (.bipush 100, 2) := by decide +kernel
theorem dX1_init_31 : decode cX1_init 31 = .ok (.newarray .long, 2) := by decide +kernel
theorem dX1_init_33 : decode cX1_init 33 = .ok (.putfield 21, 3) := by decide +kernel
theorem dX1_init_36 : decode cX1_init 36 = .ok (.aload_n 0, 1) := by decide +kernel
theorem dX1_init_37 : decode cX1_init 37 = .ok (.bipush 100, 2) := by decide +kernel
theorem dX1_init_39 : decode cX1_init 39 = .ok (.newarray .long, 2) := by decide +kernel
theorem dX1_init_41 : decode cX1_init 41 = .ok (.putfield 25, 3) := by decide +kernel
theorem dX1_init_44 : decode cX1_init 44 = .ok (.aload_n 0, 1) := by decide +kernel
theorem dX1_init_45 : decode cX1_init 45 = .ok (.bipush 100, 2) := by decide +kernel
theorem dX1_init_47 : decode cX1_init 47 = .ok (.newarray .long, 2) := by decide +kernel
theorem dX1_init_49 : decode cX1_init 49 = .ok (.putfield 28, 3) := by decide +kernel
theorem dX1_init_52 : decode cX1_init 52 = .ok (.aload_n 0, 1) := by decide +kernel
theorem dX1_init_53 : decode cX1_init 53 = .ok (.iconst 0, 1) := by decide +kernel
theorem dX1_init_54 : decode cX1_init 54 = .ok (.putfield 31, 3) := by decide +kernel
theorem dX1_init_57 : decode cX1_init 57 = .ok (.aload_n 0, 1) := by decide +kernel
theorem dX1_init_58 : decode cX1_init 58 = .ok (.iconst 0, 1) := by decide +kernel
theorem dX1_init_59 : decode cX1_init 59 = .ok (.putfield 35, 3) := by decide +kernel
theorem dX1_init_62 : decode cX1_init 62 = .ok (.aload_n 0, 1) := by decide +kernel
theorem dX1_init_63 : decode cX1_init 63 = .ok (.aload_n 1, 1) := by decide +kernel
theorem dX1_init_64 : decode cX1_init 64 = .ok (.putfield 38, 3) := by decide +kernel
theorem dX1_init_67 : decode cX1_init 67 = .ok (.return_, 1) := by decide +kernel
theorem w_2_94 : (Cond.methodLink RX1 3 objectInit) ∈ wsL_law := sk_mem (ck_2 _ (List.mem_of_getElem? (i := 94) rfl)) rfl
theorem w_2_93 : (Cond.code yX1_init cX1_init 2 none) ∈ wsL_law := sk_mem (ck_2 _ (List.mem_of_getElem? (i := 93) rfl)) rfl
set_option maxHeartbeats 4000000 in
set_option maxRecDepth 100000 in
theorem c_Graph_init (l : Launch) (D : va_G) (cI cJ cC cZ cS : ClassId) (h0 : Nat) (tb : Nat)  : skM l yX1_init cX1_init 2 none 1 20 6 409 D (skT cI cJ cC cZ cS) [.ref h0, .ref tb] [(h0, .inr (1, [.null, .null, .null, .null, .null, .null, .null, .int 0, .int 0]))] (skV D (skT cI cJ cC cZ cS) (fun (u : va_W) => ∃ (k1 : Nat), ∃ (k2 : Nat), ∃ (k3 : Nat), ∃ (k4 : Nat), ∃ (k5 : Nat), ∃ (k6 : Nat), u = [(h0, .inr (1, [.ref tb, .ref k1, .ref k2, .ref k3, .ref k4, .ref k5, .ref k6, .int 0, .int 0])), (k1, .inl (cI, 90, .inl (fun _ => 0))), (k2, .inl (cI, 9, .inl (fun _ => 0))), (k3, .inl (cI, 10, .inl (fun _ => 0))), (k4, .inl (cJ, 100, .inr (.inl (fun _ => 0)))), (k5, .inl (cJ, 100, .inr (.inl (fun _ => 0)))), (k6, .inl (cJ, 100, .inr (.inl (fun _ => 0))))])) := by
  refine skM_of (by decide +kernel) (Nat.le_of_ble_eq_true rfl) ?_
  intro p e s m below meth c A ls E hP hD hl
  obtain ⟨hx, hb, hr, hml, hlocks, hin, hown, hts, hK, hA⟩ := E
  have hown : s.vm.findClass RX1 = some m.cls := hown
  have hin : meth.name = "<init>" := hin
  have hS : va_S A s.heap s.heap [] := va_S.rf
  have hl : lv_has ls 2 [(0, .ref h0), (1, .ref tb)] := hl
  refine lv_aload_n hx hb dX1_init_0 rfl (lv_at hl 0 rfl) ?_
  refine W.objInit hx hb hown (hts _ w_2_94) (hts _ w_1_28) (hts _ w_1_29) rfl (by rw [hml]; exact hl.1) rfl dX1_init_1 (Nat.le_of_ble_eq_true rfl) (Nat.le_of_ble_eq_true rfl) ?_
  refine W.eq (g2 := F0 m 4 ls []) rfl ?_
  refine lv_aload_n hx hb dX1_init_4 rfl (lv_at hl 0 rfl) ?_
  refine lv_bipush (v := 90) hx hb dX1_init_5 (by decide) ?_
  refine sk_newa (atype := .int) (ty := .int) (a0 := (90, .inl (fun _ => 0))) (cA := cI) (k1 := 1) (n1 := 90) hx hb hts w_1_49 rfl (fun _ _ h => h) 0 rfl hK hP hD hS hA (fun _ => vp_cell_i _ _ _) (by decide) (by decide) (Nat.le_of_ble_eq_true rfl) (Nat.le_of_ble_eq_true rfl) (Nat.le_of_ble_eq_true rfl) (Nat.le_of_ble_eq_true rfl) (Nat.le_of_ble_eq_true rfl) dX1_init_7 (fun q_1 H hP hD hS => ?_)
  have hP : va_P D vwCl [(h0, .inr (1, [.null, .null, .null, .null, .null, .null, .null, .int 0, .int 0])), (q_1, .inl (cI, 90, .inl (fun _ => 0)))] H := hP
  have hD : va_D A [(h0, .inr (1, [.null, .null, .null, .null, .null, .null, .null, .int 0, .int 0])), (q_1, .inl (cI, 90, .inl (fun _ => 0)))] := hD
  refine sk_putF (ws' := [(h0, .inr (1, [.null, .ref q_1, .null, .null, .null, .null, .null, .int 0, .int 0])), (q_1, .inl (cI, 90, .inl (fun _ => 0)))]) (C := RX1) (T := TX1) (N := 9) (v := .ref q_1) hx hb hts inlX1 tyX1 tyX1_ok nmX1 hown hK hP hD hS 0 rfl rfl 1 (by decide) w_2_96 rfl hin rfl rfl rfl (Nat.le_of_ble_eq_true rfl) rfl dX1_init_9 (fun H locs hP hD hS => ?_)
  refine lv_aload_n hx hb dX1_init_12 rfl (lv_at hl 0 rfl) ?_
  refine lv_bipush (v := 9) hx hb dX1_init_13 (by decide) ?_
  refine sk_newa (atype := .int) (ty := .int) (a0 := (9, .inl (fun _ => 0))) (cA := cI) (k1 := 2) (n1 := 99) hx hb hts w_1_49 rfl (fun _ _ h => h) 0 rfl hK hP hD hS hA (fun _ => vp_cell_i _ _ _) (by decide) (by decide) (Nat.le_of_ble_eq_true rfl) (Nat.le_of_ble_eq_true rfl) (Nat.le_of_ble_eq_true rfl) (Nat.le_of_ble_eq_true rfl) (Nat.le_of_ble_eq_true rfl) dX1_init_15 (fun q_2 H hP hD hS => ?_)
  have hP : va_P D vwCl [(h0, .inr (1, [.null, .ref q_1, .null, .null, .null, .null, .null, .int 0, .int 0])), (q_1, .inl (cI, 90, .inl (fun _ => 0))), (q_2, .inl (cI, 9, .inl (fun _ => 0)))] H := hP
  have hD : va_D A [(h0, .inr (1, [.null, .ref q_1, .null, .null, .null, .null, .null, .int 0, .int 0])), (q_1, .inl (cI, 90, .inl (fun _ => 0))), (q_2, .inl (cI, 9, .inl (fun _ => 0)))] := hD
  refine sk_putF (ws' := [(h0, .inr (1, [.null, .ref q_1, .ref q_2, .null, .null, .null, .null, .int 0, .int 0])), (q_1, .inl (cI, 90, .inl (fun _ => 0))), (q_2, .inl (cI, 9, .inl (fun _ => 0)))]) (C := RX1) (T := TX1) (N := 9) (v := .ref q_2) hx hb hts inlX1 tyX1 tyX1_ok nmX1 hown hK hP hD hS 0 rfl rfl 2 (by decide) w_2_97 rfl hin rfl rfl rfl (Nat.le_of_ble_eq_true rfl) rfl dX1_init_17 (fun H locs hP hD hS => ?_)
  refine lv_aload_n hx hb dX1_init_20 rfl (lv_at hl 0 rfl) ?_
  refine lv_bipush (v := 10) hx hb dX1_init_21 (by decide) ?_
  refine sk_newa (atype := .int) (ty := .int) (a0 := (10, .inl (fun _ => 0))) (cA := cI) (k1 := 3) (n1 := 109) hx hb hts w_1_49 rfl (fun _ _ h => h) 0 rfl hK hP hD hS hA (fun _ => vp_cell_i _ _ _) (by decide) (by decide) (Nat.le_of_ble_eq_true rfl) (Nat.le_of_ble_eq_true rfl) (Nat.le_of_ble_eq_true rfl) (Nat.le_of_ble_eq_true rfl) (Nat.le_of_ble_eq_true rfl) dX1_init_23 (fun q_3 H hP hD hS => ?_)
  have hP : va_P D vwCl [(h0, .inr (1, [.null, .ref q_1, .ref q_2, .null, .null, .null, .null, .int 0, .int 0])), (q_1, .inl (cI, 90, .inl (fun _ => 0))), (q_2, .inl (cI, 9, .inl (fun _ => 0))), (q_3, .inl (cI, 10, .inl (fun _ => 0)))] H := hP
  have hD : va_D A [(h0, .inr (1, [.null, .ref q_1, .ref q_2, .null, .null, .null, .null, .int 0, .int 0])), (q_1, .inl (cI, 90, .inl (fun _ => 0))), (q_2, .inl (cI, 9, .inl (fun _ => 0))), (q_3, .inl (cI, 10, .inl (fun _ => 0)))] := hD
  refine sk_putF (ws' := [(h0, .inr (1, [.null, .ref q_1, .ref q_2, .ref q_3, .null, .null, .null, .int 0, .int 0])), (q_1, .inl (cI, 90, .inl (fun _ => 0))), (q_2, .inl (cI, 9, .inl (fun _ => 0))), (q_3, .inl (cI, 10, .inl (fun _ => 0)))]) (C := RX1) (T := TX1) (N := 9) (v := .ref q_3) hx hb hts inlX1 tyX1 tyX1_ok nmX1 hown hK hP hD hS 0 rfl rfl 3 (by decide) w_2_98 rfl hin rfl rfl rfl (Nat.le_of_ble_eq_true rfl) rfl dX1_init_25 (fun H locs hP hD hS => ?_)
  refine lv_aload_n hx hb dX1_init_28 rfl (lv_at hl 0 rfl) ?_
  refine lv_bipush (v := 100) hx hb dX1_init_29 (by decide) ?_
  refine sk_newa (atype := .long) (ty := .long) (a0 := (100, .inr (.inl (fun _ => 0)))) (cA := cJ) (k1 := 4) (n1 := 209) hx hb hts w_1_151 rfl (fun _ _ h => h) 1 rfl hK hP hD hS hA (fun _ => vp_cell_l _ _ _) (by decide) (by decide) (Nat.le_of_ble_eq_true rfl) (Nat.le_of_ble_eq_true rfl) (Nat.le_of_ble_eq_true rfl) (Nat.le_of_ble_eq_true rfl) (Nat.le_of_ble_eq_true rfl) dX1_init_31 (fun q_4 H hP hD hS => ?_)
  have hP : va_P D vwCl [(h0, .inr (1, [.null, .ref q_1, .ref q_2, .ref q_3, .null, .null, .null, .int 0, .int 0])), (q_1, .inl (cI, 90, .inl (fun _ => 0))), (q_2, .inl (cI, 9, .inl (fun _ => 0))), (q_3, .inl (cI, 10, .inl (fun _ => 0))), (q_4, .inl (cJ, 100, .inr (.inl (fun _ => 0))))] H := hP
  have hD : va_D A [(h0, .inr (1, [.null, .ref q_1, .ref q_2, .ref q_3, .null, .null, .null, .int 0, .int 0])), (q_1, .inl (cI, 90, .inl (fun _ => 0))), (q_2, .inl (cI, 9, .inl (fun _ => 0))), (q_3, .inl (cI, 10, .inl (fun _ => 0))), (q_4, .inl (cJ, 100, .inr (.inl (fun _ => 0))))] := hD
  refine sk_putF (ws' := [(h0, .inr (1, [.null, .ref q_1, .ref q_2, .ref q_3, .ref q_4, .null, .null, .int 0, .int 0])), (q_1, .inl (cI, 90, .inl (fun _ => 0))), (q_2, .inl (cI, 9, .inl (fun _ => 0))), (q_3, .inl (cI, 10, .inl (fun _ => 0))), (q_4, .inl (cJ, 100, .inr (.inl (fun _ => 0))))]) (C := RX1) (T := TX1) (N := 9) (v := .ref q_4) hx hb hts inlX1 tyX1 tyX1_ok nmX1 hown hK hP hD hS 0 rfl rfl 4 (by decide) w_2_99 rfl hin rfl rfl rfl (Nat.le_of_ble_eq_true rfl) rfl dX1_init_33 (fun H locs hP hD hS => ?_)
  refine lv_aload_n hx hb dX1_init_36 rfl (lv_at hl 0 rfl) ?_
  refine lv_bipush (v := 100) hx hb dX1_init_37 (by decide) ?_
  refine sk_newa (atype := .long) (ty := .long) (a0 := (100, .inr (.inl (fun _ => 0)))) (cA := cJ) (k1 := 5) (n1 := 309) hx hb hts w_1_151 rfl (fun _ _ h => h) 1 rfl hK hP hD hS hA (fun _ => vp_cell_l _ _ _) (by decide) (by decide) (Nat.le_of_ble_eq_true rfl) (Nat.le_of_ble_eq_true rfl) (Nat.le_of_ble_eq_true rfl) (Nat.le_of_ble_eq_true rfl) (Nat.le_of_ble_eq_true rfl) dX1_init_39 (fun q_5 H hP hD hS => ?_)
  have hP : va_P D vwCl [(h0, .inr (1, [.null, .ref q_1, .ref q_2, .ref q_3, .ref q_4, .null, .null, .int 0, .int 0])), (q_1, .inl (cI, 90, .inl (fun _ => 0))), (q_2, .inl (cI, 9, .inl (fun _ => 0))), (q_3, .inl (cI, 10, .inl (fun _ => 0))), (q_4, .inl (cJ, 100, .inr (.inl (fun _ => 0)))), (q_5, .inl (cJ, 100, .inr (.inl (fun _ => 0))))] H := hP
  have hD : va_D A [(h0, .inr (1, [.null, .ref q_1, .ref q_2, .ref q_3, .ref q_4, .null, .null, .int 0, .int 0])), (q_1, .inl (cI, 90, .inl (fun _ => 0))), (q_2, .inl (cI, 9, .inl (fun _ => 0))), (q_3, .inl (cI, 10, .inl (fun _ => 0))), (q_4, .inl (cJ, 100, .inr (.inl (fun _ => 0)))), (q_5, .inl (cJ, 100, .inr (.inl (fun _ => 0))))] := hD
  refine sk_putF (ws' := [(h0, .inr (1, [.null, .ref q_1, .ref q_2, .ref q_3, .ref q_4, .ref q_5, .null, .int 0, .int 0])), (q_1, .inl (cI, 90, .inl (fun _ => 0))), (q_2, .inl (cI, 9, .inl (fun _ => 0))), (q_3, .inl (cI, 10, .inl (fun _ => 0))), (q_4, .inl (cJ, 100, .inr (.inl (fun _ => 0)))), (q_5, .inl (cJ, 100, .inr (.inl (fun _ => 0))))]) (C := RX1) (T := TX1) (N := 9) (v := .ref q_5) hx hb hts inlX1 tyX1 tyX1_ok nmX1 hown hK hP hD hS 0 rfl rfl 5 (by decide) w_2_100 rfl hin rfl rfl rfl (Nat.le_of_ble_eq_true rfl) rfl dX1_init_41 (fun H locs hP hD hS => ?_)
  refine lv_aload_n hx hb dX1_init_44 rfl (lv_at hl 0 rfl) ?_
  refine lv_bipush (v := 100) hx hb dX1_init_45 (by decide) ?_
  refine sk_newa (atype := .long) (ty := .long) (a0 := (100, .inr (.inl (fun _ => 0)))) (cA := cJ) (k1 := 6) (n1 := 409) hx hb hts w_1_151 rfl (fun _ _ h => h) 1 rfl hK hP hD hS hA (fun _ => vp_cell_l _ _ _) (by decide) (by decide) (Nat.le_of_ble_eq_true rfl) (Nat.le_of_ble_eq_true rfl) (Nat.le_of_ble_eq_true rfl) (Nat.le_of_ble_eq_true rfl) (Nat.le_of_ble_eq_true rfl) dX1_init_47 (fun q_6 H hP hD hS => ?_)
  have hP : va_P D vwCl [(h0, .inr (1, [.null, .ref q_1, .ref q_2, .ref q_3, .ref q_4, .ref q_5, .null, .int 0, .int 0])), (q_1, .inl (cI, 90, .inl (fun _ => 0))), (q_2, .inl (cI, 9, .inl (fun _ => 0))), (q_3, .inl (cI, 10, .inl (fun _ => 0))), (q_4, .inl (cJ, 100, .inr (.inl (fun _ => 0)))), (q_5, .inl (cJ, 100, .inr (.inl (fun _ => 0)))), (q_6, .inl (cJ, 100, .inr (.inl (fun _ => 0))))] H := hP
  have hD : va_D A [(h0, .inr (1, [.null, .ref q_1, .ref q_2, .ref q_3, .ref q_4, .ref q_5, .null, .int 0, .int 0])), (q_1, .inl (cI, 90, .inl (fun _ => 0))), (q_2, .inl (cI, 9, .inl (fun _ => 0))), (q_3, .inl (cI, 10, .inl (fun _ => 0))), (q_4, .inl (cJ, 100, .inr (.inl (fun _ => 0)))), (q_5, .inl (cJ, 100, .inr (.inl (fun _ => 0)))), (q_6, .inl (cJ, 100, .inr (.inl (fun _ => 0))))] := hD
  refine sk_putF (ws' := [(h0, .inr (1, [.null, .ref q_1, .ref q_2, .ref q_3, .ref q_4, .ref q_5, .ref q_6, .int 0, .int 0])), (q_1, .inl (cI, 90, .inl (fun _ => 0))), (q_2, .inl (cI, 9, .inl (fun _ => 0))), (q_3, .inl (cI, 10, .inl (fun _ => 0))), (q_4, .inl (cJ, 100, .inr (.inl (fun _ => 0)))), (q_5, .inl (cJ, 100, .inr (.inl (fun _ => 0)))), (q_6, .inl (cJ, 100, .inr (.inl (fun _ => 0))))]) (C := RX1) (T := TX1) (N := 9) (v := .ref q_6) hx hb hts inlX1 tyX1 tyX1_ok nmX1 hown hK hP hD hS 0 rfl rfl 6 (by decide) w_2_101 rfl hin rfl rfl rfl (Nat.le_of_ble_eq_true rfl) rfl dX1_init_49 (fun H locs hP hD hS => ?_)
  refine lv_aload_n hx hb dX1_init_52 rfl (lv_at hl 0 rfl) ?_
  refine lv_iconst (v := 0) hx hb dX1_init_53 (by decide) ?_
  refine sk_put (ws' := [(h0, .inr (1, [.null, .ref q_1, .ref q_2, .ref q_3, .ref q_4, .ref q_5, .ref q_6, .int 0, .int 0])), (q_1, .inl (cI, 90, .inl (fun _ => 0))), (q_2, .inl (cI, 9, .inl (fun _ => 0))), (q_3, .inl (cI, 10, .inl (fun _ => 0))), (q_4, .inl (cJ, 100, .inr (.inl (fun _ => 0)))), (q_5, .inl (cJ, 100, .inr (.inl (fun _ => 0)))), (q_6, .inl (cJ, 100, .inr (.inl (fun _ => 0))))]) (C := RX1) (T := TX1) (N := 9) (v := .int 0) hx hb hts inlX1 tyX1 tyX1_ok nmX1 hown hK hP hD hS 0 rfl rfl 7 (by decide) w_2_102 rfl rfl rfl (Nat.le_of_ble_eq_true rfl) rfl dX1_init_54 (fun H locs hP hD hS => ?_)
  refine lv_aload_n hx hb dX1_init_57 rfl (lv_at hl 0 rfl) ?_
  refine lv_iconst (v := 0) hx hb dX1_init_58 (by decide) ?_
  refine sk_put (ws' := [(h0, .inr (1, [.null, .ref q_1, .ref q_2, .ref q_3, .ref q_4, .ref q_5, .ref q_6, .int 0, .int 0])), (q_1, .inl (cI, 90, .inl (fun _ => 0))), (q_2, .inl (cI, 9, .inl (fun _ => 0))), (q_3, .inl (cI, 10, .inl (fun _ => 0))), (q_4, .inl (cJ, 100, .inr (.inl (fun _ => 0)))), (q_5, .inl (cJ, 100, .inr (.inl (fun _ => 0)))), (q_6, .inl (cJ, 100, .inr (.inl (fun _ => 0))))]) (C := RX1) (T := TX1) (N := 9) (v := .int 0) hx hb hts inlX1 tyX1 tyX1_ok nmX1 hown hK hP hD hS 0 rfl rfl 8 (by decide) w_2_103 rfl rfl rfl (Nat.le_of_ble_eq_true rfl) rfl dX1_init_59 (fun H locs hP hD hS => ?_)
  refine lv_aload_n hx hb dX1_init_62 rfl (lv_at hl 0 rfl) ?_
  refine lv_aload_n hx hb dX1_init_63 rfl (lv_at hl 1 rfl) ?_
  refine sk_putF (ws' := [(h0, .inr (1, [.ref tb, .ref q_1, .ref q_2, .ref q_3, .ref q_4, .ref q_5, .ref q_6, .int 0, .int 0])), (q_1, .inl (cI, 90, .inl (fun _ => 0))), (q_2, .inl (cI, 9, .inl (fun _ => 0))), (q_3, .inl (cI, 10, .inl (fun _ => 0))), (q_4, .inl (cJ, 100, .inr (.inl (fun _ => 0)))), (q_5, .inl (cJ, 100, .inr (.inl (fun _ => 0)))), (q_6, .inl (cJ, 100, .inr (.inl (fun _ => 0))))]) (C := RX1) (T := TX1) (N := 9) (v := .ref tb) hx hb hts inlX1 tyX1 tyX1_ok nmX1 hown hK hP hD hS 0 rfl rfl 0 (by decide) w_2_95 rfl hin rfl rfl rfl (Nat.le_of_ble_eq_true rfl) rfl dX1_init_64 (fun H locs hP hD hS => ?_)
  exact sk_vret hx hb hr hlocks hK hP hD hS (⟨q_1, q_2, q_3, q_4, q_5, q_6, rfl⟩) (Nat.le_of_ble_eq_true rfl) (Nat.le_of_ble_eq_true rfl) dX1_init_67
