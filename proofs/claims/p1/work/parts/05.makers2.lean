theorem dX4_init_0 : decode cX4_init 0 = .ok (.aload_n 0, 1) := by decide +kernel
theorem dX4_init_1 : decode cX4_init 1 = .ok (.invokespecial 3, 3) := by decide +kernel
theorem dX4_init_4 : decode cX4_init 4 = .ok (.aload_n 0, 1) := by decide +kernel
theorem dX4_init_5 : decode cX4_init 5 = .ok (.bipush 20, 2) := by decide +kernel
theorem dX4_init_7 : decode cX4_init 7 = .ok (.anewarray 11, 3) := by decide +kernel
theorem dX4_init_10 : decode cX4_init 10 = .ok (.putfield 13, 3) := by decide +kernel
theorem dX4_init_13 : decode cX4_init 13 = .ok (.aload_n 0, 1) := by decide +kernel
theorem dX4_init_14 : decode cX4_init 14 = .ok (.iconst 0, 1) := by decide +kernel
theorem dX4_init_15 : decode cX4_init 15 = .ok (.putfield 17, 3) := by decide +kernel
theorem dX4_init_18 : decode cX4_init 18 = .ok (.aload_n 0, 1) := by decide +kernel
theorem dX4_init_19 : decode cX4_init 19 = .ok (.sipush 1000, 3) := by decide +kernel
theorem dX4_init_22 : decode cX4_init 22 = .ok (.newarray .int, 2) := by decide +kernel
theorem dX4_init_24 : decode cX4_init 24 = .ok (.putfield 21, 3) := by decide +kernel
theorem dX4_init_27 : decode cX4_init 27 = .ok (.aload_n 0, 1) := by decide +kernel
theorem dX4_init_28 : decode cX4_init 28 = .ok (.sipush 1000, 3) := by decide +kernel
theorem dX4_init_31 : decode cX4_init 31 = .ok (.newarray .long, 2) := by decide +kernel
theorem dX4_init_33 : decode cX4_init 33 = .ok (.putfield 25, 3) := by decide +kernel
theorem dX4_init_36 : decode cX4_init 36 = .ok (.aload_n 0, 1) := by decide +kernel
theorem dX4_init_37 : decode cX4_init 37 = .ok (.sipush 1000, 3) := by decide +kernel
theorem dX4_init_40 : decode cX4_init 40 = .ok (.newarray .int, 2) := by decide +kernel
theorem dX4_init_42 : decode cX4_init 42 = .ok (.putfield 29, 3) := by decide +kernel
theorem dX4_init_45 : decode cX4_init 45 = .ok (.iconst 0, 1) := by decide +kernel
theorem dX4_init_46 : decode cX4_init 46 = .ok (.istore_n 1, 1) := by decide +kernel
theorem dX4_init_47 : decode cX4_init 47 = .ok (.iload_n 1, 1) := by decide +kernel
theorem dX4_init_48 : decode cX4_init 48 = .ok (.bipush 20, 2) := by decide +kernel
theorem dX4_init_50 : decode cX4_init 50 = .ok (.if_icmp .ge 22, 3) := by decide +kernel
theorem dX4_init_53 : decode cX4_init 53 = .ok (.aload_n 0, 1) := by decide +kernel
theorem dX4_init_54 : decode cX4_init 54 = .ok (.getfield 13, 3) := by decide +kernel
theorem dX4_init_57 : decode cX4_init 57 = .ok (.iload_n 1, 1) := by decide +kernel
theorem dX4_init_58 : decode cX4_init 58 = .ok (.new 11, 3) := by decide +kernel
theorem dX4_init_61 : decode cX4_init 61 = .ok (.dup, 1) := by decide +kernel
theorem dX4_init_62 : decode cX4_init 62 = .ok (.invokespecial 32, 3) := by decide +kernel
theorem dX4_init_65 : decode cX4_init 65 = .ok (.aastore, 1) := by decide +kernel
theorem dX4_init_66 : decode cX4_init 66 = .ok (.iinc 1 1, 3) := by decide +kernel
theorem dX4_init_69 : decode cX4_init 69 = .ok (.goto (-22), 3) := by decide +kernel
theorem dX4_init_72 : decode cX4_init 72 = .ok (.return_, 1) := by decide +kernel
theorem w_2_36 : (Cond.methodLink RX4 3 objectInit) ∈ wsL_law := sk_mem (ck_2 _ (List.mem_of_getElem? (i := 36) rfl)) rfl
theorem w_2_37 : (Cond.classLink RX4 11 RX7) ∈ wsL_law := sk_mem (ck_2 _ (List.mem_of_getElem? (i := 37) rfl)) rfl
theorem w_2_40 : (Cond.fieldLink RX4 13 "SameKeeper$Past" "states" "[LSameKeeper$State;") ∈ wsL_law := sk_mem (ck_2 _ (List.mem_of_getElem? (i := 40) rfl)) rfl
theorem w_2_41 : (Cond.fieldLink RX4 17 "SameKeeper$Past" "acts" "I") ∈ wsL_law := sk_mem (ck_2 _ (List.mem_of_getElem? (i := 41) rfl)) rfl
theorem w_2_43 : (Cond.fieldLink RX4 21 "SameKeeper$Past" "weekOf" "[I") ∈ wsL_law := sk_mem (ck_2 _ (List.mem_of_getElem? (i := 43) rfl)) rfl
theorem w_2_44 : (Cond.fieldLink RX4 25 "SameKeeper$Past" "agreedOf" "[J") ∈ wsL_law := sk_mem (ck_2 _ (List.mem_of_getElem? (i := 44) rfl)) rfl
theorem w_2_45 : (Cond.fieldLink RX4 29 "SameKeeper$Past" "moodOf" "[I") ∈ wsL_law := sk_mem (ck_2 _ (List.mem_of_getElem? (i := 45) rfl)) rfl
theorem w_1_225 : (Cond.instantiable RX7 7) ∈ wsL_law := sk_mem (ck_1 _ (List.mem_of_getElem? (i := 225) rfl)) rfl
theorem w_1_10 : (Cond.initialized RX7) ∈ wsL_law := sk_mem (ck_1 _ (List.mem_of_getElem? (i := 10) rfl)) rfl
theorem w_1_227 : (Cond.instanceMethod yX7_init) ∈ wsL_law := sk_mem (ck_1 _ (List.mem_of_getElem? (i := 227) rfl)) rfl
theorem w_2_35 : (Cond.code yX4_init cX4_init 2 none) ∈ wsL_law := sk_mem (ck_2 _ (List.mem_of_getElem? (i := 35) rfl)) rfl
set_option maxHeartbeats 4000000 in
set_option maxRecDepth 100000 in
theorem c_Past_init (l : Launch) (D : va_G) (cI cJ cC cZ cS : ClassId) (h0 : Nat)  : skM l yX4_init cX4_init 2 none 2 40 64 3520 D (skT cI cJ cC cZ cS) [.ref h0] [(h0, .inr (4, [.null, .int 0, .null, .null, .null]))] (skV D (skT cI cJ cC cZ cS) (fun (u : va_W) => ∃ (k1 : Nat), ∃ (k2 : Nat), ∃ (k3 : Nat), ∃ (k4 : Nat), u = [(h0, .inr (4, [.ref k1, .int 0, .ref k2, .ref k3, .ref k4]))])) := by
  refine skM_of (by decide) (Nat.le_of_ble_eq_true rfl) ?_
  intro p e s m below meth c A ls E hP hD hl
  obtain ⟨hx, hb, hr, hml, hlocks, hin, hown, hts, hK, hA⟩ := E
  have hown : s.vm.findClass RX4 = some m.cls := hown
  have hin : meth.name = "<init>" := hin
  have hS : va_S A s.heap s.heap [] := va_S.rf
  have hl : lv_has ls 2 [(0, .ref h0)] := hl
  refine lv_aload_n hx hb dX4_init_0 rfl (lv_at hl 0 rfl) ?_
  refine W.objInit hx hb hown (hts _ w_2_36) (hts _ w_1_28) (hts _ w_1_29) rfl (by rw [hml]; exact hl.1) rfl dX4_init_1 (Nat.le_of_ble_eq_true rfl) (Nat.le_of_ble_eq_true rfl) ?_
  refine W.eq (g2 := F0 m 4 ls []) rfl ?_
  refine lv_aload_n hx hb dX4_init_4 rfl (lv_at hl 0 rfl) ?_
  refine lv_bipush (v := 20) hx hb dX4_init_5 (by decide) ?_
  refine sk_newq (cA := cS) (k1 := 1) (n1 := 20) (N' := 20) hx hb hts hown w_2_37 4 rfl hK hP hD hS hA (by decide) (by decide) (Nat.le_of_ble_eq_true rfl) (Nat.le_of_ble_eq_true rfl) (Nat.le_of_ble_eq_true rfl) (Nat.le_of_ble_eq_true rfl) (Nat.le_of_ble_eq_true rfl) dX4_init_7 (fun q_1 H hP hD hS => ?_)
  have hP : va_P D vwCl [(h0, .inr (4, [.null, .int 0, .null, .null, .null])), (q_1, .inl (cS, 20, .inr (.inr (.inr (.inr (fun _ => none))))))] H := hP
  have hD : va_D A [(h0, .inr (4, [.null, .int 0, .null, .null, .null])), (q_1, .inl (cS, 20, .inr (.inr (.inr (.inr (fun _ => none))))))] := hD
  refine sk_putF (ws' := [(h0, .inr (4, [.ref q_1, .int 0, .null, .null, .null])), (q_1, .inl (cS, 20, .inr (.inr (.inr (.inr (fun _ => none))))))]) (C := RX4) (T := TX4) (N := 5) (v := .ref q_1) hx hb hts inlX4 tyX4 tyX4_ok nmX4 hown hK hP hD hS 0 rfl rfl 0 (by decide) w_2_40 rfl hin rfl rfl rfl (Nat.le_of_ble_eq_true rfl) rfl dX4_init_10 (fun H locs hP hD hS => ?_)
  refine lv_aload_n hx hb dX4_init_13 rfl (lv_at hl 0 rfl) ?_
  refine lv_iconst (v := 0) hx hb dX4_init_14 (by decide) ?_
  refine sk_put (ws' := [(h0, .inr (4, [.ref q_1, .int 0, .null, .null, .null])), (q_1, .inl (cS, 20, .inr (.inr (.inr (.inr (fun _ => none))))))]) (C := RX4) (T := TX4) (N := 5) (v := .int 0) hx hb hts inlX4 tyX4 tyX4_ok nmX4 hown hK hP hD hS 0 rfl rfl 1 (by decide) w_2_41 rfl rfl rfl (Nat.le_of_ble_eq_true rfl) rfl dX4_init_15 (fun H locs hP hD hS => ?_)
  refine lv_aload_n hx hb dX4_init_18 rfl (lv_at hl 0 rfl) ?_
  refine lv_sipush (v := 1000) hx hb dX4_init_19 (by decide) ?_
  refine sk_newa (atype := .int) (ty := .int) (a0 := (1000, .inl (fun _ => 0))) (cA := cI) (k1 := 2) (n1 := 1020) hx hb hts w_1_49 rfl (fun _ _ h => h) 0 rfl hK hP hD hS hA (fun _ => vp_cell_i _ _ _) (by decide) (by decide) (Nat.le_of_ble_eq_true rfl) (Nat.le_of_ble_eq_true rfl) (Nat.le_of_ble_eq_true rfl) (Nat.le_of_ble_eq_true rfl) (Nat.le_of_ble_eq_true rfl) dX4_init_22 (fun q_2 H hP hD hS => ?_)
  have hP : va_P D vwCl [(h0, .inr (4, [.ref q_1, .int 0, .null, .null, .null])), (q_1, .inl (cS, 20, .inr (.inr (.inr (.inr (fun _ => none)))))), (q_2, .inl (cI, 1000, .inl (fun _ => 0)))] H := hP
  have hD : va_D A [(h0, .inr (4, [.ref q_1, .int 0, .null, .null, .null])), (q_1, .inl (cS, 20, .inr (.inr (.inr (.inr (fun _ => none)))))), (q_2, .inl (cI, 1000, .inl (fun _ => 0)))] := hD
  refine sk_putF (ws' := [(h0, .inr (4, [.ref q_1, .int 0, .ref q_2, .null, .null])), (q_1, .inl (cS, 20, .inr (.inr (.inr (.inr (fun _ => none)))))), (q_2, .inl (cI, 1000, .inl (fun _ => 0)))]) (C := RX4) (T := TX4) (N := 5) (v := .ref q_2) hx hb hts inlX4 tyX4 tyX4_ok nmX4 hown hK hP hD hS 0 rfl rfl 2 (by decide) w_2_43 rfl hin rfl rfl rfl (Nat.le_of_ble_eq_true rfl) rfl dX4_init_24 (fun H locs hP hD hS => ?_)
  refine lv_aload_n hx hb dX4_init_27 rfl (lv_at hl 0 rfl) ?_
  refine lv_sipush (v := 1000) hx hb dX4_init_28 (by decide) ?_
  refine sk_newa (atype := .long) (ty := .long) (a0 := (1000, .inr (.inl (fun _ => 0)))) (cA := cJ) (k1 := 3) (n1 := 2020) hx hb hts w_1_151 rfl (fun _ _ h => h) 1 rfl hK hP hD hS hA (fun _ => vp_cell_l _ _ _) (by decide) (by decide) (Nat.le_of_ble_eq_true rfl) (Nat.le_of_ble_eq_true rfl) (Nat.le_of_ble_eq_true rfl) (Nat.le_of_ble_eq_true rfl) (Nat.le_of_ble_eq_true rfl) dX4_init_31 (fun q_3 H hP hD hS => ?_)
  have hP : va_P D vwCl [(h0, .inr (4, [.ref q_1, .int 0, .ref q_2, .null, .null])), (q_1, .inl (cS, 20, .inr (.inr (.inr (.inr (fun _ => none)))))), (q_2, .inl (cI, 1000, .inl (fun _ => 0))), (q_3, .inl (cJ, 1000, .inr (.inl (fun _ => 0))))] H := hP
  have hD : va_D A [(h0, .inr (4, [.ref q_1, .int 0, .ref q_2, .null, .null])), (q_1, .inl (cS, 20, .inr (.inr (.inr (.inr (fun _ => none)))))), (q_2, .inl (cI, 1000, .inl (fun _ => 0))), (q_3, .inl (cJ, 1000, .inr (.inl (fun _ => 0))))] := hD
  refine sk_putF (ws' := [(h0, .inr (4, [.ref q_1, .int 0, .ref q_2, .ref q_3, .null])), (q_1, .inl (cS, 20, .inr (.inr (.inr (.inr (fun _ => none)))))), (q_2, .inl (cI, 1000, .inl (fun _ => 0))), (q_3, .inl (cJ, 1000, .inr (.inl (fun _ => 0))))]) (C := RX4) (T := TX4) (N := 5) (v := .ref q_3) hx hb hts inlX4 tyX4 tyX4_ok nmX4 hown hK hP hD hS 0 rfl rfl 3 (by decide) w_2_44 rfl hin rfl rfl rfl (Nat.le_of_ble_eq_true rfl) rfl dX4_init_33 (fun H locs hP hD hS => ?_)
  refine lv_aload_n hx hb dX4_init_36 rfl (lv_at hl 0 rfl) ?_
  refine lv_sipush (v := 1000) hx hb dX4_init_37 (by decide) ?_
  refine sk_newa (atype := .int) (ty := .int) (a0 := (1000, .inl (fun _ => 0))) (cA := cI) (k1 := 4) (n1 := 3020) hx hb hts w_1_49 rfl (fun _ _ h => h) 0 rfl hK hP hD hS hA (fun _ => vp_cell_i _ _ _) (by decide) (by decide) (Nat.le_of_ble_eq_true rfl) (Nat.le_of_ble_eq_true rfl) (Nat.le_of_ble_eq_true rfl) (Nat.le_of_ble_eq_true rfl) (Nat.le_of_ble_eq_true rfl) dX4_init_40 (fun q_4 H hP hD hS => ?_)
  have hP : va_P D vwCl [(h0, .inr (4, [.ref q_1, .int 0, .ref q_2, .ref q_3, .null])), (q_1, .inl (cS, 20, .inr (.inr (.inr (.inr (fun _ => none)))))), (q_2, .inl (cI, 1000, .inl (fun _ => 0))), (q_3, .inl (cJ, 1000, .inr (.inl (fun _ => 0)))), (q_4, .inl (cI, 1000, .inl (fun _ => 0)))] H := hP
  have hD : va_D A [(h0, .inr (4, [.ref q_1, .int 0, .ref q_2, .ref q_3, .null])), (q_1, .inl (cS, 20, .inr (.inr (.inr (.inr (fun _ => none)))))), (q_2, .inl (cI, 1000, .inl (fun _ => 0))), (q_3, .inl (cJ, 1000, .inr (.inl (fun _ => 0)))), (q_4, .inl (cI, 1000, .inl (fun _ => 0)))] := hD
  refine sk_putF (ws' := [(h0, .inr (4, [.ref q_1, .int 0, .ref q_2, .ref q_3, .ref q_4])), (q_1, .inl (cS, 20, .inr (.inr (.inr (.inr (fun _ => none)))))), (q_2, .inl (cI, 1000, .inl (fun _ => 0))), (q_3, .inl (cJ, 1000, .inr (.inl (fun _ => 0)))), (q_4, .inl (cI, 1000, .inl (fun _ => 0)))]) (C := RX4) (T := TX4) (N := 5) (v := .ref q_4) hx hb hts inlX4 tyX4 tyX4_ok nmX4 hown hK hP hD hS 0 rfl rfl 4 (by decide) w_2_45 rfl hin rfl rfl rfl (Nat.le_of_ble_eq_true rfl) rfl dX4_init_42 (fun H locs hP hD hS => ?_)
  refine lv_iconst (v := 0) hx hb dX4_init_45 (by decide) ?_
  refine lv_istore_n (lv' := [(1, .int 0), (0, .ref h0)]) hx hb dX4_init_46 rfl hl (by decide) rfl (fun ls hl => ?_)
  have hP := hP.sub (ws' := [(h0, .inr (4, [.ref q_1, .int 0, .ref q_2, .ref q_3, .ref q_4])), (q_1, .inl (cS, 20, .inr (.inr (.inr (.inr (fun _ => none))))))]) [0, 1] rfl
  have hD := hD.sub (ws' := [(h0, .inr (4, [.ref q_1, .int 0, .ref q_2, .ref q_3, .ref q_4])), (q_1, .inl (cS, 20, .inr (.inr (.inr (.inr (fun _ => none))))))]) [0, 1] (by decide) rfl
  refine lv_iload_n hx hb dX4_init_47 rfl (lv_at hl 0 rfl) ?_
  refine lv_bipush (v := 20) hx hb dX4_init_48 (by decide) ?_
  refine lv_icmp_ge (tgt := 72) hx hb dX4_init_50 (by decide) (fun c => absurd c (by decide)) (fun c_5 => ?_)
  refine lv_aload_n hx hb dX4_init_53 rfl (lv_at hl 1 rfl) ?_
  refine sk_get (v := .ref q_1) (C := RX4) (T := TX4) (N := 5) hx hb hts inlX4 hown hK hP 0 rfl rfl 0 (by decide) w_2_40 rfl dX4_init_54 ?_
  refine lv_iload_n hx hb dX4_init_57 rfl (lv_at hl 0 rfl) ?_
  refine sk_new (ci := 7) (fs := [.null, .null, .int 0, .int 0, .int 0, .int 0, .int 0]) (C := RX7) (T := TX7) (N := 7) (k1 := 5) (n1 := 3027) hx hb hts inlX7 tyX7 tyX7_ok hown w_2_37 w_1_225 w_1_10 hK hP hD hS hA rfl (fun j hj => by rcases (show j = 0 ∨ j = 1 ∨ j = 2 ∨ j = 3 ∨ j = 4 ∨ j = 5 ∨ j = 6 by omega) with rfl | rfl | rfl | rfl | rfl | rfl | rfl <;> rfl) (Nat.le_of_ble_eq_true rfl) (Nat.le_of_ble_eq_true rfl) (Nat.le_of_ble_eq_true rfl) (Nat.le_of_ble_eq_true rfl) dX4_init_58 (fun q_6 H hP hD hS => ?_)
  have hP : va_P D vwCl [(h0, .inr (4, [.ref q_1, .int 0, .ref q_2, .ref q_3, .ref q_4])), (q_1, .inl (cS, 20, .inr (.inr (.inr (.inr (fun _ => none)))))), (q_6, .inr (7, [.null, .null, .int 0, .int 0, .int 0, .int 0, .int 0]))] H := hP
  have hD : va_D A [(h0, .inr (4, [.ref q_1, .int 0, .ref q_2, .ref q_3, .ref q_4])), (q_1, .inl (cS, 20, .inr (.inr (.inr (.inr (fun _ => none)))))), (q_6, .inr (7, [.null, .null, .int 0, .int 0, .int 0, .int 0, .int 0]))] := hD
  refine lv_dup hx hb dX4_init_61 rfl ?_
  refine sk_INv (n := 0) (rest := [.ref q_6, .int 0, .ref q_1]) (wr := [(h0, .inr (4, [.ref q_1, .int 0, .ref q_2, .ref q_3, .ref q_4])), (q_1, .inl (cS, 20, .inr (.inr (.inr (.inr (fun _ => none))))))]) ⟨hx, hb, hml, hown, hts⟩ hl.1 (c_State_init l D cI cJ cC cZ cS q_6) hK.2.2.2.2.2.2.1 w_1_227 w_1_10 w_1_228 rfl (by decide +kernel) ⟨⟨(Nat.le_of_ble_eq_true rfl), (Nat.le_of_ble_eq_true rfl)⟩, (Nat.le_of_ble_eq_true rfl), (Nat.le_of_ble_eq_true rfl)⟩ hK hP hD hS hA [2] [0, 1] rfl rfl (by decide) (by decide) (by decide) rfl rfl (Nat.le_of_ble_eq_true rfl) dX4_init_62 (fun u H locs hw hP hD hS => ?_)
  obtain ⟨k1_7, k2_8, rfl⟩ := hw
  have hP : va_P D vwCl [(h0, .inr (4, [.ref q_1, .int 0, .ref q_2, .ref q_3, .ref q_4])), (q_1, .inl (cS, 20, .inr (.inr (.inr (.inr (fun _ => none)))))), (q_6, .inr (7, [.ref k1_7, .ref k2_8, .int 0, .int 0, .int 0, .int 0, .int 0]))] H := hP
  have hD : va_D A [(h0, .inr (4, [.ref q_1, .int 0, .ref q_2, .ref q_3, .ref q_4])), (q_1, .inl (cS, 20, .inr (.inr (.inr (.inr (fun _ => none)))))), (q_6, .inr (7, [.ref k1_7, .ref k2_8, .int 0, .int 0, .int 0, .int 0, .int 0]))] := hD
  refine W.widen (k := 7) (n := 3045) (Nat.le_of_ble_eq_true rfl) (Nat.le_of_ble_eq_true rfl) ?_
  refine sk_astO (ws' := fun f_9 => [(h0, .inr (4, [.ref q_1, .int 0, .ref q_2, .ref q_3, .ref q_4])), (q_1, .inl (cS, 20, .inr (.inr (.inr (.inr f_9))))), (q_6, .inr (7, [.ref k1_7, .ref k2_8, .int 0, .int 0, .int 0, .int 0, .int 0]))]) (r := (RX7, TX7, 7)) hx hb hK hP hD hS 1 4 2 7 rfl rfl rfl rfl (by unfold vp_in; decide) (fun _ => rfl) dX4_init_65 (fun f_9 H locs hP hD hS => ?_)
  refine lv_iinc (v := 1) (lv' := [(1, .int 1), (0, .ref h0)]) hx hb dX4_init_66 hl (k := 0) rfl (by decide) (by decide) rfl (fun ls hl => ?_)
  refine lv_goto (tgt := 47) hx hb dX4_init_69 (by decide) ?_
  have hP := hP.sub (ws' := [(h0, .inr (4, [.ref q_1, .int 0, .ref q_2, .ref q_3, .ref q_4])), (q_1, .inl (cS, 20, .inr (.inr (.inr (.inr f_9)))))]) [0, 1] rfl
  have hD := hD.sub (ws' := [(h0, .inr (4, [.ref q_1, .int 0, .ref q_2, .ref q_3, .ref q_4])), (q_1, .inl (cS, 20, .inr (.inr (.inr (.inr f_9)))))]) [0, 1] (by decide) rfl
  refine lv_iload_n hx hb dX4_init_47 rfl (lv_at hl 0 rfl) ?_
  refine lv_bipush (v := 20) hx hb dX4_init_48 (by decide) ?_
  refine lv_icmp_ge (tgt := 72) hx hb dX4_init_50 (by decide) (fun c => absurd c (by decide)) (fun c_10 => ?_)
  refine lv_aload_n hx hb dX4_init_53 rfl (lv_at hl 1 rfl) ?_
  refine sk_get (v := .ref q_1) (C := RX4) (T := TX4) (N := 5) hx hb hts inlX4 hown hK hP 0 rfl rfl 0 (by decide) w_2_40 rfl dX4_init_54 ?_
  refine lv_iload_n hx hb dX4_init_57 rfl (lv_at hl 0 rfl) ?_
  refine sk_new (ci := 7) (fs := [.null, .null, .int 0, .int 0, .int 0, .int 0, .int 0]) (C := RX7) (T := TX7) (N := 7) (k1 := 8) (n1 := 3052) hx hb hts inlX7 tyX7 tyX7_ok hown w_2_37 w_1_225 w_1_10 hK hP hD hS hA rfl (fun j hj => by rcases (show j = 0 ∨ j = 1 ∨ j = 2 ∨ j = 3 ∨ j = 4 ∨ j = 5 ∨ j = 6 by omega) with rfl | rfl | rfl | rfl | rfl | rfl | rfl <;> rfl) (Nat.le_of_ble_eq_true rfl) (Nat.le_of_ble_eq_true rfl) (Nat.le_of_ble_eq_true rfl) (Nat.le_of_ble_eq_true rfl) dX4_init_58 (fun q_11 H hP hD hS => ?_)
  have hP : va_P D vwCl [(h0, .inr (4, [.ref q_1, .int 0, .ref q_2, .ref q_3, .ref q_4])), (q_1, .inl (cS, 20, .inr (.inr (.inr (.inr f_9))))), (q_11, .inr (7, [.null, .null, .int 0, .int 0, .int 0, .int 0, .int 0]))] H := hP
  have hD : va_D A [(h0, .inr (4, [.ref q_1, .int 0, .ref q_2, .ref q_3, .ref q_4])), (q_1, .inl (cS, 20, .inr (.inr (.inr (.inr f_9))))), (q_11, .inr (7, [.null, .null, .int 0, .int 0, .int 0, .int 0, .int 0]))] := hD
  refine lv_dup hx hb dX4_init_61 rfl ?_
  refine sk_INv (n := 0) (rest := [.ref q_11, .int 1, .ref q_1]) (wr := [(h0, .inr (4, [.ref q_1, .int 0, .ref q_2, .ref q_3, .ref q_4])), (q_1, .inl (cS, 20, .inr (.inr (.inr (.inr f_9)))))]) ⟨hx, hb, hml, hown, hts⟩ hl.1 (c_State_init l D cI cJ cC cZ cS q_11) hK.2.2.2.2.2.2.1 w_1_227 w_1_10 w_1_228 rfl (by decide +kernel) ⟨⟨(Nat.le_of_ble_eq_true rfl), (Nat.le_of_ble_eq_true rfl)⟩, (Nat.le_of_ble_eq_true rfl), (Nat.le_of_ble_eq_true rfl)⟩ hK hP hD hS hA [2] [0, 1] rfl rfl (by decide) (by decide) (by decide) rfl rfl (Nat.le_of_ble_eq_true rfl) dX4_init_62 (fun u H locs hw hP hD hS => ?_)
  obtain ⟨k1_12, k2_13, rfl⟩ := hw
  have hP : va_P D vwCl [(h0, .inr (4, [.ref q_1, .int 0, .ref q_2, .ref q_3, .ref q_4])), (q_1, .inl (cS, 20, .inr (.inr (.inr (.inr f_9))))), (q_11, .inr (7, [.ref k1_12, .ref k2_13, .int 0, .int 0, .int 0, .int 0, .int 0]))] H := hP
  have hD : va_D A [(h0, .inr (4, [.ref q_1, .int 0, .ref q_2, .ref q_3, .ref q_4])), (q_1, .inl (cS, 20, .inr (.inr (.inr (.inr f_9))))), (q_11, .inr (7, [.ref k1_12, .ref k2_13, .int 0, .int 0, .int 0, .int 0, .int 0]))] := hD
  refine W.widen (k := 10) (n := 3070) (Nat.le_of_ble_eq_true rfl) (Nat.le_of_ble_eq_true rfl) ?_
  refine sk_astO (ws' := fun f_14 => [(h0, .inr (4, [.ref q_1, .int 0, .ref q_2, .ref q_3, .ref q_4])), (q_1, .inl (cS, 20, .inr (.inr (.inr (.inr f_14))))), (q_11, .inr (7, [.ref k1_12, .ref k2_13, .int 0, .int 0, .int 0, .int 0, .int 0]))]) (r := (RX7, TX7, 7)) hx hb hK hP hD hS 1 4 2 7 rfl rfl rfl rfl (by unfold vp_in; decide) (fun _ => rfl) dX4_init_65 (fun f_14 H locs hP hD hS => ?_)
  refine lv_iinc (v := 2) (lv' := [(1, .int 2), (0, .ref h0)]) hx hb dX4_init_66 hl (k := 0) rfl (by decide) (by decide) rfl (fun ls hl => ?_)
  refine lv_goto (tgt := 47) hx hb dX4_init_69 (by decide) ?_
  have hP := hP.sub (ws' := [(h0, .inr (4, [.ref q_1, .int 0, .ref q_2, .ref q_3, .ref q_4])), (q_1, .inl (cS, 20, .inr (.inr (.inr (.inr f_14)))))]) [0, 1] rfl
  have hD := hD.sub (ws' := [(h0, .inr (4, [.ref q_1, .int 0, .ref q_2, .ref q_3, .ref q_4])), (q_1, .inl (cS, 20, .inr (.inr (.inr (.inr f_14)))))]) [0, 1] (by decide) rfl
  refine lv_iload_n hx hb dX4_init_47 rfl (lv_at hl 0 rfl) ?_
  refine lv_bipush (v := 20) hx hb dX4_init_48 (by decide) ?_
  refine lv_icmp_ge (tgt := 72) hx hb dX4_init_50 (by decide) (fun c => absurd c (by decide)) (fun c_15 => ?_)
  refine lv_aload_n hx hb dX4_init_53 rfl (lv_at hl 1 rfl) ?_
  refine sk_get (v := .ref q_1) (C := RX4) (T := TX4) (N := 5) hx hb hts inlX4 hown hK hP 0 rfl rfl 0 (by decide) w_2_40 rfl dX4_init_54 ?_
  refine lv_iload_n hx hb dX4_init_57 rfl (lv_at hl 0 rfl) ?_
  refine sk_new (ci := 7) (fs := [.null, .null, .int 0, .int 0, .int 0, .int 0, .int 0]) (C := RX7) (T := TX7) (N := 7) (k1 := 11) (n1 := 3077) hx hb hts inlX7 tyX7 tyX7_ok hown w_2_37 w_1_225 w_1_10 hK hP hD hS hA rfl (fun j hj => by rcases (show j = 0 ∨ j = 1 ∨ j = 2 ∨ j = 3 ∨ j = 4 ∨ j = 5 ∨ j = 6 by omega) with rfl | rfl | rfl | rfl | rfl | rfl | rfl <;> rfl) (Nat.le_of_ble_eq_true rfl) (Nat.le_of_ble_eq_true rfl) (Nat.le_of_ble_eq_true rfl) (Nat.le_of_ble_eq_true rfl) dX4_init_58 (fun q_16 H hP hD hS => ?_)
  have hP : va_P D vwCl [(h0, .inr (4, [.ref q_1, .int 0, .ref q_2, .ref q_3, .ref q_4])), (q_1, .inl (cS, 20, .inr (.inr (.inr (.inr f_14))))), (q_16, .inr (7, [.null, .null, .int 0, .int 0, .int 0, .int 0, .int 0]))] H := hP
  have hD : va_D A [(h0, .inr (4, [.ref q_1, .int 0, .ref q_2, .ref q_3, .ref q_4])), (q_1, .inl (cS, 20, .inr (.inr (.inr (.inr f_14))))), (q_16, .inr (7, [.null, .null, .int 0, .int 0, .int 0, .int 0, .int 0]))] := hD
  refine lv_dup hx hb dX4_init_61 rfl ?_
  refine sk_INv (n := 0) (rest := [.ref q_16, .int 2, .ref q_1]) (wr := [(h0, .inr (4, [.ref q_1, .int 0, .ref q_2, .ref q_3, .ref q_4])), (q_1, .inl (cS, 20, .inr (.inr (.inr (.inr f_14)))))]) ⟨hx, hb, hml, hown, hts⟩ hl.1 (c_State_init l D cI cJ cC cZ cS q_16) hK.2.2.2.2.2.2.1 w_1_227 w_1_10 w_1_228 rfl (by decide +kernel) ⟨⟨(Nat.le_of_ble_eq_true rfl), (Nat.le_of_ble_eq_true rfl)⟩, (Nat.le_of_ble_eq_true rfl), (Nat.le_of_ble_eq_true rfl)⟩ hK hP hD hS hA [2] [0, 1] rfl rfl (by decide) (by decide) (by decide) rfl rfl (Nat.le_of_ble_eq_true rfl) dX4_init_62 (fun u H locs hw hP hD hS => ?_)
  obtain ⟨k1_17, k2_18, rfl⟩ := hw
  have hP : va_P D vwCl [(h0, .inr (4, [.ref q_1, .int 0, .ref q_2, .ref q_3, .ref q_4])), (q_1, .inl (cS, 20, .inr (.inr (.inr (.inr f_14))))), (q_16, .inr (7, [.ref k1_17, .ref k2_18, .int 0, .int 0, .int 0, .int 0, .int 0]))] H := hP
  have hD : va_D A [(h0, .inr (4, [.ref q_1, .int 0, .ref q_2, .ref q_3, .ref q_4])), (q_1, .inl (cS, 20, .inr (.inr (.inr (.inr f_14))))), (q_16, .inr (7, [.ref k1_17, .ref k2_18, .int 0, .int 0, .int 0, .int 0, .int 0]))] := hD
  refine W.widen (k := 13) (n := 3095) (Nat.le_of_ble_eq_true rfl) (Nat.le_of_ble_eq_true rfl) ?_
  refine sk_astO (ws' := fun f_19 => [(h0, .inr (4, [.ref q_1, .int 0, .ref q_2, .ref q_3, .ref q_4])), (q_1, .inl (cS, 20, .inr (.inr (.inr (.inr f_19))))), (q_16, .inr (7, [.ref k1_17, .ref k2_18, .int 0, .int 0, .int 0, .int 0, .int 0]))]) (r := (RX7, TX7, 7)) hx hb hK hP hD hS 1 4 2 7 rfl rfl rfl rfl (by unfold vp_in; decide) (fun _ => rfl) dX4_init_65 (fun f_19 H locs hP hD hS => ?_)
  refine lv_iinc (v := 3) (lv' := [(1, .int 3), (0, .ref h0)]) hx hb dX4_init_66 hl (k := 0) rfl (by decide) (by decide) rfl (fun ls hl => ?_)
  refine lv_goto (tgt := 47) hx hb dX4_init_69 (by decide) ?_
  have hP := hP.sub (ws' := [(h0, .inr (4, [.ref q_1, .int 0, .ref q_2, .ref q_3, .ref q_4])), (q_1, .inl (cS, 20, .inr (.inr (.inr (.inr f_19)))))]) [0, 1] rfl
  have hD := hD.sub (ws' := [(h0, .inr (4, [.ref q_1, .int 0, .ref q_2, .ref q_3, .ref q_4])), (q_1, .inl (cS, 20, .inr (.inr (.inr (.inr f_19)))))]) [0, 1] (by decide) rfl
  refine lv_iload_n hx hb dX4_init_47 rfl (lv_at hl 0 rfl) ?_
  refine lv_bipush (v := 20) hx hb dX4_init_48 (by decide) ?_
  refine lv_icmp_ge (tgt := 72) hx hb dX4_init_50 (by decide) (fun c => absurd c (by decide)) (fun c_20 => ?_)
  refine lv_aload_n hx hb dX4_init_53 rfl (lv_at hl 1 rfl) ?_
  refine sk_get (v := .ref q_1) (C := RX4) (T := TX4) (N := 5) hx hb hts inlX4 hown hK hP 0 rfl rfl 0 (by decide) w_2_40 rfl dX4_init_54 ?_
  refine lv_iload_n hx hb dX4_init_57 rfl (lv_at hl 0 rfl) ?_
  refine sk_new (ci := 7) (fs := [.null, .null, .int 0, .int 0, .int 0, .int 0, .int 0]) (C := RX7) (T := TX7) (N := 7) (k1 := 14) (n1 := 3102) hx hb hts inlX7 tyX7 tyX7_ok hown w_2_37 w_1_225 w_1_10 hK hP hD hS hA rfl (fun j hj => by rcases (show j = 0 ∨ j = 1 ∨ j = 2 ∨ j = 3 ∨ j = 4 ∨ j = 5 ∨ j = 6 by omega) with rfl | rfl | rfl | rfl | rfl | rfl | rfl <;> rfl) (Nat.le_of_ble_eq_true rfl) (Nat.le_of_ble_eq_true rfl) (Nat.le_of_ble_eq_true rfl) (Nat.le_of_ble_eq_true rfl) dX4_init_58 (fun q_21 H hP hD hS => ?_)
  have hP : va_P D vwCl [(h0, .inr (4, [.ref q_1, .int 0, .ref q_2, .ref q_3, .ref q_4])), (q_1, .inl (cS, 20, .inr (.inr (.inr (.inr f_19))))), (q_21, .inr (7, [.null, .null, .int 0, .int 0, .int 0, .int 0, .int 0]))] H := hP
  have hD : va_D A [(h0, .inr (4, [.ref q_1, .int 0, .ref q_2, .ref q_3, .ref q_4])), (q_1, .inl (cS, 20, .inr (.inr (.inr (.inr f_19))))), (q_21, .inr (7, [.null, .null, .int 0, .int 0, .int 0, .int 0, .int 0]))] := hD
  refine lv_dup hx hb dX4_init_61 rfl ?_
  refine sk_INv (n := 0) (rest := [.ref q_21, .int 3, .ref q_1]) (wr := [(h0, .inr (4, [.ref q_1, .int 0, .ref q_2, .ref q_3, .ref q_4])), (q_1, .inl (cS, 20, .inr (.inr (.inr (.inr f_19)))))]) ⟨hx, hb, hml, hown, hts⟩ hl.1 (c_State_init l D cI cJ cC cZ cS q_21) hK.2.2.2.2.2.2.1 w_1_227 w_1_10 w_1_228 rfl (by decide +kernel) ⟨⟨(Nat.le_of_ble_eq_true rfl), (Nat.le_of_ble_eq_true rfl)⟩, (Nat.le_of_ble_eq_true rfl), (Nat.le_of_ble_eq_true rfl)⟩ hK hP hD hS hA [2] [0, 1] rfl rfl (by decide) (by decide) (by decide) rfl rfl (Nat.le_of_ble_eq_true rfl) dX4_init_62 (fun u H locs hw hP hD hS => ?_)
  obtain ⟨k1_22, k2_23, rfl⟩ := hw
  have hP : va_P D vwCl [(h0, .inr (4, [.ref q_1, .int 0, .ref q_2, .ref q_3, .ref q_4])), (q_1, .inl (cS, 20, .inr (.inr (.inr (.inr f_19))))), (q_21, .inr (7, [.ref k1_22, .ref k2_23, .int 0, .int 0, .int 0, .int 0, .int 0]))] H := hP
  have hD : va_D A [(h0, .inr (4, [.ref q_1, .int 0, .ref q_2, .ref q_3, .ref q_4])), (q_1, .inl (cS, 20, .inr (.inr (.inr (.inr f_19))))), (q_21, .inr (7, [.ref k1_22, .ref k2_23, .int 0, .int 0, .int 0, .int 0, .int 0]))] := hD
  refine W.widen (k := 16) (n := 3120) (Nat.le_of_ble_eq_true rfl) (Nat.le_of_ble_eq_true rfl) ?_
  refine sk_astO (ws' := fun f_24 => [(h0, .inr (4, [.ref q_1, .int 0, .ref q_2, .ref q_3, .ref q_4])), (q_1, .inl (cS, 20, .inr (.inr (.inr (.inr f_24))))), (q_21, .inr (7, [.ref k1_22, .ref k2_23, .int 0, .int 0, .int 0, .int 0, .int 0]))]) (r := (RX7, TX7, 7)) hx hb hK hP hD hS 1 4 2 7 rfl rfl rfl rfl (by unfold vp_in; decide) (fun _ => rfl) dX4_init_65 (fun f_24 H locs hP hD hS => ?_)
  refine lv_iinc (v := 4) (lv' := [(1, .int 4), (0, .ref h0)]) hx hb dX4_init_66 hl (k := 0) rfl (by decide) (by decide) rfl (fun ls hl => ?_)
  refine lv_goto (tgt := 47) hx hb dX4_init_69 (by decide) ?_
  have hP := hP.sub (ws' := [(h0, .inr (4, [.ref q_1, .int 0, .ref q_2, .ref q_3, .ref q_4])), (q_1, .inl (cS, 20, .inr (.inr (.inr (.inr f_24)))))]) [0, 1] rfl
  have hD := hD.sub (ws' := [(h0, .inr (4, [.ref q_1, .int 0, .ref q_2, .ref q_3, .ref q_4])), (q_1, .inl (cS, 20, .inr (.inr (.inr (.inr f_24)))))]) [0, 1] (by decide) rfl
  refine lv_iload_n hx hb dX4_init_47 rfl (lv_at hl 0 rfl) ?_
  refine lv_bipush (v := 20) hx hb dX4_init_48 (by decide) ?_
  refine lv_icmp_ge (tgt := 72) hx hb dX4_init_50 (by decide) (fun c => absurd c (by decide)) (fun c_25 => ?_)
  refine lv_aload_n hx hb dX4_init_53 rfl (lv_at hl 1 rfl) ?_
  refine sk_get (v := .ref q_1) (C := RX4) (T := TX4) (N := 5) hx hb hts inlX4 hown hK hP 0 rfl rfl 0 (by decide) w_2_40 rfl dX4_init_54 ?_
  refine lv_iload_n hx hb dX4_init_57 rfl (lv_at hl 0 rfl) ?_
  refine sk_new (ci := 7) (fs := [.null, .null, .int 0, .int 0, .int 0, .int 0, .int 0]) (C := RX7) (T := TX7) (N := 7) (k1 := 17) (n1 := 3127) hx hb hts inlX7 tyX7 tyX7_ok hown w_2_37 w_1_225 w_1_10 hK hP hD hS hA rfl (fun j hj => by rcases (show j = 0 ∨ j = 1 ∨ j = 2 ∨ j = 3 ∨ j = 4 ∨ j = 5 ∨ j = 6 by omega) with rfl | rfl | rfl | rfl | rfl | rfl | rfl <;> rfl) (Nat.le_of_ble_eq_true rfl) (Nat.le_of_ble_eq_true rfl) (Nat.le_of_ble_eq_true rfl) (Nat.le_of_ble_eq_true rfl) dX4_init_58 (fun q_26 H hP hD hS => ?_)
  have hP : va_P D vwCl [(h0, .inr (4, [.ref q_1, .int 0, .ref q_2, .ref q_3, .ref q_4])), (q_1, .inl (cS, 20, .inr (.inr (.inr (.inr f_24))))), (q_26, .inr (7, [.null, .null, .int 0, .int 0, .int 0, .int 0, .int 0]))] H := hP
  have hD : va_D A [(h0, .inr (4, [.ref q_1, .int 0, .ref q_2, .ref q_3, .ref q_4])), (q_1, .inl (cS, 20, .inr (.inr (.inr (.inr f_24))))), (q_26, .inr (7, [.null, .null, .int 0, .int 0, .int 0, .int 0, .int 0]))] := hD
  refine lv_dup hx hb dX4_init_61 rfl ?_
  refine sk_INv (n := 0) (rest := [.ref q_26, .int 4, .ref q_1]) (wr := [(h0, .inr (4, [.ref q_1, .int 0, .ref q_2, .ref q_3, .ref q_4])), (q_1, .inl (cS, 20, .inr (.inr (.inr (.inr f_24)))))]) ⟨hx, hb, hml, hown, hts⟩ hl.1 (c_State_init l D cI cJ cC cZ cS q_26) hK.2.2.2.2.2.2.1 w_1_227 w_1_10 w_1_228 rfl (by decide +kernel) ⟨⟨(Nat.le_of_ble_eq_true rfl), (Nat.le_of_ble_eq_true rfl)⟩, (Nat.le_of_ble_eq_true rfl), (Nat.le_of_ble_eq_true rfl)⟩ hK hP hD hS hA [2] [0, 1] rfl rfl (by decide) (by decide) (by decide) rfl rfl (Nat.le_of_ble_eq_true rfl) dX4_init_62 (fun u H locs hw hP hD hS => ?_)
  obtain ⟨k1_27, k2_28, rfl⟩ := hw
  have hP : va_P D vwCl [(h0, .inr (4, [.ref q_1, .int 0, .ref q_2, .ref q_3, .ref q_4])), (q_1, .inl (cS, 20, .inr (.inr (.inr (.inr f_24))))), (q_26, .inr (7, [.ref k1_27, .ref k2_28, .int 0, .int 0, .int 0, .int 0, .int 0]))] H := hP
  have hD : va_D A [(h0, .inr (4, [.ref q_1, .int 0, .ref q_2, .ref q_3, .ref q_4])), (q_1, .inl (cS, 20, .inr (.inr (.inr (.inr f_24))))), (q_26, .inr (7, [.ref k1_27, .ref k2_28, .int 0, .int 0, .int 0, .int 0, .int 0]))] := hD
  refine W.widen (k := 19) (n := 3145) (Nat.le_of_ble_eq_true rfl) (Nat.le_of_ble_eq_true rfl) ?_
  refine sk_astO (ws' := fun f_29 => [(h0, .inr (4, [.ref q_1, .int 0, .ref q_2, .ref q_3, .ref q_4])), (q_1, .inl (cS, 20, .inr (.inr (.inr (.inr f_29))))), (q_26, .inr (7, [.ref k1_27, .ref k2_28, .int 0, .int 0, .int 0, .int 0, .int 0]))]) (r := (RX7, TX7, 7)) hx hb hK hP hD hS 1 4 2 7 rfl rfl rfl rfl (by unfold vp_in; decide) (fun _ => rfl) dX4_init_65 (fun f_29 H locs hP hD hS => ?_)
  refine lv_iinc (v := 5) (lv' := [(1, .int 5), (0, .ref h0)]) hx hb dX4_init_66 hl (k := 0) rfl (by decide) (by decide) rfl (fun ls hl => ?_)
  refine lv_goto (tgt := 47) hx hb dX4_init_69 (by decide) ?_
  have hP := hP.sub (ws' := [(h0, .inr (4, [.ref q_1, .int 0, .ref q_2, .ref q_3, .ref q_4])), (q_1, .inl (cS, 20, .inr (.inr (.inr (.inr f_29)))))]) [0, 1] rfl
  have hD := hD.sub (ws' := [(h0, .inr (4, [.ref q_1, .int 0, .ref q_2, .ref q_3, .ref q_4])), (q_1, .inl (cS, 20, .inr (.inr (.inr (.inr f_29)))))]) [0, 1] (by decide) rfl
  refine lv_iload_n hx hb dX4_init_47 rfl (lv_at hl 0 rfl) ?_
  refine lv_bipush (v := 20) hx hb dX4_init_48 (by decide) ?_
  refine lv_icmp_ge (tgt := 72) hx hb dX4_init_50 (by decide) (fun c => absurd c (by decide)) (fun c_30 => ?_)
  refine lv_aload_n hx hb dX4_init_53 rfl (lv_at hl 1 rfl) ?_
  refine sk_get (v := .ref q_1) (C := RX4) (T := TX4) (N := 5) hx hb hts inlX4 hown hK hP 0 rfl rfl 0 (by decide) w_2_40 rfl dX4_init_54 ?_
  refine lv_iload_n hx hb dX4_init_57 rfl (lv_at hl 0 rfl) ?_
  refine sk_new (ci := 7) (fs := [.null, .null, .int 0, .int 0, .int 0, .int 0, .int 0]) (C := RX7) (T := TX7) (N := 7) (k1 := 20) (n1 := 3152) hx hb hts inlX7 tyX7 tyX7_ok hown w_2_37 w_1_225 w_1_10 hK hP hD hS hA rfl (fun j hj => by rcases (show j = 0 ∨ j = 1 ∨ j = 2 ∨ j = 3 ∨ j = 4 ∨ j = 5 ∨ j = 6 by omega) with rfl | rfl | rfl | rfl | rfl | rfl | rfl <;> rfl) (Nat.le_of_ble_eq_true rfl) (Nat.le_of_ble_eq_true rfl) (Nat.le_of_ble_eq_true rfl) (Nat.le_of_ble_eq_true rfl) dX4_init_58 (fun q_31 H hP hD hS => ?_)
  have hP : va_P D vwCl [(h0, .inr (4, [.ref q_1, .int 0, .ref q_2, .ref q_3, .ref q_4])), (q_1, .inl (cS, 20, .inr (.inr (.inr (.inr f_29))))), (q_31, .inr (7, [.null, .null, .int 0, .int 0, .int 0, .int 0, .int 0]))] H := hP
  have hD : va_D A [(h0, .inr (4, [.ref q_1, .int 0, .ref q_2, .ref q_3, .ref q_4])), (q_1, .inl (cS, 20, .inr (.inr (.inr (.inr f_29))))), (q_31, .inr (7, [.null, .null, .int 0, .int 0, .int 0, .int 0, .int 0]))] := hD
  refine lv_dup hx hb dX4_init_61 rfl ?_
  refine sk_INv (n := 0) (rest := [.ref q_31, .int 5, .ref q_1]) (wr := [(h0, .inr (4, [.ref q_1, .int 0, .ref q_2, .ref q_3, .ref q_4])), (q_1, .inl (cS, 20, .inr (.inr (.inr (.inr f_29)))))]) ⟨hx, hb, hml, hown, hts⟩ hl.1 (c_State_init l D cI cJ cC cZ cS q_31) hK.2.2.2.2.2.2.1 w_1_227 w_1_10 w_1_228 rfl (by decide +kernel) ⟨⟨(Nat.le_of_ble_eq_true rfl), (Nat.le_of_ble_eq_true rfl)⟩, (Nat.le_of_ble_eq_true rfl), (Nat.le_of_ble_eq_true rfl)⟩ hK hP hD hS hA [2] [0, 1] rfl rfl (by decide) (by decide) (by decide) rfl rfl (Nat.le_of_ble_eq_true rfl) dX4_init_62 (fun u H locs hw hP hD hS => ?_)
  obtain ⟨k1_32, k2_33, rfl⟩ := hw
  have hP : va_P D vwCl [(h0, .inr (4, [.ref q_1, .int 0, .ref q_2, .ref q_3, .ref q_4])), (q_1, .inl (cS, 20, .inr (.inr (.inr (.inr f_29))))), (q_31, .inr (7, [.ref k1_32, .ref k2_33, .int 0, .int 0, .int 0, .int 0, .int 0]))] H := hP
  have hD : va_D A [(h0, .inr (4, [.ref q_1, .int 0, .ref q_2, .ref q_3, .ref q_4])), (q_1, .inl (cS, 20, .inr (.inr (.inr (.inr f_29))))), (q_31, .inr (7, [.ref k1_32, .ref k2_33, .int 0, .int 0, .int 0, .int 0, .int 0]))] := hD
  refine W.widen (k := 22) (n := 3170) (Nat.le_of_ble_eq_true rfl) (Nat.le_of_ble_eq_true rfl) ?_
  refine sk_astO (ws' := fun f_34 => [(h0, .inr (4, [.ref q_1, .int 0, .ref q_2, .ref q_3, .ref q_4])), (q_1, .inl (cS, 20, .inr (.inr (.inr (.inr f_34))))), (q_31, .inr (7, [.ref k1_32, .ref k2_33, .int 0, .int 0, .int 0, .int 0, .int 0]))]) (r := (RX7, TX7, 7)) hx hb hK hP hD hS 1 4 2 7 rfl rfl rfl rfl (by unfold vp_in; decide) (fun _ => rfl) dX4_init_65 (fun f_34 H locs hP hD hS => ?_)
  refine lv_iinc (v := 6) (lv' := [(1, .int 6), (0, .ref h0)]) hx hb dX4_init_66 hl (k := 0) rfl (by decide) (by decide) rfl (fun ls hl => ?_)
  refine lv_goto (tgt := 47) hx hb dX4_init_69 (by decide) ?_
  have hP := hP.sub (ws' := [(h0, .inr (4, [.ref q_1, .int 0, .ref q_2, .ref q_3, .ref q_4])), (q_1, .inl (cS, 20, .inr (.inr (.inr (.inr f_34)))))]) [0, 1] rfl
  have hD := hD.sub (ws' := [(h0, .inr (4, [.ref q_1, .int 0, .ref q_2, .ref q_3, .ref q_4])), (q_1, .inl (cS, 20, .inr (.inr (.inr (.inr f_34)))))]) [0, 1] (by decide) rfl
  refine lv_iload_n hx hb dX4_init_47 rfl (lv_at hl 0 rfl) ?_
  refine lv_bipush (v := 20) hx hb dX4_init_48 (by decide) ?_
  refine lv_icmp_ge (tgt := 72) hx hb dX4_init_50 (by decide) (fun c => absurd c (by decide)) (fun c_35 => ?_)
  refine lv_aload_n hx hb dX4_init_53 rfl (lv_at hl 1 rfl) ?_
  refine sk_get (v := .ref q_1) (C := RX4) (T := TX4) (N := 5) hx hb hts inlX4 hown hK hP 0 rfl rfl 0 (by decide) w_2_40 rfl dX4_init_54 ?_
  refine lv_iload_n hx hb dX4_init_57 rfl (lv_at hl 0 rfl) ?_
  refine sk_new (ci := 7) (fs := [.null, .null, .int 0, .int 0, .int 0, .int 0, .int 0]) (C := RX7) (T := TX7) (N := 7) (k1 := 23) (n1 := 3177) hx hb hts inlX7 tyX7 tyX7_ok hown w_2_37 w_1_225 w_1_10 hK hP hD hS hA rfl (fun j hj => by rcases (show j = 0 ∨ j = 1 ∨ j = 2 ∨ j = 3 ∨ j = 4 ∨ j = 5 ∨ j = 6 by omega) with rfl | rfl | rfl | rfl | rfl | rfl | rfl <;> rfl) (Nat.le_of_ble_eq_true rfl) (Nat.le_of_ble_eq_true rfl) (Nat.le_of_ble_eq_true rfl) (Nat.le_of_ble_eq_true rfl) dX4_init_58 (fun q_36 H hP hD hS => ?_)
  have hP : va_P D vwCl [(h0, .inr (4, [.ref q_1, .int 0, .ref q_2, .ref q_3, .ref q_4])), (q_1, .inl (cS, 20, .inr (.inr (.inr (.inr f_34))))), (q_36, .inr (7, [.null, .null, .int 0, .int 0, .int 0, .int 0, .int 0]))] H := hP
  have hD : va_D A [(h0, .inr (4, [.ref q_1, .int 0, .ref q_2, .ref q_3, .ref q_4])), (q_1, .inl (cS, 20, .inr (.inr (.inr (.inr f_34))))), (q_36, .inr (7, [.null, .null, .int 0, .int 0, .int 0, .int 0, .int 0]))] := hD
  refine lv_dup hx hb dX4_init_61 rfl ?_
  refine sk_INv (n := 0) (rest := [.ref q_36, .int 6, .ref q_1]) (wr := [(h0, .inr (4, [.ref q_1, .int 0, .ref q_2, .ref q_3, .ref q_4])), (q_1, .inl (cS, 20, .inr (.inr (.inr (.inr f_34)))))]) ⟨hx, hb, hml, hown, hts⟩ hl.1 (c_State_init l D cI cJ cC cZ cS q_36) hK.2.2.2.2.2.2.1 w_1_227 w_1_10 w_1_228 rfl (by decide +kernel) ⟨⟨(Nat.le_of_ble_eq_true rfl), (Nat.le_of_ble_eq_true rfl)⟩, (Nat.le_of_ble_eq_true rfl), (Nat.le_of_ble_eq_true rfl)⟩ hK hP hD hS hA [2] [0, 1] rfl rfl (by decide) (by decide) (by decide) rfl rfl (Nat.le_of_ble_eq_true rfl) dX4_init_62 (fun u H locs hw hP hD hS => ?_)
  obtain ⟨k1_37, k2_38, rfl⟩ := hw
  have hP : va_P D vwCl [(h0, .inr (4, [.ref q_1, .int 0, .ref q_2, .ref q_3, .ref q_4])), (q_1, .inl (cS, 20, .inr (.inr (.inr (.inr f_34))))), (q_36, .inr (7, [.ref k1_37, .ref k2_38, .int 0, .int 0, .int 0, .int 0, .int 0]))] H := hP
  have hD : va_D A [(h0, .inr (4, [.ref q_1, .int 0, .ref q_2, .ref q_3, .ref q_4])), (q_1, .inl (cS, 20, .inr (.inr (.inr (.inr f_34))))), (q_36, .inr (7, [.ref k1_37, .ref k2_38, .int 0, .int 0, .int 0, .int 0, .int 0]))] := hD
  refine W.widen (k := 25) (n := 3195) (Nat.le_of_ble_eq_true rfl) (Nat.le_of_ble_eq_true rfl) ?_
  refine sk_astO (ws' := fun f_39 => [(h0, .inr (4, [.ref q_1, .int 0, .ref q_2, .ref q_3, .ref q_4])), (q_1, .inl (cS, 20, .inr (.inr (.inr (.inr f_39))))), (q_36, .inr (7, [.ref k1_37, .ref k2_38, .int 0, .int 0, .int 0, .int 0, .int 0]))]) (r := (RX7, TX7, 7)) hx hb hK hP hD hS 1 4 2 7 rfl rfl rfl rfl (by unfold vp_in; decide) (fun _ => rfl) dX4_init_65 (fun f_39 H locs hP hD hS => ?_)
  refine lv_iinc (v := 7) (lv' := [(1, .int 7), (0, .ref h0)]) hx hb dX4_init_66 hl (k := 0) rfl (by decide) (by decide) rfl (fun ls hl => ?_)
  refine lv_goto (tgt := 47) hx hb dX4_init_69 (by decide) ?_
  have hP := hP.sub (ws' := [(h0, .inr (4, [.ref q_1, .int 0, .ref q_2, .ref q_3, .ref q_4])), (q_1, .inl (cS, 20, .inr (.inr (.inr (.inr f_39)))))]) [0, 1] rfl
  have hD := hD.sub (ws' := [(h0, .inr (4, [.ref q_1, .int 0, .ref q_2, .ref q_3, .ref q_4])), (q_1, .inl (cS, 20, .inr (.inr (.inr (.inr f_39)))))]) [0, 1] (by decide) rfl
  refine lv_iload_n hx hb dX4_init_47 rfl (lv_at hl 0 rfl) ?_
  refine lv_bipush (v := 20) hx hb dX4_init_48 (by decide) ?_
  refine lv_icmp_ge (tgt := 72) hx hb dX4_init_50 (by decide) (fun c => absurd c (by decide)) (fun c_40 => ?_)
  refine lv_aload_n hx hb dX4_init_53 rfl (lv_at hl 1 rfl) ?_
  refine sk_get (v := .ref q_1) (C := RX4) (T := TX4) (N := 5) hx hb hts inlX4 hown hK hP 0 rfl rfl 0 (by decide) w_2_40 rfl dX4_init_54 ?_
  refine lv_iload_n hx hb dX4_init_57 rfl (lv_at hl 0 rfl) ?_
  refine sk_new (ci := 7) (fs := [.null, .null, .int 0, .int 0, .int 0, .int 0, .int 0]) (C := RX7) (T := TX7) (N := 7) (k1 := 26) (n1 := 3202) hx hb hts inlX7 tyX7 tyX7_ok hown w_2_37 w_1_225 w_1_10 hK hP hD hS hA rfl (fun j hj => by rcases (show j = 0 ∨ j = 1 ∨ j = 2 ∨ j = 3 ∨ j = 4 ∨ j = 5 ∨ j = 6 by omega) with rfl | rfl | rfl | rfl | rfl | rfl | rfl <;> rfl) (Nat.le_of_ble_eq_true rfl) (Nat.le_of_ble_eq_true rfl) (Nat.le_of_ble_eq_true rfl) (Nat.le_of_ble_eq_true rfl) dX4_init_58 (fun q_41 H hP hD hS => ?_)
  have hP : va_P D vwCl [(h0, .inr (4, [.ref q_1, .int 0, .ref q_2, .ref q_3, .ref q_4])), (q_1, .inl (cS, 20, .inr (.inr (.inr (.inr f_39))))), (q_41, .inr (7, [.null, .null, .int 0, .int 0, .int 0, .int 0, .int 0]))] H := hP
  have hD : va_D A [(h0, .inr (4, [.ref q_1, .int 0, .ref q_2, .ref q_3, .ref q_4])), (q_1, .inl (cS, 20, .inr (.inr (.inr (.inr f_39))))), (q_41, .inr (7, [.null, .null, .int 0, .int 0, .int 0, .int 0, .int 0]))] := hD
  refine lv_dup hx hb dX4_init_61 rfl ?_
  refine sk_INv (n := 0) (rest := [.ref q_41, .int 7, .ref q_1]) (wr := [(h0, .inr (4, [.ref q_1, .int 0, .ref q_2, .ref q_3, .ref q_4])), (q_1, .inl (cS, 20, .inr (.inr (.inr (.inr f_39)))))]) ⟨hx, hb, hml, hown, hts⟩ hl.1 (c_State_init l D cI cJ cC cZ cS q_41) hK.2.2.2.2.2.2.1 w_1_227 w_1_10 w_1_228 rfl (by decide +kernel) ⟨⟨(Nat.le_of_ble_eq_true rfl), (Nat.le_of_ble_eq_true rfl)⟩, (Nat.le_of_ble_eq_true rfl), (Nat.le_of_ble_eq_true rfl)⟩ hK hP hD hS hA [2] [0, 1] rfl rfl (by decide) (by decide) (by decide) rfl rfl (Nat.le_of_ble_eq_true rfl) dX4_init_62 (fun u H locs hw hP hD hS => ?_)
  obtain ⟨k1_42, k2_43, rfl⟩ := hw
  have hP : va_P D vwCl [(h0, .inr (4, [.ref q_1, .int 0, .ref q_2, .ref q_3, .ref q_4])), (q_1, .inl (cS, 20, .inr (.inr (.inr (.inr f_39))))), (q_41, .inr (7, [.ref k1_42, .ref k2_43, .int 0, .int 0, .int 0, .int 0, .int 0]))] H := hP
  have hD : va_D A [(h0, .inr (4, [.ref q_1, .int 0, .ref q_2, .ref q_3, .ref q_4])), (q_1, .inl (cS, 20, .inr (.inr (.inr (.inr f_39))))), (q_41, .inr (7, [.ref k1_42, .ref k2_43, .int 0, .int 0, .int 0, .int 0, .int 0]))] := hD
  refine W.widen (k := 28) (n := 3220) (Nat.le_of_ble_eq_true rfl) (Nat.le_of_ble_eq_true rfl) ?_
  refine sk_astO (ws' := fun f_44 => [(h0, .inr (4, [.ref q_1, .int 0, .ref q_2, .ref q_3, .ref q_4])), (q_1, .inl (cS, 20, .inr (.inr (.inr (.inr f_44))))), (q_41, .inr (7, [.ref k1_42, .ref k2_43, .int 0, .int 0, .int 0, .int 0, .int 0]))]) (r := (RX7, TX7, 7)) hx hb hK hP hD hS 1 4 2 7 rfl rfl rfl rfl (by unfold vp_in; decide) (fun _ => rfl) dX4_init_65 (fun f_44 H locs hP hD hS => ?_)
  refine lv_iinc (v := 8) (lv' := [(1, .int 8), (0, .ref h0)]) hx hb dX4_init_66 hl (k := 0) rfl (by decide) (by decide) rfl (fun ls hl => ?_)
  refine lv_goto (tgt := 47) hx hb dX4_init_69 (by decide) ?_
  have hP := hP.sub (ws' := [(h0, .inr (4, [.ref q_1, .int 0, .ref q_2, .ref q_3, .ref q_4])), (q_1, .inl (cS, 20, .inr (.inr (.inr (.inr f_44)))))]) [0, 1] rfl
  have hD := hD.sub (ws' := [(h0, .inr (4, [.ref q_1, .int 0, .ref q_2, .ref q_3, .ref q_4])), (q_1, .inl (cS, 20, .inr (.inr (.inr (.inr f_44)))))]) [0, 1] (by decide) rfl
  refine lv_iload_n hx hb dX4_init_47 rfl (lv_at hl 0 rfl) ?_
  refine lv_bipush (v := 20) hx hb dX4_init_48 (by decide) ?_
  refine lv_icmp_ge (tgt := 72) hx hb dX4_init_50 (by decide) (fun c => absurd c (by decide)) (fun c_45 => ?_)
  refine lv_aload_n hx hb dX4_init_53 rfl (lv_at hl 1 rfl) ?_
  refine sk_get (v := .ref q_1) (C := RX4) (T := TX4) (N := 5) hx hb hts inlX4 hown hK hP 0 rfl rfl 0 (by decide) w_2_40 rfl dX4_init_54 ?_
  refine lv_iload_n hx hb dX4_init_57 rfl (lv_at hl 0 rfl) ?_
  refine sk_new (ci := 7) (fs := [.null, .null, .int 0, .int 0, .int 0, .int 0, .int 0]) (C := RX7) (T := TX7) (N := 7) (k1 := 29) (n1 := 3227) hx hb hts inlX7 tyX7 tyX7_ok hown w_2_37 w_1_225 w_1_10 hK hP hD hS hA rfl (fun j hj => by rcases (show j = 0 ∨ j = 1 ∨ j = 2 ∨ j = 3 ∨ j = 4 ∨ j = 5 ∨ j = 6 by omega) with rfl | rfl | rfl | rfl | rfl | rfl | rfl <;> rfl) (Nat.le_of_ble_eq_true rfl) (Nat.le_of_ble_eq_true rfl) (Nat.le_of_ble_eq_true rfl) (Nat.le_of_ble_eq_true rfl) dX4_init_58 (fun q_46 H hP hD hS => ?_)
  have hP : va_P D vwCl [(h0, .inr (4, [.ref q_1, .int 0, .ref q_2, .ref q_3, .ref q_4])), (q_1, .inl (cS, 20, .inr (.inr (.inr (.inr f_44))))), (q_46, .inr (7, [.null, .null, .int 0, .int 0, .int 0, .int 0, .int 0]))] H := hP
  have hD : va_D A [(h0, .inr (4, [.ref q_1, .int 0, .ref q_2, .ref q_3, .ref q_4])), (q_1, .inl (cS, 20, .inr (.inr (.inr (.inr f_44))))), (q_46, .inr (7, [.null, .null, .int 0, .int 0, .int 0, .int 0, .int 0]))] := hD
  refine lv_dup hx hb dX4_init_61 rfl ?_
  refine sk_INv (n := 0) (rest := [.ref q_46, .int 8, .ref q_1]) (wr := [(h0, .inr (4, [.ref q_1, .int 0, .ref q_2, .ref q_3, .ref q_4])), (q_1, .inl (cS, 20, .inr (.inr (.inr (.inr f_44)))))]) ⟨hx, hb, hml, hown, hts⟩ hl.1 (c_State_init l D cI cJ cC cZ cS q_46) hK.2.2.2.2.2.2.1 w_1_227 w_1_10 w_1_228 rfl (by decide +kernel) ⟨⟨(Nat.le_of_ble_eq_true rfl), (Nat.le_of_ble_eq_true rfl)⟩, (Nat.le_of_ble_eq_true rfl), (Nat.le_of_ble_eq_true rfl)⟩ hK hP hD hS hA [2] [0, 1] rfl rfl (by decide) (by decide) (by decide) rfl rfl (Nat.le_of_ble_eq_true rfl) dX4_init_62 (fun u H locs hw hP hD hS => ?_)
  obtain ⟨k1_47, k2_48, rfl⟩ := hw
  have hP : va_P D vwCl [(h0, .inr (4, [.ref q_1, .int 0, .ref q_2, .ref q_3, .ref q_4])), (q_1, .inl (cS, 20, .inr (.inr (.inr (.inr f_44))))), (q_46, .inr (7, [.ref k1_47, .ref k2_48, .int 0, .int 0, .int 0, .int 0, .int 0]))] H := hP
  have hD : va_D A [(h0, .inr (4, [.ref q_1, .int 0, .ref q_2, .ref q_3, .ref q_4])), (q_1, .inl (cS, 20, .inr (.inr (.inr (.inr f_44))))), (q_46, .inr (7, [.ref k1_47, .ref k2_48, .int 0, .int 0, .int 0, .int 0, .int 0]))] := hD
  refine W.widen (k := 31) (n := 3245) (Nat.le_of_ble_eq_true rfl) (Nat.le_of_ble_eq_true rfl) ?_
  refine sk_astO (ws' := fun f_49 => [(h0, .inr (4, [.ref q_1, .int 0, .ref q_2, .ref q_3, .ref q_4])), (q_1, .inl (cS, 20, .inr (.inr (.inr (.inr f_49))))), (q_46, .inr (7, [.ref k1_47, .ref k2_48, .int 0, .int 0, .int 0, .int 0, .int 0]))]) (r := (RX7, TX7, 7)) hx hb hK hP hD hS 1 4 2 7 rfl rfl rfl rfl (by unfold vp_in; decide) (fun _ => rfl) dX4_init_65 (fun f_49 H locs hP hD hS => ?_)
  refine lv_iinc (v := 9) (lv' := [(1, .int 9), (0, .ref h0)]) hx hb dX4_init_66 hl (k := 0) rfl (by decide) (by decide) rfl (fun ls hl => ?_)
  refine lv_goto (tgt := 47) hx hb dX4_init_69 (by decide) ?_
  have hP := hP.sub (ws' := [(h0, .inr (4, [.ref q_1, .int 0, .ref q_2, .ref q_3, .ref q_4])), (q_1, .inl (cS, 20, .inr (.inr (.inr (.inr f_49)))))]) [0, 1] rfl
  have hD := hD.sub (ws' := [(h0, .inr (4, [.ref q_1, .int 0, .ref q_2, .ref q_3, .ref q_4])), (q_1, .inl (cS, 20, .inr (.inr (.inr (.inr f_49)))))]) [0, 1] (by decide) rfl
  refine lv_iload_n hx hb dX4_init_47 rfl (lv_at hl 0 rfl) ?_
  refine lv_bipush (v := 20) hx hb dX4_init_48 (by decide) ?_
  refine lv_icmp_ge (tgt := 72) hx hb dX4_init_50 (by decide) (fun c => absurd c (by decide)) (fun c_50 => ?_)
  refine lv_aload_n hx hb dX4_init_53 rfl (lv_at hl 1 rfl) ?_
  refine sk_get (v := .ref q_1) (C := RX4) (T := TX4) (N := 5) hx hb hts inlX4 hown hK hP 0 rfl rfl 0 (by decide) w_2_40 rfl dX4_init_54 ?_
  refine lv_iload_n hx hb dX4_init_57 rfl (lv_at hl 0 rfl) ?_
  refine sk_new (ci := 7) (fs := [.null, .null, .int 0, .int 0, .int 0, .int 0, .int 0]) (C := RX7) (T := TX7) (N := 7) (k1 := 32) (n1 := 3252) hx hb hts inlX7 tyX7 tyX7_ok hown w_2_37 w_1_225 w_1_10 hK hP hD hS hA rfl (fun j hj => by rcases (show j = 0 ∨ j = 1 ∨ j = 2 ∨ j = 3 ∨ j = 4 ∨ j = 5 ∨ j = 6 by omega) with rfl | rfl | rfl | rfl | rfl | rfl | rfl <;> rfl) (Nat.le_of_ble_eq_true rfl) (Nat.le_of_ble_eq_true rfl) (Nat.le_of_ble_eq_true rfl) (Nat.le_of_ble_eq_true rfl) dX4_init_58 (fun q_51 H hP hD hS => ?_)
  have hP : va_P D vwCl [(h0, .inr (4, [.ref q_1, .int 0, .ref q_2, .ref q_3, .ref q_4])), (q_1, .inl (cS, 20, .inr (.inr (.inr (.inr f_49))))), (q_51, .inr (7, [.null, .null, .int 0, .int 0, .int 0, .int 0, .int 0]))] H := hP
  have hD : va_D A [(h0, .inr (4, [.ref q_1, .int 0, .ref q_2, .ref q_3, .ref q_4])), (q_1, .inl (cS, 20, .inr (.inr (.inr (.inr f_49))))), (q_51, .inr (7, [.null, .null, .int 0, .int 0, .int 0, .int 0, .int 0]))] := hD
  refine lv_dup hx hb dX4_init_61 rfl ?_
  refine sk_INv (n := 0) (rest := [.ref q_51, .int 9, .ref q_1]) (wr := [(h0, .inr (4, [.ref q_1, .int 0, .ref q_2, .ref q_3, .ref q_4])), (q_1, .inl (cS, 20, .inr (.inr (.inr (.inr f_49)))))]) ⟨hx, hb, hml, hown, hts⟩ hl.1 (c_State_init l D cI cJ cC cZ cS q_51) hK.2.2.2.2.2.2.1 w_1_227 w_1_10 w_1_228 rfl (by decide +kernel) ⟨⟨(Nat.le_of_ble_eq_true rfl), (Nat.le_of_ble_eq_true rfl)⟩, (Nat.le_of_ble_eq_true rfl), (Nat.le_of_ble_eq_true rfl)⟩ hK hP hD hS hA [2] [0, 1] rfl rfl (by decide) (by decide) (by decide) rfl rfl (Nat.le_of_ble_eq_true rfl) dX4_init_62 (fun u H locs hw hP hD hS => ?_)
  obtain ⟨k1_52, k2_53, rfl⟩ := hw
  have hP : va_P D vwCl [(h0, .inr (4, [.ref q_1, .int 0, .ref q_2, .ref q_3, .ref q_4])), (q_1, .inl (cS, 20, .inr (.inr (.inr (.inr f_49))))), (q_51, .inr (7, [.ref k1_52, .ref k2_53, .int 0, .int 0, .int 0, .int 0, .int 0]))] H := hP
  have hD : va_D A [(h0, .inr (4, [.ref q_1, .int 0, .ref q_2, .ref q_3, .ref q_4])), (q_1, .inl (cS, 20, .inr (.inr (.inr (.inr f_49))))), (q_51, .inr (7, [.ref k1_52, .ref k2_53, .int 0, .int 0, .int 0, .int 0, .int 0]))] := hD
  refine W.widen (k := 34) (n := 3270) (Nat.le_of_ble_eq_true rfl) (Nat.le_of_ble_eq_true rfl) ?_
  refine sk_astO (ws' := fun f_54 => [(h0, .inr (4, [.ref q_1, .int 0, .ref q_2, .ref q_3, .ref q_4])), (q_1, .inl (cS, 20, .inr (.inr (.inr (.inr f_54))))), (q_51, .inr (7, [.ref k1_52, .ref k2_53, .int 0, .int 0, .int 0, .int 0, .int 0]))]) (r := (RX7, TX7, 7)) hx hb hK hP hD hS 1 4 2 7 rfl rfl rfl rfl (by unfold vp_in; decide) (fun _ => rfl) dX4_init_65 (fun f_54 H locs hP hD hS => ?_)
  refine lv_iinc (v := 10) (lv' := [(1, .int 10), (0, .ref h0)]) hx hb dX4_init_66 hl (k := 0) rfl (by decide) (by decide) rfl (fun ls hl => ?_)
  refine lv_goto (tgt := 47) hx hb dX4_init_69 (by decide) ?_
  have hP := hP.sub (ws' := [(h0, .inr (4, [.ref q_1, .int 0, .ref q_2, .ref q_3, .ref q_4])), (q_1, .inl (cS, 20, .inr (.inr (.inr (.inr f_54)))))]) [0, 1] rfl
  have hD := hD.sub (ws' := [(h0, .inr (4, [.ref q_1, .int 0, .ref q_2, .ref q_3, .ref q_4])), (q_1, .inl (cS, 20, .inr (.inr (.inr (.inr f_54)))))]) [0, 1] (by decide) rfl
  refine lv_iload_n hx hb dX4_init_47 rfl (lv_at hl 0 rfl) ?_
  refine lv_bipush (v := 20) hx hb dX4_init_48 (by decide) ?_
  refine lv_icmp_ge (tgt := 72) hx hb dX4_init_50 (by decide) (fun c => absurd c (by decide)) (fun c_55 => ?_)
  refine lv_aload_n hx hb dX4_init_53 rfl (lv_at hl 1 rfl) ?_
  refine sk_get (v := .ref q_1) (C := RX4) (T := TX4) (N := 5) hx hb hts inlX4 hown hK hP 0 rfl rfl 0 (by decide) w_2_40 rfl dX4_init_54 ?_
  refine lv_iload_n hx hb dX4_init_57 rfl (lv_at hl 0 rfl) ?_
  refine sk_new (ci := 7) (fs := [.null, .null, .int 0, .int 0, .int 0, .int 0, .int 0]) (C := RX7) (T := TX7) (N := 7) (k1 := 35) (n1 := 3277) hx hb hts inlX7 tyX7 tyX7_ok hown w_2_37 w_1_225 w_1_10 hK hP hD hS hA rfl (fun j hj => by rcases (show j = 0 ∨ j = 1 ∨ j = 2 ∨ j = 3 ∨ j = 4 ∨ j = 5 ∨ j = 6 by omega) with rfl | rfl | rfl | rfl | rfl | rfl | rfl <;> rfl) (Nat.le_of_ble_eq_true rfl) (Nat.le_of_ble_eq_true rfl) (Nat.le_of_ble_eq_true rfl) (Nat.le_of_ble_eq_true rfl) dX4_init_58 (fun q_56 H hP hD hS => ?_)
  have hP : va_P D vwCl [(h0, .inr (4, [.ref q_1, .int 0, .ref q_2, .ref q_3, .ref q_4])), (q_1, .inl (cS, 20, .inr (.inr (.inr (.inr f_54))))), (q_56, .inr (7, [.null, .null, .int 0, .int 0, .int 0, .int 0, .int 0]))] H := hP
  have hD : va_D A [(h0, .inr (4, [.ref q_1, .int 0, .ref q_2, .ref q_3, .ref q_4])), (q_1, .inl (cS, 20, .inr (.inr (.inr (.inr f_54))))), (q_56, .inr (7, [.null, .null, .int 0, .int 0, .int 0, .int 0, .int 0]))] := hD
  refine lv_dup hx hb dX4_init_61 rfl ?_
  refine sk_INv (n := 0) (rest := [.ref q_56, .int 10, .ref q_1]) (wr := [(h0, .inr (4, [.ref q_1, .int 0, .ref q_2, .ref q_3, .ref q_4])), (q_1, .inl (cS, 20, .inr (.inr (.inr (.inr f_54)))))]) ⟨hx, hb, hml, hown, hts⟩ hl.1 (c_State_init l D cI cJ cC cZ cS q_56) hK.2.2.2.2.2.2.1 w_1_227 w_1_10 w_1_228 rfl (by decide +kernel) ⟨⟨(Nat.le_of_ble_eq_true rfl), (Nat.le_of_ble_eq_true rfl)⟩, (Nat.le_of_ble_eq_true rfl), (Nat.le_of_ble_eq_true rfl)⟩ hK hP hD hS hA [2] [0, 1] rfl rfl (by decide) (by decide) (by decide) rfl rfl (Nat.le_of_ble_eq_true rfl) dX4_init_62 (fun u H locs hw hP hD hS => ?_)
  obtain ⟨k1_57, k2_58, rfl⟩ := hw
  have hP : va_P D vwCl [(h0, .inr (4, [.ref q_1, .int 0, .ref q_2, .ref q_3, .ref q_4])), (q_1, .inl (cS, 20, .inr (.inr (.inr (.inr f_54))))), (q_56, .inr (7, [.ref k1_57, .ref k2_58, .int 0, .int 0, .int 0, .int 0, .int 0]))] H := hP
  have hD : va_D A [(h0, .inr (4, [.ref q_1, .int 0, .ref q_2, .ref q_3, .ref q_4])), (q_1, .inl (cS, 20, .inr (.inr (.inr (.inr f_54))))), (q_56, .inr (7, [.ref k1_57, .ref k2_58, .int 0, .int 0, .int 0, .int 0, .int 0]))] := hD
  refine W.widen (k := 37) (n := 3295) (Nat.le_of_ble_eq_true rfl) (Nat.le_of_ble_eq_true rfl) ?_
  refine sk_astO (ws' := fun f_59 => [(h0, .inr (4, [.ref q_1, .int 0, .ref q_2, .ref q_3, .ref q_4])), (q_1, .inl (cS, 20, .inr (.inr (.inr (.inr f_59))))), (q_56, .inr (7, [.ref k1_57, .ref k2_58, .int 0, .int 0, .int 0, .int 0, .int 0]))]) (r := (RX7, TX7, 7)) hx hb hK hP hD hS 1 4 2 7 rfl rfl rfl rfl (by unfold vp_in; decide) (fun _ => rfl) dX4_init_65 (fun f_59 H locs hP hD hS => ?_)
  refine lv_iinc (v := 11) (lv' := [(1, .int 11), (0, .ref h0)]) hx hb dX4_init_66 hl (k := 0) rfl (by decide) (by decide) rfl (fun ls hl => ?_)
  refine lv_goto (tgt := 47) hx hb dX4_init_69 (by decide) ?_
  have hP := hP.sub (ws' := [(h0, .inr (4, [.ref q_1, .int 0, .ref q_2, .ref q_3, .ref q_4])), (q_1, .inl (cS, 20, .inr (.inr (.inr (.inr f_59)))))]) [0, 1] rfl
  have hD := hD.sub (ws' := [(h0, .inr (4, [.ref q_1, .int 0, .ref q_2, .ref q_3, .ref q_4])), (q_1, .inl (cS, 20, .inr (.inr (.inr (.inr f_59)))))]) [0, 1] (by decide) rfl
  refine lv_iload_n hx hb dX4_init_47 rfl (lv_at hl 0 rfl) ?_
  refine lv_bipush (v := 20) hx hb dX4_init_48 (by decide) ?_
  refine lv_icmp_ge (tgt := 72) hx hb dX4_init_50 (by decide) (fun c => absurd c (by decide)) (fun c_60 => ?_)
  refine lv_aload_n hx hb dX4_init_53 rfl (lv_at hl 1 rfl) ?_
  refine sk_get (v := .ref q_1) (C := RX4) (T := TX4) (N := 5) hx hb hts inlX4 hown hK hP 0 rfl rfl 0 (by decide) w_2_40 rfl dX4_init_54 ?_
  refine lv_iload_n hx hb dX4_init_57 rfl (lv_at hl 0 rfl) ?_
  refine sk_new (ci := 7) (fs := [.null, .null, .int 0, .int 0, .int 0, .int 0, .int 0]) (C := RX7) (T := TX7) (N := 7) (k1 := 38) (n1 := 3302) hx hb hts inlX7 tyX7 tyX7_ok hown w_2_37 w_1_225 w_1_10 hK hP hD hS hA rfl (fun j hj => by rcases (show j = 0 ∨ j = 1 ∨ j = 2 ∨ j = 3 ∨ j = 4 ∨ j = 5 ∨ j = 6 by omega) with rfl | rfl | rfl | rfl | rfl | rfl | rfl <;> rfl) (Nat.le_of_ble_eq_true rfl) (Nat.le_of_ble_eq_true rfl) (Nat.le_of_ble_eq_true rfl) (Nat.le_of_ble_eq_true rfl) dX4_init_58 (fun q_61 H hP hD hS => ?_)
  have hP : va_P D vwCl [(h0, .inr (4, [.ref q_1, .int 0, .ref q_2, .ref q_3, .ref q_4])), (q_1, .inl (cS, 20, .inr (.inr (.inr (.inr f_59))))), (q_61, .inr (7, [.null, .null, .int 0, .int 0, .int 0, .int 0, .int 0]))] H := hP
  have hD : va_D A [(h0, .inr (4, [.ref q_1, .int 0, .ref q_2, .ref q_3, .ref q_4])), (q_1, .inl (cS, 20, .inr (.inr (.inr (.inr f_59))))), (q_61, .inr (7, [.null, .null, .int 0, .int 0, .int 0, .int 0, .int 0]))] := hD
  refine lv_dup hx hb dX4_init_61 rfl ?_
  refine sk_INv (n := 0) (rest := [.ref q_61, .int 11, .ref q_1]) (wr := [(h0, .inr (4, [.ref q_1, .int 0, .ref q_2, .ref q_3, .ref q_4])), (q_1, .inl (cS, 20, .inr (.inr (.inr (.inr f_59)))))]) ⟨hx, hb, hml, hown, hts⟩ hl.1 (c_State_init l D cI cJ cC cZ cS q_61) hK.2.2.2.2.2.2.1 w_1_227 w_1_10 w_1_228 rfl (by decide +kernel) ⟨⟨(Nat.le_of_ble_eq_true rfl), (Nat.le_of_ble_eq_true rfl)⟩, (Nat.le_of_ble_eq_true rfl), (Nat.le_of_ble_eq_true rfl)⟩ hK hP hD hS hA [2] [0, 1] rfl rfl (by decide) (by decide) (by decide) rfl rfl (Nat.le_of_ble_eq_true rfl) dX4_init_62 (fun u H locs hw hP hD hS => ?_)
  obtain ⟨k1_62, k2_63, rfl⟩ := hw
  have hP : va_P D vwCl [(h0, .inr (4, [.ref q_1, .int 0, .ref q_2, .ref q_3, .ref q_4])), (q_1, .inl (cS, 20, .inr (.inr (.inr (.inr f_59))))), (q_61, .inr (7, [.ref k1_62, .ref k2_63, .int 0, .int 0, .int 0, .int 0, .int 0]))] H := hP
  have hD : va_D A [(h0, .inr (4, [.ref q_1, .int 0, .ref q_2, .ref q_3, .ref q_4])), (q_1, .inl (cS, 20, .inr (.inr (.inr (.inr f_59))))), (q_61, .inr (7, [.ref k1_62, .ref k2_63, .int 0, .int 0, .int 0, .int 0, .int 0]))] := hD
  refine W.widen (k := 40) (n := 3320) (Nat.le_of_ble_eq_true rfl) (Nat.le_of_ble_eq_true rfl) ?_
  refine sk_astO (ws' := fun f_64 => [(h0, .inr (4, [.ref q_1, .int 0, .ref q_2, .ref q_3, .ref q_4])), (q_1, .inl (cS, 20, .inr (.inr (.inr (.inr f_64))))), (q_61, .inr (7, [.ref k1_62, .ref k2_63, .int 0, .int 0, .int 0, .int 0, .int 0]))]) (r := (RX7, TX7, 7)) hx hb hK hP hD hS 1 4 2 7 rfl rfl rfl rfl (by unfold vp_in; decide) (fun _ => rfl) dX4_init_65 (fun f_64 H locs hP hD hS => ?_)
  refine lv_iinc (v := 12) (lv' := [(1, .int 12), (0, .ref h0)]) hx hb dX4_init_66 hl (k := 0) rfl (by decide) (by decide) rfl (fun ls hl => ?_)
  refine lv_goto (tgt := 47) hx hb dX4_init_69 (by decide) ?_
  have hP := hP.sub (ws' := [(h0, .inr (4, [.ref q_1, .int 0, .ref q_2, .ref q_3, .ref q_4])), (q_1, .inl (cS, 20, .inr (.inr (.inr (.inr f_64)))))]) [0, 1] rfl
  have hD := hD.sub (ws' := [(h0, .inr (4, [.ref q_1, .int 0, .ref q_2, .ref q_3, .ref q_4])), (q_1, .inl (cS, 20, .inr (.inr (.inr (.inr f_64)))))]) [0, 1] (by decide) rfl
  refine lv_iload_n hx hb dX4_init_47 rfl (lv_at hl 0 rfl) ?_
  refine lv_bipush (v := 20) hx hb dX4_init_48 (by decide) ?_
  refine lv_icmp_ge (tgt := 72) hx hb dX4_init_50 (by decide) (fun c => absurd c (by decide)) (fun c_65 => ?_)
  refine lv_aload_n hx hb dX4_init_53 rfl (lv_at hl 1 rfl) ?_
  refine sk_get (v := .ref q_1) (C := RX4) (T := TX4) (N := 5) hx hb hts inlX4 hown hK hP 0 rfl rfl 0 (by decide) w_2_40 rfl dX4_init_54 ?_
  refine lv_iload_n hx hb dX4_init_57 rfl (lv_at hl 0 rfl) ?_
  refine sk_new (ci := 7) (fs := [.null, .null, .int 0, .int 0, .int 0, .int 0, .int 0]) (C := RX7) (T := TX7) (N := 7) (k1 := 41) (n1 := 3327) hx hb hts inlX7 tyX7 tyX7_ok hown w_2_37 w_1_225 w_1_10 hK hP hD hS hA rfl (fun j hj => by rcases (show j = 0 ∨ j = 1 ∨ j = 2 ∨ j = 3 ∨ j = 4 ∨ j = 5 ∨ j = 6 by omega) with rfl | rfl | rfl | rfl | rfl | rfl | rfl <;> rfl) (Nat.le_of_ble_eq_true rfl) (Nat.le_of_ble_eq_true rfl) (Nat.le_of_ble_eq_true rfl) (Nat.le_of_ble_eq_true rfl) dX4_init_58 (fun q_66 H hP hD hS => ?_)
  have hP : va_P D vwCl [(h0, .inr (4, [.ref q_1, .int 0, .ref q_2, .ref q_3, .ref q_4])), (q_1, .inl (cS, 20, .inr (.inr (.inr (.inr f_64))))), (q_66, .inr (7, [.null, .null, .int 0, .int 0, .int 0, .int 0, .int 0]))] H := hP
  have hD : va_D A [(h0, .inr (4, [.ref q_1, .int 0, .ref q_2, .ref q_3, .ref q_4])), (q_1, .inl (cS, 20, .inr (.inr (.inr (.inr f_64))))), (q_66, .inr (7, [.null, .null, .int 0, .int 0, .int 0, .int 0, .int 0]))] := hD
  refine lv_dup hx hb dX4_init_61 rfl ?_
  refine sk_INv (n := 0) (rest := [.ref q_66, .int 12, .ref q_1]) (wr := [(h0, .inr (4, [.ref q_1, .int 0, .ref q_2, .ref q_3, .ref q_4])), (q_1, .inl (cS, 20, .inr (.inr (.inr (.inr f_64)))))]) ⟨hx, hb, hml, hown, hts⟩ hl.1 (c_State_init l D cI cJ cC cZ cS q_66) hK.2.2.2.2.2.2.1 w_1_227 w_1_10 w_1_228 rfl (by decide +kernel) ⟨⟨(Nat.le_of_ble_eq_true rfl), (Nat.le_of_ble_eq_true rfl)⟩, (Nat.le_of_ble_eq_true rfl), (Nat.le_of_ble_eq_true rfl)⟩ hK hP hD hS hA [2] [0, 1] rfl rfl (by decide) (by decide) (by decide) rfl rfl (Nat.le_of_ble_eq_true rfl) dX4_init_62 (fun u H locs hw hP hD hS => ?_)
  obtain ⟨k1_67, k2_68, rfl⟩ := hw
  have hP : va_P D vwCl [(h0, .inr (4, [.ref q_1, .int 0, .ref q_2, .ref q_3, .ref q_4])), (q_1, .inl (cS, 20, .inr (.inr (.inr (.inr f_64))))), (q_66, .inr (7, [.ref k1_67, .ref k2_68, .int 0, .int 0, .int 0, .int 0, .int 0]))] H := hP
  have hD : va_D A [(h0, .inr (4, [.ref q_1, .int 0, .ref q_2, .ref q_3, .ref q_4])), (q_1, .inl (cS, 20, .inr (.inr (.inr (.inr f_64))))), (q_66, .inr (7, [.ref k1_67, .ref k2_68, .int 0, .int 0, .int 0, .int 0, .int 0]))] := hD
  refine W.widen (k := 43) (n := 3345) (Nat.le_of_ble_eq_true rfl) (Nat.le_of_ble_eq_true rfl) ?_
  refine sk_astO (ws' := fun f_69 => [(h0, .inr (4, [.ref q_1, .int 0, .ref q_2, .ref q_3, .ref q_4])), (q_1, .inl (cS, 20, .inr (.inr (.inr (.inr f_69))))), (q_66, .inr (7, [.ref k1_67, .ref k2_68, .int 0, .int 0, .int 0, .int 0, .int 0]))]) (r := (RX7, TX7, 7)) hx hb hK hP hD hS 1 4 2 7 rfl rfl rfl rfl (by unfold vp_in; decide) (fun _ => rfl) dX4_init_65 (fun f_69 H locs hP hD hS => ?_)
  refine lv_iinc (v := 13) (lv' := [(1, .int 13), (0, .ref h0)]) hx hb dX4_init_66 hl (k := 0) rfl (by decide) (by decide) rfl (fun ls hl => ?_)
  refine lv_goto (tgt := 47) hx hb dX4_init_69 (by decide) ?_
  have hP := hP.sub (ws' := [(h0, .inr (4, [.ref q_1, .int 0, .ref q_2, .ref q_3, .ref q_4])), (q_1, .inl (cS, 20, .inr (.inr (.inr (.inr f_69)))))]) [0, 1] rfl
  have hD := hD.sub (ws' := [(h0, .inr (4, [.ref q_1, .int 0, .ref q_2, .ref q_3, .ref q_4])), (q_1, .inl (cS, 20, .inr (.inr (.inr (.inr f_69)))))]) [0, 1] (by decide) rfl
  refine lv_iload_n hx hb dX4_init_47 rfl (lv_at hl 0 rfl) ?_
  refine lv_bipush (v := 20) hx hb dX4_init_48 (by decide) ?_
  refine lv_icmp_ge (tgt := 72) hx hb dX4_init_50 (by decide) (fun c => absurd c (by decide)) (fun c_70 => ?_)
  refine lv_aload_n hx hb dX4_init_53 rfl (lv_at hl 1 rfl) ?_
  refine sk_get (v := .ref q_1) (C := RX4) (T := TX4) (N := 5) hx hb hts inlX4 hown hK hP 0 rfl rfl 0 (by decide) w_2_40 rfl dX4_init_54 ?_
  refine lv_iload_n hx hb dX4_init_57 rfl (lv_at hl 0 rfl) ?_
  refine sk_new (ci := 7) (fs := [.null, .null, .int 0, .int 0, .int 0, .int 0, .int 0]) (C := RX7) (T := TX7) (N := 7) (k1 := 44) (n1 := 3352) hx hb hts inlX7 tyX7 tyX7_ok hown w_2_37 w_1_225 w_1_10 hK hP hD hS hA rfl (fun j hj => by rcases (show j = 0 ∨ j = 1 ∨ j = 2 ∨ j = 3 ∨ j = 4 ∨ j = 5 ∨ j = 6 by omega) with rfl | rfl | rfl | rfl | rfl | rfl | rfl <;> rfl) (Nat.le_of_ble_eq_true rfl) (Nat.le_of_ble_eq_true rfl) (Nat.le_of_ble_eq_true rfl) (Nat.le_of_ble_eq_true rfl) dX4_init_58 (fun q_71 H hP hD hS => ?_)
  have hP : va_P D vwCl [(h0, .inr (4, [.ref q_1, .int 0, .ref q_2, .ref q_3, .ref q_4])), (q_1, .inl (cS, 20, .inr (.inr (.inr (.inr f_69))))), (q_71, .inr (7, [.null, .null, .int 0, .int 0, .int 0, .int 0, .int 0]))] H := hP
  have hD : va_D A [(h0, .inr (4, [.ref q_1, .int 0, .ref q_2, .ref q_3, .ref q_4])), (q_1, .inl (cS, 20, .inr (.inr (.inr (.inr f_69))))), (q_71, .inr (7, [.null, .null, .int 0, .int 0, .int 0, .int 0, .int 0]))] := hD
  refine lv_dup hx hb dX4_init_61 rfl ?_
  refine sk_INv (n := 0) (rest := [.ref q_71, .int 13, .ref q_1]) (wr := [(h0, .inr (4, [.ref q_1, .int 0, .ref q_2, .ref q_3, .ref q_4])), (q_1, .inl (cS, 20, .inr (.inr (.inr (.inr f_69)))))]) ⟨hx, hb, hml, hown, hts⟩ hl.1 (c_State_init l D cI cJ cC cZ cS q_71) hK.2.2.2.2.2.2.1 w_1_227 w_1_10 w_1_228 rfl (by decide +kernel) ⟨⟨(Nat.le_of_ble_eq_true rfl), (Nat.le_of_ble_eq_true rfl)⟩, (Nat.le_of_ble_eq_true rfl), (Nat.le_of_ble_eq_true rfl)⟩ hK hP hD hS hA [2] [0, 1] rfl rfl (by decide) (by decide) (by decide) rfl rfl (Nat.le_of_ble_eq_true rfl) dX4_init_62 (fun u H locs hw hP hD hS => ?_)
  obtain ⟨k1_72, k2_73, rfl⟩ := hw
  have hP : va_P D vwCl [(h0, .inr (4, [.ref q_1, .int 0, .ref q_2, .ref q_3, .ref q_4])), (q_1, .inl (cS, 20, .inr (.inr (.inr (.inr f_69))))), (q_71, .inr (7, [.ref k1_72, .ref k2_73, .int 0, .int 0, .int 0, .int 0, .int 0]))] H := hP
  have hD : va_D A [(h0, .inr (4, [.ref q_1, .int 0, .ref q_2, .ref q_3, .ref q_4])), (q_1, .inl (cS, 20, .inr (.inr (.inr (.inr f_69))))), (q_71, .inr (7, [.ref k1_72, .ref k2_73, .int 0, .int 0, .int 0, .int 0, .int 0]))] := hD
  refine W.widen (k := 46) (n := 3370) (Nat.le_of_ble_eq_true rfl) (Nat.le_of_ble_eq_true rfl) ?_
  refine sk_astO (ws' := fun f_74 => [(h0, .inr (4, [.ref q_1, .int 0, .ref q_2, .ref q_3, .ref q_4])), (q_1, .inl (cS, 20, .inr (.inr (.inr (.inr f_74))))), (q_71, .inr (7, [.ref k1_72, .ref k2_73, .int 0, .int 0, .int 0, .int 0, .int 0]))]) (r := (RX7, TX7, 7)) hx hb hK hP hD hS 1 4 2 7 rfl rfl rfl rfl (by unfold vp_in; decide) (fun _ => rfl) dX4_init_65 (fun f_74 H locs hP hD hS => ?_)
  refine lv_iinc (v := 14) (lv' := [(1, .int 14), (0, .ref h0)]) hx hb dX4_init_66 hl (k := 0) rfl (by decide) (by decide) rfl (fun ls hl => ?_)
  refine lv_goto (tgt := 47) hx hb dX4_init_69 (by decide) ?_
  have hP := hP.sub (ws' := [(h0, .inr (4, [.ref q_1, .int 0, .ref q_2, .ref q_3, .ref q_4])), (q_1, .inl (cS, 20, .inr (.inr (.inr (.inr f_74)))))]) [0, 1] rfl
  have hD := hD.sub (ws' := [(h0, .inr (4, [.ref q_1, .int 0, .ref q_2, .ref q_3, .ref q_4])), (q_1, .inl (cS, 20, .inr (.inr (.inr (.inr f_74)))))]) [0, 1] (by decide) rfl
  refine lv_iload_n hx hb dX4_init_47 rfl (lv_at hl 0 rfl) ?_
  refine lv_bipush (v := 20) hx hb dX4_init_48 (by decide) ?_
  refine lv_icmp_ge (tgt := 72) hx hb dX4_init_50 (by decide) (fun c => absurd c (by decide)) (fun c_75 => ?_)
  refine lv_aload_n hx hb dX4_init_53 rfl (lv_at hl 1 rfl) ?_
  refine sk_get (v := .ref q_1) (C := RX4) (T := TX4) (N := 5) hx hb hts inlX4 hown hK hP 0 rfl rfl 0 (by decide) w_2_40 rfl dX4_init_54 ?_
  refine lv_iload_n hx hb dX4_init_57 rfl (lv_at hl 0 rfl) ?_
  refine sk_new (ci := 7) (fs := [.null, .null, .int 0, .int 0, .int 0, .int 0, .int 0]) (C := RX7) (T := TX7) (N := 7) (k1 := 47) (n1 := 3377) hx hb hts inlX7 tyX7 tyX7_ok hown w_2_37 w_1_225 w_1_10 hK hP hD hS hA rfl (fun j hj => by rcases (show j = 0 ∨ j = 1 ∨ j = 2 ∨ j = 3 ∨ j = 4 ∨ j = 5 ∨ j = 6 by omega) with rfl | rfl | rfl | rfl | rfl | rfl | rfl <;> rfl) (Nat.le_of_ble_eq_true rfl) (Nat.le_of_ble_eq_true rfl) (Nat.le_of_ble_eq_true rfl) (Nat.le_of_ble_eq_true rfl) dX4_init_58 (fun q_76 H hP hD hS => ?_)
  have hP : va_P D vwCl [(h0, .inr (4, [.ref q_1, .int 0, .ref q_2, .ref q_3, .ref q_4])), (q_1, .inl (cS, 20, .inr (.inr (.inr (.inr f_74))))), (q_76, .inr (7, [.null, .null, .int 0, .int 0, .int 0, .int 0, .int 0]))] H := hP
  have hD : va_D A [(h0, .inr (4, [.ref q_1, .int 0, .ref q_2, .ref q_3, .ref q_4])), (q_1, .inl (cS, 20, .inr (.inr (.inr (.inr f_74))))), (q_76, .inr (7, [.null, .null, .int 0, .int 0, .int 0, .int 0, .int 0]))] := hD
  refine lv_dup hx hb dX4_init_61 rfl ?_
  refine sk_INv (n := 0) (rest := [.ref q_76, .int 14, .ref q_1]) (wr := [(h0, .inr (4, [.ref q_1, .int 0, .ref q_2, .ref q_3, .ref q_4])), (q_1, .inl (cS, 20, .inr (.inr (.inr (.inr f_74)))))]) ⟨hx, hb, hml, hown, hts⟩ hl.1 (c_State_init l D cI cJ cC cZ cS q_76) hK.2.2.2.2.2.2.1 w_1_227 w_1_10 w_1_228 rfl (by decide +kernel) ⟨⟨(Nat.le_of_ble_eq_true rfl), (Nat.le_of_ble_eq_true rfl)⟩, (Nat.le_of_ble_eq_true rfl), (Nat.le_of_ble_eq_true rfl)⟩ hK hP hD hS hA [2] [0, 1] rfl rfl (by decide) (by decide) (by decide) rfl rfl (Nat.le_of_ble_eq_true rfl) dX4_init_62 (fun u H locs hw hP hD hS => ?_)
  obtain ⟨k1_77, k2_78, rfl⟩ := hw
  have hP : va_P D vwCl [(h0, .inr (4, [.ref q_1, .int 0, .ref q_2, .ref q_3, .ref q_4])), (q_1, .inl (cS, 20, .inr (.inr (.inr (.inr f_74))))), (q_76, .inr (7, [.ref k1_77, .ref k2_78, .int 0, .int 0, .int 0, .int 0, .int 0]))] H := hP
  have hD : va_D A [(h0, .inr (4, [.ref q_1, .int 0, .ref q_2, .ref q_3, .ref q_4])), (q_1, .inl (cS, 20, .inr (.inr (.inr (.inr f_74))))), (q_76, .inr (7, [.ref k1_77, .ref k2_78, .int 0, .int 0, .int 0, .int 0, .int 0]))] := hD
  refine W.widen (k := 49) (n := 3395) (Nat.le_of_ble_eq_true rfl) (Nat.le_of_ble_eq_true rfl) ?_
  refine sk_astO (ws' := fun f_79 => [(h0, .inr (4, [.ref q_1, .int 0, .ref q_2, .ref q_3, .ref q_4])), (q_1, .inl (cS, 20, .inr (.inr (.inr (.inr f_79))))), (q_76, .inr (7, [.ref k1_77, .ref k2_78, .int 0, .int 0, .int 0, .int 0, .int 0]))]) (r := (RX7, TX7, 7)) hx hb hK hP hD hS 1 4 2 7 rfl rfl rfl rfl (by unfold vp_in; decide) (fun _ => rfl) dX4_init_65 (fun f_79 H locs hP hD hS => ?_)
  refine lv_iinc (v := 15) (lv' := [(1, .int 15), (0, .ref h0)]) hx hb dX4_init_66 hl (k := 0) rfl (by decide) (by decide) rfl (fun ls hl => ?_)
  refine lv_goto (tgt := 47) hx hb dX4_init_69 (by decide) ?_
  have hP := hP.sub (ws' := [(h0, .inr (4, [.ref q_1, .int 0, .ref q_2, .ref q_3, .ref q_4])), (q_1, .inl (cS, 20, .inr (.inr (.inr (.inr f_79)))))]) [0, 1] rfl
  have hD := hD.sub (ws' := [(h0, .inr (4, [.ref q_1, .int 0, .ref q_2, .ref q_3, .ref q_4])), (q_1, .inl (cS, 20, .inr (.inr (.inr (.inr f_79)))))]) [0, 1] (by decide) rfl
  refine lv_iload_n hx hb dX4_init_47 rfl (lv_at hl 0 rfl) ?_
  refine lv_bipush (v := 20) hx hb dX4_init_48 (by decide) ?_
  refine lv_icmp_ge (tgt := 72) hx hb dX4_init_50 (by decide) (fun c => absurd c (by decide)) (fun c_80 => ?_)
  refine lv_aload_n hx hb dX4_init_53 rfl (lv_at hl 1 rfl) ?_
  refine sk_get (v := .ref q_1) (C := RX4) (T := TX4) (N := 5) hx hb hts inlX4 hown hK hP 0 rfl rfl 0 (by decide) w_2_40 rfl dX4_init_54 ?_
  refine lv_iload_n hx hb dX4_init_57 rfl (lv_at hl 0 rfl) ?_
  refine sk_new (ci := 7) (fs := [.null, .null, .int 0, .int 0, .int 0, .int 0, .int 0]) (C := RX7) (T := TX7) (N := 7) (k1 := 50) (n1 := 3402) hx hb hts inlX7 tyX7 tyX7_ok hown w_2_37 w_1_225 w_1_10 hK hP hD hS hA rfl (fun j hj => by rcases (show j = 0 ∨ j = 1 ∨ j = 2 ∨ j = 3 ∨ j = 4 ∨ j = 5 ∨ j = 6 by omega) with rfl | rfl | rfl | rfl | rfl | rfl | rfl <;> rfl) (Nat.le_of_ble_eq_true rfl) (Nat.le_of_ble_eq_true rfl) (Nat.le_of_ble_eq_true rfl) (Nat.le_of_ble_eq_true rfl) dX4_init_58 (fun q_81 H hP hD hS => ?_)
  have hP : va_P D vwCl [(h0, .inr (4, [.ref q_1, .int 0, .ref q_2, .ref q_3, .ref q_4])), (q_1, .inl (cS, 20, .inr (.inr (.inr (.inr f_79))))), (q_81, .inr (7, [.null, .null, .int 0, .int 0, .int 0, .int 0, .int 0]))] H := hP
  have hD : va_D A [(h0, .inr (4, [.ref q_1, .int 0, .ref q_2, .ref q_3, .ref q_4])), (q_1, .inl (cS, 20, .inr (.inr (.inr (.inr f_79))))), (q_81, .inr (7, [.null, .null, .int 0, .int 0, .int 0, .int 0, .int 0]))] := hD
  refine lv_dup hx hb dX4_init_61 rfl ?_
  refine sk_INv (n := 0) (rest := [.ref q_81, .int 15, .ref q_1]) (wr := [(h0, .inr (4, [.ref q_1, .int 0, .ref q_2, .ref q_3, .ref q_4])), (q_1, .inl (cS, 20, .inr (.inr (.inr (.inr f_79)))))]) ⟨hx, hb, hml, hown, hts⟩ hl.1 (c_State_init l D cI cJ cC cZ cS q_81) hK.2.2.2.2.2.2.1 w_1_227 w_1_10 w_1_228 rfl (by decide +kernel) ⟨⟨(Nat.le_of_ble_eq_true rfl), (Nat.le_of_ble_eq_true rfl)⟩, (Nat.le_of_ble_eq_true rfl), (Nat.le_of_ble_eq_true rfl)⟩ hK hP hD hS hA [2] [0, 1] rfl rfl (by decide) (by decide) (by decide) rfl rfl (Nat.le_of_ble_eq_true rfl) dX4_init_62 (fun u H locs hw hP hD hS => ?_)
  obtain ⟨k1_82, k2_83, rfl⟩ := hw
  have hP : va_P D vwCl [(h0, .inr (4, [.ref q_1, .int 0, .ref q_2, .ref q_3, .ref q_4])), (q_1, .inl (cS, 20, .inr (.inr (.inr (.inr f_79))))), (q_81, .inr (7, [.ref k1_82, .ref k2_83, .int 0, .int 0, .int 0, .int 0, .int 0]))] H := hP
  have hD : va_D A [(h0, .inr (4, [.ref q_1, .int 0, .ref q_2, .ref q_3, .ref q_4])), (q_1, .inl (cS, 20, .inr (.inr (.inr (.inr f_79))))), (q_81, .inr (7, [.ref k1_82, .ref k2_83, .int 0, .int 0, .int 0, .int 0, .int 0]))] := hD
  refine W.widen (k := 52) (n := 3420) (Nat.le_of_ble_eq_true rfl) (Nat.le_of_ble_eq_true rfl) ?_
  refine sk_astO (ws' := fun f_84 => [(h0, .inr (4, [.ref q_1, .int 0, .ref q_2, .ref q_3, .ref q_4])), (q_1, .inl (cS, 20, .inr (.inr (.inr (.inr f_84))))), (q_81, .inr (7, [.ref k1_82, .ref k2_83, .int 0, .int 0, .int 0, .int 0, .int 0]))]) (r := (RX7, TX7, 7)) hx hb hK hP hD hS 1 4 2 7 rfl rfl rfl rfl (by unfold vp_in; decide) (fun _ => rfl) dX4_init_65 (fun f_84 H locs hP hD hS => ?_)
  refine lv_iinc (v := 16) (lv' := [(1, .int 16), (0, .ref h0)]) hx hb dX4_init_66 hl (k := 0) rfl (by decide) (by decide) rfl (fun ls hl => ?_)
  refine lv_goto (tgt := 47) hx hb dX4_init_69 (by decide) ?_
  have hP := hP.sub (ws' := [(h0, .inr (4, [.ref q_1, .int 0, .ref q_2, .ref q_3, .ref q_4])), (q_1, .inl (cS, 20, .inr (.inr (.inr (.inr f_84)))))]) [0, 1] rfl
  have hD := hD.sub (ws' := [(h0, .inr (4, [.ref q_1, .int 0, .ref q_2, .ref q_3, .ref q_4])), (q_1, .inl (cS, 20, .inr (.inr (.inr (.inr f_84)))))]) [0, 1] (by decide) rfl
  refine lv_iload_n hx hb dX4_init_47 rfl (lv_at hl 0 rfl) ?_
  refine lv_bipush (v := 20) hx hb dX4_init_48 (by decide) ?_
  refine lv_icmp_ge (tgt := 72) hx hb dX4_init_50 (by decide) (fun c => absurd c (by decide)) (fun c_85 => ?_)
  refine lv_aload_n hx hb dX4_init_53 rfl (lv_at hl 1 rfl) ?_
  refine sk_get (v := .ref q_1) (C := RX4) (T := TX4) (N := 5) hx hb hts inlX4 hown hK hP 0 rfl rfl 0 (by decide) w_2_40 rfl dX4_init_54 ?_
  refine lv_iload_n hx hb dX4_init_57 rfl (lv_at hl 0 rfl) ?_
  refine sk_new (ci := 7) (fs := [.null, .null, .int 0, .int 0, .int 0, .int 0, .int 0]) (C := RX7) (T := TX7) (N := 7) (k1 := 53) (n1 := 3427) hx hb hts inlX7 tyX7 tyX7_ok hown w_2_37 w_1_225 w_1_10 hK hP hD hS hA rfl (fun j hj => by rcases (show j = 0 ∨ j = 1 ∨ j = 2 ∨ j = 3 ∨ j = 4 ∨ j = 5 ∨ j = 6 by omega) with rfl | rfl | rfl | rfl | rfl | rfl | rfl <;> rfl) (Nat.le_of_ble_eq_true rfl) (Nat.le_of_ble_eq_true rfl) (Nat.le_of_ble_eq_true rfl) (Nat.le_of_ble_eq_true rfl) dX4_init_58 (fun q_86 H hP hD hS => ?_)
  have hP : va_P D vwCl [(h0, .inr (4, [.ref q_1, .int 0, .ref q_2, .ref q_3, .ref q_4])), (q_1, .inl (cS, 20, .inr (.inr (.inr (.inr f_84))))), (q_86, .inr (7, [.null, .null, .int 0, .int 0, .int 0, .int 0, .int 0]))] H := hP
  have hD : va_D A [(h0, .inr (4, [.ref q_1, .int 0, .ref q_2, .ref q_3, .ref q_4])), (q_1, .inl (cS, 20, .inr (.inr (.inr (.inr f_84))))), (q_86, .inr (7, [.null, .null, .int 0, .int 0, .int 0, .int 0, .int 0]))] := hD
  refine lv_dup hx hb dX4_init_61 rfl ?_
  refine sk_INv (n := 0) (rest := [.ref q_86, .int 16, .ref q_1]) (wr := [(h0, .inr (4, [.ref q_1, .int 0, .ref q_2, .ref q_3, .ref q_4])), (q_1, .inl (cS, 20, .inr (.inr (.inr (.inr f_84)))))]) ⟨hx, hb, hml, hown, hts⟩ hl.1 (c_State_init l D cI cJ cC cZ cS q_86) hK.2.2.2.2.2.2.1 w_1_227 w_1_10 w_1_228 rfl (by decide +kernel) ⟨⟨(Nat.le_of_ble_eq_true rfl), (Nat.le_of_ble_eq_true rfl)⟩, (Nat.le_of_ble_eq_true rfl), (Nat.le_of_ble_eq_true rfl)⟩ hK hP hD hS hA [2] [0, 1] rfl rfl (by decide) (by decide) (by decide) rfl rfl (Nat.le_of_ble_eq_true rfl) dX4_init_62 (fun u H locs hw hP hD hS => ?_)
  obtain ⟨k1_87, k2_88, rfl⟩ := hw
  have hP : va_P D vwCl [(h0, .inr (4, [.ref q_1, .int 0, .ref q_2, .ref q_3, .ref q_4])), (q_1, .inl (cS, 20, .inr (.inr (.inr (.inr f_84))))), (q_86, .inr (7, [.ref k1_87, .ref k2_88, .int 0, .int 0, .int 0, .int 0, .int 0]))] H := hP
  have hD : va_D A [(h0, .inr (4, [.ref q_1, .int 0, .ref q_2, .ref q_3, .ref q_4])), (q_1, .inl (cS, 20, .inr (.inr (.inr (.inr f_84))))), (q_86, .inr (7, [.ref k1_87, .ref k2_88, .int 0, .int 0, .int 0, .int 0, .int 0]))] := hD
  refine W.widen (k := 55) (n := 3445) (Nat.le_of_ble_eq_true rfl) (Nat.le_of_ble_eq_true rfl) ?_
  refine sk_astO (ws' := fun f_89 => [(h0, .inr (4, [.ref q_1, .int 0, .ref q_2, .ref q_3, .ref q_4])), (q_1, .inl (cS, 20, .inr (.inr (.inr (.inr f_89))))), (q_86, .inr (7, [.ref k1_87, .ref k2_88, .int 0, .int 0, .int 0, .int 0, .int 0]))]) (r := (RX7, TX7, 7)) hx hb hK hP hD hS 1 4 2 7 rfl rfl rfl rfl (by unfold vp_in; decide) (fun _ => rfl) dX4_init_65 (fun f_89 H locs hP hD hS => ?_)
  refine lv_iinc (v := 17) (lv' := [(1, .int 17), (0, .ref h0)]) hx hb dX4_init_66 hl (k := 0) rfl (by decide) (by decide) rfl (fun ls hl => ?_)
  refine lv_goto (tgt := 47) hx hb dX4_init_69 (by decide) ?_
  have hP := hP.sub (ws' := [(h0, .inr (4, [.ref q_1, .int 0, .ref q_2, .ref q_3, .ref q_4])), (q_1, .inl (cS, 20, .inr (.inr (.inr (.inr f_89)))))]) [0, 1] rfl
  have hD := hD.sub (ws' := [(h0, .inr (4, [.ref q_1, .int 0, .ref q_2, .ref q_3, .ref q_4])), (q_1, .inl (cS, 20, .inr (.inr (.inr (.inr f_89)))))]) [0, 1] (by decide) rfl
  refine lv_iload_n hx hb dX4_init_47 rfl (lv_at hl 0 rfl) ?_
  refine lv_bipush (v := 20) hx hb dX4_init_48 (by decide) ?_
  refine lv_icmp_ge (tgt := 72) hx hb dX4_init_50 (by decide) (fun c => absurd c (by decide)) (fun c_90 => ?_)
  refine lv_aload_n hx hb dX4_init_53 rfl (lv_at hl 1 rfl) ?_
  refine sk_get (v := .ref q_1) (C := RX4) (T := TX4) (N := 5) hx hb hts inlX4 hown hK hP 0 rfl rfl 0 (by decide) w_2_40 rfl dX4_init_54 ?_
  refine lv_iload_n hx hb dX4_init_57 rfl (lv_at hl 0 rfl) ?_
  refine sk_new (ci := 7) (fs := [.null, .null, .int 0, .int 0, .int 0, .int 0, .int 0]) (C := RX7) (T := TX7) (N := 7) (k1 := 56) (n1 := 3452) hx hb hts inlX7 tyX7 tyX7_ok hown w_2_37 w_1_225 w_1_10 hK hP hD hS hA rfl (fun j hj => by rcases (show j = 0 ∨ j = 1 ∨ j = 2 ∨ j = 3 ∨ j = 4 ∨ j = 5 ∨ j = 6 by omega) with rfl | rfl | rfl | rfl | rfl | rfl | rfl <;> rfl) (Nat.le_of_ble_eq_true rfl) (Nat.le_of_ble_eq_true rfl) (Nat.le_of_ble_eq_true rfl) (Nat.le_of_ble_eq_true rfl) dX4_init_58 (fun q_91 H hP hD hS => ?_)
  have hP : va_P D vwCl [(h0, .inr (4, [.ref q_1, .int 0, .ref q_2, .ref q_3, .ref q_4])), (q_1, .inl (cS, 20, .inr (.inr (.inr (.inr f_89))))), (q_91, .inr (7, [.null, .null, .int 0, .int 0, .int 0, .int 0, .int 0]))] H := hP
  have hD : va_D A [(h0, .inr (4, [.ref q_1, .int 0, .ref q_2, .ref q_3, .ref q_4])), (q_1, .inl (cS, 20, .inr (.inr (.inr (.inr f_89))))), (q_91, .inr (7, [.null, .null, .int 0, .int 0, .int 0, .int 0, .int 0]))] := hD
  refine lv_dup hx hb dX4_init_61 rfl ?_
  refine sk_INv (n := 0) (rest := [.ref q_91, .int 17, .ref q_1]) (wr := [(h0, .inr (4, [.ref q_1, .int 0, .ref q_2, .ref q_3, .ref q_4])), (q_1, .inl (cS, 20, .inr (.inr (.inr (.inr f_89)))))]) ⟨hx, hb, hml, hown, hts⟩ hl.1 (c_State_init l D cI cJ cC cZ cS q_91) hK.2.2.2.2.2.2.1 w_1_227 w_1_10 w_1_228 rfl (by decide +kernel) ⟨⟨(Nat.le_of_ble_eq_true rfl), (Nat.le_of_ble_eq_true rfl)⟩, (Nat.le_of_ble_eq_true rfl), (Nat.le_of_ble_eq_true rfl)⟩ hK hP hD hS hA [2] [0, 1] rfl rfl (by decide) (by decide) (by decide) rfl rfl (Nat.le_of_ble_eq_true rfl) dX4_init_62 (fun u H locs hw hP hD hS => ?_)
  obtain ⟨k1_92, k2_93, rfl⟩ := hw
  have hP : va_P D vwCl [(h0, .inr (4, [.ref q_1, .int 0, .ref q_2, .ref q_3, .ref q_4])), (q_1, .inl (cS, 20, .inr (.inr (.inr (.inr f_89))))), (q_91, .inr (7, [.ref k1_92, .ref k2_93, .int 0, .int 0, .int 0, .int 0, .int 0]))] H := hP
  have hD : va_D A [(h0, .inr (4, [.ref q_1, .int 0, .ref q_2, .ref q_3, .ref q_4])), (q_1, .inl (cS, 20, .inr (.inr (.inr (.inr f_89))))), (q_91, .inr (7, [.ref k1_92, .ref k2_93, .int 0, .int 0, .int 0, .int 0, .int 0]))] := hD
  refine W.widen (k := 58) (n := 3470) (Nat.le_of_ble_eq_true rfl) (Nat.le_of_ble_eq_true rfl) ?_
  refine sk_astO (ws' := fun f_94 => [(h0, .inr (4, [.ref q_1, .int 0, .ref q_2, .ref q_3, .ref q_4])), (q_1, .inl (cS, 20, .inr (.inr (.inr (.inr f_94))))), (q_91, .inr (7, [.ref k1_92, .ref k2_93, .int 0, .int 0, .int 0, .int 0, .int 0]))]) (r := (RX7, TX7, 7)) hx hb hK hP hD hS 1 4 2 7 rfl rfl rfl rfl (by unfold vp_in; decide) (fun _ => rfl) dX4_init_65 (fun f_94 H locs hP hD hS => ?_)
  refine lv_iinc (v := 18) (lv' := [(1, .int 18), (0, .ref h0)]) hx hb dX4_init_66 hl (k := 0) rfl (by decide) (by decide) rfl (fun ls hl => ?_)
  refine lv_goto (tgt := 47) hx hb dX4_init_69 (by decide) ?_
  have hP := hP.sub (ws' := [(h0, .inr (4, [.ref q_1, .int 0, .ref q_2, .ref q_3, .ref q_4])), (q_1, .inl (cS, 20, .inr (.inr (.inr (.inr f_94)))))]) [0, 1] rfl
  have hD := hD.sub (ws' := [(h0, .inr (4, [.ref q_1, .int 0, .ref q_2, .ref q_3, .ref q_4])), (q_1, .inl (cS, 20, .inr (.inr (.inr (.inr f_94)))))]) [0, 1] (by decide) rfl
  refine lv_iload_n hx hb dX4_init_47 rfl (lv_at hl 0 rfl) ?_
  refine lv_bipush (v := 20) hx hb dX4_init_48 (by decide) ?_
  refine lv_icmp_ge (tgt := 72) hx hb dX4_init_50 (by decide) (fun c => absurd c (by decide)) (fun c_95 => ?_)
  refine lv_aload_n hx hb dX4_init_53 rfl (lv_at hl 1 rfl) ?_
  refine sk_get (v := .ref q_1) (C := RX4) (T := TX4) (N := 5) hx hb hts inlX4 hown hK hP 0 rfl rfl 0 (by decide) w_2_40 rfl dX4_init_54 ?_
  refine lv_iload_n hx hb dX4_init_57 rfl (lv_at hl 0 rfl) ?_
  refine sk_new (ci := 7) (fs := [.null, .null, .int 0, .int 0, .int 0, .int 0, .int 0]) (C := RX7) (T := TX7) (N := 7) (k1 := 59) (n1 := 3477) hx hb hts inlX7 tyX7 tyX7_ok hown w_2_37 w_1_225 w_1_10 hK hP hD hS hA rfl (fun j hj => by rcases (show j = 0 ∨ j = 1 ∨ j = 2 ∨ j = 3 ∨ j = 4 ∨ j = 5 ∨ j = 6 by omega) with rfl | rfl | rfl | rfl | rfl | rfl | rfl <;> rfl) (Nat.le_of_ble_eq_true rfl) (Nat.le_of_ble_eq_true rfl) (Nat.le_of_ble_eq_true rfl) (Nat.le_of_ble_eq_true rfl) dX4_init_58 (fun q_96 H hP hD hS => ?_)
  have hP : va_P D vwCl [(h0, .inr (4, [.ref q_1, .int 0, .ref q_2, .ref q_3, .ref q_4])), (q_1, .inl (cS, 20, .inr (.inr (.inr (.inr f_94))))), (q_96, .inr (7, [.null, .null, .int 0, .int 0, .int 0, .int 0, .int 0]))] H := hP
  have hD : va_D A [(h0, .inr (4, [.ref q_1, .int 0, .ref q_2, .ref q_3, .ref q_4])), (q_1, .inl (cS, 20, .inr (.inr (.inr (.inr f_94))))), (q_96, .inr (7, [.null, .null, .int 0, .int 0, .int 0, .int 0, .int 0]))] := hD
  refine lv_dup hx hb dX4_init_61 rfl ?_
  refine sk_INv (n := 0) (rest := [.ref q_96, .int 18, .ref q_1]) (wr := [(h0, .inr (4, [.ref q_1, .int 0, .ref q_2, .ref q_3, .ref q_4])), (q_1, .inl (cS, 20, .inr (.inr (.inr (.inr f_94)))))]) ⟨hx, hb, hml, hown, hts⟩ hl.1 (c_State_init l D cI cJ cC cZ cS q_96) hK.2.2.2.2.2.2.1 w_1_227 w_1_10 w_1_228 rfl (by decide +kernel) ⟨⟨(Nat.le_of_ble_eq_true rfl), (Nat.le_of_ble_eq_true rfl)⟩, (Nat.le_of_ble_eq_true rfl), (Nat.le_of_ble_eq_true rfl)⟩ hK hP hD hS hA [2] [0, 1] rfl rfl (by decide) (by decide) (by decide) rfl rfl (Nat.le_of_ble_eq_true rfl) dX4_init_62 (fun u H locs hw hP hD hS => ?_)
  obtain ⟨k1_97, k2_98, rfl⟩ := hw
  have hP : va_P D vwCl [(h0, .inr (4, [.ref q_1, .int 0, .ref q_2, .ref q_3, .ref q_4])), (q_1, .inl (cS, 20, .inr (.inr (.inr (.inr f_94))))), (q_96, .inr (7, [.ref k1_97, .ref k2_98, .int 0, .int 0, .int 0, .int 0, .int 0]))] H := hP
  have hD : va_D A [(h0, .inr (4, [.ref q_1, .int 0, .ref q_2, .ref q_3, .ref q_4])), (q_1, .inl (cS, 20, .inr (.inr (.inr (.inr f_94))))), (q_96, .inr (7, [.ref k1_97, .ref k2_98, .int 0, .int 0, .int 0, .int 0, .int 0]))] := hD
  refine W.widen (k := 61) (n := 3495) (Nat.le_of_ble_eq_true rfl) (Nat.le_of_ble_eq_true rfl) ?_
  refine sk_astO (ws' := fun f_99 => [(h0, .inr (4, [.ref q_1, .int 0, .ref q_2, .ref q_3, .ref q_4])), (q_1, .inl (cS, 20, .inr (.inr (.inr (.inr f_99))))), (q_96, .inr (7, [.ref k1_97, .ref k2_98, .int 0, .int 0, .int 0, .int 0, .int 0]))]) (r := (RX7, TX7, 7)) hx hb hK hP hD hS 1 4 2 7 rfl rfl rfl rfl (by unfold vp_in; decide) (fun _ => rfl) dX4_init_65 (fun f_99 H locs hP hD hS => ?_)
  refine lv_iinc (v := 19) (lv' := [(1, .int 19), (0, .ref h0)]) hx hb dX4_init_66 hl (k := 0) rfl (by decide) (by decide) rfl (fun ls hl => ?_)
  refine lv_goto (tgt := 47) hx hb dX4_init_69 (by decide) ?_
  have hP := hP.sub (ws' := [(h0, .inr (4, [.ref q_1, .int 0, .ref q_2, .ref q_3, .ref q_4])), (q_1, .inl (cS, 20, .inr (.inr (.inr (.inr f_99)))))]) [0, 1] rfl
  have hD := hD.sub (ws' := [(h0, .inr (4, [.ref q_1, .int 0, .ref q_2, .ref q_3, .ref q_4])), (q_1, .inl (cS, 20, .inr (.inr (.inr (.inr f_99)))))]) [0, 1] (by decide) rfl
  refine lv_iload_n hx hb dX4_init_47 rfl (lv_at hl 0 rfl) ?_
  refine lv_bipush (v := 20) hx hb dX4_init_48 (by decide) ?_
  refine lv_icmp_ge (tgt := 72) hx hb dX4_init_50 (by decide) (fun c => absurd c (by decide)) (fun c_100 => ?_)
  refine lv_aload_n hx hb dX4_init_53 rfl (lv_at hl 1 rfl) ?_
  refine sk_get (v := .ref q_1) (C := RX4) (T := TX4) (N := 5) hx hb hts inlX4 hown hK hP 0 rfl rfl 0 (by decide) w_2_40 rfl dX4_init_54 ?_
  refine lv_iload_n hx hb dX4_init_57 rfl (lv_at hl 0 rfl) ?_
  refine sk_new (ci := 7) (fs := [.null, .null, .int 0, .int 0, .int 0, .int 0, .int 0]) (C := RX7) (T := TX7) (N := 7) (k1 := 62) (n1 := 3502) hx hb hts inlX7 tyX7 tyX7_ok hown w_2_37 w_1_225 w_1_10 hK hP hD hS hA rfl (fun j hj => by rcases (show j = 0 ∨ j = 1 ∨ j = 2 ∨ j = 3 ∨ j = 4 ∨ j = 5 ∨ j = 6 by omega) with rfl | rfl | rfl | rfl | rfl | rfl | rfl <;> rfl) (Nat.le_of_ble_eq_true rfl) (Nat.le_of_ble_eq_true rfl) (Nat.le_of_ble_eq_true rfl) (Nat.le_of_ble_eq_true rfl) dX4_init_58 (fun q_101 H hP hD hS => ?_)
  have hP : va_P D vwCl [(h0, .inr (4, [.ref q_1, .int 0, .ref q_2, .ref q_3, .ref q_4])), (q_1, .inl (cS, 20, .inr (.inr (.inr (.inr f_99))))), (q_101, .inr (7, [.null, .null, .int 0, .int 0, .int 0, .int 0, .int 0]))] H := hP
  have hD : va_D A [(h0, .inr (4, [.ref q_1, .int 0, .ref q_2, .ref q_3, .ref q_4])), (q_1, .inl (cS, 20, .inr (.inr (.inr (.inr f_99))))), (q_101, .inr (7, [.null, .null, .int 0, .int 0, .int 0, .int 0, .int 0]))] := hD
  refine lv_dup hx hb dX4_init_61 rfl ?_
  refine sk_INv (n := 0) (rest := [.ref q_101, .int 19, .ref q_1]) (wr := [(h0, .inr (4, [.ref q_1, .int 0, .ref q_2, .ref q_3, .ref q_4])), (q_1, .inl (cS, 20, .inr (.inr (.inr (.inr f_99)))))]) ⟨hx, hb, hml, hown, hts⟩ hl.1 (c_State_init l D cI cJ cC cZ cS q_101) hK.2.2.2.2.2.2.1 w_1_227 w_1_10 w_1_228 rfl (by decide +kernel) ⟨⟨(Nat.le_of_ble_eq_true rfl), (Nat.le_of_ble_eq_true rfl)⟩, (Nat.le_of_ble_eq_true rfl), (Nat.le_of_ble_eq_true rfl)⟩ hK hP hD hS hA [2] [0, 1] rfl rfl (by decide) (by decide) (by decide) rfl rfl (Nat.le_of_ble_eq_true rfl) dX4_init_62 (fun u H locs hw hP hD hS => ?_)
  obtain ⟨k1_102, k2_103, rfl⟩ := hw
  have hP : va_P D vwCl [(h0, .inr (4, [.ref q_1, .int 0, .ref q_2, .ref q_3, .ref q_4])), (q_1, .inl (cS, 20, .inr (.inr (.inr (.inr f_99))))), (q_101, .inr (7, [.ref k1_102, .ref k2_103, .int 0, .int 0, .int 0, .int 0, .int 0]))] H := hP
  have hD : va_D A [(h0, .inr (4, [.ref q_1, .int 0, .ref q_2, .ref q_3, .ref q_4])), (q_1, .inl (cS, 20, .inr (.inr (.inr (.inr f_99))))), (q_101, .inr (7, [.ref k1_102, .ref k2_103, .int 0, .int 0, .int 0, .int 0, .int 0]))] := hD
  refine W.widen (k := 64) (n := 3520) (Nat.le_of_ble_eq_true rfl) (Nat.le_of_ble_eq_true rfl) ?_
  refine sk_astO (ws' := fun f_104 => [(h0, .inr (4, [.ref q_1, .int 0, .ref q_2, .ref q_3, .ref q_4])), (q_1, .inl (cS, 20, .inr (.inr (.inr (.inr f_104))))), (q_101, .inr (7, [.ref k1_102, .ref k2_103, .int 0, .int 0, .int 0, .int 0, .int 0]))]) (r := (RX7, TX7, 7)) hx hb hK hP hD hS 1 4 2 7 rfl rfl rfl rfl (by unfold vp_in; decide) (fun _ => rfl) dX4_init_65 (fun f_104 H locs hP hD hS => ?_)
  refine lv_iinc (v := 20) (lv' := [(1, .int 20), (0, .ref h0)]) hx hb dX4_init_66 hl (k := 0) rfl (by decide) (by decide) rfl (fun ls hl => ?_)
  refine lv_goto (tgt := 47) hx hb dX4_init_69 (by decide) ?_
  have hP := hP.sub (ws' := [(h0, .inr (4, [.ref q_1, .int 0, .ref q_2, .ref q_3, .ref q_4])), (q_1, .inl (cS, 20, .inr (.inr (.inr (.inr f_104)))))]) [0, 1] rfl
  have hD := hD.sub (ws' := [(h0, .inr (4, [.ref q_1, .int 0, .ref q_2, .ref q_3, .ref q_4])), (q_1, .inl (cS, 20, .inr (.inr (.inr (.inr f_104)))))]) [0, 1] (by decide) rfl
  refine lv_iload_n hx hb dX4_init_47 rfl (lv_at hl 0 rfl) ?_
  refine lv_bipush (v := 20) hx hb dX4_init_48 (by decide) ?_
  refine lv_icmp_ge (tgt := 72) hx hb dX4_init_50 (by decide) (fun c_105 => ?_) (fun c => absurd c (by decide))
  have hP := hP.sub (ws' := [(h0, .inr (4, [.ref q_1, .int 0, .ref q_2, .ref q_3, .ref q_4]))]) [0] rfl
  have hD := hD.sub (ws' := [(h0, .inr (4, [.ref q_1, .int 0, .ref q_2, .ref q_3, .ref q_4]))]) [0] (by decide) rfl
  exact sk_vret hx hb hr hlocks hK hP hD hS (⟨q_1, q_2, q_3, q_4, rfl⟩) (Nat.le_of_ble_eq_true rfl) (Nat.le_of_ble_eq_true rfl) dX4_init_72
theorem dX9_init_0 : decode cX9_init 0 = .ok (.aload_n 0, 1) := by decide +kernel
theorem dX9_init_1 : decode cX9_init 1 = .ok (.invokespecial 3, 3) := by decide +kernel
theorem dX9_init_4 : decode cX9_init 4 = .ok (.aload_n 0, 1) := by decide +kernel
theorem dX9_init_5 : decode cX9_init 5 = .ok (.bipush 90, 2) := by decide +kernel
theorem dX9_init_7 : decode cX9_init 7 = .ok (.newarray .int, 2) := by decide +kernel
theorem dX9_init_9 : decode cX9_init 9 = .ok (.putfield 9, 3) := by decide +kernel
theorem dX9_init_12 : decode cX9_init 12 = .ok (.aload_n 0, 1) := by decide +kernel
theorem dX9_init_13 : decode cX9_init 13 = .ok (.sipush 900, 3) := by decide +kernel
theorem dX9_init_16 : decode cX9_init 16 = .ok (.newarray .int, 2) := by decide +kernel
theorem dX9_init_18 : decode cX9_init 18 = .ok (.putfield 15, 3) := by decide +kernel
theorem dX9_init_21 : decode cX9_init 21 = .ok (.aload_n 0, 1) := by decide +kernel
theorem dX9_init_22 : decode cX9_init 22 = .ok (.bipush 90, 2) := by decide +kernel
theorem dX9_init_24 : decode cX9_init 24 = .ok (.newarray .int, 2) := by decide +kernel
theorem dX9_init_26 : decode cX9_init 26 = .ok (.putfield 18, 3) := by decide +kernel
theorem dX9_init_29 : decode cX9_init 29 = .ok (.aload_n 0, 1) := by decide +kernel
theorem dX9_init_30 : decode cX9_init 30 = .ok (.bipush 90, 2) := by decide +kernel
theorem dX9_init_32 : decode cX9_init 32 = .ok (.newarray .int, 2) := by decide +kernel
theorem dX9_init_34 : decode cX9_init 34 = .ok (.putfield 21, 3) := by decide +kernel
theorem dX9_init_37 : decode cX9_init 37 = .ok (.aload_n 0, 1) := by decide +kernel
theorem dX9_init_38 : decode cX9_init 38 = .ok (.bipush 90, 2) := by decide +kernel
theorem dX9_init_40 : decode cX9_init 40 = .ok (.newarray .long, 2) := by decide +kernel
theorem dX9_init_42 : decode cX9_init 42 = .ok (.putfield 24, 3) := by decide +kernel
theorem dX9_init_45 : decode cX9_init 45 = .ok (.aload_n 0, 1) := by decide +kernel
theorem dX9_init_46 : decode cX9_init 46 = .ok (.bipush 9, 2) := by decide +kernel
theorem dX9_init_48 : decode cX9_init 48 = .ok (.newarray .int, 2) := by decide +kernel
theorem dX9_init_50 : decode cX9_init 50 = .ok (.putfield 28, 3) := by decide +kernel
theorem dX9_init_53 : decode cX9_init 53 = .ok (.return_, 1) := by decide +kernel
theorem w_2_62 : (Cond.methodLink RX9 3 objectInit) ∈ wsL_law := sk_mem (ck_2 _ (List.mem_of_getElem? (i := 62) rfl)) rfl
theorem w_2_63 : (Cond.fieldLink RX9 9 "SameKeeper$Table" "said" "[I") ∈ wsL_law := sk_mem (ck_2 _ (List.mem_of_getElem? (i := 63) rfl)) rfl
theorem w_2_65 : (Cond.fieldLink RX9 15 "SameKeeper$Table" "turned" "[I") ∈ wsL_law := sk_mem (ck_2 _ (List.mem_of_getElem? (i := 65) rfl)) rfl
theorem w_2_67 : (Cond.fieldLink RX9 18 "SameKeeper$Table" "alone" "[I") ∈ wsL_law := sk_mem (ck_2 _ (List.mem_of_getElem? (i := 67) rfl)) rfl
theorem w_2_70 : (Cond.fieldLink RX9 21 "SameKeeper$Table" "open" "[I") ∈ wsL_law := sk_mem (ck_2 _ (List.mem_of_getElem? (i := 70) rfl)) rfl
theorem w_2_72 : (Cond.fieldLink RX9 24 "SameKeeper$Table" "wages" "[J") ∈ wsL_law := sk_mem (ck_2 _ (List.mem_of_getElem? (i := 72) rfl)) rfl
theorem w_2_75 : (Cond.fieldLink RX9 28 "SameKeeper$Table" "keys" "[I") ∈ wsL_law := sk_mem (ck_2 _ (List.mem_of_getElem? (i := 75) rfl)) rfl
theorem w_2_61 : (Cond.code yX9_init cX9_init 1 none) ∈ wsL_law := sk_mem (ck_2 _ (List.mem_of_getElem? (i := 61) rfl)) rfl
set_option maxHeartbeats 4000000 in
set_option maxRecDepth 100000 in
theorem c_Table_init (l : Launch) (D : va_G) (cI cJ cC cZ cS : ClassId) (h0 : Nat)  : skM l yX9_init cX9_init 1 none 1 20 6 1269 D (skT cI cJ cC cZ cS) [.ref h0] [(h0, .inr (9, [.null, .null, .null, .null, .null, .null]))] (skV D (skT cI cJ cC cZ cS) (fun (u : va_W) => u = [])) := by
  refine skM_of (by decide) (Nat.le_of_ble_eq_true rfl) ?_
  intro p e s m below meth c A ls E hP hD hl
  obtain ⟨hx, hb, hr, hml, hlocks, hin, hown, hts, hK, hA⟩ := E
  have hown : s.vm.findClass RX9 = some m.cls := hown
  have hin : meth.name = "<init>" := hin
  have hS : va_S A s.heap s.heap [] := va_S.rf
  have hl : lv_has ls 1 [(0, .ref h0)] := hl
  refine lv_aload_n hx hb dX9_init_0 rfl (lv_at hl 0 rfl) ?_
  refine W.objInit hx hb hown (hts _ w_2_62) (hts _ w_1_28) (hts _ w_1_29) rfl (by rw [hml]; exact hl.1) rfl dX9_init_1 (Nat.le_of_ble_eq_true rfl) (Nat.le_of_ble_eq_true rfl) ?_
  refine W.eq (g2 := F0 m 4 ls []) rfl ?_
  refine lv_aload_n hx hb dX9_init_4 rfl (lv_at hl 0 rfl) ?_
  refine lv_bipush (v := 90) hx hb dX9_init_5 (by decide) ?_
  refine sk_newa (atype := .int) (ty := .int) (a0 := (90, .inl (fun _ => 0))) (cA := cI) (k1 := 1) (n1 := 90) hx hb hts w_1_49 rfl (fun _ _ h => h) 0 rfl hK hP hD hS hA (fun _ => vp_cell_i _ _ _) (by decide) (by decide) (Nat.le_of_ble_eq_true rfl) (Nat.le_of_ble_eq_true rfl) (Nat.le_of_ble_eq_true rfl) (Nat.le_of_ble_eq_true rfl) (Nat.le_of_ble_eq_true rfl) dX9_init_7 (fun q_1 H hP hD hS => ?_)
  have hP : va_P D vwCl [(h0, .inr (9, [.null, .null, .null, .null, .null, .null])), (q_1, .inl (cI, 90, .inl (fun _ => 0)))] H := hP
  have hD : va_D A [(h0, .inr (9, [.null, .null, .null, .null, .null, .null])), (q_1, .inl (cI, 90, .inl (fun _ => 0)))] := hD
  refine sk_putF (ws' := [(h0, .inr (9, [.ref q_1, .null, .null, .null, .null, .null])), (q_1, .inl (cI, 90, .inl (fun _ => 0)))]) (C := RX9) (T := TX9) (N := 6) (v := .ref q_1) hx hb hts inlX9 tyX9 tyX9_ok nmX9 hown hK hP hD hS 0 rfl rfl 0 (by decide) w_2_63 rfl hin rfl rfl rfl (Nat.le_of_ble_eq_true rfl) rfl dX9_init_9 (fun H locs hP hD hS => ?_)
  refine lv_aload_n hx hb dX9_init_12 rfl (lv_at hl 0 rfl) ?_
  refine lv_sipush (v := 900) hx hb dX9_init_13 (by decide) ?_
  refine sk_newa (atype := .int) (ty := .int) (a0 := (900, .inl (fun _ => 0))) (cA := cI) (k1 := 2) (n1 := 990) hx hb hts w_1_49 rfl (fun _ _ h => h) 0 rfl hK hP hD hS hA (fun _ => vp_cell_i _ _ _) (by decide) (by decide) (Nat.le_of_ble_eq_true rfl) (Nat.le_of_ble_eq_true rfl) (Nat.le_of_ble_eq_true rfl) (Nat.le_of_ble_eq_true rfl) (Nat.le_of_ble_eq_true rfl) dX9_init_16 (fun q_2 H hP hD hS => ?_)
  have hP : va_P D vwCl [(h0, .inr (9, [.ref q_1, .null, .null, .null, .null, .null])), (q_1, .inl (cI, 90, .inl (fun _ => 0))), (q_2, .inl (cI, 900, .inl (fun _ => 0)))] H := hP
  have hD : va_D A [(h0, .inr (9, [.ref q_1, .null, .null, .null, .null, .null])), (q_1, .inl (cI, 90, .inl (fun _ => 0))), (q_2, .inl (cI, 900, .inl (fun _ => 0)))] := hD
  refine sk_putF (ws' := [(h0, .inr (9, [.ref q_1, .ref q_2, .null, .null, .null, .null])), (q_1, .inl (cI, 90, .inl (fun _ => 0))), (q_2, .inl (cI, 900, .inl (fun _ => 0)))]) (C := RX9) (T := TX9) (N := 6) (v := .ref q_2) hx hb hts inlX9 tyX9 tyX9_ok nmX9 hown hK hP hD hS 0 rfl rfl 1 (by decide) w_2_65 rfl hin rfl rfl rfl (Nat.le_of_ble_eq_true rfl) rfl dX9_init_18 (fun H locs hP hD hS => ?_)
  refine lv_aload_n hx hb dX9_init_21 rfl (lv_at hl 0 rfl) ?_
  refine lv_bipush (v := 90) hx hb dX9_init_22 (by decide) ?_
  refine sk_newa (atype := .int) (ty := .int) (a0 := (90, .inl (fun _ => 0))) (cA := cI) (k1 := 3) (n1 := 1080) hx hb hts w_1_49 rfl (fun _ _ h => h) 0 rfl hK hP hD hS hA (fun _ => vp_cell_i _ _ _) (by decide) (by decide) (Nat.le_of_ble_eq_true rfl) (Nat.le_of_ble_eq_true rfl) (Nat.le_of_ble_eq_true rfl) (Nat.le_of_ble_eq_true rfl) (Nat.le_of_ble_eq_true rfl) dX9_init_24 (fun q_3 H hP hD hS => ?_)
  have hP : va_P D vwCl [(h0, .inr (9, [.ref q_1, .ref q_2, .null, .null, .null, .null])), (q_1, .inl (cI, 90, .inl (fun _ => 0))), (q_2, .inl (cI, 900, .inl (fun _ => 0))), (q_3, .inl (cI, 90, .inl (fun _ => 0)))] H := hP
  have hD : va_D A [(h0, .inr (9, [.ref q_1, .ref q_2, .null, .null, .null, .null])), (q_1, .inl (cI, 90, .inl (fun _ => 0))), (q_2, .inl (cI, 900, .inl (fun _ => 0))), (q_3, .inl (cI, 90, .inl (fun _ => 0)))] := hD
  refine sk_putF (ws' := [(h0, .inr (9, [.ref q_1, .ref q_2, .ref q_3, .null, .null, .null])), (q_1, .inl (cI, 90, .inl (fun _ => 0))), (q_2, .inl (cI, 900, .inl (fun _ => 0))), (q_3, .inl (cI, 90, .inl (fun _ => 0)))]) (C := RX9) (T := TX9) (N := 6) (v := .ref q_3) hx hb hts inlX9 tyX9 tyX9_ok nmX9 hown hK hP hD hS 0 rfl rfl 2 (by decide) w_2_67 rfl hin rfl rfl rfl (Nat.le_of_ble_eq_true rfl) rfl dX9_init_26 (fun H locs hP hD hS => ?_)
  refine lv_aload_n hx hb dX9_init_29 rfl (lv_at hl 0 rfl) ?_
  refine lv_bipush (v := 90) hx hb dX9_init_30 (by decide) ?_
  refine sk_newa (atype := .int) (ty := .int) (a0 := (90, .inl (fun _ => 0))) (cA := cI) (k1 := 4) (n1 := 1170) hx hb hts w_1_49 rfl (fun _ _ h => h) 0 rfl hK hP hD hS hA (fun _ => vp_cell_i _ _ _) (by decide) (by decide) (Nat.le_of_ble_eq_true rfl) (Nat.le_of_ble_eq_true rfl) (Nat.le_of_ble_eq_true rfl) (Nat.le_of_ble_eq_true rfl) (Nat.le_of_ble_eq_true rfl) dX9_init_32 (fun q_4 H hP hD hS => ?_)
  have hP : va_P D vwCl [(h0, .inr (9, [.ref q_1, .ref q_2, .ref q_3, .null, .null, .null])), (q_1, .inl (cI, 90, .inl (fun _ => 0))), (q_2, .inl (cI, 900, .inl (fun _ => 0))), (q_3, .inl (cI, 90, .inl (fun _ => 0))), (q_4, .inl (cI, 90, .inl (fun _ => 0)))] H := hP
  have hD : va_D A [(h0, .inr (9, [.ref q_1, .ref q_2, .ref q_3, .null, .null, .null])), (q_1, .inl (cI, 90, .inl (fun _ => 0))), (q_2, .inl (cI, 900, .inl (fun _ => 0))), (q_3, .inl (cI, 90, .inl (fun _ => 0))), (q_4, .inl (cI, 90, .inl (fun _ => 0)))] := hD
  refine sk_putF (ws' := [(h0, .inr (9, [.ref q_1, .ref q_2, .ref q_3, .ref q_4, .null, .null])), (q_1, .inl (cI, 90, .inl (fun _ => 0))), (q_2, .inl (cI, 900, .inl (fun _ => 0))), (q_3, .inl (cI, 90, .inl (fun _ => 0))), (q_4, .inl (cI, 90, .inl (fun _ => 0)))]) (C := RX9) (T := TX9) (N := 6) (v := .ref q_4) hx hb hts inlX9 tyX9 tyX9_ok nmX9 hown hK hP hD hS 0 rfl rfl 3 (by decide) w_2_70 rfl hin rfl rfl rfl (Nat.le_of_ble_eq_true rfl) rfl dX9_init_34 (fun H locs hP hD hS => ?_)
  refine lv_aload_n hx hb dX9_init_37 rfl (lv_at hl 0 rfl) ?_
  refine lv_bipush (v := 90) hx hb dX9_init_38 (by decide) ?_
  refine sk_newa (atype := .long) (ty := .long) (a0 := (90, .inr (.inl (fun _ => 0)))) (cA := cJ) (k1 := 5) (n1 := 1260) hx hb hts w_1_151 rfl (fun _ _ h => h) 1 rfl hK hP hD hS hA (fun _ => vp_cell_l _ _ _) (by decide) (by decide) (Nat.le_of_ble_eq_true rfl) (Nat.le_of_ble_eq_true rfl) (Nat.le_of_ble_eq_true rfl) (Nat.le_of_ble_eq_true rfl) (Nat.le_of_ble_eq_true rfl) dX9_init_40 (fun q_5 H hP hD hS => ?_)
  have hP : va_P D vwCl [(h0, .inr (9, [.ref q_1, .ref q_2, .ref q_3, .ref q_4, .null, .null])), (q_1, .inl (cI, 90, .inl (fun _ => 0))), (q_2, .inl (cI, 900, .inl (fun _ => 0))), (q_3, .inl (cI, 90, .inl (fun _ => 0))), (q_4, .inl (cI, 90, .inl (fun _ => 0))), (q_5, .inl (cJ, 90, .inr (.inl (fun _ => 0))))] H := hP
  have hD : va_D A [(h0, .inr (9, [.ref q_1, .ref q_2, .ref q_3, .ref q_4, .null, .null])), (q_1, .inl (cI, 90, .inl (fun _ => 0))), (q_2, .inl (cI, 900, .inl (fun _ => 0))), (q_3, .inl (cI, 90, .inl (fun _ => 0))), (q_4, .inl (cI, 90, .inl (fun _ => 0))), (q_5, .inl (cJ, 90, .inr (.inl (fun _ => 0))))] := hD
  refine sk_putF (ws' := [(h0, .inr (9, [.ref q_1, .ref q_2, .ref q_3, .ref q_4, .ref q_5, .null])), (q_1, .inl (cI, 90, .inl (fun _ => 0))), (q_2, .inl (cI, 900, .inl (fun _ => 0))), (q_3, .inl (cI, 90, .inl (fun _ => 0))), (q_4, .inl (cI, 90, .inl (fun _ => 0))), (q_5, .inl (cJ, 90, .inr (.inl (fun _ => 0))))]) (C := RX9) (T := TX9) (N := 6) (v := .ref q_5) hx hb hts inlX9 tyX9 tyX9_ok nmX9 hown hK hP hD hS 0 rfl rfl 4 (by decide) w_2_72 rfl hin rfl rfl rfl (Nat.le_of_ble_eq_true rfl) rfl dX9_init_42 (fun H locs hP hD hS => ?_)
  refine lv_aload_n hx hb dX9_init_45 rfl (lv_at hl 0 rfl) ?_
  refine lv_bipush (v := 9) hx hb dX9_init_46 (by decide) ?_
  refine sk_newa (atype := .int) (ty := .int) (a0 := (9, .inl (fun _ => 0))) (cA := cI) (k1 := 6) (n1 := 1269) hx hb hts w_1_49 rfl (fun _ _ h => h) 0 rfl hK hP hD hS hA (fun _ => vp_cell_i _ _ _) (by decide) (by decide) (Nat.le_of_ble_eq_true rfl) (Nat.le_of_ble_eq_true rfl) (Nat.le_of_ble_eq_true rfl) (Nat.le_of_ble_eq_true rfl) (Nat.le_of_ble_eq_true rfl) dX9_init_48 (fun q_6 H hP hD hS => ?_)
  have hP : va_P D vwCl [(h0, .inr (9, [.ref q_1, .ref q_2, .ref q_3, .ref q_4, .ref q_5, .null])), (q_1, .inl (cI, 90, .inl (fun _ => 0))), (q_2, .inl (cI, 900, .inl (fun _ => 0))), (q_3, .inl (cI, 90, .inl (fun _ => 0))), (q_4, .inl (cI, 90, .inl (fun _ => 0))), (q_5, .inl (cJ, 90, .inr (.inl (fun _ => 0)))), (q_6, .inl (cI, 9, .inl (fun _ => 0)))] H := hP
  have hD : va_D A [(h0, .inr (9, [.ref q_1, .ref q_2, .ref q_3, .ref q_4, .ref q_5, .null])), (q_1, .inl (cI, 90, .inl (fun _ => 0))), (q_2, .inl (cI, 900, .inl (fun _ => 0))), (q_3, .inl (cI, 90, .inl (fun _ => 0))), (q_4, .inl (cI, 90, .inl (fun _ => 0))), (q_5, .inl (cJ, 90, .inr (.inl (fun _ => 0)))), (q_6, .inl (cI, 9, .inl (fun _ => 0)))] := hD
  refine sk_putF (ws' := [(h0, .inr (9, [.ref q_1, .ref q_2, .ref q_3, .ref q_4, .ref q_5, .ref q_6])), (q_1, .inl (cI, 90, .inl (fun _ => 0))), (q_2, .inl (cI, 900, .inl (fun _ => 0))), (q_3, .inl (cI, 90, .inl (fun _ => 0))), (q_4, .inl (cI, 90, .inl (fun _ => 0))), (q_5, .inl (cJ, 90, .inr (.inl (fun _ => 0)))), (q_6, .inl (cI, 9, .inl (fun _ => 0)))]) (C := RX9) (T := TX9) (N := 6) (v := .ref q_6) hx hb hts inlX9 tyX9 tyX9_ok nmX9 hown hK hP hD hS 0 rfl rfl 5 (by decide) w_2_75 rfl hin rfl rfl rfl (Nat.le_of_ble_eq_true rfl) rfl dX9_init_50 (fun H locs hP hD hS => ?_)
  have hP := hP.sub (ws' := []) [] rfl
  have hD := hD.sub (ws' := []) [] (by decide) rfl
  exact sk_vret hx hb hr hlocks hK hP hD hS rfl (Nat.le_of_ble_eq_true rfl) (Nat.le_of_ble_eq_true rfl) dX9_init_53
theorem dX1_init_0 : decode cX1_init 0 = .ok (.aload_n 0, 1) := by decide +kernel
theorem dX1_init_1 : decode cX1_init 1 = .ok (.invokespecial 3, 3) := by decide +kernel
theorem dX1_init_4 : decode cX1_init 4 = .ok (.aload_n 0, 1) := by decide +kernel
theorem dX1_init_5 : decode cX1_init 5 = .ok (.bipush 90, 2) := by decide +kernel
theorem dX1_init_7 : decode cX1_init 7 = .ok (.newarray .int, 2) := by decide +kernel
theorem dX1_init_9 : decode cX1_init 9 = .ok (.putfield 9, 3) := by decide +kernel
theorem dX1_init_12 : decode cX1_init 12 = .ok (.aload_n 0, 1) := by decide +kernel
theorem dX1_init_13 : decode cX1_init 13 = .ok (.bipush 9, 2) := by decide +kernel
theorem dX1_init_15 : decode cX1_init 15 = .ok (.newarray .int, 2) := by decide +kernel
theorem dX1_init_17 : decode cX1_init 17 = .ok (.putfield 15, 3) := by decide +kernel
theorem dX1_init_20 : decode cX1_init 20 = .ok (.aload_n 0, 1) := by decide +kernel
theorem dX1_init_21 : decode cX1_init 21 = .ok (.bipush 10, 2) := by decide +kernel
theorem dX1_init_23 : decode cX1_init 23 = .ok (.newarray .int, 2) := by decide +kernel
theorem dX1_init_25 : decode cX1_init 25 = .ok (.putfield 18, 3) := by decide +kernel
theorem dX1_init_28 : decode cX1_init 28 = .ok (.aload_n 0, 1) := by decide +kernel
theorem dX1_init_29 : decode cX1_init 29 = .ok (.bipush 100, 2) := by decide +kernel
theorem dX1_init_31 : decode cX1_init 31 = .ok (.newarray .long, 2) := by decide +kernel
theorem dX1_init_33 : decode cX1_init 33 = .ok (.putfield 21, 3) := by decide +kernel
theorem dX1_init_36 : decode cX1_init 36 = .ok (.aload_n 0, 1) := by decide +kernel
theorem dX1_init_37 : decode cX1_init 37 = .ok (.bipush 100, 2) := by decide +kernel
theorem dX1_init_39 : decode cX1_init 39 = .ok (.newarray .long, 2) := by decide +kernel
theorem dX1_init_41 : decode cX1_init 41 = .ok (.putfield 25, 3) := by decide +kernel
theorem dX1_init_44 : decode cX1_init 44 = .ok (.aload_n 0, 1) := by decide +kernel
theorem dX1_init_45 : decode cX1_init 45 = .ok (.bipush 100, 2) := by decide +kernel
theorem dX1_init_47 : decode cX1_init 47 = .ok (.newarray .long, 2) := by decide +kernel
theorem dX1_init_49 : decode cX1_init 49 = .ok (.putfield 28, 3) := by decide +kernel
theorem dX1_init_52 : decode cX1_init 52 = .ok (.aload_n 0, 1) := by decide +kernel
theorem dX1_init_53 : decode cX1_init 53 = .ok (.iconst 0, 1) := by decide +kernel
theorem dX1_init_54 : decode cX1_init 54 = .ok (.putfield 31, 3) := by decide +kernel
theorem dX1_init_57 : decode cX1_init 57 = .ok (.aload_n 0, 1) := by decide +kernel
theorem dX1_init_58 : decode cX1_init 58 = .ok (.iconst 0, 1) := by decide +kernel
theorem dX1_init_59 : decode cX1_init 59 = .ok (.putfield 35, 3) := by decide +kernel
theorem dX1_init_62 : decode cX1_init 62 = .ok (.aload_n 0, 1) := by decide +kernel
theorem dX1_init_63 : decode cX1_init 63 = .ok (.aload_n 1, 1) := by decide +kernel
theorem dX1_init_64 : decode cX1_init 64 = .ok (.putfield 38, 3) := by decide +kernel
theorem dX1_init_67 : decode cX1_init 67 = .ok (.return_, 1) := by decide +kernel
theorem w_2_94 : (Cond.methodLink RX1 3 objectInit) ∈ wsL_law := sk_mem (ck_2 _ (List.mem_of_getElem? (i := 94) rfl)) rfl
theorem w_2_96 : (Cond.fieldLink RX1 9 "SameKeeper$Graph" "leads" "[I") ∈ wsL_law := sk_mem (ck_2 _ (List.mem_of_getElem? (i := 96) rfl)) rfl
theorem w_2_97 : (Cond.fieldLink RX1 15 "SameKeeper$Graph" "allowed" "[I") ∈ wsL_law := sk_mem (ck_2 _ (List.mem_of_getElem? (i := 97) rfl)) rfl
theorem w_2_98 : (Cond.fieldLink RX1 18 "SameKeeper$Graph" "live" "[I") ∈ wsL_law := sk_mem (ck_2 _ (List.mem_of_getElem? (i := 98) rfl)) rfl
theorem w_2_99 : (Cond.fieldLink RX1 21 "SameKeeper$Graph" "ways" "[J") ∈ wsL_law := sk_mem (ck_2 _ (List.mem_of_getElem? (i := 99) rfl)) rfl
theorem w_2_100 : (Cond.fieldLink RX1 25 "SameKeeper$Graph" "comings" "[J") ∈ wsL_law := sk_mem (ck_2 _ (List.mem_of_getElem? (i := 100) rfl)) rfl
theorem w_2_101 : (Cond.fieldLink RX1 28 "SameKeeper$Graph" "gains" "[J") ∈ wsL_law := sk_mem (ck_2 _ (List.mem_of_getElem? (i := 101) rfl)) rfl
theorem w_2_102 : (Cond.fieldLink RX1 31 "SameKeeper$Graph" "days" "I") ∈ wsL_law := sk_mem (ck_2 _ (List.mem_of_getElem? (i := 102) rfl)) rfl
theorem w_2_103 : (Cond.fieldLink RX1 35 "SameKeeper$Graph" "start" "I") ∈ wsL_law := sk_mem (ck_2 _ (List.mem_of_getElem? (i := 103) rfl)) rfl
theorem w_2_95 : (Cond.fieldLink RX1 38 "SameKeeper$Graph" "table" "LSameKeeper$Table;") ∈ wsL_law := sk_mem (ck_2 _ (List.mem_of_getElem? (i := 95) rfl)) rfl
theorem w_2_93 : (Cond.code yX1_init cX1_init 2 none) ∈ wsL_law := sk_mem (ck_2 _ (List.mem_of_getElem? (i := 93) rfl)) rfl
set_option maxHeartbeats 4000000 in
set_option maxRecDepth 100000 in
theorem c_Graph_init (l : Launch) (D : va_G) (cI cJ cC cZ cS : ClassId) (h0 : Nat) (tb : Nat)  : skM l yX1_init cX1_init 2 none 1 20 6 409 D (skT cI cJ cC cZ cS) [.ref h0, .ref tb] [(h0, .inr (1, [.null, .null, .null, .null, .null, .null, .null, .int 0, .int 0]))] (skV D (skT cI cJ cC cZ cS) (fun (u : va_W) => u = [])) := by
  refine skM_of (by decide) (Nat.le_of_ble_eq_true rfl) ?_
  intro p e s m below meth c A ls E hP hD hl
  obtain ⟨hx, hb, hr, hml, hlocks, hin, hown, hts, hK, hA⟩ := E
  have hown : s.vm.findClass RX1 = some m.cls := hown
  have hin : meth.name = "<init>" := hin
  have hS : va_S A s.heap s.heap [] := va_S.rf
  have hl : lv_has ls 2 [(0, .ref h0), (1, .ref tb)] := hl
  refine lv_aload_n hx hb dX1_init_0 rfl (lv_at hl 0 rfl) ?_
  refine W.objInit hx hb hown (hts _ w_2_94) (hts _ w_1_28) (hts _ w_1_29) rfl (by rw [hml]; exact hl.1) rfl dX1_init_1 (Nat.le_of_ble_eq_true rfl) (Nat.le_of_ble_eq_true rfl) ?_
  refine W.eq (g2 := F0 m 4 ls []) rfl ?_
  refine lv_aload_n hx hb dX1_init_4 rfl (lv_at hl 0 rfl) ?_
  refine lv_bipush (v := 90) hx hb dX1_init_5 (by decide) ?_
  refine sk_newa (atype := .int) (ty := .int) (a0 := (90, .inl (fun _ => 0))) (cA := cI) (k1 := 1) (n1 := 90) hx hb hts w_1_49 rfl (fun _ _ h => h) 0 rfl hK hP hD hS hA (fun _ => vp_cell_i _ _ _) (by decide) (by decide) (Nat.le_of_ble_eq_true rfl) (Nat.le_of_ble_eq_true rfl) (Nat.le_of_ble_eq_true rfl) (Nat.le_of_ble_eq_true rfl) (Nat.le_of_ble_eq_true rfl) dX1_init_7 (fun q_1 H hP hD hS => ?_)
  have hP : va_P D vwCl [(h0, .inr (1, [.null, .null, .null, .null, .null, .null, .null, .int 0, .int 0])), (q_1, .inl (cI, 90, .inl (fun _ => 0)))] H := hP
  have hD : va_D A [(h0, .inr (1, [.null, .null, .null, .null, .null, .null, .null, .int 0, .int 0])), (q_1, .inl (cI, 90, .inl (fun _ => 0)))] := hD
  refine sk_putF (ws' := [(h0, .inr (1, [.null, .ref q_1, .null, .null, .null, .null, .null, .int 0, .int 0])), (q_1, .inl (cI, 90, .inl (fun _ => 0)))]) (C := RX1) (T := TX1) (N := 9) (v := .ref q_1) hx hb hts inlX1 tyX1 tyX1_ok nmX1 hown hK hP hD hS 0 rfl rfl 1 (by decide) w_2_96 rfl hin rfl rfl rfl (Nat.le_of_ble_eq_true rfl) rfl dX1_init_9 (fun H locs hP hD hS => ?_)
  refine lv_aload_n hx hb dX1_init_12 rfl (lv_at hl 0 rfl) ?_
  refine lv_bipush (v := 9) hx hb dX1_init_13 (by decide) ?_
  refine sk_newa (atype := .int) (ty := .int) (a0 := (9, .inl (fun _ => 0))) (cA := cI) (k1 := 2) (n1 := 99) hx hb hts w_1_49 rfl (fun _ _ h => h) 0 rfl hK hP hD hS hA (fun _ => vp_cell_i _ _ _) (by decide) (by decide) (Nat.le_of_ble_eq_true rfl) (Nat.le_of_ble_eq_true rfl) (Nat.le_of_ble_eq_true rfl) (Nat.le_of_ble_eq_true rfl) (Nat.le_of_ble_eq_true rfl) dX1_init_15 (fun q_2 H hP hD hS => ?_)
  have hP : va_P D vwCl [(h0, .inr (1, [.null, .ref q_1, .null, .null, .null, .null, .null, .int 0, .int 0])), (q_1, .inl (cI, 90, .inl (fun _ => 0))), (q_2, .inl (cI, 9, .inl (fun _ => 0)))] H := hP
  have hD : va_D A [(h0, .inr (1, [.null, .ref q_1, .null, .null, .null, .null, .null, .int 0, .int 0])), (q_1, .inl (cI, 90, .inl (fun _ => 0))), (q_2, .inl (cI, 9, .inl (fun _ => 0)))] := hD
  refine sk_putF (ws' := [(h0, .inr (1, [.null, .ref q_1, .ref q_2, .null, .null, .null, .null, .int 0, .int 0])), (q_1, .inl (cI, 90, .inl (fun _ => 0))), (q_2, .inl (cI, 9, .inl (fun _ => 0)))]) (C := RX1) (T := TX1) (N := 9) (v := .ref q_2) hx hb hts inlX1 tyX1 tyX1_ok nmX1 hown hK hP hD hS 0 rfl rfl 2 (by decide) w_2_97 rfl hin rfl rfl rfl (Nat.le_of_ble_eq_true rfl) rfl dX1_init_17 (fun H locs hP hD hS => ?_)
  refine lv_aload_n hx hb dX1_init_20 rfl (lv_at hl 0 rfl) ?_
  refine lv_bipush (v := 10) hx hb dX1_init_21 (by decide) ?_
  refine sk_newa (atype := .int) (ty := .int) (a0 := (10, .inl (fun _ => 0))) (cA := cI) (k1 := 3) (n1 := 109) hx hb hts w_1_49 rfl (fun _ _ h => h) 0 rfl hK hP hD hS hA (fun _ => vp_cell_i _ _ _) (by decide) (by decide) (Nat.le_of_ble_eq_true rfl) (Nat.le_of_ble_eq_true rfl) (Nat.le_of_ble_eq_true rfl) (Nat.le_of_ble_eq_true rfl) (Nat.le_of_ble_eq_true rfl) dX1_init_23 (fun q_3 H hP hD hS => ?_)
  have hP : va_P D vwCl [(h0, .inr (1, [.null, .ref q_1, .ref q_2, .null, .null, .null, .null, .int 0, .int 0])), (q_1, .inl (cI, 90, .inl (fun _ => 0))), (q_2, .inl (cI, 9, .inl (fun _ => 0))), (q_3, .inl (cI, 10, .inl (fun _ => 0)))] H := hP
  have hD : va_D A [(h0, .inr (1, [.null, .ref q_1, .ref q_2, .null, .null, .null, .null, .int 0, .int 0])), (q_1, .inl (cI, 90, .inl (fun _ => 0))), (q_2, .inl (cI, 9, .inl (fun _ => 0))), (q_3, .inl (cI, 10, .inl (fun _ => 0)))] := hD
  refine sk_putF (ws' := [(h0, .inr (1, [.null, .ref q_1, .ref q_2, .ref q_3, .null, .null, .null, .int 0, .int 0])), (q_1, .inl (cI, 90, .inl (fun _ => 0))), (q_2, .inl (cI, 9, .inl (fun _ => 0))), (q_3, .inl (cI, 10, .inl (fun _ => 0)))]) (C := RX1) (T := TX1) (N := 9) (v := .ref q_3) hx hb hts inlX1 tyX1 tyX1_ok nmX1 hown hK hP hD hS 0 rfl rfl 3 (by decide) w_2_98 rfl hin rfl rfl rfl (Nat.le_of_ble_eq_true rfl) rfl dX1_init_25 (fun H locs hP hD hS => ?_)
  refine lv_aload_n hx hb dX1_init_28 rfl (lv_at hl 0 rfl) ?_
  refine lv_bipush (v := 100) hx hb dX1_init_29 (by decide) ?_
  refine sk_newa (atype := .long) (ty := .long) (a0 := (100, .inr (.inl (fun _ => 0)))) (cA := cJ) (k1 := 4) (n1 := 209) hx hb hts w_1_151 rfl (fun _ _ h => h) 1 rfl hK hP hD hS hA (fun _ => vp_cell_l _ _ _) (by decide) (by decide) (Nat.le_of_ble_eq_true rfl) (Nat.le_of_ble_eq_true rfl) (Nat.le_of_ble_eq_true rfl) (Nat.le_of_ble_eq_true rfl) (Nat.le_of_ble_eq_true rfl) dX1_init_31 (fun q_4 H hP hD hS => ?_)
  have hP : va_P D vwCl [(h0, .inr (1, [.null, .ref q_1, .ref q_2, .ref q_3, .null, .null, .null, .int 0, .int 0])), (q_1, .inl (cI, 90, .inl (fun _ => 0))), (q_2, .inl (cI, 9, .inl (fun _ => 0))), (q_3, .inl (cI, 10, .inl (fun _ => 0))), (q_4, .inl (cJ, 100, .inr (.inl (fun _ => 0))))] H := hP
  have hD : va_D A [(h0, .inr (1, [.null, .ref q_1, .ref q_2, .ref q_3, .null, .null, .null, .int 0, .int 0])), (q_1, .inl (cI, 90, .inl (fun _ => 0))), (q_2, .inl (cI, 9, .inl (fun _ => 0))), (q_3, .inl (cI, 10, .inl (fun _ => 0))), (q_4, .inl (cJ, 100, .inr (.inl (fun _ => 0))))] := hD
  refine sk_putF (ws' := [(h0, .inr (1, [.null, .ref q_1, .ref q_2, .ref q_3, .ref q_4, .null, .null, .int 0, .int 0])), (q_1, .inl (cI, 90, .inl (fun _ => 0))), (q_2, .inl (cI, 9, .inl (fun _ => 0))), (q_3, .inl (cI, 10, .inl (fun _ => 0))), (q_4, .inl (cJ, 100, .inr (.inl (fun _ => 0))))]) (C := RX1) (T := TX1) (N := 9) (v := .ref q_4) hx hb hts inlX1 tyX1 tyX1_ok nmX1 hown hK hP hD hS 0 rfl rfl 4 (by decide) w_2_99 rfl hin rfl rfl rfl (Nat.le_of_ble_eq_true rfl) rfl dX1_init_33 (fun H locs hP hD hS => ?_)
  refine lv_aload_n hx hb dX1_init_36 rfl (lv_at hl 0 rfl) ?_
  refine lv_bipush (v := 100) hx hb dX1_init_37 (by decide) ?_
  refine sk_newa (atype := .long) (ty := .long) (a0 := (100, .inr (.inl (fun _ => 0)))) (cA := cJ) (k1 := 5) (n1 := 309) hx hb hts w_1_151 rfl (fun _ _ h => h) 1 rfl hK hP hD hS hA (fun _ => vp_cell_l _ _ _) (by decide) (by decide) (Nat.le_of_ble_eq_true rfl) (Nat.le_of_ble_eq_true rfl) (Nat.le_of_ble_eq_true rfl) (Nat.le_of_ble_eq_true rfl) (Nat.le_of_ble_eq_true rfl) dX1_init_39 (fun q_5 H hP hD hS => ?_)
  have hP : va_P D vwCl [(h0, .inr (1, [.null, .ref q_1, .ref q_2, .ref q_3, .ref q_4, .null, .null, .int 0, .int 0])), (q_1, .inl (cI, 90, .inl (fun _ => 0))), (q_2, .inl (cI, 9, .inl (fun _ => 0))), (q_3, .inl (cI, 10, .inl (fun _ => 0))), (q_4, .inl (cJ, 100, .inr (.inl (fun _ => 0)))), (q_5, .inl (cJ, 100, .inr (.inl (fun _ => 0))))] H := hP
  have hD : va_D A [(h0, .inr (1, [.null, .ref q_1, .ref q_2, .ref q_3, .ref q_4, .null, .null, .int 0, .int 0])), (q_1, .inl (cI, 90, .inl (fun _ => 0))), (q_2, .inl (cI, 9, .inl (fun _ => 0))), (q_3, .inl (cI, 10, .inl (fun _ => 0))), (q_4, .inl (cJ, 100, .inr (.inl (fun _ => 0)))), (q_5, .inl (cJ, 100, .inr (.inl (fun _ => 0))))] := hD
  refine sk_putF (ws' := [(h0, .inr (1, [.null, .ref q_1, .ref q_2, .ref q_3, .ref q_4, .ref q_5, .null, .int 0, .int 0])), (q_1, .inl (cI, 90, .inl (fun _ => 0))), (q_2, .inl (cI, 9, .inl (fun _ => 0))), (q_3, .inl (cI, 10, .inl (fun _ => 0))), (q_4, .inl (cJ, 100, .inr (.inl (fun _ => 0)))), (q_5, .inl (cJ, 100, .inr (.inl (fun _ => 0))))]) (C := RX1) (T := TX1) (N := 9) (v := .ref q_5) hx hb hts inlX1 tyX1 tyX1_ok nmX1 hown hK hP hD hS 0 rfl rfl 5 (by decide) w_2_100 rfl hin rfl rfl rfl (Nat.le_of_ble_eq_true rfl) rfl dX1_init_41 (fun H locs hP hD hS => ?_)
  refine lv_aload_n hx hb dX1_init_44 rfl (lv_at hl 0 rfl) ?_
  refine lv_bipush (v := 100) hx hb dX1_init_45 (by decide) ?_
  refine sk_newa (atype := .long) (ty := .long) (a0 := (100, .inr (.inl (fun _ => 0)))) (cA := cJ) (k1 := 6) (n1 := 409) hx hb hts w_1_151 rfl (fun _ _ h => h) 1 rfl hK hP hD hS hA (fun _ => vp_cell_l _ _ _) (by decide) (by decide) (Nat.le_of_ble_eq_true rfl) (Nat.le_of_ble_eq_true rfl) (Nat.le_of_ble_eq_true rfl) (Nat.le_of_ble_eq_true rfl) (Nat.le_of_ble_eq_true rfl) dX1_init_47 (fun q_6 H hP hD hS => ?_)
  have hP : va_P D vwCl [(h0, .inr (1, [.null, .ref q_1, .ref q_2, .ref q_3, .ref q_4, .ref q_5, .null, .int 0, .int 0])), (q_1, .inl (cI, 90, .inl (fun _ => 0))), (q_2, .inl (cI, 9, .inl (fun _ => 0))), (q_3, .inl (cI, 10, .inl (fun _ => 0))), (q_4, .inl (cJ, 100, .inr (.inl (fun _ => 0)))), (q_5, .inl (cJ, 100, .inr (.inl (fun _ => 0)))), (q_6, .inl (cJ, 100, .inr (.inl (fun _ => 0))))] H := hP
  have hD : va_D A [(h0, .inr (1, [.null, .ref q_1, .ref q_2, .ref q_3, .ref q_4, .ref q_5, .null, .int 0, .int 0])), (q_1, .inl (cI, 90, .inl (fun _ => 0))), (q_2, .inl (cI, 9, .inl (fun _ => 0))), (q_3, .inl (cI, 10, .inl (fun _ => 0))), (q_4, .inl (cJ, 100, .inr (.inl (fun _ => 0)))), (q_5, .inl (cJ, 100, .inr (.inl (fun _ => 0)))), (q_6, .inl (cJ, 100, .inr (.inl (fun _ => 0))))] := hD
  refine sk_putF (ws' := [(h0, .inr (1, [.null, .ref q_1, .ref q_2, .ref q_3, .ref q_4, .ref q_5, .ref q_6, .int 0, .int 0])), (q_1, .inl (cI, 90, .inl (fun _ => 0))), (q_2, .inl (cI, 9, .inl (fun _ => 0))), (q_3, .inl (cI, 10, .inl (fun _ => 0))), (q_4, .inl (cJ, 100, .inr (.inl (fun _ => 0)))), (q_5, .inl (cJ, 100, .inr (.inl (fun _ => 0)))), (q_6, .inl (cJ, 100, .inr (.inl (fun _ => 0))))]) (C := RX1) (T := TX1) (N := 9) (v := .ref q_6) hx hb hts inlX1 tyX1 tyX1_ok nmX1 hown hK hP hD hS 0 rfl rfl 6 (by decide) w_2_101 rfl hin rfl rfl rfl (Nat.le_of_ble_eq_true rfl) rfl dX1_init_49 (fun H locs hP hD hS => ?_)
  refine lv_aload_n hx hb dX1_init_52 rfl (lv_at hl 0 rfl) ?_
  refine lv_iconst (v := 0) hx hb dX1_init_53 (by decide) ?_
  refine sk_put (ws' := [(h0, .inr (1, [.null, .ref q_1, .ref q_2, .ref q_3, .ref q_4, .ref q_5, .ref q_6, .int 0, .int 0])), (q_1, .inl (cI, 90, .inl (fun _ => 0))), (q_2, .inl (cI, 9, .inl (fun _ => 0))), (q_3, .inl (cI, 10, .inl (fun _ => 0))), (q_4, .inl (cJ, 100, .inr (.inl (fun _ => 0)))), (q_5, .inl (cJ, 100, .inr (.inl (fun _ => 0)))), (q_6, .inl (cJ, 100, .inr (.inl (fun _ => 0))))]) (C := RX1) (T := TX1) (N := 9) (v := .int 0) hx hb hts inlX1 tyX1 tyX1_ok nmX1 hown hK hP hD hS 0 rfl rfl 7 (by decide) w_2_102 rfl rfl rfl (Nat.le_of_ble_eq_true rfl) rfl dX1_init_54 (fun H locs hP hD hS => ?_)
  refine lv_aload_n hx hb dX1_init_57 rfl (lv_at hl 0 rfl) ?_
  refine lv_iconst (v := 0) hx hb dX1_init_58 (by decide) ?_
  refine sk_put (ws' := [(h0, .inr (1, [.null, .ref q_1, .ref q_2, .ref q_3, .ref q_4, .ref q_5, .ref q_6, .int 0, .int 0])), (q_1, .inl (cI, 90, .inl (fun _ => 0))), (q_2, .inl (cI, 9, .inl (fun _ => 0))), (q_3, .inl (cI, 10, .inl (fun _ => 0))), (q_4, .inl (cJ, 100, .inr (.inl (fun _ => 0)))), (q_5, .inl (cJ, 100, .inr (.inl (fun _ => 0)))), (q_6, .inl (cJ, 100, .inr (.inl (fun _ => 0))))]) (C := RX1) (T := TX1) (N := 9) (v := .int 0) hx hb hts inlX1 tyX1 tyX1_ok nmX1 hown hK hP hD hS 0 rfl rfl 8 (by decide) w_2_103 rfl rfl rfl (Nat.le_of_ble_eq_true rfl) rfl dX1_init_59 (fun H locs hP hD hS => ?_)
  refine lv_aload_n hx hb dX1_init_62 rfl (lv_at hl 0 rfl) ?_
  refine lv_aload_n hx hb dX1_init_63 rfl (lv_at hl 1 rfl) ?_
  refine sk_putF (ws' := [(h0, .inr (1, [.ref tb, .ref q_1, .ref q_2, .ref q_3, .ref q_4, .ref q_5, .ref q_6, .int 0, .int 0])), (q_1, .inl (cI, 90, .inl (fun _ => 0))), (q_2, .inl (cI, 9, .inl (fun _ => 0))), (q_3, .inl (cI, 10, .inl (fun _ => 0))), (q_4, .inl (cJ, 100, .inr (.inl (fun _ => 0)))), (q_5, .inl (cJ, 100, .inr (.inl (fun _ => 0)))), (q_6, .inl (cJ, 100, .inr (.inl (fun _ => 0))))]) (C := RX1) (T := TX1) (N := 9) (v := .ref tb) hx hb hts inlX1 tyX1 tyX1_ok nmX1 hown hK hP hD hS 0 rfl rfl 0 (by decide) w_2_95 rfl hin rfl rfl rfl (Nat.le_of_ble_eq_true rfl) rfl dX1_init_64 (fun H locs hP hD hS => ?_)
  have hP := hP.sub (ws' := []) [] rfl
  have hD := hD.sub (ws' := []) [] (by decide) rfl
  exact sk_vret hx hb hr hlocks hK hP hD hS rfl (Nat.le_of_ble_eq_true rfl) (Nat.le_of_ble_eq_true rfl) dX1_init_67
