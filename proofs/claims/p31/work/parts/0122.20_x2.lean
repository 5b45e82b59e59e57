theorem dX11_fault_1 : decode cX11_fault 1 = .ok (.lookupswitch 43 #[(0, 27), (1, 35)], 27) := by decide +kernel
theorem dg_X11_fault_0_0 : bqL cX11_fault 0 [(0, [27]), (28, [42]), (29, [180, 0, 26]), (32, [180, 0, 128]), (35, [172]), (36, [42]), (37, [180, 0, 26]), (40, [180, 0, 141]), (43, [172]), (44, [2]), (45, [172])] = true := by decide +kernel
theorem dX11_fault_0 : decode cX11_fault 0 = .ok (.iload_n 1, 1) := q_iload_n1 (bat_get dg_X11_fault_0_0 0 rfl rfl)
theorem dX11_fault_28 : decode cX11_fault 28 = .ok (.aload_n 0, 1) := q_aload_n0 (bat_get dg_X11_fault_0_0 1 rfl rfl)
theorem dX11_fault_29 : decode cX11_fault 29 = .ok (.getfield 26, 3) := q_getfield (bat_get dg_X11_fault_0_0 2 rfl rfl) rfl
theorem dX11_fault_32 : decode cX11_fault 32 = .ok (.getfield 128, 3) := q_getfield (bat_get dg_X11_fault_0_0 3 rfl rfl) rfl
theorem dX11_fault_35 : decode cX11_fault 35 = .ok (.ireturn, 1) := q_ireturn (bat_get dg_X11_fault_0_0 4 rfl rfl)
theorem dX11_fault_36 : decode cX11_fault 36 = .ok (.aload_n 0, 1) := q_aload_n0 (bat_get dg_X11_fault_0_0 5 rfl rfl)
theorem dX11_fault_37 : decode cX11_fault 37 = .ok (.getfield 26, 3) := q_getfield (bat_get dg_X11_fault_0_0 6 rfl rfl) rfl
theorem dX11_fault_40 : decode cX11_fault 40 = .ok (.getfield 141, 3) := q_getfield (bat_get dg_X11_fault_0_0 7 rfl rfl) rfl
theorem dX11_fault_43 : decode cX11_fault 43 = .ok (.ireturn, 1) := q_ireturn (bat_get dg_X11_fault_0_0 8 rfl rfl)
theorem dX11_fault_44 : decode cX11_fault 44 = .ok (.iconst (-1), 1) := q_iconstm1 (bat_get dg_X11_fault_0_0 9 rfl rfl)
theorem dX11_fault_45 : decode cX11_fault 45 = .ok (.ireturn, 1) := q_ireturn (bat_get dg_X11_fault_0_0 10 rfl rfl)
theorem w_2_125 : (Cond.fieldLink RX11 26 "SameKeeper" "reader" "LSameKeeper$Reader;") ∈ wsL_law := sk_mem (ck_2 _ (List.mem_of_getElem? (i := 125) rfl)) rfl
theorem w_1_68 : (Cond.fieldLink RX11 128 "SameKeeper$Reader" "fault" "I") ∈ wsL_law := sk_mem (ck_1 _ (List.mem_of_getElem? (i := 68) rfl)) rfl
theorem w_1_70 : (Cond.fieldLink RX11 141 "SameKeeper$Reader" "place" "I") ∈ wsL_law := sk_mem (ck_1 _ (List.mem_of_getElem? (i := 70) rfl)) rfl
theorem w_3_168 : (Cond.code yX11_fault cX11_fault 2 (some .int)) ∈ wsL_law := sk_mem (ck_3 _ (List.mem_of_getElem? (i := 168) rfl)) rfl
set_option maxHeartbeats 4000000 in
set_option maxRecDepth 100000 in
theorem c_y_fault (l : Launch) (D : va_G) (cI cJ cC cZ cS : ClassId) (x0 : Nat) (q : Nat → Nat) (hc : Int32) (dr : Int64) (xa : Nat) (xv : Int32) (xo : Nat) (xt : Int32) (xz : Nat) (xf : Int32) (xp : Int32) (w : Int32)  : skM l yX11_fault cX11_fault 2 (some .int) 0 0 0 0 D (skT cI cJ cC cZ cS) [.ref x0, .int w] [(x0, .inr (11, [.ref (q 0), .ref (q 1), .ref (q 2), .ref (q 3), .ref (q 4), .ref (q 5), .ref (q 6), .ref (q 7), .ref (q 8), .ref (q 9), .ref (q 10), .ref (q 11), .ref (q 12), .ref (q 13), .ref (q 14), .int hc, .ref (q 16), .long dr])), (q 2, .inr (6, [.ref (q 0), .int (nI xa), .int xv, .int (nI xo), .int xt, .int (nI xz), .int xf, .int xp]))] (skI D (skT cI cJ cC cZ cS) (fun (r : Int32) (u : va_W) => ((w = 0 ∧ r = xf) ∨ (w = 1 ∧ r = xp) ∨ (¬ w = 0 ∧ ¬ w = 1 ∧ r = -1)) ∧ u = [(x0, .inr (11, [.ref (q 0), .ref (q 1), .ref (q 2), .ref (q 3), .ref (q 4), .ref (q 5), .ref (q 6), .ref (q 7), .ref (q 8), .ref (q 9), .ref (q 10), .ref (q 11), .ref (q 12), .ref (q 13), .ref (q 14), .int hc, .ref (q 16), .long dr])), (q 2, .inr (6, [.ref (q 0), .int (nI xa), .int xv, .int (nI xo), .int xt, .int (nI xz), .int xf, .int xp]))])) := by
  refine skM_of pf_X11_fault (Nat.le_of_ble_eq_true rfl) ?_
  intro p e s m below meth c A ls E hP hD hl
  refine skE_el E (fun hx hb hr hml hlocks hin hown hts hK hA => ?_)
  have hown : s.vm.findClass RX11 = some m.cls := hown
  have hS : va_S A s.heap s.heap [] := va_S.rf
  have hl : lv_has ls 2 [(0, .ref x0), (1, .int w)] := hl
  refine lv_iload_n hx hb dX11_fault_0 rfl (lv_at hl 1 rfl) ?_
  by_cases g_1 : w = 0
  · refine lv_lookup (off := 27) (tgt := 28) hx hb dX11_fault_1 (by decide) (by rw [g_1]; decide) (by decide) ?_
    refine lv_aload_n hx hb dX11_fault_28 rfl (lv_at hl 0 rfl) ?_
    refine sk_get (v := .ref (q 2)) (C := RX11) (T := TX11) (N := 18) hx hb hts inlX11 hown hK hP 0 rfl rfl 2 (by decide) w_2_125 rfl dX11_fault_29 ?_
    refine sk_get (v := .int xf) (C := RX6) (T := TX6) (N := 8) hx hb hts inlX6 hown hK hP 1 rfl rfl 6 (by decide) w_1_68 rfl dX11_fault_32 ?_
    exact sk_iret hx hb hr rfl hlocks hK hP hD hS (⟨(Or.inl ⟨g_1, rfl⟩), rfl⟩) (Nat.le_of_ble_eq_true rfl) (Nat.le_of_ble_eq_true rfl) dX11_fault_35
  by_cases g_2 : w = 1
  · refine lv_lookup (off := 35) (tgt := 36) hx hb dX11_fault_1 (by decide) (by rw [g_2]; decide) (by decide) ?_
    refine lv_aload_n hx hb dX11_fault_36 rfl (lv_at hl 0 rfl) ?_
    refine sk_get (v := .ref (q 2)) (C := RX11) (T := TX11) (N := 18) hx hb hts inlX11 hown hK hP 0 rfl rfl 2 (by decide) w_2_125 rfl dX11_fault_37 ?_
    refine sk_get (v := .int xp) (C := RX6) (T := TX6) (N := 8) hx hb hts inlX6 hown hK hP 1 rfl rfl 7 (by decide) w_1_70 rfl dX11_fault_40 ?_
    exact sk_iret hx hb hr rfl hlocks hK hP hD hS (⟨(Or.inr (Or.inl ⟨g_2, rfl⟩)), rfl⟩) (Nat.le_of_ble_eq_true rfl) (Nat.le_of_ble_eq_true rfl) dX11_fault_43
  refine lv_lookup (off := 43) (tgt := 44) hx hb dX11_fault_1 (by decide) (by rw [lv_osw g_1 (by decide)]; rw [lv_osw g_2 (by decide)]; rfl) (by decide) ?_
  refine lv_iconst (v := (-1)) hx hb dX11_fault_44 (by decide) ?_
  exact sk_iret hx hb hr rfl hlocks hK hP hD hS (⟨(Or.inr (Or.inr ⟨by assumption, by assumption, rfl⟩)), rfl⟩) (Nat.le_of_ble_eq_true rfl) (Nat.le_of_ble_eq_true rfl) dX11_fault_45
theorem dg_J6_bitCount_0f7a4_0_0 : bqL cJ6_bitCount_0f7a4 0 [(0, [26]), (1, [26]), (2, [4]), (3, [124]), (4, [19, 1, 9]), (7, [126]), (8, [100]), (9, [59]), (10, [26]), (11, [19, 1, 10]), (14, [126]), (15, [26]), (16, [5]), (17, [124]), (18, [19, 1, 10]), (21, [126]), (22, [96]), (23, [59]), (24, [26]), (25, [26]), (26, [7]), (27, [124]), (28, [96]), (29, [19, 1, 11]), (32, [126]), (33, [59]), (34, [26]), (35, [26]), (36, [16, 8]), (38, [124]), (39, [96]), (40, [59]), (41, [26]), (42, [26]), (43, [16, 16]), (45, [124]), (46, [96]), (47, [59]), (48, [26]), (49, [16, 63])] = true := by decide +kernel
theorem dJ6_bitCount_0f7a4_0 : decode cJ6_bitCount_0f7a4 0 = .ok (.iload_n 0, 1) := q_iload_n0 (bat_get dg_J6_bitCount_0f7a4_0_0 0 rfl rfl)
theorem dJ6_bitCount_0f7a4_1 : decode cJ6_bitCount_0f7a4 1 = .ok (.iload_n 0, 1) := q_iload_n0 (bat_get dg_J6_bitCount_0f7a4_0_0 1 rfl rfl)
theorem dJ6_bitCount_0f7a4_2 : decode cJ6_bitCount_0f7a4 2 = .ok (.iconst 1, 1) := q_iconst1 (bat_get dg_J6_bitCount_0f7a4_0_0 2 rfl rfl)
theorem dJ6_bitCount_0f7a4_3 : decode cJ6_bitCount_0f7a4 3 = .ok (.iushr, 1) := q_iushr (bat_get dg_J6_bitCount_0f7a4_0_0 3 rfl rfl)
theorem dJ6_bitCount_0f7a4_4 : decode cJ6_bitCount_0f7a4 4 = .ok (.ldc_w 265, 3) := q_ldc_w (bat_get dg_J6_bitCount_0f7a4_0_0 4 rfl rfl) rfl
theorem dJ6_bitCount_0f7a4_7 : decode cJ6_bitCount_0f7a4 7 = .ok (.iand, 1) := q_iand (bat_get dg_J6_bitCount_0f7a4_0_0 5 rfl rfl)
theorem dJ6_bitCount_0f7a4_8 : decode cJ6_bitCount_0f7a4 8 = .ok (.isub, 1) := q_isub (bat_get dg_J6_bitCount_0f7a4_0_0 6 rfl rfl)
theorem dJ6_bitCount_0f7a4_9 : decode cJ6_bitCount_0f7a4 9 = .ok (.istore_n 0, 1) := q_istore_n0 (bat_get dg_J6_bitCount_0f7a4_0_0 7 rfl rfl)
theorem dJ6_bitCount_0f7a4_10 : decode cJ6_bitCount_0f7a4 10 = .ok (.iload_n 0, 1) := q_iload_n0 (bat_get dg_J6_bitCount_0f7a4_0_0 8 rfl rfl)
theorem dJ6_bitCount_0f7a4_11 : decode cJ6_bitCount_0f7a4 11 = .ok (.ldc_w 266, 3) := q_ldc_w (bat_get dg_J6_bitCount_0f7a4_0_0 9 rfl rfl) rfl
theorem dJ6_bitCount_0f7a4_14 : decode cJ6_bitCount_0f7a4 14 = .ok (.iand, 1) := q_iand (bat_get dg_J6_bitCount_0f7a4_0_0 10 rfl rfl)
theorem dJ6_bitCount_0f7a4_15 : decode cJ6_bitCount_0f7a4 15 = .ok (.iload_n 0, 1) := q_iload_n0 (bat_get dg_J6_bitCount_0f7a4_0_0 11 rfl rfl)
theorem dJ6_bitCount_0f7a4_16 : decode cJ6_bitCount_0f7a4 16 = .ok (.iconst 2, 1) := q_iconst2 (bat_get dg_J6_bitCount_0f7a4_0_0 12 rfl rfl)
theorem dJ6_bitCount_0f7a4_17 : decode cJ6_bitCount_0f7a4 17 = .ok (.iushr, 1) := q_iushr (bat_get dg_J6_bitCount_0f7a4_0_0 13 rfl rfl)
theorem dJ6_bitCount_0f7a4_18 : decode cJ6_bitCount_0f7a4 18 = .ok (.ldc_w 266, 3) := q_ldc_w (bat_get dg_J6_bitCount_0f7a4_0_0 14 rfl rfl) rfl
theorem dJ6_bitCount_0f7a4_21 : decode cJ6_bitCount_0f7a4 21 = .ok (.iand, 1) := q_iand (bat_get dg_J6_bitCount_0f7a4_0_0 15 rfl rfl)
theorem dJ6_bitCount_0f7a4_22 : decode cJ6_bitCount_0f7a4 22 = .ok (.iadd, 1) := q_iadd (bat_get dg_J6_bitCount_0f7a4_0_0 16 rfl rfl)
theorem dJ6_bitCount_0f7a4_23 : decode cJ6_bitCount_0f7a4 23 = .ok (.istore_n 0, 1) := q_istore_n0 (bat_get dg_J6_bitCount_0f7a4_0_0 17 rfl rfl)
theorem dJ6_bitCount_0f7a4_24 : decode cJ6_bitCount_0f7a4 24 = .ok (.iload_n 0, 1) := q_iload_n0 (bat_get dg_J6_bitCount_0f7a4_0_0 18 rfl rfl)
theorem dJ6_bitCount_0f7a4_25 : decode cJ6_bitCount_0f7a4 25 = .ok (.iload_n 0, 1) := q_iload_n0 (bat_get dg_J6_bitCount_0f7a4_0_0 19 rfl rfl)
theorem dJ6_bitCount_0f7a4_26 : decode cJ6_bitCount_0f7a4 26 = .ok (.iconst 4, 1) := q_iconst4 (bat_get dg_J6_bitCount_0f7a4_0_0 20 rfl rfl)
theorem dJ6_bitCount_0f7a4_27 : decode cJ6_bitCount_0f7a4 27 = .ok (.iushr, 1) := q_iushr (bat_get dg_J6_bitCount_0f7a4_0_0 21 rfl rfl)
theorem dJ6_bitCount_0f7a4_28 : decode cJ6_bitCount_0f7a4 28 = .ok (.iadd, 1) := q_iadd (bat_get dg_J6_bitCount_0f7a4_0_0 22 rfl rfl)
theorem dJ6_bitCount_0f7a4_29 : decode cJ6_bitCount_0f7a4 29 = .ok (.ldc_w 267, 3) := q_ldc_w (bat_get dg_J6_bitCount_0f7a4_0_0 23 rfl rfl) rfl
theorem dJ6_bitCount_0f7a4_32 : decode cJ6_bitCount_0f7a4 32 = .ok (.iand, 1) := q_iand (bat_get dg_J6_bitCount_0f7a4_0_0 24 rfl rfl)
theorem dJ6_bitCount_0f7a4_33 : decode cJ6_bitCount_0f7a4 33 = .ok (.istore_n 0, 1) := q_istore_n0 (bat_get dg_J6_bitCount_0f7a4_0_0 25 rfl rfl)
theorem dJ6_bitCount_0f7a4_34 : decode cJ6_bitCount_0f7a4 34 = .ok (.iload_n 0, 1) := q_iload_n0 (bat_get dg_J6_bitCount_0f7a4_0_0 26 rfl rfl)
theorem dJ6_bitCount_0f7a4_35 : decode cJ6_bitCount_0f7a4 35 = .ok (.iload_n 0, 1) := q_iload_n0 (bat_get dg_J6_bitCount_0f7a4_0_0 27 rfl rfl)
theorem dJ6_bitCount_0f7a4_36 : decode cJ6_bitCount_0f7a4 36 = .ok (.bipush 8, 2) := q_bipush (bat_get dg_J6_bitCount_0f7a4_0_0 28 rfl rfl) rfl
theorem dJ6_bitCount_0f7a4_38 : decode cJ6_bitCount_0f7a4 38 = .ok (.iushr, 1) := q_iushr (bat_get dg_J6_bitCount_0f7a4_0_0 29 rfl rfl)
theorem dJ6_bitCount_0f7a4_39 : decode cJ6_bitCount_0f7a4 39 = .ok (.iadd, 1) := q_iadd (bat_get dg_J6_bitCount_0f7a4_0_0 30 rfl rfl)
theorem dJ6_bitCount_0f7a4_40 : decode cJ6_bitCount_0f7a4 40 = .ok (.istore_n 0, 1) := q_istore_n0 (bat_get dg_J6_bitCount_0f7a4_0_0 31 rfl rfl)
theorem dJ6_bitCount_0f7a4_41 : decode cJ6_bitCount_0f7a4 41 = .ok (.iload_n 0, 1) := q_iload_n0 (bat_get dg_J6_bitCount_0f7a4_0_0 32 rfl rfl)
theorem dJ6_bitCount_0f7a4_42 : decode cJ6_bitCount_0f7a4 42 = .ok (.iload_n 0, 1) := q_iload_n0 (bat_get dg_J6_bitCount_0f7a4_0_0 33 rfl rfl)
theorem dJ6_bitCount_0f7a4_43 : decode cJ6_bitCount_0f7a4 43 = .ok (.bipush 16, 2) := q_bipush (bat_get dg_J6_bitCount_0f7a4_0_0 34 rfl rfl) rfl
theorem dJ6_bitCount_0f7a4_45 : decode cJ6_bitCount_0f7a4 45 = .ok (.iushr, 1) := q_iushr (bat_get dg_J6_bitCount_0f7a4_0_0 35 rfl rfl)
theorem dJ6_bitCount_0f7a4_46 : decode cJ6_bitCount_0f7a4 46 = .ok (.iadd, 1) := q_iadd (bat_get dg_J6_bitCount_0f7a4_0_0 36 rfl rfl)
theorem dJ6_bitCount_0f7a4_47 : decode cJ6_bitCount_0f7a4 47 = .ok (.istore_n 0, 1) := q_istore_n0 (bat_get dg_J6_bitCount_0f7a4_0_0 37 rfl rfl)
theorem dJ6_bitCount_0f7a4_48 : decode cJ6_bitCount_0f7a4 48 = .ok (.iload_n 0, 1) := q_iload_n0 (bat_get dg_J6_bitCount_0f7a4_0_0 38 rfl rfl)
theorem dJ6_bitCount_0f7a4_49 : decode cJ6_bitCount_0f7a4 49 = .ok (.bipush 63, 2) := q_bipush (bat_get dg_J6_bitCount_0f7a4_0_0 39 rfl rfl) rfl
theorem dg_J6_bitCount_0f7a4_51_51 : bqL cJ6_bitCount_0f7a4 51 [(0, [126]), (1, [172])] = true := by decide +kernel
theorem dJ6_bitCount_0f7a4_51 : decode cJ6_bitCount_0f7a4 51 = .ok (.iand, 1) := q_iand (bat_get dg_J6_bitCount_0f7a4_51_51 0 rfl rfl)
theorem dJ6_bitCount_0f7a4_52 : decode cJ6_bitCount_0f7a4 52 = .ok (.ireturn, 1) := q_ireturn (bat_get dg_J6_bitCount_0f7a4_51_51 1 rfl rfl)
theorem w_3_176 : (Cond.constant RJ6 265 (1431655765)) ∈ wsL_law := sk_mem (ck_3 _ (List.mem_of_getElem? (i := 176) rfl)) rfl
theorem w_3_177 : (Cond.constant RJ6 266 (858993459)) ∈ wsL_law := sk_mem (ck_3 _ (List.mem_of_getElem? (i := 177) rfl)) rfl
theorem w_3_178 : (Cond.constant RJ6 267 (252645135)) ∈ wsL_law := sk_mem (ck_3 _ (List.mem_of_getElem? (i := 178) rfl)) rfl
theorem w_3_175 : (Cond.code yJ6_bitCount_0f7a4 cJ6_bitCount_0f7a4 1 (some .int)) ∈ wsL_law := sk_mem (ck_3 _ (List.mem_of_getElem? (i := 175) rfl)) rfl
set_option maxHeartbeats 4000000 in
set_option maxRecDepth 100000 in
theorem c_bitCount (l : Launch) (D : va_G) (cI cJ cC cZ cS : ClassId) (o : Int32)  : skM l yJ6_bitCount_0f7a4 cJ6_bitCount_0f7a4 1 (some .int) 0 0 0 0 D (skT cI cJ cC cZ cS) [.int o] [] (skI D (skT cI cJ cC cZ cS) (fun (r : Int32) (u : va_W) => u = [])) := by
  refine skM_of pf_J6_bitCount_0f7a4 (Nat.le_of_ble_eq_true rfl) ?_
  intro p e s m below meth c A ls E hP hD hl
  refine skE_el E (fun hx hb hr hml hlocks hin hown hts hK hA => ?_)
  have hown : s.vm.findClass RJ6 = some m.cls := hown
  have hS : va_S A s.heap s.heap [] := va_S.rf
  have hl : lv_has ls 1 [(0, .int o)] := hl
  refine lv_iload_n hx hb dJ6_bitCount_0f7a4_0 rfl (lv_at hl 0 rfl) ?_
  refine lv_iload_n hx hb dJ6_bitCount_0f7a4_1 rfl (lv_at hl 0 rfl) ?_
  refine lv_iconst (v := 1) hx hb dJ6_bitCount_0f7a4_2 (by decide) ?_
  refine lv_iushr hx hb dJ6_bitCount_0f7a4_3 rfl ?_
  refine lv_topi (fun v_1 ev_1 => ?_)
  refine lv_ldcw (v := 1431655765) hx hb hown (hts _ w_3_176) dJ6_bitCount_0f7a4_4 ?_
  refine lv_iand hx hb dJ6_bitCount_0f7a4_7 ?_
  refine lv_topi (fun v_2 ev_2 => ?_)
  refine lv_isub hx hb dJ6_bitCount_0f7a4_8 ?_
  refine lv_topi (fun v_3 ev_3 => ?_)
  refine lv_istore_n (lv' := [(0, .int v_3)]) hx hb dJ6_bitCount_0f7a4_9 rfl hl (by decide) rfl (fun ls hl => ?_)
  refine lv_iload_n hx hb dJ6_bitCount_0f7a4_10 rfl (lv_at hl 0 rfl) ?_
  refine lv_ldcw (v := 858993459) hx hb hown (hts _ w_3_177) dJ6_bitCount_0f7a4_11 ?_
  refine lv_iand hx hb dJ6_bitCount_0f7a4_14 ?_
  refine lv_topi (fun v_4 ev_4 => ?_)
  refine lv_iload_n hx hb dJ6_bitCount_0f7a4_15 rfl (lv_at hl 0 rfl) ?_
  refine lv_iconst (v := 2) hx hb dJ6_bitCount_0f7a4_16 (by decide) ?_
  refine lv_iushr hx hb dJ6_bitCount_0f7a4_17 rfl ?_
  refine lv_topi (fun v_5 ev_5 => ?_)
  refine lv_ldcw (v := 858993459) hx hb hown (hts _ w_3_177) dJ6_bitCount_0f7a4_18 ?_
  refine lv_iand hx hb dJ6_bitCount_0f7a4_21 ?_
  refine lv_topi (fun v_6 ev_6 => ?_)
  refine lv_iadd hx hb dJ6_bitCount_0f7a4_22 ?_
  refine lv_topi (fun v_7 ev_7 => ?_)
  refine lv_istore_n (lv' := [(0, .int v_7)]) hx hb dJ6_bitCount_0f7a4_23 rfl hl (by decide) rfl (fun ls hl => ?_)
  refine lv_iload_n hx hb dJ6_bitCount_0f7a4_24 rfl (lv_at hl 0 rfl) ?_
  refine lv_iload_n hx hb dJ6_bitCount_0f7a4_25 rfl (lv_at hl 0 rfl) ?_
  refine lv_iconst (v := 4) hx hb dJ6_bitCount_0f7a4_26 (by decide) ?_
  refine lv_iushr hx hb dJ6_bitCount_0f7a4_27 rfl ?_
  refine lv_topi (fun v_8 ev_8 => ?_)
  refine lv_iadd hx hb dJ6_bitCount_0f7a4_28 ?_
  refine lv_topi (fun v_9 ev_9 => ?_)
  refine lv_ldcw (v := 252645135) hx hb hown (hts _ w_3_178) dJ6_bitCount_0f7a4_29 ?_
  refine lv_iand hx hb dJ6_bitCount_0f7a4_32 ?_
  refine lv_topi (fun v_10 ev_10 => ?_)
  refine lv_istore_n (lv' := [(0, .int v_10)]) hx hb dJ6_bitCount_0f7a4_33 rfl hl (by decide) rfl (fun ls hl => ?_)
  refine lv_iload_n hx hb dJ6_bitCount_0f7a4_34 rfl (lv_at hl 0 rfl) ?_
  refine lv_iload_n hx hb dJ6_bitCount_0f7a4_35 rfl (lv_at hl 0 rfl) ?_
  refine lv_bipush (v := 8) hx hb dJ6_bitCount_0f7a4_36 (by decide) ?_
  refine lv_iushr hx hb dJ6_bitCount_0f7a4_38 rfl ?_
  refine lv_topi (fun v_11 ev_11 => ?_)
  refine lv_iadd hx hb dJ6_bitCount_0f7a4_39 ?_
  refine lv_topi (fun v_12 ev_12 => ?_)
  refine lv_istore_n (lv' := [(0, .int v_12)]) hx hb dJ6_bitCount_0f7a4_40 rfl hl (by decide) rfl (fun ls hl => ?_)
  refine lv_iload_n hx hb dJ6_bitCount_0f7a4_41 rfl (lv_at hl 0 rfl) ?_
  refine lv_iload_n hx hb dJ6_bitCount_0f7a4_42 rfl (lv_at hl 0 rfl) ?_
  refine lv_bipush (v := 16) hx hb dJ6_bitCount_0f7a4_43 (by decide) ?_
  refine lv_iushr hx hb dJ6_bitCount_0f7a4_45 rfl ?_
  refine lv_topi (fun v_13 ev_13 => ?_)
  refine lv_iadd hx hb dJ6_bitCount_0f7a4_46 ?_
  refine lv_topi (fun v_14 ev_14 => ?_)
  refine lv_istore_n (lv' := [(0, .int v_14)]) hx hb dJ6_bitCount_0f7a4_47 rfl hl (by decide) rfl (fun ls hl => ?_)
  refine lv_iload_n hx hb dJ6_bitCount_0f7a4_48 rfl (lv_at hl 0 rfl) ?_
  refine lv_bipush (v := 63) hx hb dJ6_bitCount_0f7a4_49 (by decide) ?_
  refine lv_iand hx hb dJ6_bitCount_0f7a4_51 ?_
  refine lv_topi (fun v_15 ev_15 => ?_)
  exact sk_iret hx hb hr rfl hlocks hK hP hD hS rfl (Nat.le_of_ble_eq_true rfl) (Nat.le_of_ble_eq_true rfl) dJ6_bitCount_0f7a4_52
