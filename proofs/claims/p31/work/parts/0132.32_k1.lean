theorem dg_X11_draw_0_0 : bqL cX11_draw 0 [(0, [42]), (1, [20, 1, 105]), (4, [42]), (5, [180, 0, 106]), (8, [105]), (9, [20, 1, 107]), (12, [97]), (13, [20, 1, 109]), (16, [127]), (17, [181, 0, 106]), (20, [31]), (21, [9]), (22, [148]), (23, [158, 0, 16]), (26, [42]), (27, [180, 0, 106]), (30, [20, 1, 111]), (33, [109]), (34, [31]), (35, [113]), (36, [167, 0, 4]), (40, [173])] = true := by decide +kernel
theorem dX11_draw_0 : decode cX11_draw 0 = .ok (.aload_n 0, 1) := q_aload_n0 (bat_get dg_X11_draw_0_0 0 rfl rfl)
theorem dX11_draw_1 : decode cX11_draw 1 = .ok (.ldc2_w 361, 3) := q_ldc2_w (bat_get dg_X11_draw_0_0 1 rfl rfl) rfl
theorem dX11_draw_4 : decode cX11_draw 4 = .ok (.aload_n 0, 1) := q_aload_n0 (bat_get dg_X11_draw_0_0 2 rfl rfl)
theorem dX11_draw_5 : decode cX11_draw 5 = .ok (.getfield 106, 3) := q_getfield (bat_get dg_X11_draw_0_0 3 rfl rfl) rfl
theorem dX11_draw_8 : decode cX11_draw 8 = .ok (.lmul, 1) := q_lmul (bat_get dg_X11_draw_0_0 4 rfl rfl)
theorem dX11_draw_9 : decode cX11_draw 9 = .ok (.ldc2_w 363, 3) := q_ldc2_w (bat_get dg_X11_draw_0_0 5 rfl rfl) rfl
theorem dX11_draw_12 : decode cX11_draw 12 = .ok (.ladd, 1) := q_ladd (bat_get dg_X11_draw_0_0 6 rfl rfl)
theorem dX11_draw_13 : decode cX11_draw 13 = .ok (.ldc2_w 365, 3) := q_ldc2_w (bat_get dg_X11_draw_0_0 7 rfl rfl) rfl
theorem dX11_draw_16 : decode cX11_draw 16 = .ok (.land, 1) := q_land (bat_get dg_X11_draw_0_0 8 rfl rfl)
theorem dX11_draw_17 : decode cX11_draw 17 = .ok (.putfield 106, 3) := q_putfield (bat_get dg_X11_draw_0_0 9 rfl rfl) rfl
theorem dX11_draw_20 : decode cX11_draw 20 = .ok (.lload_n 1, 1) := q_lload_n1 (bat_get dg_X11_draw_0_0 10 rfl rfl)
theorem dX11_draw_21 : decode cX11_draw 21 = .ok (.lconst 0, 1) := q_lconst0 (bat_get dg_X11_draw_0_0 11 rfl rfl)
theorem dX11_draw_22 : decode cX11_draw 22 = .ok (.lcmp, 1) := q_lcmp (bat_get dg_X11_draw_0_0 12 rfl rfl)
theorem dX11_draw_23 : decode cX11_draw 23 = .ok (.ifCond .le 16, 3) := q_ifCond_le (bat_get dg_X11_draw_0_0 13 rfl rfl) rfl
theorem dX11_draw_26 : decode cX11_draw 26 = .ok (.aload_n 0, 1) := q_aload_n0 (bat_get dg_X11_draw_0_0 14 rfl rfl)
theorem dX11_draw_27 : decode cX11_draw 27 = .ok (.getfield 106, 3) := q_getfield (bat_get dg_X11_draw_0_0 15 rfl rfl) rfl
theorem dX11_draw_30 : decode cX11_draw 30 = .ok (.ldc2_w 367, 3) := q_ldc2_w (bat_get dg_X11_draw_0_0 16 rfl rfl) rfl
theorem dX11_draw_33 : decode cX11_draw 33 = .ok (.ldiv, 1) := q_ldiv (bat_get dg_X11_draw_0_0 17 rfl rfl)
theorem dX11_draw_34 : decode cX11_draw 34 = .ok (.lload_n 1, 1) := q_lload_n1 (bat_get dg_X11_draw_0_0 18 rfl rfl)
theorem dX11_draw_35 : decode cX11_draw 35 = .ok (.lrem, 1) := q_lrem (bat_get dg_X11_draw_0_0 19 rfl rfl)
theorem dX11_draw_36 : decode cX11_draw 36 = .ok (.goto 4, 3) := q_goto (bat_get dg_X11_draw_0_0 20 rfl rfl) rfl
theorem dX11_draw_40 : decode cX11_draw 40 = .ok (.lreturn, 1) := q_lreturn (bat_get dg_X11_draw_0_0 21 rfl rfl)
theorem w_5_41 : (Cond.constantLong RX11 361 (1103515245)) ∈ wsL_law := sk_mem (ck_5 _ (List.mem_of_getElem? (i := 41) rfl)) rfl
theorem w_2_140 : (Cond.fieldLink RX11 106 "SameKeeper" "drawn" "J") ∈ wsL_law := sk_mem (ck_2 _ (List.mem_of_getElem? (i := 140) rfl)) rfl
theorem w_5_42 : (Cond.constantLong RX11 363 (12345)) ∈ wsL_law := sk_mem (ck_5 _ (List.mem_of_getElem? (i := 42) rfl)) rfl
theorem w_5_43 : (Cond.constantLong RX11 365 (2147483647)) ∈ wsL_law := sk_mem (ck_5 _ (List.mem_of_getElem? (i := 43) rfl)) rfl
theorem w_5_44 : (Cond.constantLong RX11 367 (64)) ∈ wsL_law := sk_mem (ck_5 _ (List.mem_of_getElem? (i := 44) rfl)) rfl
theorem w_5_40 : (Cond.code yX11_draw cX11_draw 3 (some .long)) ∈ wsL_law := sk_mem (ck_5 _ (List.mem_of_getElem? (i := 40) rfl)) rfl
set_option maxHeartbeats 4000000 in
set_option maxRecDepth 100000 in
theorem c_kx_draw (l : Launch) (D : va_G) (cI cJ cC cZ cS : ClassId) (x0 : Nat) (q : Nat → Nat) (hc : Int32) (sd : Nat) (mq : Nat) (hm1 : 1 ≤ mq) (hm2 : mq ≤ 1000000000) : skM l yX11_draw cX11_draw 3 (some .long) 0 0 0 0 D (skT cI cJ cC cZ cS) [.ref x0, .long (Int64.ofNat mq)] [(x0, .inr (11, [.ref (q 0), .ref (q 1), .ref (q 2), .ref (q 3), .ref (q 4), .ref (q 5), .ref (q 6), .ref (q 7), .ref (q 8), .ref (q 9), .ref (q 10), .ref (q 11), .ref (q 12), .ref (q 13), .ref (q 14), .int hc, .ref (q 16), .long (Int64.ofNat sd)]))] (skL D (skT cI cJ cC cZ cS) (fun (r : Int64) (u : va_W) => r = Int64.ofNat (kdv sd mq) ∧ u = [(x0, .inr (11, [.ref (q 0), .ref (q 1), .ref (q 2), .ref (q 3), .ref (q 4), .ref (q 5), .ref (q 6), .ref (q 7), .ref (q 8), .ref (q 9), .ref (q 10), .ref (q 11), .ref (q 12), .ref (q 13), .ref (q 14), .int hc, .ref (q 16), .long (Int64.ofNat (kdr sd))]))])) := by
  refine skM_of pf_X11_draw (Nat.le_of_ble_eq_true rfl) ?_
  intro p e s m below meth c A ls E hP hD hl
  refine skE_el E (fun hx hb hr hml hlocks hin hown hts hK hA => ?_)
  have hown : s.vm.findClass RX11 = some m.cls := hown
  have hS : va_S A s.heap s.heap [] := va_S.rf
  have hl : lv_has ls 3 [(0, .ref x0), (1, .long (Int64.ofNat mq))] := hl
  refine lv_aload_n hx hb dX11_draw_0 rfl (lv_at hl 0 rfl) ?_
  refine lv_ldc2 (v := 1103515245) hx hb hown (hts _ w_5_41) dX11_draw_1 ?_
  refine lv_aload_n hx hb dX11_draw_4 rfl (lv_at hl 0 rfl) ?_
  refine sk_get (v := .long (Int64.ofNat sd)) (C := RX11) (T := TX11) (N := 18) hx hb hts inlX11 hown hK hP 0 rfl rfl 17 (by decide) w_2_140 rfl dX11_draw_5 ?_
  refine lv_lmul hx hb dX11_draw_8 ?_
  refine lv_ldc2 (v := 12345) hx hb hown (hts _ w_5_42) dX11_draw_9 ?_
  refine lv_ladd hx hb dX11_draw_12 ?_
  refine lv_ldc2 (v := 2147483647) hx hb hown (hts _ w_5_43) dX11_draw_13 ?_
  refine lv_land hx hb dX11_draw_16 ?_
  refine sk_topl (Int64.ofNat (kdr sd)) (kdr_and sd) ?_
  have hkd := kdr_lt sd
  refine sk_put (ws' := [(x0, .inr (11, [.ref (q 0), .ref (q 1), .ref (q 2), .ref (q 3), .ref (q 4), .ref (q 5), .ref (q 6), .ref (q 7), .ref (q 8), .ref (q 9), .ref (q 10), .ref (q 11), .ref (q 12), .ref (q 13), .ref (q 14), .int hc, .ref (q 16), .long (Int64.ofNat (kdr sd))]))]) (C := RX11) (T := TX11) (N := 18) (v := .long (Int64.ofNat (kdr sd))) hx hb hts inlX11 tyX11 tyX11_ok nmX11 hown hK hP hD hS 0 rfl rfl 17 (by decide) w_2_140 rfl rfl rfl (Nat.le_of_ble_eq_true rfl) rfl dX11_draw_17 (fun H locs hP hD hS => ?_)
  refine lv_lload_n hx hb dX11_draw_20 rfl (lv_at hl 1 rfl) ?_
  refine lv_lconst (v := 0) hx hb dX11_draw_21 (by decide) ?_
  refine W.lcmp hx hb dX11_draw_22 ?_
  refine lv_if_le (tgt := 39) hx hb dX11_draw_23 (by decide) (fun c => absurd c (kofn_pos hm1 (by omega))) (fun c_1 => ?_)
  refine lv_aload_n hx hb dX11_draw_26 rfl (lv_at hl 0 rfl) ?_
  refine sk_get (v := .long (Int64.ofNat (kdr sd))) (C := RX11) (T := TX11) (N := 18) hx hb hts inlX11 hown hK hP 0 rfl rfl 17 (by decide) w_2_140 rfl dX11_draw_27 ?_
  refine lv_ldc2 (v := 64) hx hb hown (hts _ w_5_44) dX11_draw_30 ?_
  refine lv_ldiv hx hb dX11_draw_33 (by decide) ?_
  refine sk_topl (Int64.ofNat (kdr sd / 64)) (kofn_div (b := 64) (by omega) (by decide) (by decide)) ?_
  refine lv_lload_n hx hb dX11_draw_34 rfl (lv_at hl 1 rfl) ?_
  refine lv_lrem hx hb dX11_draw_35 (kofn_ne hm1 (by omega)) ?_
  refine sk_topl (Int64.ofNat (kdv sd mq)) (kofn_rem (by omega) (by omega) (by omega)) ?_
  refine lv_goto (tgt := 40) hx hb dX11_draw_36 (by decide) ?_
  exact sk_lret hx hb hr hlocks hK hP hD hS (⟨rfl, rfl⟩) (Nat.le_of_ble_eq_true rfl) (Nat.le_of_ble_eq_true rfl) dX11_draw_40
theorem dg_X4_keep_0_0 : bqL cX4_keep 0 [(0, [43]), (1, [180, 0, 37]), (4, [54, 5]), (6, [21, 5]), (8, [155, 0, 51]), (11, [21, 5]), (13, [42]), (14, [180, 0, 21]), (17, [190]), (18, [162, 0, 41]), (21, [42]), (22, [180, 0, 21]), (25, [21, 5]), (27, [43]), (28, [180, 0, 40]), (31, [79]), (32, [42]), (33, [180, 0, 25]), (36, [21, 5]), (38, [32]), (39, [80]), (40, [42]), (41, [180, 0, 29]), (44, [21, 5]), (46, [21, 4]), (48, [79]), (49, [43]), (50, [89]), (51, [180, 0, 37]), (54, [4]), (55, [96]), (56, [181, 0, 37]), (59, [177])] = true := by decide +kernel
theorem dX4_keep_0 : decode cX4_keep 0 = .ok (.aload_n 1, 1) := q_aload_n1 (bat_get dg_X4_keep_0_0 0 rfl rfl)
theorem dX4_keep_1 : decode cX4_keep 1 = .ok (.getfield 37, 3) := q_getfield (bat_get dg_X4_keep_0_0 1 rfl rfl) rfl
theorem dX4_keep_4 : decode cX4_keep 4 = .ok (.istore 5, 2) := q_istore (bat_get dg_X4_keep_0_0 2 rfl rfl)
theorem dX4_keep_6 : decode cX4_keep 6 = .ok (.iload 5, 2) := q_iload (bat_get dg_X4_keep_0_0 3 rfl rfl)
theorem dX4_keep_8 : decode cX4_keep 8 = .ok (.ifCond .lt 51, 3) := q_ifCond_lt (bat_get dg_X4_keep_0_0 4 rfl rfl) rfl
theorem dX4_keep_11 : decode cX4_keep 11 = .ok (.iload 5, 2) := q_iload (bat_get dg_X4_keep_0_0 5 rfl rfl)
theorem dX4_keep_13 : decode cX4_keep 13 = .ok (.aload_n 0, 1) := q_aload_n0 (bat_get dg_X4_keep_0_0 6 rfl rfl)
theorem dX4_keep_14 : decode cX4_keep 14 = .ok (.getfield 21, 3) := q_getfield (bat_get dg_X4_keep_0_0 7 rfl rfl) rfl
theorem dX4_keep_17 : decode cX4_keep 17 = .ok (.arraylength, 1) := q_arraylength (bat_get dg_X4_keep_0_0 8 rfl rfl)
theorem dX4_keep_18 : decode cX4_keep 18 = .ok (.if_icmp .ge 41, 3) := q_if_icmp_ge (bat_get dg_X4_keep_0_0 9 rfl rfl) rfl
theorem dX4_keep_21 : decode cX4_keep 21 = .ok (.aload_n 0, 1) := q_aload_n0 (bat_get dg_X4_keep_0_0 10 rfl rfl)
theorem dX4_keep_22 : decode cX4_keep 22 = .ok (.getfield 21, 3) := q_getfield (bat_get dg_X4_keep_0_0 11 rfl rfl) rfl
theorem dX4_keep_25 : decode cX4_keep 25 = .ok (.iload 5, 2) := q_iload (bat_get dg_X4_keep_0_0 12 rfl rfl)
theorem dX4_keep_27 : decode cX4_keep 27 = .ok (.aload_n 1, 1) := q_aload_n1 (bat_get dg_X4_keep_0_0 13 rfl rfl)
theorem dX4_keep_28 : decode cX4_keep 28 = .ok (.getfield 40, 3) := q_getfield (bat_get dg_X4_keep_0_0 14 rfl rfl) rfl
theorem dX4_keep_31 : decode cX4_keep 31 = .ok (.iastore, 1) := q_iastore (bat_get dg_X4_keep_0_0 15 rfl rfl)
theorem dX4_keep_32 : decode cX4_keep 32 = .ok (.aload_n 0, 1) := q_aload_n0 (bat_get dg_X4_keep_0_0 16 rfl rfl)
theorem dX4_keep_33 : decode cX4_keep 33 = .ok (.getfield 25, 3) := q_getfield (bat_get dg_X4_keep_0_0 17 rfl rfl) rfl
theorem dX4_keep_36 : decode cX4_keep 36 = .ok (.iload 5, 2) := q_iload (bat_get dg_X4_keep_0_0 18 rfl rfl)
theorem dX4_keep_38 : decode cX4_keep 38 = .ok (.lload_n 2, 1) := q_lload_n2 (bat_get dg_X4_keep_0_0 19 rfl rfl)
theorem dX4_keep_39 : decode cX4_keep 39 = .ok (.lastore, 1) := q_lastore (bat_get dg_X4_keep_0_0 20 rfl rfl)
theorem dX4_keep_40 : decode cX4_keep 40 = .ok (.aload_n 0, 1) := q_aload_n0 (bat_get dg_X4_keep_0_0 21 rfl rfl)
theorem dX4_keep_41 : decode cX4_keep 41 = .ok (.getfield 29, 3) := q_getfield (bat_get dg_X4_keep_0_0 22 rfl rfl) rfl
theorem dX4_keep_44 : decode cX4_keep 44 = .ok (.iload 5, 2) := q_iload (bat_get dg_X4_keep_0_0 23 rfl rfl)
theorem dX4_keep_46 : decode cX4_keep 46 = .ok (.iload 4, 2) := q_iload (bat_get dg_X4_keep_0_0 24 rfl rfl)
theorem dX4_keep_48 : decode cX4_keep 48 = .ok (.iastore, 1) := q_iastore (bat_get dg_X4_keep_0_0 25 rfl rfl)
theorem dX4_keep_49 : decode cX4_keep 49 = .ok (.aload_n 1, 1) := q_aload_n1 (bat_get dg_X4_keep_0_0 26 rfl rfl)
theorem dX4_keep_50 : decode cX4_keep 50 = .ok (.dup, 1) := q_dup (bat_get dg_X4_keep_0_0 27 rfl rfl)
theorem dX4_keep_51 : decode cX4_keep 51 = .ok (.getfield 37, 3) := q_getfield (bat_get dg_X4_keep_0_0 28 rfl rfl) rfl
theorem dX4_keep_54 : decode cX4_keep 54 = .ok (.iconst 1, 1) := q_iconst1 (bat_get dg_X4_keep_0_0 29 rfl rfl)
theorem dX4_keep_55 : decode cX4_keep 55 = .ok (.iadd, 1) := q_iadd (bat_get dg_X4_keep_0_0 30 rfl rfl)
theorem dX4_keep_56 : decode cX4_keep 56 = .ok (.putfield 37, 3) := q_putfield (bat_get dg_X4_keep_0_0 31 rfl rfl) rfl
theorem dX4_keep_59 : decode cX4_keep 59 = .ok (.return_, 1) := q_return_ (bat_get dg_X4_keep_0_0 32 rfl rfl)
theorem w_2_14 : (Cond.fieldLink RX4 37 "SameKeeper$State" "kept" "I") ∈ wsL_law := sk_mem (ck_2 _ (List.mem_of_getElem? (i := 14) rfl)) rfl
theorem w_2_43 : (Cond.fieldLink RX4 21 "SameKeeper$Past" "weekOf" "[I") ∈ wsL_law := sk_mem (ck_2 _ (List.mem_of_getElem? (i := 43) rfl)) rfl
theorem w_2_5 : (Cond.fieldLink RX4 40 "SameKeeper$State" "week" "I") ∈ wsL_law := sk_mem (ck_2 _ (List.mem_of_getElem? (i := 5) rfl)) rfl
theorem w_2_44 : (Cond.fieldLink RX4 25 "SameKeeper$Past" "agreedOf" "[J") ∈ wsL_law := sk_mem (ck_2 _ (List.mem_of_getElem? (i := 44) rfl)) rfl
theorem w_2_45 : (Cond.fieldLink RX4 29 "SameKeeper$Past" "moodOf" "[I") ∈ wsL_law := sk_mem (ck_2 _ (List.mem_of_getElem? (i := 45) rfl)) rfl
theorem w_5_27 : (Cond.code yX4_keep cX4_keep 6 none) ∈ wsL_law := sk_mem (ck_5 _ (List.mem_of_getElem? (i := 27) rfl)) rfl
set_option maxHeartbeats 4000000 in
set_option maxRecDepth 100000 in
theorem c_kpast_keep (l : Launch) (D : va_G) (cI cJ cC cZ cS : ClassId) (q : Nat → Nat) (ac : Nat) (p1 : Nat → Int32) (p2 : Nat → Int64) (p3 : Nat → Int32) (dy : Nat) (wn : Nat) (mo : Nat) (ke : Nat) (mu : Int32) (fb : Nat → Int32) (fw : Nat → Int32) (x : Int64) (o : Int32) (hke : ke < 1000) : skM l yX4_keep cX4_keep 6 none 0 0 0 0 D (skT cI cJ cC cZ cS) [.ref (q 9), .ref (q 7), .long x, .int o] [(q 9, .inr (4, [.ref (q 35), .int (nI ac), .ref (q 36), .ref (q 37), .ref (q 38)])), (q 36, .inl (cI, 1000, .inl p1)), (q 37, .inl (cJ, 1000, .inr (.inl p2))), (q 38, .inl (cI, 1000, .inl p3)), (q 7, .inr (7, [.ref (q 33), .ref (q 34), .int (nI dy), .int (nI wn), .int (nI mo), .int mu, .int (nI ke)]))] (skV D (skT cI cJ cC cZ cS) (fun (u : va_W) => ∃ (p1_ : Nat → Int32), ∃ (p2_ : Nat → Int64), ∃ (p3_ : Nat → Int32), p1_ = upd p1 ke (nI wn) ∧ p2_ = vp_updL p2 ke x ∧ p3_ = upd p3 ke o ∧ u = [(q 9, .inr (4, [.ref (q 35), .int (nI ac), .ref (q 36), .ref (q 37), .ref (q 38)])), (q 36, .inl (cI, 1000, .inl p1_)), (q 37, .inl (cJ, 1000, .inr (.inl p2_))), (q 38, .inl (cI, 1000, .inl p3_)), (q 7, .inr (7, [.ref (q 33), .ref (q 34), .int (nI dy), .int (nI wn), .int (nI mo), .int mu, .int (nI (ke + 1))]))])) := by
  refine skM_of pf_X4_keep (Nat.le_of_ble_eq_true rfl) ?_
  intro p e s m below meth c A ls E hP hD hl
  refine skE_el E (fun hx hb hr hml hlocks hin hown hts hK hA => ?_)
  have hown : s.vm.findClass RX4 = some m.cls := hown
  have hS : va_S A s.heap s.heap [] := va_S.rf
  have hl : lv_has ls 6 [(0, .ref (q 9)), (1, .ref (q 7)), (2, .long x), (4, .int o)] := hl
  refine lv_aload_n hx hb dX4_keep_0 rfl (lv_at hl 1 rfl) ?_
  refine sk_get (v := .int (nI ke)) (C := RX7) (T := TX7) (N := 7) hx hb hts inlX7 hown hK hP 4 rfl rfl 6 (by decide) w_2_14 rfl dX4_keep_1 ?_
  refine lv_istore (lv' := [(5, .int (nI ke)), (0, .ref (q 9)), (1, .ref (q 7)), (2, .long x), (4, .int o)]) hx hb dX4_keep_4 hl (by decide) rfl (fun ls hl => ?_)
  refine lv_iload hx hb dX4_keep_6 (lv_at hl 0 rfl) ?_
  refine lv_if_lt (tgt := 59) hx hb dX4_keep_8 (by decide) (fun c => absurd c (nI_pos (by omega))) (fun c_1 => ?_)
  refine lv_iload hx hb dX4_keep_11 (lv_at hl 0 rfl) ?_
  refine lv_aload_n hx hb dX4_keep_13 rfl (lv_at hl 1 rfl) ?_
  refine sk_get (v := .ref (q 36)) (C := RX4) (T := TX4) (N := 5) hx hb hts inlX4 hown hK hP 0 rfl rfl 2 (by decide) w_2_43 rfl dX4_keep_14 ?_
  refine va_alen (v := 1000) hx hb hK.1 hP 1 0 rfl rfl rfl dX4_keep_17 ?_
  refine lv_icmp_ge (tgt := 59) hx hb dX4_keep_18 (by decide) (fun c => absurd ((nle 1000 ke (by omega) (by omega)).mp c) (by omega)) (fun c_2 => ?_)
  refine lv_aload_n hx hb dX4_keep_21 rfl (lv_at hl 1 rfl) ?_
  refine sk_get (v := .ref (q 36)) (C := RX4) (T := TX4) (N := 5) hx hb hts inlX4 hown hK hP 0 rfl rfl 2 (by decide) w_2_43 rfl dX4_keep_22 ?_
  refine lv_iload hx hb dX4_keep_25 (lv_at hl 0 rfl) ?_
  refine lv_aload_n hx hb dX4_keep_27 rfl (lv_at hl 2 rfl) ?_
  refine sk_get (v := .int (nI wn)) (C := RX7) (T := TX7) (N := 7) hx hb hts inlX7 hown hK hP 4 rfl rfl 3 (by decide) w_2_5 rfl dX4_keep_28 ?_
  refine sk_iastE (k := ke) (ws' := fun f_3 => [(q 9, .inr (4, [.ref (q 35), .int (nI ac), .ref (q 36), .ref (q 37), .ref (q 38)])), (q 36, .inl (cI, 1000, .inl f_3)), (q 37, .inl (cJ, 1000, .inr (.inl p2))), (q 38, .inl (cI, 1000, .inl p3)), (q 7, .inr (7, [.ref (q 33), .ref (q 34), .int (nI dy), .int (nI wn), .int (nI mo), .int mu, .int (nI ke)]))]) hx hb hK hP hD hS 1 0 rfl rfl (by omega) (by omega) (fun _ => rfl) dX4_keep_31 (fun f_3 H locs ef_4 hP hD hS => ?_)
  refine lv_aload_n hx hb dX4_keep_32 rfl (lv_at hl 1 rfl) ?_
  refine sk_get (v := .ref (q 37)) (C := RX4) (T := TX4) (N := 5) hx hb hts inlX4 hown hK hP 0 rfl rfl 3 (by decide) w_2_44 rfl dX4_keep_33 ?_
  refine lv_iload hx hb dX4_keep_36 (lv_at hl 0 rfl) ?_
  refine lv_lload_n hx hb dX4_keep_38 rfl (lv_at hl 3 rfl) ?_
  refine sk_lastE (k := ke) (ws' := fun f_5 => [(q 9, .inr (4, [.ref (q 35), .int (nI ac), .ref (q 36), .ref (q 37), .ref (q 38)])), (q 36, .inl (cI, 1000, .inl f_3)), (q 37, .inl (cJ, 1000, .inr (.inl f_5))), (q 38, .inl (cI, 1000, .inl p3)), (q 7, .inr (7, [.ref (q 33), .ref (q 34), .int (nI dy), .int (nI wn), .int (nI mo), .int mu, .int (nI ke)]))]) hx hb hK hP hD hS 2 1 rfl rfl (by omega) (by omega) (fun _ => rfl) dX4_keep_39 (fun f_5 H locs ef_6 hP hD hS => ?_)
  refine lv_aload_n hx hb dX4_keep_40 rfl (lv_at hl 1 rfl) ?_
  refine sk_get (v := .ref (q 38)) (C := RX4) (T := TX4) (N := 5) hx hb hts inlX4 hown hK hP 0 rfl rfl 4 (by decide) w_2_45 rfl dX4_keep_41 ?_
  refine lv_iload hx hb dX4_keep_44 (lv_at hl 0 rfl) ?_
  refine lv_iload hx hb dX4_keep_46 (lv_at hl 4 rfl) ?_
  refine sk_iastE (k := ke) (ws' := fun f_7 => [(q 9, .inr (4, [.ref (q 35), .int (nI ac), .ref (q 36), .ref (q 37), .ref (q 38)])), (q 36, .inl (cI, 1000, .inl f_3)), (q 37, .inl (cJ, 1000, .inr (.inl f_5))), (q 38, .inl (cI, 1000, .inl f_7)), (q 7, .inr (7, [.ref (q 33), .ref (q 34), .int (nI dy), .int (nI wn), .int (nI mo), .int mu, .int (nI ke)]))]) hx hb hK hP hD hS 3 0 rfl rfl (by omega) (by omega) (fun _ => rfl) dX4_keep_48 (fun f_7 H locs ef_8 hP hD hS => ?_)
  refine lv_aload_n hx hb dX4_keep_49 rfl (lv_at hl 2 rfl) ?_
  refine lv_dup hx hb dX4_keep_50 rfl ?_
  refine sk_get (v := .int (nI ke)) (C := RX7) (T := TX7) (N := 7) hx hb hts inlX7 hown hK hP 4 rfl rfl 6 (by decide) w_2_14 rfl dX4_keep_51 ?_
  refine lv_iconst (v := 1) hx hb dX4_keep_54 (by decide) ?_
  refine lv_iadd hx hb dX4_keep_55 ?_
  refine sk_top (nI (ke + 1)) (nI_add ke 1) ?_
  refine sk_put (ws' := [(q 9, .inr (4, [.ref (q 35), .int (nI ac), .ref (q 36), .ref (q 37), .ref (q 38)])), (q 36, .inl (cI, 1000, .inl f_3)), (q 37, .inl (cJ, 1000, .inr (.inl f_5))), (q 38, .inl (cI, 1000, .inl f_7)), (q 7, .inr (7, [.ref (q 33), .ref (q 34), .int (nI dy), .int (nI wn), .int (nI mo), .int mu, .int (nI (ke + 1))]))]) (C := RX7) (T := TX7) (N := 7) (v := .int (nI (ke + 1))) hx hb hts inlX7 tyX7 tyX7_ok nmX7 hown hK hP hD hS 4 rfl rfl 6 (by decide) w_2_14 rfl rfl rfl (Nat.le_of_ble_eq_true rfl) rfl dX4_keep_56 (fun H locs hP hD hS => ?_)
  exact sk_vret hx hb hr hlocks hK hP hD hS (⟨f_3, f_5, f_7, ef_4, ef_6, ef_8, rfl⟩) (Nat.le_of_ble_eq_true rfl) (Nat.le_of_ble_eq_true rfl) dX4_keep_59
