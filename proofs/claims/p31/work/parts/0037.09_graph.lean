theorem dX1_takeNumbered_10 : decode cX1_takeNumbered 10 = .ok (.istore 7, 2) := q_istore (bat_get dg_X1_takeNumbered_0_0 6 rfl rfl)
theorem dX1_takeNumbered_12 : decode cX1_takeNumbered 12 = .ok (.iload 7, 2) := q_iload (bat_get dg_X1_takeNumbered_0_0 7 rfl rfl)
theorem dX1_takeNumbered_14 : decode cX1_takeNumbered 14 = .ok (.aload_n 0, 1) := q_aload_n0 (bat_get dg_X1_takeNumbered_0_0 8 rfl rfl)
theorem dX1_takeNumbered_15 : decode cX1_takeNumbered 15 = .ok (.getfield 31, 3) := q_getfield (bat_get dg_X1_takeNumbered_0_0 9 rfl rfl) rfl
theorem dX1_takeNumbered_18 : decode cX1_takeNumbered 18 = .ok (.if_icmp .ge 102, 3) := q_if_icmp_ge (bat_get dg_X1_takeNumbered_0_0 10 rfl rfl) rfl
theorem dX1_takeNumbered_120 : decode cX1_takeNumbered 120 = .ok (.return_, 1) := q_return_ (bat_get dg_X1_takeNumbered_0_0 11 rfl rfl)
theorem dX1_takeNumbered_21 : decode cX1_takeNumbered 21 = .ok (.aload_n 0, 1) := q_aload_n0 (bat_get dg_X1_takeNumbered_0_0 12 rfl rfl)
theorem dX1_takeNumbered_22 : decode cX1_takeNumbered 22 = .ok (.iload 7, 2) := q_iload (bat_get dg_X1_takeNumbered_0_0 13 rfl rfl)
theorem dX1_takeNumbered_24 : decode cX1_takeNumbered 24 = .ok (.iload 6, 2) := q_iload (bat_get dg_X1_takeNumbered_0_0 14 rfl rfl)
theorem dX1_takeNumbered_26 : decode cX1_takeNumbered 26 = .ok (.invokevirtual 66, 3) := q_invokevirtual (bat_get dg_X1_takeNumbered_0_0 15 rfl rfl) rfl
theorem dX1_takeNumbered_29 : decode cX1_takeNumbered 29 = .ok (.istore 8, 2) := q_istore (bat_get dg_X1_takeNumbered_0_0 16 rfl rfl)
theorem dX1_takeNumbered_31 : decode cX1_takeNumbered 31 = .ok (.iconst 0, 1) := q_iconst0 (bat_get dg_X1_takeNumbered_0_0 17 rfl rfl)
theorem dX1_takeNumbered_32 : decode cX1_takeNumbered 32 = .ok (.istore 9, 2) := q_istore (bat_get dg_X1_takeNumbered_0_0 18 rfl rfl)
theorem dX1_takeNumbered_34 : decode cX1_takeNumbered 34 = .ok (.iconst 0, 1) := q_iconst0 (bat_get dg_X1_takeNumbered_0_0 19 rfl rfl)
theorem dX1_takeNumbered_35 : decode cX1_takeNumbered 35 = .ok (.istore 10, 2) := q_istore (bat_get dg_X1_takeNumbered_0_0 20 rfl rfl)
theorem dX1_takeNumbered_37 : decode cX1_takeNumbered 37 = .ok (.iload 10, 2) := q_iload (bat_get dg_X1_takeNumbered_0_0 21 rfl rfl)
theorem dX1_takeNumbered_39 : decode cX1_takeNumbered 39 = .ok (.bipush 10, 2) := q_bipush (bat_get dg_X1_takeNumbered_0_0 22 rfl rfl) rfl
theorem dX1_takeNumbered_41 : decode cX1_takeNumbered 41 = .ok (.if_icmp .ge 63, 3) := q_if_icmp_ge (bat_get dg_X1_takeNumbered_0_0 23 rfl rfl) rfl
theorem dX1_takeNumbered_104 : decode cX1_takeNumbered 104 = .ok (.aload_n 3, 1) := q_aload_n3 (bat_get dg_X1_takeNumbered_0_0 24 rfl rfl)
theorem dX1_takeNumbered_105 : decode cX1_takeNumbered 105 = .ok (.iload 7, 2) := q_iload (bat_get dg_X1_takeNumbered_0_0 25 rfl rfl)
theorem dX1_takeNumbered_107 : decode cX1_takeNumbered 107 = .ok (.iload 9, 2) := q_iload (bat_get dg_X1_takeNumbered_0_0 26 rfl rfl)
theorem dX1_takeNumbered_109 : decode cX1_takeNumbered 109 = .ok (.iastore, 1) := q_iastore (bat_get dg_X1_takeNumbered_0_0 27 rfl rfl)
theorem dX1_takeNumbered_110 : decode cX1_takeNumbered 110 = .ok (.iload 9, 2) := q_iload (bat_get dg_X1_takeNumbered_0_0 28 rfl rfl)
theorem dX1_takeNumbered_112 : decode cX1_takeNumbered 112 = .ok (.istore 6, 2) := q_istore (bat_get dg_X1_takeNumbered_0_0 29 rfl rfl)
theorem dX1_takeNumbered_114 : decode cX1_takeNumbered 114 = .ok (.iinc 7 1, 3) := q_iinc (bat_get dg_X1_takeNumbered_0_0 30 rfl rfl) rfl
theorem dX1_takeNumbered_117 : decode cX1_takeNumbered 117 = .ok (.goto (-105), 3) := q_goto (bat_get dg_X1_takeNumbered_0_0 31 rfl rfl) rfl
theorem dX1_takeNumbered_44 : decode cX1_takeNumbered 44 = .ok (.iload 8, 2) := q_iload (bat_get dg_X1_takeNumbered_0_0 32 rfl rfl)
theorem dX1_takeNumbered_46 : decode cX1_takeNumbered 46 = .ok (.iload 10, 2) := q_iload (bat_get dg_X1_takeNumbered_0_0 33 rfl rfl)
theorem dX1_takeNumbered_48 : decode cX1_takeNumbered 48 = .ok (.ishr, 1) := q_ishr (bat_get dg_X1_takeNumbered_0_0 34 rfl rfl)
theorem dX1_takeNumbered_49 : decode cX1_takeNumbered 49 = .ok (.iconst 1, 1) := q_iconst1 (bat_get dg_X1_takeNumbered_0_0 35 rfl rfl)
theorem dX1_takeNumbered_50 : decode cX1_takeNumbered 50 = .ok (.iand, 1) := q_iand (bat_get dg_X1_takeNumbered_0_0 36 rfl rfl)
theorem dX1_takeNumbered_51 : decode cX1_takeNumbered 51 = .ok (.iconst 1, 1) := q_iconst1 (bat_get dg_X1_takeNumbered_0_0 37 rfl rfl)
theorem dX1_takeNumbered_52 : decode cX1_takeNumbered 52 = .ok (.if_icmp .ne 21, 3) := q_if_icmp_ne (bat_get dg_X1_takeNumbered_0_0 38 rfl rfl) rfl
theorem dX1_takeNumbered_73 : decode cX1_takeNumbered 73 = .ok (.lconst 0, 1) := q_lconst0 (bat_get dg_X1_takeNumbered_0_0 39 rfl rfl)
theorem dg_X1_takeNumbered_55_74 : bqL cX1_takeNumbered 55 [(19, [55, 11]), (21, [22, 4]), (23, [22, 11]), (25, [148]), (26, [156, 0, 10]), (36, [22, 4]), (38, [22, 11]), (40, [101]), (41, [55, 4]), (43, [132, 10, 1]), (46, [167, 255, 192]), (29, [21, 10]), (31, [54, 9]), (33, [167, 0, 16]), (0, [42]), (1, [180, 0, 21]), (4, [21, 7]), (6, [4]), (7, [96]), (8, [16, 10]), (10, [104]), (11, [21, 10]), (13, [96]), (14, [47]), (15, [167, 0, 4])] = true := by decide +kernel
theorem dX1_takeNumbered_74 : decode cX1_takeNumbered 74 = .ok (.lstore 11, 2) := q_lstore (bat_get dg_X1_takeNumbered_55_74 0 rfl rfl)
theorem dX1_takeNumbered_76 : decode cX1_takeNumbered 76 = .ok (.lload 4, 2) := q_lload (bat_get dg_X1_takeNumbered_55_74 1 rfl rfl)
theorem dX1_takeNumbered_78 : decode cX1_takeNumbered 78 = .ok (.lload 11, 2) := q_lload (bat_get dg_X1_takeNumbered_55_74 2 rfl rfl)
theorem dX1_takeNumbered_80 : decode cX1_takeNumbered 80 = .ok (.lcmp, 1) := q_lcmp (bat_get dg_X1_takeNumbered_55_74 3 rfl rfl)
theorem dX1_takeNumbered_81 : decode cX1_takeNumbered 81 = .ok (.ifCond .ge 10, 3) := q_ifCond_ge (bat_get dg_X1_takeNumbered_55_74 4 rfl rfl) rfl
theorem dX1_takeNumbered_91 : decode cX1_takeNumbered 91 = .ok (.lload 4, 2) := q_lload (bat_get dg_X1_takeNumbered_55_74 5 rfl rfl)
theorem dX1_takeNumbered_93 : decode cX1_takeNumbered 93 = .ok (.lload 11, 2) := q_lload (bat_get dg_X1_takeNumbered_55_74 6 rfl rfl)
theorem dX1_takeNumbered_95 : decode cX1_takeNumbered 95 = .ok (.lsub, 1) := q_lsub (bat_get dg_X1_takeNumbered_55_74 7 rfl rfl)
theorem dX1_takeNumbered_96 : decode cX1_takeNumbered 96 = .ok (.lstore 4, 2) := q_lstore (bat_get dg_X1_takeNumbered_55_74 8 rfl rfl)
theorem dX1_takeNumbered_98 : decode cX1_takeNumbered 98 = .ok (.iinc 10 1, 3) := q_iinc (bat_get dg_X1_takeNumbered_55_74 9 rfl rfl) rfl
theorem dX1_takeNumbered_101 : decode cX1_takeNumbered 101 = .ok (.goto (-64), 3) := q_goto (bat_get dg_X1_takeNumbered_55_74 10 rfl rfl) rfl
theorem dX1_takeNumbered_84 : decode cX1_takeNumbered 84 = .ok (.iload 10, 2) := q_iload (bat_get dg_X1_takeNumbered_55_74 11 rfl rfl)
theorem dX1_takeNumbered_86 : decode cX1_takeNumbered 86 = .ok (.istore 9, 2) := q_istore (bat_get dg_X1_takeNumbered_55_74 12 rfl rfl)
theorem dX1_takeNumbered_88 : decode cX1_takeNumbered 88 = .ok (.goto 16, 3) := q_goto (bat_get dg_X1_takeNumbered_55_74 13 rfl rfl) rfl
theorem dX1_takeNumbered_55 : decode cX1_takeNumbered 55 = .ok (.aload_n 0, 1) := q_aload_n0 (bat_get dg_X1_takeNumbered_55_74 14 rfl rfl)
theorem dX1_takeNumbered_56 : decode cX1_takeNumbered 56 = .ok (.getfield 21, 3) := q_getfield (bat_get dg_X1_takeNumbered_55_74 15 rfl rfl) rfl
theorem dX1_takeNumbered_59 : decode cX1_takeNumbered 59 = .ok (.iload 7, 2) := q_iload (bat_get dg_X1_takeNumbered_55_74 16 rfl rfl)
theorem dX1_takeNumbered_61 : decode cX1_takeNumbered 61 = .ok (.iconst 1, 1) := q_iconst1 (bat_get dg_X1_takeNumbered_55_74 17 rfl rfl)
theorem dX1_takeNumbered_62 : decode cX1_takeNumbered 62 = .ok (.iadd, 1) := q_iadd (bat_get dg_X1_takeNumbered_55_74 18 rfl rfl)
theorem dX1_takeNumbered_63 : decode cX1_takeNumbered 63 = .ok (.bipush 10, 2) := q_bipush (bat_get dg_X1_takeNumbered_55_74 19 rfl rfl) rfl
theorem dX1_takeNumbered_65 : decode cX1_takeNumbered 65 = .ok (.imul, 1) := q_imul (bat_get dg_X1_takeNumbered_55_74 20 rfl rfl)
theorem dX1_takeNumbered_66 : decode cX1_takeNumbered 66 = .ok (.iload 10, 2) := q_iload (bat_get dg_X1_takeNumbered_55_74 21 rfl rfl)
theorem dX1_takeNumbered_68 : decode cX1_takeNumbered 68 = .ok (.iadd, 1) := q_iadd (bat_get dg_X1_takeNumbered_55_74 22 rfl rfl)
theorem dX1_takeNumbered_69 : decode cX1_takeNumbered 69 = .ok (.laload, 1) := q_laload (bat_get dg_X1_takeNumbered_55_74 23 rfl rfl)
theorem dX1_takeNumbered_70 : decode cX1_takeNumbered 70 = .ok (.goto 4, 3) := q_goto (bat_get dg_X1_takeNumbered_55_74 24 rfl rfl) rfl
theorem w_4_76 : (Cond.code yX1_takeNumbered cX1_takeNumbered 13 none) ∈ wsL_law := sk_mem (ck_4 _ (List.mem_of_getElem? (i := 76) rfl)) rfl
def om_6_3c : List Bool := true :: true :: true :: true :: false :: false :: []
theorem dg_X1_gainBy_0_0 : bqL cX1_gainBy 0 [(0, [42]), (1, [180, 0, 38]), (4, [180, 0, 94]), (7, [27]), (8, [16, 10]), (10, [104]), (11, [28]), (12, [96]), (13, [47]), (14, [42]), (15, [180, 0, 28]), (18, [27]), (19, [4]), (20, [96]), (21, [16, 10]), (23, [104]), (24, [28]), (25, [96]), (26, [47]), (27, [97]), (28, [173])] = true := by decide +kernel
theorem dX1_gainBy_0 : decode cX1_gainBy 0 = .ok (.aload_n 0, 1) := q_aload_n0 (bat_get dg_X1_gainBy_0_0 0 rfl rfl)
theorem dX1_gainBy_1 : decode cX1_gainBy 1 = .ok (.getfield 38, 3) := q_getfield (bat_get dg_X1_gainBy_0_0 1 rfl rfl) rfl
theorem dX1_gainBy_4 : decode cX1_gainBy 4 = .ok (.getfield 94, 3) := q_getfield (bat_get dg_X1_gainBy_0_0 2 rfl rfl) rfl
theorem dX1_gainBy_7 : decode cX1_gainBy 7 = .ok (.iload_n 1, 1) := q_iload_n1 (bat_get dg_X1_gainBy_0_0 3 rfl rfl)
theorem dX1_gainBy_8 : decode cX1_gainBy 8 = .ok (.bipush 10, 2) := q_bipush (bat_get dg_X1_gainBy_0_0 4 rfl rfl) rfl
theorem dX1_gainBy_10 : decode cX1_gainBy 10 = .ok (.imul, 1) := q_imul (bat_get dg_X1_gainBy_0_0 5 rfl rfl)
theorem dX1_gainBy_11 : decode cX1_gainBy 11 = .ok (.iload_n 2, 1) := q_iload_n2 (bat_get dg_X1_gainBy_0_0 6 rfl rfl)
theorem dX1_gainBy_12 : decode cX1_gainBy 12 = .ok (.iadd, 1) := q_iadd (bat_get dg_X1_gainBy_0_0 7 rfl rfl)
theorem dX1_gainBy_13 : decode cX1_gainBy 13 = .ok (.laload, 1) := q_laload (bat_get dg_X1_gainBy_0_0 8 rfl rfl)
theorem dX1_gainBy_14 : decode cX1_gainBy 14 = .ok (.aload_n 0, 1) := q_aload_n0 (bat_get dg_X1_gainBy_0_0 9 rfl rfl)
theorem dX1_gainBy_15 : decode cX1_gainBy 15 = .ok (.getfield 28, 3) := q_getfield (bat_get dg_X1_gainBy_0_0 10 rfl rfl) rfl
theorem dX1_gainBy_18 : decode cX1_gainBy 18 = .ok (.iload_n 1, 1) := q_iload_n1 (bat_get dg_X1_gainBy_0_0 11 rfl rfl)
theorem dX1_gainBy_19 : decode cX1_gainBy 19 = .ok (.iconst 1, 1) := q_iconst1 (bat_get dg_X1_gainBy_0_0 12 rfl rfl)
theorem dX1_gainBy_20 : decode cX1_gainBy 20 = .ok (.iadd, 1) := q_iadd (bat_get dg_X1_gainBy_0_0 13 rfl rfl)
theorem dX1_gainBy_21 : decode cX1_gainBy 21 = .ok (.bipush 10, 2) := q_bipush (bat_get dg_X1_gainBy_0_0 14 rfl rfl) rfl
theorem dX1_gainBy_23 : decode cX1_gainBy 23 = .ok (.imul, 1) := q_imul (bat_get dg_X1_gainBy_0_0 15 rfl rfl)
theorem dX1_gainBy_24 : decode cX1_gainBy 24 = .ok (.iload_n 2, 1) := q_iload_n2 (bat_get dg_X1_gainBy_0_0 16 rfl rfl)
theorem dX1_gainBy_25 : decode cX1_gainBy 25 = .ok (.iadd, 1) := q_iadd (bat_get dg_X1_gainBy_0_0 17 rfl rfl)
theorem dX1_gainBy_26 : decode cX1_gainBy 26 = .ok (.laload, 1) := q_laload (bat_get dg_X1_gainBy_0_0 18 rfl rfl)
theorem dX1_gainBy_27 : decode cX1_gainBy 27 = .ok (.ladd, 1) := q_ladd (bat_get dg_X1_gainBy_0_0 19 rfl rfl)
theorem dX1_gainBy_28 : decode cX1_gainBy 28 = .ok (.lreturn, 1) := q_lreturn (bat_get dg_X1_gainBy_0_0 20 rfl rfl)
theorem w_2_73 : (Cond.fieldLink RX1 94 "SameKeeper$Table" "wages" "[J") ∈ wsL_law := sk_mem (ck_2 _ (List.mem_of_getElem? (i := 73) rfl)) rfl
theorem w_2_101 : (Cond.fieldLink RX1 28 "SameKeeper$Graph" "gains" "[J") ∈ wsL_law := sk_mem (ck_2 _ (List.mem_of_getElem? (i := 101) rfl)) rfl
theorem w_4_164 : (Cond.code yX1_gainBy cX1_gainBy 3 (some .long)) ∈ wsL_law := sk_mem (ck_4 _ (List.mem_of_getElem? (i := 164) rfl)) rfl
set_option maxHeartbeats 4000000 in
set_option maxRecDepth 100000 in
theorem c_gainBy (l : Launch) (D : va_G) (cI cJ cC cZ cS : ClassId) (q : Nat → Nat) (gd : Nat) (gs : Nat) (e6 : Nat → Int64) (fg : Nat → Int64) (d : Nat) (ah : Nat) (hd : d < 9) (hah : ah < 10) : skM l yX1_gainBy cX1_gainBy 3 (some .long) 0 0 0 0 D (skT cI cJ cC cZ cS) [.ref (q 11), .int (nI d), .int (nI ah)] [(q 11, .inr (1, [.ref (q 10), .ref (q 67), .ref (q 68), .ref (q 69), .ref (q 70), .ref (q 71), .ref (q 72), .int (nI gd), .int (nI gs)])), (q 72, .inl (cJ, 100, .inr (.inl e6))), (q 10, .inr (9, [.ref (q 61), .ref (q 62), .ref (q 63), .ref (q 64), .ref (q 65), .ref (q 66)])), (q 65, .inl (cJ, 90, .inr (.inl fg)))] (skL D (skT cI cJ cC cZ cS) (fun (r : Int64) (u : va_W) => u = [(q 11, .inr (1, [.ref (q 10), .ref (q 67), .ref (q 68), .ref (q 69), .ref (q 70), .ref (q 71), .ref (q 72), .int (nI gd), .int (nI gs)])), (q 72, .inl (cJ, 100, .inr (.inl e6))), (q 10, .inr (9, [.ref (q 61), .ref (q 62), .ref (q 63), .ref (q 64), .ref (q 65), .ref (q 66)])), (q 65, .inl (cJ, 90, .inr (.inl fg)))])) := by
  refine skM_of pf_X1_gainBy (Nat.le_of_ble_eq_true rfl) ?_
  intro p e s m below meth c A ls E hP hD hl
  refine skE_el E (fun hx hb hr hml hlocks hin hown hts hK hA => ?_)
  have hown : s.vm.findClass RX1 = some m.cls := hown
  have hS : va_S A s.heap s.heap [] := va_S.rf
  have hl : lv_has ls 3 [(0, .ref (q 11)), (1, .int (nI d)), (2, .int (nI ah))] := hl
  refine lv_aload_n hx hb dX1_gainBy_0 rfl (lv_at hl 0 rfl) ?_
  refine sk_get (v := .ref (q 10)) (C := RX1) (T := TX1) (N := 9) hx hb hts inlX1 hown hK hP 0 rfl rfl 0 (by decide) w_2_95 rfl dX1_gainBy_1 ?_
  refine sk_get (v := .ref (q 65)) (C := RX9) (T := TX9) (N := 6) hx hb hts inlX9 hown hK hP 2 rfl rfl 4 (by decide) w_2_73 rfl dX1_gainBy_4 ?_
  refine lv_iload_n hx hb dX1_gainBy_7 rfl (lv_at hl 1 rfl) ?_
  refine lv_bipush (v := 10) hx hb dX1_gainBy_8 (by decide) ?_
  refine lv_imul hx hb dX1_gainBy_10 ?_
  refine sk_top (nI (d * 10)) (nmul d 10) ?_
  refine lv_iload_n hx hb dX1_gainBy_11 rfl (lv_at hl 2 rfl) ?_
  refine lv_iadd hx hb dX1_gainBy_12 ?_
  refine sk_top (nI (d * 10 + ah)) (nI_add (d * 10) ah) ?_
  refine va_lald hx hb hK.1 hP 3 1 rfl rfl (vin (d * 10 + ah) 90 (by omega) (by omega)) dX1_gainBy_13 ?_
  refine lv_topl (fun v_1 ev_1 => ?_)
  refine lv_aload_n hx hb dX1_gainBy_14 rfl (lv_at hl 0 rfl) ?_
  refine sk_get (v := .ref (q 72)) (C := RX1) (T := TX1) (N := 9) hx hb hts inlX1 hown hK hP 0 rfl rfl 6 (by decide) w_2_101 rfl dX1_gainBy_15 ?_
  refine lv_iload_n hx hb dX1_gainBy_18 rfl (lv_at hl 1 rfl) ?_
  refine lv_iconst (v := 1) hx hb dX1_gainBy_19 (by decide) ?_
  refine lv_iadd hx hb dX1_gainBy_20 ?_
  refine sk_top (nI (d + 1)) (nI_add d 1) ?_
  refine lv_bipush (v := 10) hx hb dX1_gainBy_21 (by decide) ?_
  refine lv_imul hx hb dX1_gainBy_23 ?_
  refine sk_top (nI ((d + 1) * 10)) (nmul (d + 1) 10) ?_
  refine lv_iload_n hx hb dX1_gainBy_24 rfl (lv_at hl 2 rfl) ?_
  refine lv_iadd hx hb dX1_gainBy_25 ?_
  refine sk_top (nI ((d + 1) * 10 + ah)) (nI_add ((d + 1) * 10) ah) ?_
  refine va_lald hx hb hK.1 hP 1 1 rfl rfl (vin ((d + 1) * 10 + ah) 100 (by omega) (by omega)) dX1_gainBy_26 ?_
  refine lv_topl (fun v_2 ev_2 => ?_)
  refine lv_ladd hx hb dX1_gainBy_27 ?_
  refine lv_topl (fun v_3 ev_3 => ?_)
  exact sk_lret hx hb hr hlocks hK hP hD hS rfl (Nat.le_of_ble_eq_true rfl) (Nat.le_of_ble_eq_true rfl) dX1_gainBy_28
theorem dg_X1_bestPay_0_0 : bqL cX1_bestPay 0 [(0, [3]), (1, [60]), (2, [27]), (3, [16, 10]), (5, [162, 0, 24]), (29, [42]), (30, [180, 0, 31]), (33, [4]), (34, [100]), (35, [60]), (36, [27]), (37, [155, 0, 88]), (125, [42]), (126, [180, 0, 28]), (129, [42]), (130, [180, 0, 35]), (133, [47]), (134, [173]), (40, [3]), (41, [61]), (42, [28]), (43, [16, 10]), (45, [162, 0, 74]), (119, [132, 1, 255]), (122, [167, 255, 170]), (48, [42]), (49, [27]), (50, [28]), (51, [182, 0, 66]), (54, [62]), (55, [20, 0, 89]), (58, [55, 4]), (60, [3]), (61, [54, 6]), (63, [21, 6]), (65, [16, 10]), (67, [162, 0, 33]), (100, [42]), (101, [180, 0, 28]), (104, [27])] = true := by decide +kernel
theorem dX1_bestPay_0 : decode cX1_bestPay 0 = .ok (.iconst 0, 1) := q_iconst0 (bat_get dg_X1_bestPay_0_0 0 rfl rfl)
