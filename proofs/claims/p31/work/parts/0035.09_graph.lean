theorem dg_X1_countComings_0_0 : bqL cX1_countComings 0 [(0, [42]), (1, [180, 0, 25]), (4, [9]), (5, [184, 0, 76]), (8, [42]), (9, [180, 0, 25]), (12, [42]), (13, [180, 0, 35]), (16, [10]), (17, [80]), (18, [3]), (19, [60]), (20, [27]), (21, [42]), (22, [180, 0, 31]), (25, [162, 0, 84]), (109, [177]), (28, [3]), (29, [61]), (30, [28]), (31, [16, 10]), (33, [162, 0, 70]), (103, [132, 1, 1]), (106, [167, 255, 170]), (36, [42]), (37, [27]), (38, [28]), (39, [182, 0, 66]), (42, [62]), (43, [3]), (44, [54, 4]), (46, [21, 4]), (48, [16, 10]), (50, [162, 0, 47]), (97, [132, 2, 1]), (100, [167, 255, 186]), (53, [29]), (54, [21, 4]), (56, [122]), (57, [4])] = true := by decide +kernel
theorem dX1_countComings_0 : decode cX1_countComings 0 = .ok (.aload_n 0, 1) := q_aload_n0 (bat_get dg_X1_countComings_0_0 0 rfl rfl)
theorem dX1_countComings_1 : decode cX1_countComings 1 = .ok (.getfield 25, 3) := q_getfield (bat_get dg_X1_countComings_0_0 1 rfl rfl) rfl
theorem dX1_countComings_4 : decode cX1_countComings 4 = .ok (.lconst 0, 1) := q_lconst0 (bat_get dg_X1_countComings_0_0 2 rfl rfl)
theorem dX1_countComings_5 : decode cX1_countComings 5 = .ok (.invokestatic 76, 3) := q_invokestatic (bat_get dg_X1_countComings_0_0 3 rfl rfl) rfl
theorem dX1_countComings_8 : decode cX1_countComings 8 = .ok (.aload_n 0, 1) := q_aload_n0 (bat_get dg_X1_countComings_0_0 4 rfl rfl)
theorem dX1_countComings_9 : decode cX1_countComings 9 = .ok (.getfield 25, 3) := q_getfield (bat_get dg_X1_countComings_0_0 5 rfl rfl) rfl
theorem dX1_countComings_12 : decode cX1_countComings 12 = .ok (.aload_n 0, 1) := q_aload_n0 (bat_get dg_X1_countComings_0_0 6 rfl rfl)
theorem dX1_countComings_13 : decode cX1_countComings 13 = .ok (.getfield 35, 3) := q_getfield (bat_get dg_X1_countComings_0_0 7 rfl rfl) rfl
theorem dX1_countComings_16 : decode cX1_countComings 16 = .ok (.lconst 1, 1) := q_lconst1 (bat_get dg_X1_countComings_0_0 8 rfl rfl)
theorem dX1_countComings_17 : decode cX1_countComings 17 = .ok (.lastore, 1) := q_lastore (bat_get dg_X1_countComings_0_0 9 rfl rfl)
theorem dX1_countComings_18 : decode cX1_countComings 18 = .ok (.iconst 0, 1) := q_iconst0 (bat_get dg_X1_countComings_0_0 10 rfl rfl)
theorem dX1_countComings_19 : decode cX1_countComings 19 = .ok (.istore_n 1, 1) := q_istore_n1 (bat_get dg_X1_countComings_0_0 11 rfl rfl)
theorem dX1_countComings_20 : decode cX1_countComings 20 = .ok (.iload_n 1, 1) := q_iload_n1 (bat_get dg_X1_countComings_0_0 12 rfl rfl)
theorem dX1_countComings_21 : decode cX1_countComings 21 = .ok (.aload_n 0, 1) := q_aload_n0 (bat_get dg_X1_countComings_0_0 13 rfl rfl)
theorem dX1_countComings_22 : decode cX1_countComings 22 = .ok (.getfield 31, 3) := q_getfield (bat_get dg_X1_countComings_0_0 14 rfl rfl) rfl
theorem dX1_countComings_25 : decode cX1_countComings 25 = .ok (.if_icmp .ge 84, 3) := q_if_icmp_ge (bat_get dg_X1_countComings_0_0 15 rfl rfl) rfl
theorem dX1_countComings_109 : decode cX1_countComings 109 = .ok (.return_, 1) := q_return_ (bat_get dg_X1_countComings_0_0 16 rfl rfl)
theorem dX1_countComings_28 : decode cX1_countComings 28 = .ok (.iconst 0, 1) := q_iconst0 (bat_get dg_X1_countComings_0_0 17 rfl rfl)
theorem dX1_countComings_29 : decode cX1_countComings 29 = .ok (.istore_n 2, 1) := q_istore_n2 (bat_get dg_X1_countComings_0_0 18 rfl rfl)
theorem dX1_countComings_30 : decode cX1_countComings 30 = .ok (.iload_n 2, 1) := q_iload_n2 (bat_get dg_X1_countComings_0_0 19 rfl rfl)
theorem dX1_countComings_31 : decode cX1_countComings 31 = .ok (.bipush 10, 2) := q_bipush (bat_get dg_X1_countComings_0_0 20 rfl rfl) rfl
theorem dX1_countComings_33 : decode cX1_countComings 33 = .ok (.if_icmp .ge 70, 3) := q_if_icmp_ge (bat_get dg_X1_countComings_0_0 21 rfl rfl) rfl
theorem dX1_countComings_103 : decode cX1_countComings 103 = .ok (.iinc 1 1, 3) := q_iinc (bat_get dg_X1_countComings_0_0 22 rfl rfl) rfl
theorem dX1_countComings_106 : decode cX1_countComings 106 = .ok (.goto (-86), 3) := q_goto (bat_get dg_X1_countComings_0_0 23 rfl rfl) rfl
theorem dX1_countComings_36 : decode cX1_countComings 36 = .ok (.aload_n 0, 1) := q_aload_n0 (bat_get dg_X1_countComings_0_0 24 rfl rfl)
theorem dX1_countComings_37 : decode cX1_countComings 37 = .ok (.iload_n 1, 1) := q_iload_n1 (bat_get dg_X1_countComings_0_0 25 rfl rfl)
theorem dX1_countComings_38 : decode cX1_countComings 38 = .ok (.iload_n 2, 1) := q_iload_n2 (bat_get dg_X1_countComings_0_0 26 rfl rfl)
theorem dX1_countComings_39 : decode cX1_countComings 39 = .ok (.invokevirtual 66, 3) := q_invokevirtual (bat_get dg_X1_countComings_0_0 27 rfl rfl) rfl
theorem dX1_countComings_42 : decode cX1_countComings 42 = .ok (.istore_n 3, 1) := q_istore_n3 (bat_get dg_X1_countComings_0_0 28 rfl rfl)
theorem dX1_countComings_43 : decode cX1_countComings 43 = .ok (.iconst 0, 1) := q_iconst0 (bat_get dg_X1_countComings_0_0 29 rfl rfl)
theorem dX1_countComings_44 : decode cX1_countComings 44 = .ok (.istore 4, 2) := q_istore (bat_get dg_X1_countComings_0_0 30 rfl rfl)
theorem dX1_countComings_46 : decode cX1_countComings 46 = .ok (.iload 4, 2) := q_iload (bat_get dg_X1_countComings_0_0 31 rfl rfl)
theorem dX1_countComings_48 : decode cX1_countComings 48 = .ok (.bipush 10, 2) := q_bipush (bat_get dg_X1_countComings_0_0 32 rfl rfl) rfl
theorem dX1_countComings_50 : decode cX1_countComings 50 = .ok (.if_icmp .ge 47, 3) := q_if_icmp_ge (bat_get dg_X1_countComings_0_0 33 rfl rfl) rfl
theorem dX1_countComings_97 : decode cX1_countComings 97 = .ok (.iinc 2 1, 3) := q_iinc (bat_get dg_X1_countComings_0_0 34 rfl rfl) rfl
theorem dX1_countComings_100 : decode cX1_countComings 100 = .ok (.goto (-70), 3) := q_goto (bat_get dg_X1_countComings_0_0 35 rfl rfl) rfl
theorem dX1_countComings_53 : decode cX1_countComings 53 = .ok (.iload_n 3, 1) := q_iload_n3 (bat_get dg_X1_countComings_0_0 36 rfl rfl)
theorem dX1_countComings_54 : decode cX1_countComings 54 = .ok (.iload 4, 2) := q_iload (bat_get dg_X1_countComings_0_0 37 rfl rfl)
theorem dX1_countComings_56 : decode cX1_countComings 56 = .ok (.ishr, 1) := q_ishr (bat_get dg_X1_countComings_0_0 38 rfl rfl)
theorem dX1_countComings_57 : decode cX1_countComings 57 = .ok (.iconst 1, 1) := q_iconst1 (bat_get dg_X1_countComings_0_0 39 rfl rfl)
theorem dg_X1_countComings_58_58 : bqL cX1_countComings 58 [(0, [126]), (1, [4]), (2, [160, 0, 31]), (33, [132, 4, 1]), (36, [167, 255, 208]), (5, [42]), (6, [180, 0, 25]), (9, [27]), (10, [4]), (11, [96]), (12, [16, 10]), (14, [104]), (15, [21, 4]), (17, [96]), (18, [92]), (19, [47]), (20, [42]), (21, [180, 0, 25]), (24, [27]), (25, [16, 10]), (27, [104]), (28, [28]), (29, [96]), (30, [47]), (31, [97]), (32, [80])] = true := by decide +kernel
theorem dX1_countComings_58 : decode cX1_countComings 58 = .ok (.iand, 1) := q_iand (bat_get dg_X1_countComings_58_58 0 rfl rfl)
theorem dX1_countComings_59 : decode cX1_countComings 59 = .ok (.iconst 1, 1) := q_iconst1 (bat_get dg_X1_countComings_58_58 1 rfl rfl)
theorem dX1_countComings_60 : decode cX1_countComings 60 = .ok (.if_icmp .ne 31, 3) := q_if_icmp_ne (bat_get dg_X1_countComings_58_58 2 rfl rfl) rfl
theorem dX1_countComings_91 : decode cX1_countComings 91 = .ok (.iinc 4 1, 3) := q_iinc (bat_get dg_X1_countComings_58_58 3 rfl rfl) rfl
theorem dX1_countComings_94 : decode cX1_countComings 94 = .ok (.goto (-48), 3) := q_goto (bat_get dg_X1_countComings_58_58 4 rfl rfl) rfl
theorem dX1_countComings_63 : decode cX1_countComings 63 = .ok (.aload_n 0, 1) := q_aload_n0 (bat_get dg_X1_countComings_58_58 5 rfl rfl)
theorem dX1_countComings_64 : decode cX1_countComings 64 = .ok (.getfield 25, 3) := q_getfield (bat_get dg_X1_countComings_58_58 6 rfl rfl) rfl
theorem dX1_countComings_67 : decode cX1_countComings 67 = .ok (.iload_n 1, 1) := q_iload_n1 (bat_get dg_X1_countComings_58_58 7 rfl rfl)
theorem dX1_countComings_68 : decode cX1_countComings 68 = .ok (.iconst 1, 1) := q_iconst1 (bat_get dg_X1_countComings_58_58 8 rfl rfl)
theorem dX1_countComings_69 : decode cX1_countComings 69 = .ok (.iadd, 1) := q_iadd (bat_get dg_X1_countComings_58_58 9 rfl rfl)
theorem dX1_countComings_70 : decode cX1_countComings 70 = .ok (.bipush 10, 2) := q_bipush (bat_get dg_X1_countComings_58_58 10 rfl rfl) rfl
theorem dX1_countComings_72 : decode cX1_countComings 72 = .ok (.imul, 1) := q_imul (bat_get dg_X1_countComings_58_58 11 rfl rfl)
theorem dX1_countComings_73 : decode cX1_countComings 73 = .ok (.iload 4, 2) := q_iload (bat_get dg_X1_countComings_58_58 12 rfl rfl)
theorem dX1_countComings_75 : decode cX1_countComings 75 = .ok (.iadd, 1) := q_iadd (bat_get dg_X1_countComings_58_58 13 rfl rfl)
theorem dX1_countComings_76 : decode cX1_countComings 76 = .ok (.dup2, 1) := q_dup2 (bat_get dg_X1_countComings_58_58 14 rfl rfl)
theorem dX1_countComings_77 : decode cX1_countComings 77 = .ok (.laload, 1) := q_laload (bat_get dg_X1_countComings_58_58 15 rfl rfl)
theorem dX1_countComings_78 : decode cX1_countComings 78 = .ok (.aload_n 0, 1) := q_aload_n0 (bat_get dg_X1_countComings_58_58 16 rfl rfl)
theorem dX1_countComings_79 : decode cX1_countComings 79 = .ok (.getfield 25, 3) := q_getfield (bat_get dg_X1_countComings_58_58 17 rfl rfl) rfl
theorem dX1_countComings_82 : decode cX1_countComings 82 = .ok (.iload_n 1, 1) := q_iload_n1 (bat_get dg_X1_countComings_58_58 18 rfl rfl)
theorem dX1_countComings_83 : decode cX1_countComings 83 = .ok (.bipush 10, 2) := q_bipush (bat_get dg_X1_countComings_58_58 19 rfl rfl) rfl
theorem dX1_countComings_85 : decode cX1_countComings 85 = .ok (.imul, 1) := q_imul (bat_get dg_X1_countComings_58_58 20 rfl rfl)
theorem dX1_countComings_86 : decode cX1_countComings 86 = .ok (.iload_n 2, 1) := q_iload_n2 (bat_get dg_X1_countComings_58_58 21 rfl rfl)
theorem dX1_countComings_87 : decode cX1_countComings 87 = .ok (.iadd, 1) := q_iadd (bat_get dg_X1_countComings_58_58 22 rfl rfl)
theorem dX1_countComings_88 : decode cX1_countComings 88 = .ok (.laload, 1) := q_laload (bat_get dg_X1_countComings_58_58 23 rfl rfl)
theorem dX1_countComings_89 : decode cX1_countComings 89 = .ok (.ladd, 1) := q_ladd (bat_get dg_X1_countComings_58_58 24 rfl rfl)
theorem dX1_countComings_90 : decode cX1_countComings 90 = .ok (.lastore, 1) := q_lastore (bat_get dg_X1_countComings_58_58 25 rfl rfl)
theorem w_2_100 : (Cond.fieldLink RX1 25 "SameKeeper$Graph" "comings" "[J") ∈ wsL_law := sk_mem (ck_2 _ (List.mem_of_getElem? (i := 100) rfl)) rfl
theorem w_4_85 : (Cond.methodLink RX1 76 yJ7_fill_d0a16) ∈ wsL_law := sk_mem (ck_4 _ (List.mem_of_getElem? (i := 85) rfl)) rfl
theorem w_4_86 : (Cond.static yJ7_fill_d0a16) ∈ wsL_law := sk_mem (ck_4 _ (List.mem_of_getElem? (i := 86) rfl)) rfl
theorem w_4_84 : (Cond.code yX1_countComings cX1_countComings 5 none) ∈ wsL_law := sk_mem (ck_4 _ (List.mem_of_getElem? (i := 84) rfl)) rfl
def om_5_1 : List Bool := false :: false :: false :: false :: true :: []
theorem hd_J7_fill_d0a16_2 : skD yJ7_fill_d0a16 2 := by decide +kernel
set_option maxHeartbeats 4000000 in
set_option maxRecDepth 100000 in
theorem c_countComings (l : Launch) (D : va_G) (cI cJ cC cZ cS : ClassId) (q : Nat → Nat) (gd : Nat) (gs : Nat) (e1 : Nat → Int32) (e2 : Nat → Int32) (e3 : Nat → Int32) (e5 : Nat → Int64) (hgd : gd ≤ 9) (hgs : gs ≤ 9) : skM l yX1_countComings cX1_countComings 5 none 1 24 0 0 D (skT cI cJ cC cZ cS) [.ref (q 11)] [(q 11, .inr (1, [.ref (q 10), .ref (q 67), .ref (q 68), .ref (q 69), .ref (q 70), .ref (q 71), .ref (q 72), .int (nI gd), .int (nI gs)])), (q 67, .inl (cI, 90, .inl e1)), (q 68, .inl (cI, 9, .inl e2)), (q 69, .inl (cI, 10, .inl e3)), (q 71, .inl (cJ, 100, .inr (.inl e5)))] (skV D (skT cI cJ cC cZ cS) (fun (u : va_W) => ∃ (g5 : Nat → Int64), u = [(q 11, .inr (1, [.ref (q 10), .ref (q 67), .ref (q 68), .ref (q 69), .ref (q 70), .ref (q 71), .ref (q 72), .int (nI gd), .int (nI gs)])), (q 67, .inl (cI, 90, .inl e1)), (q 68, .inl (cI, 9, .inl e2)), (q 69, .inl (cI, 10, .inl e3)), (q 71, .inl (cJ, 100, .inr (.inl g5)))])) := by
  refine skM_of pf_X1_countComings (Nat.le_of_ble_eq_true rfl) ?_
  intro p e s m below meth c A ls E hP hD hl
  refine skE_el E (fun hx hb hr hml hlocks hin hown hts hK hA => ?_)
  have hown : s.vm.findClass RX1 = some m.cls := hown
  have hS : va_S A s.heap s.heap [] := va_S.rf
  have hl : lv_has ls 5 [(0, .ref (q 11))] := hl
  refine lv_aload_n hx hb dX1_countComings_0 rfl (lv_at hl 0 rfl) ?_
  refine sk_get (v := .ref (q 71)) (C := RX1) (T := TX1) (N := 9) hx hb hts inlX1 hown hK hP 0 rfl rfl 5 (by decide) w_2_100 rfl dX1_countComings_1 ?_
  refine lv_lconst (v := 0) hx hb dX1_countComings_4 (by decide) ?_
  refine sk_Sv (n := 2) (rest := []) (wr := fmR om_5_1 _) ⟨hx, hb, hml, hown, hts⟩ hl.1 (c_fillL l D cI cJ cC cZ cS (q 71) 100 e5 0 (by omega)) w_4_85 w_4_86 w_1_15 w_4_87 hd_J7_fill_d0a16_2 ⟨⟨(Nat.le_of_ble_eq_true rfl), (Nat.le_of_ble_eq_true rfl)⟩, (Nat.le_of_ble_eq_true rfl), (Nat.le_of_ble_eq_true rfl)⟩ hK hP hD hS hA (fmT om_5_1 0) (fmF om_5_1 0) (fm_C1 rfl rfl) (fm_R rfl rfl) (fm_nT om_5_1 0) (fm_nF om_5_1 0) (fm_di om_5_1 0) rfl rfl (Nat.le_of_ble_eq_true rfl) dX1_countComings_5 (fun u H locs hw hP hD hS => ?_)
  refine exE hw (fun g_1 eu_2 => ?_)
  clear hw
  refine o_mgE (ws' := [(q 11, .inr (1, [.ref (q 10), .ref (q 67), .ref (q 68), .ref (q 69), .ref (q 70), .ref (q 71), .ref (q 72), .int (nI gd), .int (nI gs)])), (q 67, .inl (cI, 90, .inl e1)), (q 68, .inl (cI, 9, .inl e2)), (q 69, .inl (cI, 10, .inl e3)), (q 71, .inl (cJ, 100, .inr (.inl g_1)))]) eu_2 hP hD rfl (fun hP hD => ?_)
  refine lv_aload_n hx hb dX1_countComings_8 rfl (lv_at hl 0 rfl) ?_
  refine sk_get (v := .ref (q 71)) (C := RX1) (T := TX1) (N := 9) hx hb hts inlX1 hown hK hP 0 rfl rfl 5 (by decide) w_2_100 rfl dX1_countComings_9 ?_
  refine lv_aload_n hx hb dX1_countComings_12 rfl (lv_at hl 0 rfl) ?_
  refine sk_get (v := .int (nI gs)) (C := RX1) (T := TX1) (N := 9) hx hb hts inlX1 hown hK hP 0 rfl rfl 8 (by decide) w_2_103 rfl dX1_countComings_13 ?_
  refine lv_lconst (v := 1) hx hb dX1_countComings_16 (by decide) ?_
  refine sk_lastO (ws' := fun f_3 => [(q 11, .inr (1, [.ref (q 10), .ref (q 67), .ref (q 68), .ref (q 69), .ref (q 70), .ref (q 71), .ref (q 72), .int (nI gd), .int (nI gs)])), (q 67, .inl (cI, 90, .inl e1)), (q 68, .inl (cI, 9, .inl e2)), (q 69, .inl (cI, 10, .inl e3)), (q 71, .inl (cJ, 100, .inr (.inl f_3)))]) hx hb hK hP hD hS 4 1 rfl rfl (vin gs 100 (by omega) (by omega)) (fun _ => rfl) dX1_countComings_17 (fun f_3 H locs hP hD hS => ?_)
  refine lv_iconst (v := 0) hx hb dX1_countComings_18 (by decide) ?_
  refine lv_istore_n (lv' := [(1, .int 0), (0, .ref (q 11))]) hx hb dX1_countComings_19 rfl hl (by decide) rfl (fun ls hl => ?_)
  have lp_4 : ∀ (n_5 : Nat) (i : Nat) (a5 : Nat → Int64) (H : Heap) (locs : List Loc) (ls : Array Slot), gd - i < n_5 → (i ≤ gd) → va_P D vwCl [(q 11, .inr (1, [.ref (q 10), .ref (q 67), .ref (q 68), .ref (q 69), .ref (q 70), .ref (q 71), .ref (q 72), .int (nI gd), .int (nI gs)])), (q 67, .inl (cI, 90, .inl e1)), (q 68, .inl (cI, 9, .inl e2)), (q 69, .inl (cI, 10, .inl e3)), (q 71, .inl (cJ, 100, .inr (.inl a5)))] H → va_D A [(q 11, .inr (1, [.ref (q 10), .ref (q 67), .ref (q 68), .ref (q 69), .ref (q 70), .ref (q 71), .ref (q 72), .int (nI gd), .int (nI gs)])), (q 67, .inl (cI, 90, .inl e1)), (q 68, .inl (cI, 9, .inl e2)), (q 69, .inl (cI, 10, .inl e3)), (q 71, .inl (cJ, 100, .inr (.inl a5)))] → va_S A s.heap H locs → lv_has ls 5 [(1, .int (nI i)), (0, .ref (q 11))] → W p l e { frames := 1, cells := 0, slots := 0, locals := 24 } s m ([.ref (q 11)] : List Value).toArray below meth c H locs 0 0 (MQ below (skV D (skT cI cJ cC cZ cS) (fun (u : va_W) => ∃ (g5 : Nat → Int64), u = [(q 11, .inr (1, [.ref (q 10), .ref (q 67), .ref (q 68), .ref (q 69), .ref (q 70), .ref (q 71), .ref (q 72), .int (nI gd), .int (nI gs)])), (q 67, .inl (cI, 90, .inl e1)), (q 68, .inl (cI, 9, .inl e2)), (q 69, .inl (cI, 10, .inl e3)), (q 71, .inl (cJ, 100, .inr (.inl g5)))]) A) ([.ref (q 11)] : List Value).toArray s 0 0 A) (F0 m 20 ls []) := by
    intro n_5
    induction n_5 with
    | zero => intro i a5 H locs ls hm; exact absurd hm (Nat.not_lt_zero _)
    | succ n_5 ih_lp_4 =>
      intro i a5 H locs ls hm hi hP hD hS hl
      refine lv_iload_n hx hb dX1_countComings_20 rfl (lv_at hl 0 rfl) ?_
      refine lv_aload_n hx hb dX1_countComings_21 rfl (lv_at hl 1 rfl) ?_
      refine sk_get (v := .int (nI gd)) (C := RX1) (T := TX1) (N := 9) hx hb hts inlX1 hown hK hP 0 rfl rfl 7 (by decide) w_2_102 rfl dX1_countComings_22 ?_
      refine lv_icmp_ge (tgt := 109) hx hb dX1_countComings_25 (by decide) (fun c_6 => ?_) (fun c_6 => ?_)
      · have c_6 : gd ≤ i := (nle gd i (by omega) (by omega)).mp c_6
        exact sk_vret hx hb hr hlocks hK hP hD hS (⟨a5, rfl⟩) (Nat.le_of_ble_eq_true rfl) (Nat.le_of_ble_eq_true rfl) dX1_countComings_109
      · have c_6 : ¬ (gd ≤ i) := fun h => c_6 ((nle gd i (by omega) (by omega)).mpr h)
        refine lv_iconst (v := 0) hx hb dX1_countComings_28 (by decide) ?_
        refine lv_istore_n (lv' := [(2, .int 0), (1, .int (nI i)), (0, .ref (q 11))]) hx hb dX1_countComings_29 rfl hl (by decide) rfl (fun ls hl => ?_)
        have lp_7 : ∀ (n_8 : Nat) (jj : Nat) (b5 : Nat → Int64) (H : Heap) (locs : List Loc) (ls : Array Slot), 10 - jj < n_8 → (jj ≤ 10) → va_P D vwCl [(q 11, .inr (1, [.ref (q 10), .ref (q 67), .ref (q 68), .ref (q 69), .ref (q 70), .ref (q 71), .ref (q 72), .int (nI gd), .int (nI gs)])), (q 67, .inl (cI, 90, .inl e1)), (q 68, .inl (cI, 9, .inl e2)), (q 69, .inl (cI, 10, .inl e3)), (q 71, .inl (cJ, 100, .inr (.inl b5)))] H → va_D A [(q 11, .inr (1, [.ref (q 10), .ref (q 67), .ref (q 68), .ref (q 69), .ref (q 70), .ref (q 71), .ref (q 72), .int (nI gd), .int (nI gs)])), (q 67, .inl (cI, 90, .inl e1)), (q 68, .inl (cI, 9, .inl e2)), (q 69, .inl (cI, 10, .inl e3)), (q 71, .inl (cJ, 100, .inr (.inl b5)))] → va_S A s.heap H locs → lv_has ls 5 [(2, .int (nI jj)), (1, .int (nI i)), (0, .ref (q 11))] → W p l e { frames := 1, cells := 0, slots := 0, locals := 24 } s m ([.ref (q 11)] : List Value).toArray below meth c H locs 0 0 (MQ below (skV D (skT cI cJ cC cZ cS) (fun (u : va_W) => ∃ (g5 : Nat → Int64), u = [(q 11, .inr (1, [.ref (q 10), .ref (q 67), .ref (q 68), .ref (q 69), .ref (q 70), .ref (q 71), .ref (q 72), .int (nI gd), .int (nI gs)])), (q 67, .inl (cI, 90, .inl e1)), (q 68, .inl (cI, 9, .inl e2)), (q 69, .inl (cI, 10, .inl e3)), (q 71, .inl (cJ, 100, .inr (.inl g5)))]) A) ([.ref (q 11)] : List Value).toArray s 0 0 A) (F0 m 30 ls []) := by
          intro n_8
          induction n_8 with
          | zero => intro jj b5 H locs ls hm; exact absurd hm (Nat.not_lt_zero _)
          | succ n_8 ih_lp_7 =>
            intro jj b5 H locs ls hm hjj hP hD hS hl
            refine lv_iload_n hx hb dX1_countComings_30 rfl (lv_at hl 0 rfl) ?_
            refine lv_bipush (v := 10) hx hb dX1_countComings_31 (by decide) ?_
            refine lv_icmp_ge (tgt := 103) hx hb dX1_countComings_33 (by decide) (fun c_9 => ?_) (fun c_9 => ?_)
            · have c_9 : 10 ≤ jj := (nle 10 jj (by omega) (by omega)).mp c_9
              refine lv_iinc (v := nI (i + 1)) (lv' := [(1, .int (nI (i + 1))), (2, .int (nI jj)), (0, .ref (q 11))]) hx hb dX1_countComings_103 hl (k := 1) rfl (ninc i 1 (by decide)) (by decide) rfl (fun ls hl => ?_)
              refine lv_goto (tgt := 20) hx hb dX1_countComings_106 (by decide) ?_
              exact ih_lp_4 (i + 1) b5 _ _ _ (by omega) (by omega) hP hD hS (lv_sub hl [0, 2] rfl)
            · have c_9 : ¬ (10 ≤ jj) := fun h => c_9 ((nle 10 jj (by omega) (by omega)).mpr h)
              refine lv_aload_n hx hb dX1_countComings_36 rfl (lv_at hl 2 rfl) ?_
              refine lv_iload_n hx hb dX1_countComings_37 rfl (lv_at hl 1 rfl) ?_
              refine lv_iload_n hx hb dX1_countComings_38 rfl (lv_at hl 0 rfl) ?_
              refine sk_Vi (q0 := 0) (n := 2) (rest := []) (wr := fmR om_5_1e _) ⟨hx, hb, hml, hown, hts⟩ hl.1 (c_next l D cI cJ cC cZ cS q gd gs e1 e2 e3 i jj (by omega) (by omega)) w_4_57 w_4_59 w_0_20 w_1_13 w_4_60 hd_X1_next_2 ⟨⟨(Nat.le_of_ble_eq_true rfl), (Nat.le_of_ble_eq_true rfl)⟩, (Nat.le_of_ble_eq_true rfl), (Nat.le_of_ble_eq_true rfl)⟩ hK hP hD hS hA (fmT om_5_1e 0) (fmF om_5_1e 0) (fm_C1 rfl rfl) (fm_R rfl rfl) (fm_nT om_5_1e 0) (fm_nF om_5_1e 0) (fm_di om_5_1e 0) rfl rfl rfl rfl (Nat.le_of_ble_eq_true rfl) dX1_countComings_39 (fun r_10 u H locs hw hP hD hS => ?_)
              refine o_mgE (ws' := [(q 11, .inr (1, [.ref (q 10), .ref (q 67), .ref (q 68), .ref (q 69), .ref (q 70), .ref (q 71), .ref (q 72), .int (nI gd), .int (nI gs)])), (q 67, .inl (cI, 90, .inl e1)), (q 68, .inl (cI, 9, .inl e2)), (q 69, .inl (cI, 10, .inl e3)), (q 71, .inl (cJ, 100, .inr (.inl b5)))]) hw hP hD rfl (fun hP hD => ?_)
              refine lv_istore_n (lv' := [(3, .int r_10), (2, .int (nI jj)), (1, .int (nI i)), (0, .ref (q 11))]) hx hb dX1_countComings_42 rfl hl (by decide) rfl (fun ls hl => ?_)
              refine lv_iconst (v := 0) hx hb dX1_countComings_43 (by decide) ?_
              refine lv_istore (lv' := [(4, .int 0), (3, .int r_10), (2, .int (nI jj)), (1, .int (nI i)), (0, .ref (q 11))]) hx hb dX1_countComings_44 hl (by decide) rfl (fun ls hl => ?_)
              have lp_11 : ∀ (n_12 : Nat) (kk : Nat) (c5 : Nat → Int64) (H : Heap) (locs : List Loc) (ls : Array Slot), 10 - kk < n_12 → (kk ≤ 10) → va_P D vwCl [(q 11, .inr (1, [.ref (q 10), .ref (q 67), .ref (q 68), .ref (q 69), .ref (q 70), .ref (q 71), .ref (q 72), .int (nI gd), .int (nI gs)])), (q 67, .inl (cI, 90, .inl e1)), (q 68, .inl (cI, 9, .inl e2)), (q 69, .inl (cI, 10, .inl e3)), (q 71, .inl (cJ, 100, .inr (.inl c5)))] H → va_D A [(q 11, .inr (1, [.ref (q 10), .ref (q 67), .ref (q 68), .ref (q 69), .ref (q 70), .ref (q 71), .ref (q 72), .int (nI gd), .int (nI gs)])), (q 67, .inl (cI, 90, .inl e1)), (q 68, .inl (cI, 9, .inl e2)), (q 69, .inl (cI, 10, .inl e3)), (q 71, .inl (cJ, 100, .inr (.inl c5)))] → va_S A s.heap H locs → lv_has ls 5 [(4, .int (nI kk)), (3, .int r_10), (2, .int (nI jj)), (1, .int (nI i)), (0, .ref (q 11))] → W p l e { frames := 1, cells := 0, slots := 0, locals := 24 } s m ([.ref (q 11)] : List Value).toArray below meth c H locs 0 0 (MQ below (skV D (skT cI cJ cC cZ cS) (fun (u : va_W) => ∃ (g5 : Nat → Int64), u = [(q 11, .inr (1, [.ref (q 10), .ref (q 67), .ref (q 68), .ref (q 69), .ref (q 70), .ref (q 71), .ref (q 72), .int (nI gd), .int (nI gs)])), (q 67, .inl (cI, 90, .inl e1)), (q 68, .inl (cI, 9, .inl e2)), (q 69, .inl (cI, 10, .inl e3)), (q 71, .inl (cJ, 100, .inr (.inl g5)))]) A) ([.ref (q 11)] : List Value).toArray s 0 0 A) (F0 m 46 ls []) := by
                intro n_12
                induction n_12 with
                | zero => intro kk c5 H locs ls hm; exact absurd hm (Nat.not_lt_zero _)
                | succ n_12 ih_lp_11 =>
                  intro kk c5 H locs ls hm hkk hP hD hS hl
                  refine lv_iload hx hb dX1_countComings_46 (lv_at hl 0 rfl) ?_
                  refine lv_bipush (v := 10) hx hb dX1_countComings_48 (by decide) ?_
                  refine lv_icmp_ge (tgt := 97) hx hb dX1_countComings_50 (by decide) (fun c_13 => ?_) (fun c_13 => ?_)
                  · have c_13 : 10 ≤ kk := (nle 10 kk (by omega) (by omega)).mp c_13
                    refine lv_iinc (v := nI (jj + 1)) (lv' := [(2, .int (nI (jj + 1))), (4, .int (nI kk)), (3, .int r_10), (1, .int (nI i)), (0, .ref (q 11))]) hx hb dX1_countComings_97 hl (k := 2) rfl (ninc jj 1 (by decide)) (by decide) rfl (fun ls hl => ?_)
                    refine lv_goto (tgt := 30) hx hb dX1_countComings_100 (by decide) ?_
                    exact ih_lp_7 (jj + 1) c5 _ _ _ (by omega) (by omega) hP hD hS (lv_sub hl [0, 3, 4] rfl)
                  · have c_13 : ¬ (10 ≤ kk) := fun h => c_13 ((nle 10 kk (by omega) (by omega)).mpr h)
                    refine lv_iload_n hx hb dX1_countComings_53 rfl (lv_at hl 1 rfl) ?_
                    refine lv_iload hx hb dX1_countComings_54 (lv_at hl 0 rfl) ?_
                    refine lv_ishr hx hb dX1_countComings_56 ?_
                    refine lv_topi (fun v_14 ev_14 => ?_)
                    refine lv_iconst (v := 1) hx hb dX1_countComings_57 (by decide) ?_
                    refine lv_iand hx hb dX1_countComings_58 ?_
                    refine lv_topi (fun v_15 ev_15 => ?_)
                    refine lv_iconst (v := 1) hx hb dX1_countComings_59 (by decide) ?_
                    refine lv_icmp_ne (tgt := 91) hx hb dX1_countComings_60 (by decide) (fun c_16 => ?_) (fun c_16 => ?_)
                    · skip
                      refine lv_iinc (v := nI (kk + 1)) (lv' := [(4, .int (nI (kk + 1))), (3, .int r_10), (2, .int (nI jj)), (1, .int (nI i)), (0, .ref (q 11))]) hx hb dX1_countComings_91 hl (k := 0) rfl (ninc kk 1 (by decide)) (by decide) rfl (fun ls hl => ?_)
                      refine lv_goto (tgt := 46) hx hb dX1_countComings_94 (by decide) ?_
                      exact ih_lp_11 (kk + 1) c5 _ _ _ (by omega) (by omega) hP hD hS (lv_sub hl [0, 1, 2, 3, 4] rfl)
                    · skip
                      refine lv_aload_n hx hb dX1_countComings_63 rfl (lv_at hl 4 rfl) ?_
                      refine sk_get (v := .ref (q 71)) (C := RX1) (T := TX1) (N := 9) hx hb hts inlX1 hown hK hP 0 rfl rfl 5 (by decide) w_2_100 rfl dX1_countComings_64 ?_
                      refine lv_iload_n hx hb dX1_countComings_67 rfl (lv_at hl 3 rfl) ?_
                      refine lv_iconst (v := 1) hx hb dX1_countComings_68 (by decide) ?_
                      refine lv_iadd hx hb dX1_countComings_69 ?_
                      refine sk_top (nI (i + 1)) (nI_add i 1) ?_
                      refine lv_bipush (v := 10) hx hb dX1_countComings_70 (by decide) ?_
                      refine lv_imul hx hb dX1_countComings_72 ?_
                      refine sk_top (nI ((i + 1) * 10)) (nmul (i + 1) 10) ?_
                      refine lv_iload hx hb dX1_countComings_73 (lv_at hl 0 rfl) ?_
                      refine lv_iadd hx hb dX1_countComings_75 ?_
                      refine sk_top (nI ((i + 1) * 10 + kk)) (nI_add ((i + 1) * 10) kk) ?_
                      refine lv_dup2_11 hx hb dX1_countComings_76 rfl rfl ?_
                      refine va_lald hx hb hK.1 hP 4 1 rfl rfl (vin ((i + 1) * 10 + kk) 100 (by omega) (by omega)) dX1_countComings_77 ?_
                      refine lv_topl (fun v_17 ev_17 => ?_)
                      refine lv_aload_n hx hb dX1_countComings_78 rfl (lv_at hl 4 rfl) ?_
                      refine sk_get (v := .ref (q 71)) (C := RX1) (T := TX1) (N := 9) hx hb hts inlX1 hown hK hP 0 rfl rfl 5 (by decide) w_2_100 rfl dX1_countComings_79 ?_
                      refine lv_iload_n hx hb dX1_countComings_82 rfl (lv_at hl 3 rfl) ?_
                      refine lv_bipush (v := 10) hx hb dX1_countComings_83 (by decide) ?_
                      refine lv_imul hx hb dX1_countComings_85 ?_
                      refine sk_top (nI (i * 10)) (nmul i 10) ?_
                      refine lv_iload_n hx hb dX1_countComings_86 rfl (lv_at hl 2 rfl) ?_
                      refine lv_iadd hx hb dX1_countComings_87 ?_
                      refine sk_top (nI (i * 10 + jj)) (nI_add (i * 10) jj) ?_
                      refine va_lald hx hb hK.1 hP 4 1 rfl rfl (vin (i * 10 + jj) 100 (by omega) (by omega)) dX1_countComings_88 ?_
                      refine lv_topl (fun v_18 ev_18 => ?_)
                      refine lv_ladd hx hb dX1_countComings_89 ?_
                      refine lv_topl (fun v_19 ev_19 => ?_)
                      refine sk_lastO (ws' := fun f_20 => [(q 11, .inr (1, [.ref (q 10), .ref (q 67), .ref (q 68), .ref (q 69), .ref (q 70), .ref (q 71), .ref (q 72), .int (nI gd), .int (nI gs)])), (q 67, .inl (cI, 90, .inl e1)), (q 68, .inl (cI, 9, .inl e2)), (q 69, .inl (cI, 10, .inl e3)), (q 71, .inl (cJ, 100, .inr (.inl f_20)))]) hx hb hK hP hD hS 4 1 rfl rfl (vin ((i + 1) * 10 + kk) 100 (by omega) (by omega)) (fun _ => rfl) dX1_countComings_90 (fun f_20 H locs hP hD hS => ?_)
                      refine lv_iinc (v := nI (kk + 1)) (lv' := [(4, .int (nI (kk + 1))), (3, .int r_10), (2, .int (nI jj)), (1, .int (nI i)), (0, .ref (q 11))]) hx hb dX1_countComings_91 hl (k := 0) rfl (ninc kk 1 (by decide)) (by decide) rfl (fun ls hl => ?_)
                      refine lv_goto (tgt := 46) hx hb dX1_countComings_94 (by decide) ?_
                      exact ih_lp_11 (kk + 1) f_20 _ _ _ (by omega) (by omega) hP hD hS (lv_sub hl [0, 1, 2, 3, 4] rfl)
              exact lp_11 (10 - 0 + 1) 0 b5 _ _ _ (Nat.lt_succ_self _) (by omega) hP hD hS (lv_sub hl [0, 1, 2, 3, 4] rfl)
        exact lp_7 (10 - 0 + 1) 0 a5 _ _ _ (Nat.lt_succ_self _) (by omega) hP hD hS (lv_sub hl [0, 1, 2] rfl)
  exact lp_4 (gd - 0 + 1) 0 f_3 _ _ _ (Nat.lt_succ_self _) (by omega) hP hD hS (lv_sub hl [0, 1] rfl)
