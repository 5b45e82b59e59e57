theorem dg_X5_nameDay_0_0 : bqL cX5_nameDay 0 [(0, [42]), (1, [180, 0, 12]), (4, [17, 39, 19]), (7, [29]), (8, [133]), (9, [182, 0, 114]), (12, [42]), (13, [180, 0, 12]), (16, [17, 39, 17]), (19, [43]), (20, [180, 0, 118]), (23, [29]), (24, [46]), (25, [133]), (26, [182, 0, 114]), (29, [42]), (30, [180, 0, 12]), (33, [17, 39, 18]), (36, [43]), (37, [180, 0, 122]), (40, [29]), (41, [46]), (42, [133]), (43, [182, 0, 114]), (66, [182, 0, 114]), (69, [42]), (70, [180, 0, 12]), (73, [17, 39, 24]), (76, [21, 4]), (78, [133]), (79, [182, 0, 114]), (82, [42]), (83, [180, 0, 12]), (86, [17, 39, 20]), (89, [43]), (90, [180, 0, 128]), (93, [133]), (94, [182, 0, 114]), (97, [3]), (98, [54, 5])] = true := by decide +kernel
theorem dX5_nameDay_0 : decode cX5_nameDay 0 = .ok (.aload_n 0, 1) := q_aload_n0 (bat_get dg_X5_nameDay_0_0 0 rfl rfl)
theorem dX5_nameDay_1 : decode cX5_nameDay 1 = .ok (.getfield 12, 3) := q_getfield (bat_get dg_X5_nameDay_0_0 1 rfl rfl) rfl
theorem dX5_nameDay_4 : decode cX5_nameDay 4 = .ok (.sipush 10003, 3) := q_sipush (bat_get dg_X5_nameDay_0_0 2 rfl rfl) rfl
theorem dX5_nameDay_7 : decode cX5_nameDay 7 = .ok (.iload_n 3, 1) := q_iload_n3 (bat_get dg_X5_nameDay_0_0 3 rfl rfl)
theorem dX5_nameDay_8 : decode cX5_nameDay 8 = .ok (.i2l, 1) := q_i2l (bat_get dg_X5_nameDay_0_0 4 rfl rfl)
theorem dX5_nameDay_9 : decode cX5_nameDay 9 = .ok (.invokevirtual 114, 3) := q_invokevirtual (bat_get dg_X5_nameDay_0_0 5 rfl rfl) rfl
theorem dX5_nameDay_12 : decode cX5_nameDay 12 = .ok (.aload_n 0, 1) := q_aload_n0 (bat_get dg_X5_nameDay_0_0 6 rfl rfl)
theorem dX5_nameDay_13 : decode cX5_nameDay 13 = .ok (.getfield 12, 3) := q_getfield (bat_get dg_X5_nameDay_0_0 7 rfl rfl) rfl
theorem dX5_nameDay_16 : decode cX5_nameDay 16 = .ok (.sipush 10001, 3) := q_sipush (bat_get dg_X5_nameDay_0_0 8 rfl rfl) rfl
theorem dX5_nameDay_19 : decode cX5_nameDay 19 = .ok (.aload_n 1, 1) := q_aload_n1 (bat_get dg_X5_nameDay_0_0 9 rfl rfl)
theorem dX5_nameDay_20 : decode cX5_nameDay 20 = .ok (.getfield 118, 3) := q_getfield (bat_get dg_X5_nameDay_0_0 10 rfl rfl) rfl
theorem dX5_nameDay_23 : decode cX5_nameDay 23 = .ok (.iload_n 3, 1) := q_iload_n3 (bat_get dg_X5_nameDay_0_0 11 rfl rfl)
theorem dX5_nameDay_24 : decode cX5_nameDay 24 = .ok (.iaload, 1) := q_iaload (bat_get dg_X5_nameDay_0_0 12 rfl rfl)
theorem dX5_nameDay_25 : decode cX5_nameDay 25 = .ok (.i2l, 1) := q_i2l (bat_get dg_X5_nameDay_0_0 13 rfl rfl)
theorem dX5_nameDay_26 : decode cX5_nameDay 26 = .ok (.invokevirtual 114, 3) := q_invokevirtual (bat_get dg_X5_nameDay_0_0 14 rfl rfl) rfl
theorem dX5_nameDay_29 : decode cX5_nameDay 29 = .ok (.aload_n 0, 1) := q_aload_n0 (bat_get dg_X5_nameDay_0_0 15 rfl rfl)
theorem dX5_nameDay_30 : decode cX5_nameDay 30 = .ok (.getfield 12, 3) := q_getfield (bat_get dg_X5_nameDay_0_0 16 rfl rfl) rfl
theorem dX5_nameDay_33 : decode cX5_nameDay 33 = .ok (.sipush 10002, 3) := q_sipush (bat_get dg_X5_nameDay_0_0 17 rfl rfl) rfl
theorem dX5_nameDay_36 : decode cX5_nameDay 36 = .ok (.aload_n 1, 1) := q_aload_n1 (bat_get dg_X5_nameDay_0_0 18 rfl rfl)
theorem dX5_nameDay_37 : decode cX5_nameDay 37 = .ok (.getfield 122, 3) := q_getfield (bat_get dg_X5_nameDay_0_0 19 rfl rfl) rfl
theorem dX5_nameDay_40 : decode cX5_nameDay 40 = .ok (.iload_n 3, 1) := q_iload_n3 (bat_get dg_X5_nameDay_0_0 20 rfl rfl)
theorem dX5_nameDay_41 : decode cX5_nameDay 41 = .ok (.iaload, 1) := q_iaload (bat_get dg_X5_nameDay_0_0 21 rfl rfl)
theorem dX5_nameDay_42 : decode cX5_nameDay 42 = .ok (.i2l, 1) := q_i2l (bat_get dg_X5_nameDay_0_0 22 rfl rfl)
theorem dX5_nameDay_43 : decode cX5_nameDay 43 = .ok (.invokevirtual 114, 3) := q_invokevirtual (bat_get dg_X5_nameDay_0_0 23 rfl rfl) rfl
theorem dX5_nameDay_66 : decode cX5_nameDay 66 = .ok (.invokevirtual 114, 3) := q_invokevirtual (bat_get dg_X5_nameDay_0_0 24 rfl rfl) rfl
theorem dX5_nameDay_69 : decode cX5_nameDay 69 = .ok (.aload_n 0, 1) := q_aload_n0 (bat_get dg_X5_nameDay_0_0 25 rfl rfl)
theorem dX5_nameDay_70 : decode cX5_nameDay 70 = .ok (.getfield 12, 3) := q_getfield (bat_get dg_X5_nameDay_0_0 26 rfl rfl) rfl
theorem dX5_nameDay_73 : decode cX5_nameDay 73 = .ok (.sipush 10008, 3) := q_sipush (bat_get dg_X5_nameDay_0_0 27 rfl rfl) rfl
theorem dX5_nameDay_76 : decode cX5_nameDay 76 = .ok (.iload 4, 2) := q_iload (bat_get dg_X5_nameDay_0_0 28 rfl rfl)
theorem dX5_nameDay_78 : decode cX5_nameDay 78 = .ok (.i2l, 1) := q_i2l (bat_get dg_X5_nameDay_0_0 29 rfl rfl)
theorem dX5_nameDay_79 : decode cX5_nameDay 79 = .ok (.invokevirtual 114, 3) := q_invokevirtual (bat_get dg_X5_nameDay_0_0 30 rfl rfl) rfl
theorem dX5_nameDay_82 : decode cX5_nameDay 82 = .ok (.aload_n 0, 1) := q_aload_n0 (bat_get dg_X5_nameDay_0_0 31 rfl rfl)
theorem dX5_nameDay_83 : decode cX5_nameDay 83 = .ok (.getfield 12, 3) := q_getfield (bat_get dg_X5_nameDay_0_0 32 rfl rfl) rfl
theorem dX5_nameDay_86 : decode cX5_nameDay 86 = .ok (.sipush 10004, 3) := q_sipush (bat_get dg_X5_nameDay_0_0 33 rfl rfl) rfl
theorem dX5_nameDay_89 : decode cX5_nameDay 89 = .ok (.aload_n 1, 1) := q_aload_n1 (bat_get dg_X5_nameDay_0_0 34 rfl rfl)
theorem dX5_nameDay_90 : decode cX5_nameDay 90 = .ok (.getfield 128, 3) := q_getfield (bat_get dg_X5_nameDay_0_0 35 rfl rfl) rfl
theorem dX5_nameDay_93 : decode cX5_nameDay 93 = .ok (.i2l, 1) := q_i2l (bat_get dg_X5_nameDay_0_0 36 rfl rfl)
theorem dX5_nameDay_94 : decode cX5_nameDay 94 = .ok (.invokevirtual 114, 3) := q_invokevirtual (bat_get dg_X5_nameDay_0_0 37 rfl rfl) rfl
theorem dX5_nameDay_97 : decode cX5_nameDay 97 = .ok (.iconst 0, 1) := q_iconst0 (bat_get dg_X5_nameDay_0_0 38 rfl rfl)
theorem dX5_nameDay_98 : decode cX5_nameDay 98 = .ok (.istore 5, 2) := q_istore (bat_get dg_X5_nameDay_0_0 39 rfl rfl)
theorem dg_X5_nameDay_46_100 : bqL cX5_nameDay 46 [(54, [21, 5]), (56, [16, 10]), (58, [162, 0, 25]), (83, [177]), (61, [42]), (62, [180, 0, 12]), (65, [21, 5]), (67, [44]), (68, [29]), (69, [21, 5]), (71, [182, 0, 131]), (74, [182, 0, 136]), (77, [132, 5, 1]), (80, [167, 255, 230]), (0, [42]), (1, [180, 0, 12]), (4, [17, 39, 23]), (7, [43]), (8, [29]), (9, [182, 0, 125]), (12, [153, 0, 7]), (19, [9]), (15, [10]), (16, [167, 0, 4])] = true := by decide +kernel
theorem dX5_nameDay_100 : decode cX5_nameDay 100 = .ok (.iload 5, 2) := q_iload (bat_get dg_X5_nameDay_46_100 0 rfl rfl)
theorem dX5_nameDay_102 : decode cX5_nameDay 102 = .ok (.bipush 10, 2) := q_bipush (bat_get dg_X5_nameDay_46_100 1 rfl rfl) rfl
theorem dX5_nameDay_104 : decode cX5_nameDay 104 = .ok (.if_icmp .ge 25, 3) := q_if_icmp_ge (bat_get dg_X5_nameDay_46_100 2 rfl rfl) rfl
theorem dX5_nameDay_129 : decode cX5_nameDay 129 = .ok (.return_, 1) := q_return_ (bat_get dg_X5_nameDay_46_100 3 rfl rfl)
theorem dX5_nameDay_107 : decode cX5_nameDay 107 = .ok (.aload_n 0, 1) := q_aload_n0 (bat_get dg_X5_nameDay_46_100 4 rfl rfl)
theorem dX5_nameDay_108 : decode cX5_nameDay 108 = .ok (.getfield 12, 3) := q_getfield (bat_get dg_X5_nameDay_46_100 5 rfl rfl) rfl
theorem dX5_nameDay_111 : decode cX5_nameDay 111 = .ok (.iload 5, 2) := q_iload (bat_get dg_X5_nameDay_46_100 6 rfl rfl)
theorem dX5_nameDay_113 : decode cX5_nameDay 113 = .ok (.aload_n 2, 1) := q_aload_n2 (bat_get dg_X5_nameDay_46_100 7 rfl rfl)
theorem dX5_nameDay_114 : decode cX5_nameDay 114 = .ok (.iload_n 3, 1) := q_iload_n3 (bat_get dg_X5_nameDay_46_100 8 rfl rfl)
theorem dX5_nameDay_115 : decode cX5_nameDay 115 = .ok (.iload 5, 2) := q_iload (bat_get dg_X5_nameDay_46_100 9 rfl rfl)
theorem dX5_nameDay_117 : decode cX5_nameDay 117 = .ok (.invokevirtual 131, 3) := q_invokevirtual (bat_get dg_X5_nameDay_46_100 10 rfl rfl) rfl
theorem dX5_nameDay_120 : decode cX5_nameDay 120 = .ok (.invokevirtual 136, 3) := q_invokevirtual (bat_get dg_X5_nameDay_46_100 11 rfl rfl) rfl
theorem dX5_nameDay_123 : decode cX5_nameDay 123 = .ok (.iinc 5 1, 3) := q_iinc (bat_get dg_X5_nameDay_46_100 12 rfl rfl) rfl
theorem dX5_nameDay_126 : decode cX5_nameDay 126 = .ok (.goto (-26), 3) := q_goto (bat_get dg_X5_nameDay_46_100 13 rfl rfl) rfl
theorem dX5_nameDay_46 : decode cX5_nameDay 46 = .ok (.aload_n 0, 1) := q_aload_n0 (bat_get dg_X5_nameDay_46_100 14 rfl rfl)
theorem dX5_nameDay_47 : decode cX5_nameDay 47 = .ok (.getfield 12, 3) := q_getfield (bat_get dg_X5_nameDay_46_100 15 rfl rfl) rfl
theorem dX5_nameDay_50 : decode cX5_nameDay 50 = .ok (.sipush 10007, 3) := q_sipush (bat_get dg_X5_nameDay_46_100 16 rfl rfl) rfl
theorem dX5_nameDay_53 : decode cX5_nameDay 53 = .ok (.aload_n 1, 1) := q_aload_n1 (bat_get dg_X5_nameDay_46_100 17 rfl rfl)
theorem dX5_nameDay_54 : decode cX5_nameDay 54 = .ok (.iload_n 3, 1) := q_iload_n3 (bat_get dg_X5_nameDay_46_100 18 rfl rfl)
theorem dX5_nameDay_55 : decode cX5_nameDay 55 = .ok (.invokevirtual 125, 3) := q_invokevirtual (bat_get dg_X5_nameDay_46_100 19 rfl rfl) rfl
theorem dX5_nameDay_58 : decode cX5_nameDay 58 = .ok (.ifCond .eq 7, 3) := q_ifCond_eq (bat_get dg_X5_nameDay_46_100 20 rfl rfl) rfl
theorem dX5_nameDay_65 : decode cX5_nameDay 65 = .ok (.lconst 0, 1) := q_lconst0 (bat_get dg_X5_nameDay_46_100 21 rfl rfl)
theorem dX5_nameDay_61 : decode cX5_nameDay 61 = .ok (.lconst 1, 1) := q_lconst1 (bat_get dg_X5_nameDay_46_100 22 rfl rfl)
theorem dX5_nameDay_62 : decode cX5_nameDay 62 = .ok (.goto 4, 3) := q_goto (bat_get dg_X5_nameDay_46_100 23 rfl rfl) rfl
theorem w_5_109 : (Cond.methodLink RX5 114 yX0_name) ∈ wsL_law := sk_mem (ck_5 _ (List.mem_of_getElem? (i := 109) rfl)) rfl
theorem w_1_233 : (Cond.fieldLink RX5 118 "SameKeeper$State" "barge" "[I") ∈ wsL_law := sk_mem (ck_1 _ (List.mem_of_getElem? (i := 233) rfl)) rfl
theorem w_1_237 : (Cond.fieldLink RX5 122 "SameKeeper$State" "wet" "[I") ∈ wsL_law := sk_mem (ck_1 _ (List.mem_of_getElem? (i := 237) rfl)) rfl
theorem w_2_7 : (Cond.fieldLink RX5 128 "SameKeeper$State" "week" "I") ∈ wsL_law := sk_mem (ck_2 _ (List.mem_of_getElem? (i := 7) rfl)) rfl
theorem w_5_111 : (Cond.methodLink RX5 131 yX1_timesOf) ∈ wsL_law := sk_mem (ck_5 _ (List.mem_of_getElem? (i := 111) rfl)) rfl
theorem w_5_112 : (Cond.methodLink RX5 136 yX0_nameCount) ∈ wsL_law := sk_mem (ck_5 _ (List.mem_of_getElem? (i := 112) rfl)) rfl
theorem w_5_113 : (Cond.instanceMethod yX0_nameCount) ∈ wsL_law := sk_mem (ck_5 _ (List.mem_of_getElem? (i := 113) rfl)) rfl
theorem w_5_114 : (Cond.selects RX0 yX0_nameCount yX0_nameCount) ∈ wsL_law := sk_mem (ck_5 _ (List.mem_of_getElem? (i := 114) rfl)) rfl
theorem w_5_110 : (Cond.methodLink RX5 125 yX7_isMute) ∈ wsL_law := sk_mem (ck_5 _ (List.mem_of_getElem? (i := 110) rfl)) rfl
theorem w_3_195 : (Cond.instanceMethod yX7_isMute) ∈ wsL_law := sk_mem (ck_3 _ (List.mem_of_getElem? (i := 195) rfl)) rfl
theorem w_3_196 : (Cond.selects RX7 yX7_isMute yX7_isMute) ∈ wsL_law := sk_mem (ck_3 _ (List.mem_of_getElem? (i := 196) rfl)) rfl
theorem w_1_10 : (Cond.initialized RX7) ∈ wsL_law := sk_mem (ck_1 _ (List.mem_of_getElem? (i := 10) rfl)) rfl
theorem w_5_108 : (Cond.code yX5_nameDay cX5_nameDay 6 none) ∈ wsL_law := sk_mem (ck_5 _ (List.mem_of_getElem? (i := 108) rfl)) rfl
def om_10_180 : List Bool := false :: true :: true :: false :: false :: false :: false :: false :: false :: false :: []
def om_10_7 : List Bool := false :: false :: false :: false :: false :: false :: false :: true :: true :: true :: []
def om_10_140 : List Bool := false :: true :: false :: true :: false :: false :: false :: false :: false :: false :: []
def om_10_20 : List Bool := false :: false :: false :: false :: true :: false :: false :: false :: false :: false :: []
theorem hd_X0_nameCount_2 : skD yX0_nameCount 2 := by decide +kernel
theorem hd_X7_isMute_1 : skD yX7_isMute 1 := by decide +kernel
set_option maxHeartbeats 4000000 in
set_option maxRecDepth 100000 in
theorem c_q_nameDay (l : Launch) (D : va_G) (cI cJ cC cZ cS : ClassId) (q : Nat → Nat) (vb : Int32) (cl : Nat) (mw : Nat) (f3 : Nat → Int64) (f4 : Nat → Int64) (dy : Nat) (mo : Nat) (wk : Int32) (mu : Int32) (ke : Int32) (fb : Nat → Int32) (fw : Nat → Int32) (gd : Nat) (gs : Nat) (e4 : Nat → Int64) (e5 : Nat → Int64) (d : Nat) (o : Int32) (hd : d < 9) : skM l yX5_nameDay cX5_nameDay 6 none 1 24 0 0 D (skT cI cJ cC cZ cS) [.ref (q 4), .ref (q 7), .ref (q 11), .int (nI d), .int o] [(q 4, .inr (5, [.ref (q 2), .ref (q 55), .ref (q 56), .int vb])), (q 56, .inr (0, [.ref (q 57), .ref (q 58), .ref (q 59), .ref (q 60), .int (nI cl), .int (nI mw)])), (q 59, .inl (cJ, 9, .inr (.inl f3))), (q 60, .inl (cJ, 10, .inr (.inl f4))), (q 7, .inr (7, [.ref (q 33), .ref (q 34), .int (nI dy), .int wk, .int (nI mo), .int mu, .int ke])), (q 33, .inl (cI, 9, .inl fb)), (q 34, .inl (cI, 9, .inl fw)), (q 11, .inr (1, [.ref (q 10), .ref (q 67), .ref (q 68), .ref (q 69), .ref (q 70), .ref (q 71), .ref (q 72), .int (nI gd), .int (nI gs)])), (q 70, .inl (cJ, 100, .inr (.inl e4))), (q 71, .inl (cJ, 100, .inr (.inl e5)))] (skV D (skT cI cJ cC cZ cS) (fun (u : va_W) => ∃ (g3 : Nat → Int64), ∃ (g4 : Nat → Int64), u = [(q 4, .inr (5, [.ref (q 2), .ref (q 55), .ref (q 56), .int vb])), (q 56, .inr (0, [.ref (q 57), .ref (q 58), .ref (q 59), .ref (q 60), .int (nI cl), .int (nI mw)])), (q 59, .inl (cJ, 9, .inr (.inl g3))), (q 60, .inl (cJ, 10, .inr (.inl g4))), (q 7, .inr (7, [.ref (q 33), .ref (q 34), .int (nI dy), .int wk, .int (nI mo), .int mu, .int ke])), (q 33, .inl (cI, 9, .inl fb)), (q 34, .inl (cI, 9, .inl fw)), (q 11, .inr (1, [.ref (q 10), .ref (q 67), .ref (q 68), .ref (q 69), .ref (q 70), .ref (q 71), .ref (q 72), .int (nI gd), .int (nI gs)])), (q 70, .inl (cJ, 100, .inr (.inl e4))), (q 71, .inl (cJ, 100, .inr (.inl e5)))])) := by
  refine skM_of pf_X5_nameDay (Nat.le_of_ble_eq_true rfl) ?_
  intro p e s m below meth c A ls E hP hD hl
  refine skE_el E (fun hx hb hr hml hlocks hin hown hts hK hA => ?_)
  have hown : s.vm.findClass RX5 = some m.cls := hown
  have hS : va_S A s.heap s.heap [] := va_S.rf
  have hl : lv_has ls 6 [(0, .ref (q 4)), (1, .ref (q 7)), (2, .ref (q 11)), (3, .int (nI d)), (4, .int o)] := hl
  refine lv_aload_n hx hb dX5_nameDay_0 rfl (lv_at hl 0 rfl) ?_
  refine sk_get (v := .ref (q 56)) (C := RX5) (T := TX5) (N := 4) hx hb hts inlX5 hown hK hP 0 rfl rfl 2 (by decide) w_1_156 rfl dX5_nameDay_1 ?_
  refine lv_sipush (v := 10003) hx hb dX5_nameDay_4 (by decide) ?_
  refine lv_iload_n hx hb dX5_nameDay_7 rfl (lv_at hl 3 rfl) ?_
  refine lv_i2l hx hb dX5_nameDay_8 rfl ?_
  refine sk_Vv (q0 := 0) (n := 2) (rest := []) (wr := fmR om_10_180 _) ⟨hx, hb, hml, hown, hts⟩ hl.1 (c_Code_name l D cI cJ cC cZ cS (q 56) (q 57) (q 58) (q 59) (q 60) cl mw f3 10003 (Int32.toInt64 (nI d))) w_5_109 w_3_213 w_3_214 w_1_8 w_3_215 hd_X0_name_2 ⟨⟨(Nat.le_of_ble_eq_true rfl), (Nat.le_of_ble_eq_true rfl)⟩, (Nat.le_of_ble_eq_true rfl), (Nat.le_of_ble_eq_true rfl)⟩ hK hP hD hS hA (fmT om_10_180 0) (fmF om_10_180 0) (fm_C1 rfl rfl) (fm_R rfl rfl) (fm_nT om_10_180 0) (fm_nF om_10_180 0) (fm_di om_10_180 0) rfl rfl rfl rfl (Nat.le_of_ble_eq_true rfl) dX5_nameDay_9 (fun u H locs hw hP hD hS => ?_)
  refine exE hw (fun g3_1 eu_2 => ?_)
  clear hw
  refine o_mgE (ws' := [(q 4, .inr (5, [.ref (q 2), .ref (q 55), .ref (q 56), .int vb])), (q 56, .inr (0, [.ref (q 57), .ref (q 58), .ref (q 59), .ref (q 60), .int (nI cl), .int (nI mw)])), (q 59, .inl (cJ, 9, .inr (.inl g3_1))), (q 60, .inl (cJ, 10, .inr (.inl f4))), (q 7, .inr (7, [.ref (q 33), .ref (q 34), .int (nI dy), .int wk, .int (nI mo), .int mu, .int ke])), (q 33, .inl (cI, 9, .inl fb)), (q 34, .inl (cI, 9, .inl fw)), (q 11, .inr (1, [.ref (q 10), .ref (q 67), .ref (q 68), .ref (q 69), .ref (q 70), .ref (q 71), .ref (q 72), .int (nI gd), .int (nI gs)])), (q 70, .inl (cJ, 100, .inr (.inl e4))), (q 71, .inl (cJ, 100, .inr (.inl e5)))]) eu_2 hP hD rfl (fun hP hD => ?_)
  refine lv_aload_n hx hb dX5_nameDay_12 rfl (lv_at hl 0 rfl) ?_
  refine sk_get (v := .ref (q 56)) (C := RX5) (T := TX5) (N := 4) hx hb hts inlX5 hown hK hP 0 rfl rfl 2 (by decide) w_1_156 rfl dX5_nameDay_13 ?_
  refine lv_sipush (v := 10001) hx hb dX5_nameDay_16 (by decide) ?_
  refine lv_aload_n hx hb dX5_nameDay_19 rfl (lv_at hl 1 rfl) ?_
  refine sk_get (v := .ref (q 33)) (C := RX7) (T := TX7) (N := 7) hx hb hts inlX7 hown hK hP 4 rfl rfl 0 (by decide) w_1_233 rfl dX5_nameDay_20 ?_
  refine lv_iload_n hx hb dX5_nameDay_23 rfl (lv_at hl 3 rfl) ?_
  refine va_iald hx hb hK.1 hP 5 0 rfl rfl (vin d 9 (by omega) (by omega)) dX5_nameDay_24 ?_
  refine lv_topi (fun v_3 ev_3 => ?_)
  refine lv_i2l hx hb dX5_nameDay_25 rfl ?_
  refine sk_Vv (q0 := 0) (n := 2) (rest := []) (wr := fmR om_10_180 _) ⟨hx, hb, hml, hown, hts⟩ hl.1 (c_Code_name l D cI cJ cC cZ cS (q 56) (q 57) (q 58) (q 59) (q 60) cl mw g3_1 10001 (Int32.toInt64 v_3)) w_5_109 w_3_213 w_3_214 w_1_8 w_3_215 hd_X0_name_2 ⟨⟨(Nat.le_of_ble_eq_true rfl), (Nat.le_of_ble_eq_true rfl)⟩, (Nat.le_of_ble_eq_true rfl), (Nat.le_of_ble_eq_true rfl)⟩ hK hP hD hS hA (fmT om_10_180 0) (fmF om_10_180 0) (fm_C1 rfl rfl) (fm_R rfl rfl) (fm_nT om_10_180 0) (fm_nF om_10_180 0) (fm_di om_10_180 0) rfl rfl rfl rfl (Nat.le_of_ble_eq_true rfl) dX5_nameDay_26 (fun u H locs hw hP hD hS => ?_)
  refine exE hw (fun g3_4 eu_5 => ?_)
  clear hw
  refine o_mgE (ws' := [(q 4, .inr (5, [.ref (q 2), .ref (q 55), .ref (q 56), .int vb])), (q 56, .inr (0, [.ref (q 57), .ref (q 58), .ref (q 59), .ref (q 60), .int (nI cl), .int (nI mw)])), (q 59, .inl (cJ, 9, .inr (.inl g3_4))), (q 60, .inl (cJ, 10, .inr (.inl f4))), (q 7, .inr (7, [.ref (q 33), .ref (q 34), .int (nI dy), .int wk, .int (nI mo), .int mu, .int ke])), (q 33, .inl (cI, 9, .inl fb)), (q 34, .inl (cI, 9, .inl fw)), (q 11, .inr (1, [.ref (q 10), .ref (q 67), .ref (q 68), .ref (q 69), .ref (q 70), .ref (q 71), .ref (q 72), .int (nI gd), .int (nI gs)])), (q 70, .inl (cJ, 100, .inr (.inl e4))), (q 71, .inl (cJ, 100, .inr (.inl e5)))]) eu_5 hP hD rfl (fun hP hD => ?_)
  refine lv_aload_n hx hb dX5_nameDay_29 rfl (lv_at hl 0 rfl) ?_
  refine sk_get (v := .ref (q 56)) (C := RX5) (T := TX5) (N := 4) hx hb hts inlX5 hown hK hP 0 rfl rfl 2 (by decide) w_1_156 rfl dX5_nameDay_30 ?_
  refine lv_sipush (v := 10002) hx hb dX5_nameDay_33 (by decide) ?_
  refine lv_aload_n hx hb dX5_nameDay_36 rfl (lv_at hl 1 rfl) ?_
  refine sk_get (v := .ref (q 34)) (C := RX7) (T := TX7) (N := 7) hx hb hts inlX7 hown hK hP 4 rfl rfl 1 (by decide) w_1_237 rfl dX5_nameDay_37 ?_
  refine lv_iload_n hx hb dX5_nameDay_40 rfl (lv_at hl 3 rfl) ?_
  refine va_iald hx hb hK.1 hP 6 0 rfl rfl (vin d 9 (by omega) (by omega)) dX5_nameDay_41 ?_
  refine lv_topi (fun v_6 ev_6 => ?_)
  refine lv_i2l hx hb dX5_nameDay_42 rfl ?_
  refine sk_Vv (q0 := 0) (n := 2) (rest := []) (wr := fmR om_10_180 _) ⟨hx, hb, hml, hown, hts⟩ hl.1 (c_Code_name l D cI cJ cC cZ cS (q 56) (q 57) (q 58) (q 59) (q 60) cl mw g3_4 10002 (Int32.toInt64 v_6)) w_5_109 w_3_213 w_3_214 w_1_8 w_3_215 hd_X0_name_2 ⟨⟨(Nat.le_of_ble_eq_true rfl), (Nat.le_of_ble_eq_true rfl)⟩, (Nat.le_of_ble_eq_true rfl), (Nat.le_of_ble_eq_true rfl)⟩ hK hP hD hS hA (fmT om_10_180 0) (fmF om_10_180 0) (fm_C1 rfl rfl) (fm_R rfl rfl) (fm_nT om_10_180 0) (fm_nF om_10_180 0) (fm_di om_10_180 0) rfl rfl rfl rfl (Nat.le_of_ble_eq_true rfl) dX5_nameDay_43 (fun u H locs hw hP hD hS => ?_)
  refine exE hw (fun g3_7 eu_8 => ?_)
  clear hw
  refine o_mgE (ws' := [(q 4, .inr (5, [.ref (q 2), .ref (q 55), .ref (q 56), .int vb])), (q 56, .inr (0, [.ref (q 57), .ref (q 58), .ref (q 59), .ref (q 60), .int (nI cl), .int (nI mw)])), (q 59, .inl (cJ, 9, .inr (.inl g3_7))), (q 60, .inl (cJ, 10, .inr (.inl f4))), (q 7, .inr (7, [.ref (q 33), .ref (q 34), .int (nI dy), .int wk, .int (nI mo), .int mu, .int ke])), (q 33, .inl (cI, 9, .inl fb)), (q 34, .inl (cI, 9, .inl fw)), (q 11, .inr (1, [.ref (q 10), .ref (q 67), .ref (q 68), .ref (q 69), .ref (q 70), .ref (q 71), .ref (q 72), .int (nI gd), .int (nI gs)])), (q 70, .inl (cJ, 100, .inr (.inl e4))), (q 71, .inl (cJ, 100, .inr (.inl e5)))]) eu_8 hP hD rfl (fun hP hD => ?_)
  have jn_9 : ∀ (lq : Int64) (H : Heap) (locs : List Loc) (ls : Array Slot), va_P D vwCl [(q 4, .inr (5, [.ref (q 2), .ref (q 55), .ref (q 56), .int vb])), (q 56, .inr (0, [.ref (q 57), .ref (q 58), .ref (q 59), .ref (q 60), .int (nI cl), .int (nI mw)])), (q 59, .inl (cJ, 9, .inr (.inl g3_7))), (q 60, .inl (cJ, 10, .inr (.inl f4))), (q 7, .inr (7, [.ref (q 33), .ref (q 34), .int (nI dy), .int wk, .int (nI mo), .int mu, .int ke])), (q 33, .inl (cI, 9, .inl fb)), (q 34, .inl (cI, 9, .inl fw)), (q 11, .inr (1, [.ref (q 10), .ref (q 67), .ref (q 68), .ref (q 69), .ref (q 70), .ref (q 71), .ref (q 72), .int (nI gd), .int (nI gs)])), (q 70, .inl (cJ, 100, .inr (.inl e4))), (q 71, .inl (cJ, 100, .inr (.inl e5)))] H → va_D A [(q 4, .inr (5, [.ref (q 2), .ref (q 55), .ref (q 56), .int vb])), (q 56, .inr (0, [.ref (q 57), .ref (q 58), .ref (q 59), .ref (q 60), .int (nI cl), .int (nI mw)])), (q 59, .inl (cJ, 9, .inr (.inl g3_7))), (q 60, .inl (cJ, 10, .inr (.inl f4))), (q 7, .inr (7, [.ref (q 33), .ref (q 34), .int (nI dy), .int wk, .int (nI mo), .int mu, .int ke])), (q 33, .inl (cI, 9, .inl fb)), (q 34, .inl (cI, 9, .inl fw)), (q 11, .inr (1, [.ref (q 10), .ref (q 67), .ref (q 68), .ref (q 69), .ref (q 70), .ref (q 71), .ref (q 72), .int (nI gd), .int (nI gs)])), (q 70, .inl (cJ, 100, .inr (.inl e4))), (q 71, .inl (cJ, 100, .inr (.inl e5)))] → va_S A s.heap H locs → lv_has ls 6 [(0, .ref (q 4)), (1, .ref (q 7)), (2, .ref (q 11)), (3, .int (nI d)), (4, .int o)] → W p l e { frames := 1, cells := 0, slots := 0, locals := 24 } s m ([.ref (q 4), .ref (q 7), .ref (q 11), .int (nI d), .int o] : List Value).toArray below meth c H locs 0 0 (MQ below (skV D (skT cI cJ cC cZ cS) (fun (u : va_W) => ∃ (g3 : Nat → Int64), ∃ (g4 : Nat → Int64), u = [(q 4, .inr (5, [.ref (q 2), .ref (q 55), .ref (q 56), .int vb])), (q 56, .inr (0, [.ref (q 57), .ref (q 58), .ref (q 59), .ref (q 60), .int (nI cl), .int (nI mw)])), (q 59, .inl (cJ, 9, .inr (.inl g3))), (q 60, .inl (cJ, 10, .inr (.inl g4))), (q 7, .inr (7, [.ref (q 33), .ref (q 34), .int (nI dy), .int wk, .int (nI mo), .int mu, .int ke])), (q 33, .inl (cI, 9, .inl fb)), (q 34, .inl (cI, 9, .inl fw)), (q 11, .inr (1, [.ref (q 10), .ref (q 67), .ref (q 68), .ref (q 69), .ref (q 70), .ref (q 71), .ref (q 72), .int (nI gd), .int (nI gs)])), (q 70, .inl (cJ, 100, .inr (.inl e4))), (q 71, .inl (cJ, 100, .inr (.inl e5)))]) A) ([.ref (q 4), .ref (q 7), .ref (q 11), .int (nI d), .int o] : List Value).toArray s 0 0 A) (F0 m 66 ls [.long lq, .int 10007, .ref (q 56)]) := by
    intro lq H locs ls  hP hD hS hl
    refine sk_Vv (q0 := 0) (n := 2) (rest := []) (wr := fmR om_10_180 _) ⟨hx, hb, hml, hown, hts⟩ hl.1 (c_Code_name l D cI cJ cC cZ cS (q 56) (q 57) (q 58) (q 59) (q 60) cl mw g3_7 10007 lq) w_5_109 w_3_213 w_3_214 w_1_8 w_3_215 hd_X0_name_2 ⟨⟨(Nat.le_of_ble_eq_true rfl), (Nat.le_of_ble_eq_true rfl)⟩, (Nat.le_of_ble_eq_true rfl), (Nat.le_of_ble_eq_true rfl)⟩ hK hP hD hS hA (fmT om_10_180 0) (fmF om_10_180 0) (fm_C1 rfl rfl) (fm_R rfl rfl) (fm_nT om_10_180 0) (fm_nF om_10_180 0) (fm_di om_10_180 0) rfl rfl rfl rfl (Nat.le_of_ble_eq_true rfl) dX5_nameDay_66 (fun u H locs hw hP hD hS => ?_)
    refine exE hw (fun g3_10 eu_11 => ?_)
    clear hw
    refine o_mgE (ws' := [(q 4, .inr (5, [.ref (q 2), .ref (q 55), .ref (q 56), .int vb])), (q 56, .inr (0, [.ref (q 57), .ref (q 58), .ref (q 59), .ref (q 60), .int (nI cl), .int (nI mw)])), (q 59, .inl (cJ, 9, .inr (.inl g3_10))), (q 60, .inl (cJ, 10, .inr (.inl f4))), (q 7, .inr (7, [.ref (q 33), .ref (q 34), .int (nI dy), .int wk, .int (nI mo), .int mu, .int ke])), (q 33, .inl (cI, 9, .inl fb)), (q 34, .inl (cI, 9, .inl fw)), (q 11, .inr (1, [.ref (q 10), .ref (q 67), .ref (q 68), .ref (q 69), .ref (q 70), .ref (q 71), .ref (q 72), .int (nI gd), .int (nI gs)])), (q 70, .inl (cJ, 100, .inr (.inl e4))), (q 71, .inl (cJ, 100, .inr (.inl e5)))]) eu_11 hP hD rfl (fun hP hD => ?_)
    refine lv_aload_n hx hb dX5_nameDay_69 rfl (lv_at hl 0 rfl) ?_
    refine sk_get (v := .ref (q 56)) (C := RX5) (T := TX5) (N := 4) hx hb hts inlX5 hown hK hP 0 rfl rfl 2 (by decide) w_1_156 rfl dX5_nameDay_70 ?_
    refine lv_sipush (v := 10008) hx hb dX5_nameDay_73 (by decide) ?_
    refine lv_iload hx hb dX5_nameDay_76 (lv_at hl 4 rfl) ?_
    refine lv_i2l hx hb dX5_nameDay_78 rfl ?_
    refine sk_Vv (q0 := 0) (n := 2) (rest := []) (wr := fmR om_10_180 _) ⟨hx, hb, hml, hown, hts⟩ hl.1 (c_Code_name l D cI cJ cC cZ cS (q 56) (q 57) (q 58) (q 59) (q 60) cl mw g3_10 10008 (Int32.toInt64 o)) w_5_109 w_3_213 w_3_214 w_1_8 w_3_215 hd_X0_name_2 ⟨⟨(Nat.le_of_ble_eq_true rfl), (Nat.le_of_ble_eq_true rfl)⟩, (Nat.le_of_ble_eq_true rfl), (Nat.le_of_ble_eq_true rfl)⟩ hK hP hD hS hA (fmT om_10_180 0) (fmF om_10_180 0) (fm_C1 rfl rfl) (fm_R rfl rfl) (fm_nT om_10_180 0) (fm_nF om_10_180 0) (fm_di om_10_180 0) rfl rfl rfl rfl (Nat.le_of_ble_eq_true rfl) dX5_nameDay_79 (fun u H locs hw hP hD hS => ?_)
    refine exE hw (fun g3_12 eu_13 => ?_)
    clear hw
    refine o_mgE (ws' := [(q 4, .inr (5, [.ref (q 2), .ref (q 55), .ref (q 56), .int vb])), (q 56, .inr (0, [.ref (q 57), .ref (q 58), .ref (q 59), .ref (q 60), .int (nI cl), .int (nI mw)])), (q 59, .inl (cJ, 9, .inr (.inl g3_12))), (q 60, .inl (cJ, 10, .inr (.inl f4))), (q 7, .inr (7, [.ref (q 33), .ref (q 34), .int (nI dy), .int wk, .int (nI mo), .int mu, .int ke])), (q 33, .inl (cI, 9, .inl fb)), (q 34, .inl (cI, 9, .inl fw)), (q 11, .inr (1, [.ref (q 10), .ref (q 67), .ref (q 68), .ref (q 69), .ref (q 70), .ref (q 71), .ref (q 72), .int (nI gd), .int (nI gs)])), (q 70, .inl (cJ, 100, .inr (.inl e4))), (q 71, .inl (cJ, 100, .inr (.inl e5)))]) eu_13 hP hD rfl (fun hP hD => ?_)
    refine lv_aload_n hx hb dX5_nameDay_82 rfl (lv_at hl 0 rfl) ?_
    refine sk_get (v := .ref (q 56)) (C := RX5) (T := TX5) (N := 4) hx hb hts inlX5 hown hK hP 0 rfl rfl 2 (by decide) w_1_156 rfl dX5_nameDay_83 ?_
    refine lv_sipush (v := 10004) hx hb dX5_nameDay_86 (by decide) ?_
    refine lv_aload_n hx hb dX5_nameDay_89 rfl (lv_at hl 1 rfl) ?_
    refine sk_get (v := .int wk) (C := RX7) (T := TX7) (N := 7) hx hb hts inlX7 hown hK hP 4 rfl rfl 3 (by decide) w_2_7 rfl dX5_nameDay_90 ?_
    refine lv_i2l hx hb dX5_nameDay_93 rfl ?_
    refine sk_Vv (q0 := 0) (n := 2) (rest := []) (wr := fmR om_10_180 _) ⟨hx, hb, hml, hown, hts⟩ hl.1 (c_Code_name l D cI cJ cC cZ cS (q 56) (q 57) (q 58) (q 59) (q 60) cl mw g3_12 10004 (Int32.toInt64 wk)) w_5_109 w_3_213 w_3_214 w_1_8 w_3_215 hd_X0_name_2 ⟨⟨(Nat.le_of_ble_eq_true rfl), (Nat.le_of_ble_eq_true rfl)⟩, (Nat.le_of_ble_eq_true rfl), (Nat.le_of_ble_eq_true rfl)⟩ hK hP hD hS hA (fmT om_10_180 0) (fmF om_10_180 0) (fm_C1 rfl rfl) (fm_R rfl rfl) (fm_nT om_10_180 0) (fm_nF om_10_180 0) (fm_di om_10_180 0) rfl rfl rfl rfl (Nat.le_of_ble_eq_true rfl) dX5_nameDay_94 (fun u H locs hw hP hD hS => ?_)
    refine exE hw (fun g3_14 eu_15 => ?_)
    clear hw
    refine o_mgE (ws' := [(q 4, .inr (5, [.ref (q 2), .ref (q 55), .ref (q 56), .int vb])), (q 56, .inr (0, [.ref (q 57), .ref (q 58), .ref (q 59), .ref (q 60), .int (nI cl), .int (nI mw)])), (q 59, .inl (cJ, 9, .inr (.inl g3_14))), (q 60, .inl (cJ, 10, .inr (.inl f4))), (q 7, .inr (7, [.ref (q 33), .ref (q 34), .int (nI dy), .int wk, .int (nI mo), .int mu, .int ke])), (q 33, .inl (cI, 9, .inl fb)), (q 34, .inl (cI, 9, .inl fw)), (q 11, .inr (1, [.ref (q 10), .ref (q 67), .ref (q 68), .ref (q 69), .ref (q 70), .ref (q 71), .ref (q 72), .int (nI gd), .int (nI gs)])), (q 70, .inl (cJ, 100, .inr (.inl e4))), (q 71, .inl (cJ, 100, .inr (.inl e5)))]) eu_15 hP hD rfl (fun hP hD => ?_)
    refine lv_iconst (v := 0) hx hb dX5_nameDay_97 (by decide) ?_
    refine lv_istore (lv' := [(5, .int 0), (0, .ref (q 4)), (1, .ref (q 7)), (2, .ref (q 11)), (3, .int (nI d)), (4, .int o)]) hx hb dX5_nameDay_98 hl (by decide) rfl (fun ls hl => ?_)
    have lp_16 : ∀ (n_17 : Nat) (i : Nat) (y4 : Nat → Int64) (H : Heap) (locs : List Loc) (ls : Array Slot), 10 - i < n_17 → (i ≤ 10) → va_P D vwCl [(q 4, .inr (5, [.ref (q 2), .ref (q 55), .ref (q 56), .int vb])), (q 56, .inr (0, [.ref (q 57), .ref (q 58), .ref (q 59), .ref (q 60), .int (nI cl), .int (nI mw)])), (q 59, .inl (cJ, 9, .inr (.inl g3_14))), (q 60, .inl (cJ, 10, .inr (.inl y4))), (q 7, .inr (7, [.ref (q 33), .ref (q 34), .int (nI dy), .int wk, .int (nI mo), .int mu, .int ke])), (q 33, .inl (cI, 9, .inl fb)), (q 34, .inl (cI, 9, .inl fw)), (q 11, .inr (1, [.ref (q 10), .ref (q 67), .ref (q 68), .ref (q 69), .ref (q 70), .ref (q 71), .ref (q 72), .int (nI gd), .int (nI gs)])), (q 70, .inl (cJ, 100, .inr (.inl e4))), (q 71, .inl (cJ, 100, .inr (.inl e5)))] H → va_D A [(q 4, .inr (5, [.ref (q 2), .ref (q 55), .ref (q 56), .int vb])), (q 56, .inr (0, [.ref (q 57), .ref (q 58), .ref (q 59), .ref (q 60), .int (nI cl), .int (nI mw)])), (q 59, .inl (cJ, 9, .inr (.inl g3_14))), (q 60, .inl (cJ, 10, .inr (.inl y4))), (q 7, .inr (7, [.ref (q 33), .ref (q 34), .int (nI dy), .int wk, .int (nI mo), .int mu, .int ke])), (q 33, .inl (cI, 9, .inl fb)), (q 34, .inl (cI, 9, .inl fw)), (q 11, .inr (1, [.ref (q 10), .ref (q 67), .ref (q 68), .ref (q 69), .ref (q 70), .ref (q 71), .ref (q 72), .int (nI gd), .int (nI gs)])), (q 70, .inl (cJ, 100, .inr (.inl e4))), (q 71, .inl (cJ, 100, .inr (.inl e5)))] → va_S A s.heap H locs → lv_has ls 6 [(5, .int (nI i)), (0, .ref (q 4)), (1, .ref (q 7)), (2, .ref (q 11)), (3, .int (nI d)), (4, .int o)] → W p l e { frames := 1, cells := 0, slots := 0, locals := 24 } s m ([.ref (q 4), .ref (q 7), .ref (q 11), .int (nI d), .int o] : List Value).toArray below meth c H locs 0 0 (MQ below (skV D (skT cI cJ cC cZ cS) (fun (u : va_W) => ∃ (g3 : Nat → Int64), ∃ (g4 : Nat → Int64), u = [(q 4, .inr (5, [.ref (q 2), .ref (q 55), .ref (q 56), .int vb])), (q 56, .inr (0, [.ref (q 57), .ref (q 58), .ref (q 59), .ref (q 60), .int (nI cl), .int (nI mw)])), (q 59, .inl (cJ, 9, .inr (.inl g3))), (q 60, .inl (cJ, 10, .inr (.inl g4))), (q 7, .inr (7, [.ref (q 33), .ref (q 34), .int (nI dy), .int wk, .int (nI mo), .int mu, .int ke])), (q 33, .inl (cI, 9, .inl fb)), (q 34, .inl (cI, 9, .inl fw)), (q 11, .inr (1, [.ref (q 10), .ref (q 67), .ref (q 68), .ref (q 69), .ref (q 70), .ref (q 71), .ref (q 72), .int (nI gd), .int (nI gs)])), (q 70, .inl (cJ, 100, .inr (.inl e4))), (q 71, .inl (cJ, 100, .inr (.inl e5)))]) A) ([.ref (q 4), .ref (q 7), .ref (q 11), .int (nI d), .int o] : List Value).toArray s 0 0 A) (F0 m 100 ls []) := by
      intro n_17
      induction n_17 with
      | zero => intro i y4 H locs ls hm; exact absurd hm (Nat.not_lt_zero _)
      | succ n_17 ih_lp_16 =>
        intro i y4 H locs ls hm hi hP hD hS hl
        refine lv_iload hx hb dX5_nameDay_100 (lv_at hl 0 rfl) ?_
        refine lv_bipush (v := 10) hx hb dX5_nameDay_102 (by decide) ?_
        refine lv_icmp_ge (tgt := 129) hx hb dX5_nameDay_104 (by decide) (fun c_18 => ?_) (fun c_18 => ?_)
        · have c_18 : 10 ≤ i := (nle 10 i (by omega) (by omega)).mp c_18
          exact sk_vret hx hb hr hlocks hK hP hD hS (⟨g3_14, y4, rfl⟩) (Nat.le_of_ble_eq_true rfl) (Nat.le_of_ble_eq_true rfl) dX5_nameDay_129
        · have c_18 : ¬ (10 ≤ i) := fun h => c_18 ((nle 10 i (by omega) (by omega)).mpr h)
          refine lv_aload_n hx hb dX5_nameDay_107 rfl (lv_at hl 1 rfl) ?_
          refine sk_get (v := .ref (q 56)) (C := RX5) (T := TX5) (N := 4) hx hb hts inlX5 hown hK hP 0 rfl rfl 2 (by decide) w_1_156 rfl dX5_nameDay_108 ?_
          refine lv_iload hx hb dX5_nameDay_111 (lv_at hl 0 rfl) ?_
          refine lv_aload_n hx hb dX5_nameDay_113 rfl (lv_at hl 3 rfl) ?_
          refine lv_iload_n hx hb dX5_nameDay_114 rfl (lv_at hl 4 rfl) ?_
          refine lv_iload hx hb dX5_nameDay_115 (lv_at hl 0 rfl) ?_
          refine sk_Vl (q0 := 0) (n := 2) (rest := [.int (nI i), .ref (q 56)]) (wr := fmR om_10_7 _) ⟨hx, hb, hml, hown, hts⟩ hl.1 (c_timesOf l D cI cJ cC cZ cS q gd gs e4 e5 d i (by omega) (by omega)) w_5_111 w_4_89 w_4_90 w_1_13 w_4_91 hd_X1_timesOf_2 ⟨⟨(Nat.le_of_ble_eq_true rfl), (Nat.le_of_ble_eq_true rfl)⟩, (Nat.le_of_ble_eq_true rfl), (Nat.le_of_ble_eq_true rfl)⟩ hK hP hD hS hA (fmT om_10_7 0) (fmF om_10_7 0) (fm_C1 rfl rfl) (fm_R rfl rfl) (fm_nT om_10_7 0) (fm_nF om_10_7 0) (fm_di om_10_7 0) rfl rfl rfl rfl (Nat.le_of_ble_eq_true rfl) dX5_nameDay_117 (fun r_19 u H locs hw hP hD hS => ?_)
          refine o_mgE (ws' := [(q 4, .inr (5, [.ref (q 2), .ref (q 55), .ref (q 56), .int vb])), (q 56, .inr (0, [.ref (q 57), .ref (q 58), .ref (q 59), .ref (q 60), .int (nI cl), .int (nI mw)])), (q 59, .inl (cJ, 9, .inr (.inl g3_14))), (q 60, .inl (cJ, 10, .inr (.inl y4))), (q 7, .inr (7, [.ref (q 33), .ref (q 34), .int (nI dy), .int wk, .int (nI mo), .int mu, .int ke])), (q 33, .inl (cI, 9, .inl fb)), (q 34, .inl (cI, 9, .inl fw)), (q 11, .inr (1, [.ref (q 10), .ref (q 67), .ref (q 68), .ref (q 69), .ref (q 70), .ref (q 71), .ref (q 72), .int (nI gd), .int (nI gs)])), (q 70, .inl (cJ, 100, .inr (.inl e4))), (q 71, .inl (cJ, 100, .inr (.inl e5)))]) hw hP hD rfl (fun hP hD => ?_)
          refine sk_Vv (q0 := 0) (n := 2) (rest := []) (wr := fmR om_10_140 _) ⟨hx, hb, hml, hown, hts⟩ hl.1 (c_Code_nameCount l D cI cJ cC cZ cS (q 56) (q 57) (q 58) (q 59) (q 60) cl mw y4 (nI i) r_19) w_5_112 w_5_113 w_5_114 w_1_8 w_5_115 hd_X0_nameCount_2 ⟨⟨(Nat.le_of_ble_eq_true rfl), (Nat.le_of_ble_eq_true rfl)⟩, (Nat.le_of_ble_eq_true rfl), (Nat.le_of_ble_eq_true rfl)⟩ hK hP hD hS hA (fmT om_10_140 0) (fmF om_10_140 0) (fm_C1 rfl rfl) (fm_R rfl rfl) (fm_nT om_10_140 0) (fm_nF om_10_140 0) (fm_di om_10_140 0) rfl rfl rfl rfl (Nat.le_of_ble_eq_true rfl) dX5_nameDay_120 (fun u H locs hw hP hD hS => ?_)
          refine exE hw (fun g4_20 eu_21 => ?_)
          clear hw
          refine o_mgE (ws' := [(q 4, .inr (5, [.ref (q 2), .ref (q 55), .ref (q 56), .int vb])), (q 56, .inr (0, [.ref (q 57), .ref (q 58), .ref (q 59), .ref (q 60), .int (nI cl), .int (nI mw)])), (q 59, .inl (cJ, 9, .inr (.inl g3_14))), (q 60, .inl (cJ, 10, .inr (.inl g4_20))), (q 7, .inr (7, [.ref (q 33), .ref (q 34), .int (nI dy), .int wk, .int (nI mo), .int mu, .int ke])), (q 33, .inl (cI, 9, .inl fb)), (q 34, .inl (cI, 9, .inl fw)), (q 11, .inr (1, [.ref (q 10), .ref (q 67), .ref (q 68), .ref (q 69), .ref (q 70), .ref (q 71), .ref (q 72), .int (nI gd), .int (nI gs)])), (q 70, .inl (cJ, 100, .inr (.inl e4))), (q 71, .inl (cJ, 100, .inr (.inl e5)))]) eu_21 hP hD rfl (fun hP hD => ?_)
          refine lv_iinc (v := nI (i + 1)) (lv' := [(5, .int (nI (i + 1))), (0, .ref (q 4)), (1, .ref (q 7)), (2, .ref (q 11)), (3, .int (nI d)), (4, .int o)]) hx hb dX5_nameDay_123 hl (k := 0) rfl (ninc i 1 (by decide)) (by decide) rfl (fun ls hl => ?_)
          refine lv_goto (tgt := 100) hx hb dX5_nameDay_126 (by decide) ?_
          exact ih_lp_16 (i + 1) g4_20 _ _ _ (by omega) (by omega) hP hD hS (lv_sub hl [0, 1, 2, 3, 4, 5] rfl)
    exact lp_16 (10 - 0 + 1) 0 f4 _ _ _ (Nat.lt_succ_self _) (by omega) hP hD hS (lv_sub hl [0, 1, 2, 3, 4, 5] rfl)
  refine lv_aload_n hx hb dX5_nameDay_46 rfl (lv_at hl 0 rfl) ?_
  refine sk_get (v := .ref (q 56)) (C := RX5) (T := TX5) (N := 4) hx hb hts inlX5 hown hK hP 0 rfl rfl 2 (by decide) w_1_156 rfl dX5_nameDay_47 ?_
  refine lv_sipush (v := 10007) hx hb dX5_nameDay_50 (by decide) ?_
  refine lv_aload_n hx hb dX5_nameDay_53 rfl (lv_at hl 1 rfl) ?_
  refine lv_iload_n hx hb dX5_nameDay_54 rfl (lv_at hl 3 rfl) ?_
  refine sk_Vi (q0 := 0) (n := 1) (rest := [.int 10007, .ref (q 56)]) (wr := fmR om_10_20 _) ⟨hx, hb, hml, hown, hts⟩ hl.1 (c_State_isMute l D cI cJ cC cZ cS (q 7) (q 33) (q 34) dy mo wk mu ke (nI d)) w_5_110 w_3_195 w_3_196 w_1_10 w_3_197 hd_X7_isMute_1 ⟨⟨(Nat.le_of_ble_eq_true rfl), (Nat.le_of_ble_eq_true rfl)⟩, (Nat.le_of_ble_eq_true rfl), (Nat.le_of_ble_eq_true rfl)⟩ hK hP hD hS hA (fmT om_10_20 0) (fmF om_10_20 0) (fm_C1 rfl rfl) (fm_R rfl rfl) (fm_nT om_10_20 0) (fm_nF om_10_20 0) (fm_di om_10_20 0) rfl rfl rfl rfl (Nat.le_of_ble_eq_true rfl) dX5_nameDay_55 (fun r_23 u H locs hw hP hD hS => ?_)
  refine exE hw (fun b_22 hw1 => anE hw1 (fun hb1_24 hw2 => anE hw2 (fun er_26 eu_25 => ?_)))
  clear hw hw1 hw2
  subst er_26
  refine o_mgE (ws' := [(q 4, .inr (5, [.ref (q 2), .ref (q 55), .ref (q 56), .int vb])), (q 56, .inr (0, [.ref (q 57), .ref (q 58), .ref (q 59), .ref (q 60), .int (nI cl), .int (nI mw)])), (q 59, .inl (cJ, 9, .inr (.inl g3_7))), (q 60, .inl (cJ, 10, .inr (.inl f4))), (q 7, .inr (7, [.ref (q 33), .ref (q 34), .int (nI dy), .int wk, .int (nI mo), .int mu, .int ke])), (q 33, .inl (cI, 9, .inl fb)), (q 34, .inl (cI, 9, .inl fw)), (q 11, .inr (1, [.ref (q 10), .ref (q 67), .ref (q 68), .ref (q 69), .ref (q 70), .ref (q 71), .ref (q 72), .int (nI gd), .int (nI gs)])), (q 70, .inl (cJ, 100, .inr (.inl e4))), (q 71, .inl (cJ, 100, .inr (.inl e5)))]) eu_25 hP hD rfl (fun hP hD => ?_)
  refine lv_if_eq (tgt := 65) hx hb dX5_nameDay_58 (by decide) (fun c_27 => ?_) (fun c_27 => ?_)
  · have c_27 : b_22 = 0 := (neq b_22 0 (by omega) (by omega)).mp c_27
    refine lv_lconst (v := 0) hx hb dX5_nameDay_65 (by decide) ?_
    exact jn_9 0 _ _ _  hP hD hS (lv_sub hl [0, 1, 2, 3, 4] rfl)
  · have c_27 : ¬ (b_22 = 0) := fun h => c_27 ((neq b_22 0 (by omega) (by omega)).mpr h)
    refine lv_lconst (v := 1) hx hb dX5_nameDay_61 (by decide) ?_
    refine lv_goto (tgt := 66) hx hb dX5_nameDay_62 (by decide) ?_
    exact jn_9 1 _ _ _  hP hD hS (lv_sub hl [0, 1, 2, 3, 4] rfl)
