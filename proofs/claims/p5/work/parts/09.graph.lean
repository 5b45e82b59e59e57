theorem dX1_next_0 : decode cX1_next 0 = .ok (.aload_n 0, 1) := by decide +kernel
theorem dX1_next_1 : decode cX1_next 1 = .ok (.getfield 9, 3) := by decide +kernel
theorem dX1_next_4 : decode cX1_next 4 = .ok (.iload_n 1, 1) := by decide +kernel
theorem dX1_next_5 : decode cX1_next 5 = .ok (.bipush 10, 2) := by decide +kernel
theorem dX1_next_7 : decode cX1_next 7 = .ok (.imul, 1) := by decide +kernel
theorem dX1_next_8 : decode cX1_next 8 = .ok (.iload_n 2, 1) := by decide +kernel
theorem dX1_next_9 : decode cX1_next 9 = .ok (.iadd, 1) := by decide +kernel
theorem dX1_next_10 : decode cX1_next 10 = .ok (.iaload, 1) := by decide +kernel
theorem dX1_next_11 : decode cX1_next 11 = .ok (.aload_n 0, 1) := by decide +kernel
theorem dX1_next_12 : decode cX1_next 12 = .ok (.getfield 15, 3) := by decide +kernel
theorem dX1_next_15 : decode cX1_next 15 = .ok (.iload_n 1, 1) := by decide +kernel
theorem dX1_next_16 : decode cX1_next 16 = .ok (.iaload, 1) := by decide +kernel
theorem dX1_next_17 : decode cX1_next 17 = .ok (.iand, 1) := by decide +kernel
theorem dX1_next_18 : decode cX1_next 18 = .ok (.aload_n 0, 1) := by decide +kernel
theorem dX1_next_19 : decode cX1_next 19 = .ok (.getfield 18, 3) := by decide +kernel
theorem dX1_next_22 : decode cX1_next 22 = .ok (.iload_n 1, 1) := by decide +kernel
theorem dX1_next_23 : decode cX1_next 23 = .ok (.iconst 1, 1) := by decide +kernel
theorem dX1_next_24 : decode cX1_next 24 = .ok (.iadd, 1) := by decide +kernel
theorem dX1_next_25 : decode cX1_next 25 = .ok (.iaload, 1) := by decide +kernel
theorem dX1_next_26 : decode cX1_next 26 = .ok (.iand, 1) := by decide +kernel
theorem dX1_next_27 : decode cX1_next 27 = .ok (.ireturn, 1) := by decide +kernel
theorem w_2_96 : (Cond.fieldLink RX1 9 "SameKeeper$Graph" "leads" "[I") ∈ wsL_law := sk_mem (ck_2 _ (List.mem_of_getElem? (i := 96) rfl)) rfl
theorem w_2_97 : (Cond.fieldLink RX1 15 "SameKeeper$Graph" "allowed" "[I") ∈ wsL_law := sk_mem (ck_2 _ (List.mem_of_getElem? (i := 97) rfl)) rfl
theorem w_2_98 : (Cond.fieldLink RX1 18 "SameKeeper$Graph" "live" "[I") ∈ wsL_law := sk_mem (ck_2 _ (List.mem_of_getElem? (i := 98) rfl)) rfl
theorem w_4_60 : (Cond.code yX1_next cX1_next 3 (some .int)) ∈ wsL_law := sk_mem (ck_4 _ (List.mem_of_getElem? (i := 60) rfl)) rfl
set_option maxHeartbeats 4000000 in
set_option maxRecDepth 100000 in
theorem c_next (l : Launch) (D : va_G) (cI cJ cC cZ cS : ClassId) (q : Nat → Nat) (gd : Nat) (gs : Nat) (e1 : Nat → Int32) (e2 : Nat → Int32) (e3 : Nat → Int32) (d : Nat) (ah : Nat) (hd : d < 9) (hah : ah < 10) : skM l yX1_next cX1_next 3 (some .int) 0 0 0 0 D (skT cI cJ cC cZ cS) [.ref (q 11), .int (nI d), .int (nI ah)] [(q 11, .inr (1, [.ref (q 10), .ref (q 67), .ref (q 68), .ref (q 69), .ref (q 70), .ref (q 71), .ref (q 72), .int (nI gd), .int (nI gs)])), (q 67, .inl (cI, 90, .inl e1)), (q 68, .inl (cI, 9, .inl e2)), (q 69, .inl (cI, 10, .inl e3))] (skI D (skT cI cJ cC cZ cS) (fun (r : Int32) (u : va_W) => u = [(q 11, .inr (1, [.ref (q 10), .ref (q 67), .ref (q 68), .ref (q 69), .ref (q 70), .ref (q 71), .ref (q 72), .int (nI gd), .int (nI gs)])), (q 67, .inl (cI, 90, .inl e1)), (q 68, .inl (cI, 9, .inl e2)), (q 69, .inl (cI, 10, .inl e3))])) := by
  refine skM_of (by decide +kernel) (Nat.le_of_ble_eq_true rfl) ?_
  intro p e s m below meth c A ls E hP hD hl
  obtain ⟨hx, hb, hr, hml, hlocks, hin, hown, hts, hK, hA⟩ := E
  have hown : s.vm.findClass RX1 = some m.cls := hown
  have hS : va_S A s.heap s.heap [] := va_S.rf
  have hl : lv_has ls 3 [(0, .ref (q 11)), (1, .int (nI d)), (2, .int (nI ah))] := hl
  refine lv_aload_n hx hb dX1_next_0 rfl (lv_at hl 0 rfl) ?_
  refine sk_get (v := .ref (q 67)) (C := RX1) (T := TX1) (N := 9) hx hb hts inlX1 hown hK hP 0 rfl rfl 1 (by decide) w_2_96 rfl dX1_next_1 ?_
  refine lv_iload_n hx hb dX1_next_4 rfl (lv_at hl 1 rfl) ?_
  refine lv_bipush (v := 10) hx hb dX1_next_5 (by decide) ?_
  refine lv_imul hx hb dX1_next_7 ?_
  refine sk_top (nI (d * 10)) (nmul d 10) ?_
  refine lv_iload_n hx hb dX1_next_8 rfl (lv_at hl 2 rfl) ?_
  refine lv_iadd hx hb dX1_next_9 ?_
  refine sk_top (nI (d * 10 + ah)) (nI_add (d * 10) ah) ?_
  refine va_iald hx hb hK.1 hP 1 0 rfl rfl (vin (d * 10 + ah) 90 (by omega) (by omega)) dX1_next_10 ?_
  refine lv_topi (fun v_1 ev_1 => ?_)
  refine lv_aload_n hx hb dX1_next_11 rfl (lv_at hl 0 rfl) ?_
  refine sk_get (v := .ref (q 68)) (C := RX1) (T := TX1) (N := 9) hx hb hts inlX1 hown hK hP 0 rfl rfl 2 (by decide) w_2_97 rfl dX1_next_12 ?_
  refine lv_iload_n hx hb dX1_next_15 rfl (lv_at hl 1 rfl) ?_
  refine va_iald hx hb hK.1 hP 2 0 rfl rfl (vin d 9 (by omega) (by omega)) dX1_next_16 ?_
  refine lv_topi (fun v_2 ev_2 => ?_)
  refine lv_iand hx hb dX1_next_17 ?_
  refine lv_topi (fun v_3 ev_3 => ?_)
  refine lv_aload_n hx hb dX1_next_18 rfl (lv_at hl 0 rfl) ?_
  refine sk_get (v := .ref (q 69)) (C := RX1) (T := TX1) (N := 9) hx hb hts inlX1 hown hK hP 0 rfl rfl 3 (by decide) w_2_98 rfl dX1_next_19 ?_
  refine lv_iload_n hx hb dX1_next_22 rfl (lv_at hl 1 rfl) ?_
  refine lv_iconst (v := 1) hx hb dX1_next_23 (by decide) ?_
  refine lv_iadd hx hb dX1_next_24 ?_
  refine sk_top (nI (d + 1)) (nI_add d 1) ?_
  refine va_iald hx hb hK.1 hP 3 0 rfl rfl (vin (d + 1) 10 (by omega) (by omega)) dX1_next_25 ?_
  refine lv_topi (fun v_4 ev_4 => ?_)
  refine lv_iand hx hb dX1_next_26 ?_
  refine lv_topi (fun v_5 ev_5 => ?_)
  exact sk_iret hx hb hr rfl hlocks hK hP hD hS rfl (Nat.le_of_ble_eq_true rfl) (Nat.le_of_ble_eq_true rfl) dX1_next_27
theorem dX1_allowOnly_0 : decode cX1_allowOnly 0 = .ok (.aload_n 0, 1) := by decide +kernel
theorem dX1_allowOnly_1 : decode cX1_allowOnly 1 = .ok (.getfield 15, 3) := by decide +kernel
theorem dX1_allowOnly_4 : decode cX1_allowOnly 4 = .ok (.iload_n 1, 1) := by decide +kernel
theorem dX1_allowOnly_5 : decode cX1_allowOnly 5 = .ok (.dup2, 1) := by decide +kernel
theorem dX1_allowOnly_6 : decode cX1_allowOnly 6 = .ok (.iaload, 1) := by decide +kernel
theorem dX1_allowOnly_7 : decode cX1_allowOnly 7 = .ok (.iload_n 2, 1) := by decide +kernel
theorem dX1_allowOnly_8 : decode cX1_allowOnly 8 = .ok (.iand, 1) := by decide +kernel
theorem dX1_allowOnly_9 : decode cX1_allowOnly 9 = .ok (.iastore, 1) := by decide +kernel
theorem dX1_allowOnly_10 : decode cX1_allowOnly 10 = .ok (.return_, 1) := by decide +kernel
theorem w_4_201 : (Cond.code yX1_allowOnly cX1_allowOnly 3 none) ∈ wsL_law := sk_mem (ck_4 _ (List.mem_of_getElem? (i := 201) rfl)) rfl
set_option maxHeartbeats 4000000 in
set_option maxRecDepth 100000 in
theorem c_allowOnly (l : Launch) (D : va_G) (cI cJ cC cZ cS : ClassId) (q : Nat → Nat) (gd : Nat) (gs : Nat) (e2 : Nat → Int32) (d : Nat) (o : Int32) (hd : d < 9) : skM l yX1_allowOnly cX1_allowOnly 3 none 0 0 0 0 D (skT cI cJ cC cZ cS) [.ref (q 11), .int (nI d), .int o] [(q 11, .inr (1, [.ref (q 10), .ref (q 67), .ref (q 68), .ref (q 69), .ref (q 70), .ref (q 71), .ref (q 72), .int (nI gd), .int (nI gs)])), (q 68, .inl (cI, 9, .inl e2))] (skV D (skT cI cJ cC cZ cS) (fun (u : va_W) => ∃ (g2 : Nat → Int32), u = [(q 11, .inr (1, [.ref (q 10), .ref (q 67), .ref (q 68), .ref (q 69), .ref (q 70), .ref (q 71), .ref (q 72), .int (nI gd), .int (nI gs)])), (q 68, .inl (cI, 9, .inl g2))])) := by
  refine skM_of (by decide +kernel) (Nat.le_of_ble_eq_true rfl) ?_
  intro p e s m below meth c A ls E hP hD hl
  obtain ⟨hx, hb, hr, hml, hlocks, hin, hown, hts, hK, hA⟩ := E
  have hown : s.vm.findClass RX1 = some m.cls := hown
  have hS : va_S A s.heap s.heap [] := va_S.rf
  have hl : lv_has ls 3 [(0, .ref (q 11)), (1, .int (nI d)), (2, .int o)] := hl
  refine lv_aload_n hx hb dX1_allowOnly_0 rfl (lv_at hl 0 rfl) ?_
  refine sk_get (v := .ref (q 68)) (C := RX1) (T := TX1) (N := 9) hx hb hts inlX1 hown hK hP 0 rfl rfl 2 (by decide) w_2_97 rfl dX1_allowOnly_1 ?_
  refine lv_iload_n hx hb dX1_allowOnly_4 rfl (lv_at hl 1 rfl) ?_
  refine lv_dup2_11 hx hb dX1_allowOnly_5 rfl rfl ?_
  refine va_iald hx hb hK.1 hP 1 0 rfl rfl (vin d 9 (by omega) (by omega)) dX1_allowOnly_6 ?_
  refine lv_topi (fun v_1 ev_1 => ?_)
  refine lv_iload_n hx hb dX1_allowOnly_7 rfl (lv_at hl 2 rfl) ?_
  refine lv_iand hx hb dX1_allowOnly_8 ?_
  refine lv_topi (fun v_2 ev_2 => ?_)
  refine sk_iastO (ws' := fun f_3 => [(q 11, .inr (1, [.ref (q 10), .ref (q 67), .ref (q 68), .ref (q 69), .ref (q 70), .ref (q 71), .ref (q 72), .int (nI gd), .int (nI gs)])), (q 68, .inl (cI, 9, .inl f_3))]) hx hb hK hP hD hS 1 0 rfl rfl (vin d 9 (by omega) (by omega)) (fun _ => rfl) dX1_allowOnly_9 (fun f_3 H locs hP hD hS => ?_)
  exact sk_vret hx hb hr hlocks hK hP hD hS (⟨f_3, rfl⟩) (Nat.le_of_ble_eq_true rfl) (Nat.le_of_ble_eq_true rfl) dX1_allowOnly_10
theorem dX1_lay_0 : decode cX1_lay 0 = .ok (.aload_n 0, 1) := by decide +kernel
theorem dX1_lay_1 : decode cX1_lay 1 = .ok (.aload_n 1, 1) := by decide +kernel
theorem dX1_lay_2 : decode cX1_lay 2 = .ok (.getfield 42, 3) := by decide +kernel
theorem dX1_lay_5 : decode cX1_lay 5 = .ok (.putfield 31, 3) := by decide +kernel
theorem dX1_lay_8 : decode cX1_lay 8 = .ok (.aload_n 0, 1) := by decide +kernel
theorem dX1_lay_9 : decode cX1_lay 9 = .ok (.aload_n 1, 1) := by decide +kernel
theorem dX1_lay_10 : decode cX1_lay 10 = .ok (.getfield 45, 3) := by decide +kernel
theorem dX1_lay_13 : decode cX1_lay 13 = .ok (.putfield 35, 3) := by decide +kernel
theorem dX1_lay_16 : decode cX1_lay 16 = .ok (.aload_n 0, 1) := by decide +kernel
theorem dX1_lay_17 : decode cX1_lay 17 = .ok (.getfield 15, 3) := by decide +kernel
theorem dX1_lay_20 : decode cX1_lay 20 = .ok (.sipush 1023, 3) := by decide +kernel
theorem dX1_lay_23 : decode cX1_lay 23 = .ok (.invokestatic 48, 3) := by decide +kernel
theorem dX1_lay_26 : decode cX1_lay 26 = .ok (.iconst 0, 1) := by decide +kernel
theorem dX1_lay_27 : decode cX1_lay 27 = .ok (.istore 4, 2) := by decide +kernel
theorem dX1_lay_29 : decode cX1_lay 29 = .ok (.iload 4, 2) := by decide +kernel
theorem dX1_lay_31 : decode cX1_lay 31 = .ok (.aload_n 0, 1) := by decide +kernel
theorem dX1_lay_32 : decode cX1_lay 32 = .ok (.getfield 31, 3) := by decide +kernel
theorem dX1_lay_35 : decode cX1_lay 35 = .ok (.if_icmp .ge 115, 3) := by decide +kernel
theorem dX1_lay_150 : decode cX1_lay 150 = .ok (.return_, 1) := by decide +kernel
theorem dX1_lay_53 : decode cX1_lay 53 = .ok (.istore 5, 2) := by decide +kernel
theorem dX1_lay_55 : decode cX1_lay 55 = .ok (.iconst 0, 1) := by decide +kernel
theorem dX1_lay_56 : decode cX1_lay 56 = .ok (.istore 6, 2) := by decide +kernel
theorem dX1_lay_58 : decode cX1_lay 58 = .ok (.iload 6, 2) := by decide +kernel
theorem dX1_lay_60 : decode cX1_lay 60 = .ok (.bipush 10, 2) := by decide +kernel
theorem dX1_lay_62 : decode cX1_lay 62 = .ok (.if_icmp .ge 82, 3) := by decide +kernel
theorem dX1_lay_144 : decode cX1_lay 144 = .ok (.iinc 4 1, 3) := by decide +kernel
theorem dX1_lay_147 : decode cX1_lay 147 = .ok (.goto (-118), 3) := by decide +kernel
theorem dX1_lay_65 : decode cX1_lay 65 = .ok (.iload 4, 2) := by decide +kernel
theorem dX1_lay_67 : decode cX1_lay 67 = .ok (.bipush 10, 2) := by decide +kernel
theorem dX1_lay_69 : decode cX1_lay 69 = .ok (.imul, 1) := by decide +kernel
theorem dX1_lay_70 : decode cX1_lay 70 = .ok (.iload 6, 2) := by decide +kernel
theorem dX1_lay_72 : decode cX1_lay 72 = .ok (.iadd, 1) := by decide +kernel
theorem dX1_lay_73 : decode cX1_lay 73 = .ok (.istore 7, 2) := by decide +kernel
theorem dX1_lay_75 : decode cX1_lay 75 = .ok (.iload 5, 2) := by decide +kernel
theorem dX1_lay_77 : decode cX1_lay 77 = .ok (.ifCond .eq 25, 3) := by decide +kernel
theorem dX1_lay_102 : decode cX1_lay 102 = .ok (.aload_n 0, 1) := by decide +kernel
theorem dX1_lay_103 : decode cX1_lay 103 = .ok (.getfield 9, 3) := by decide +kernel
theorem dX1_lay_106 : decode cX1_lay 106 = .ok (.iload 7, 2) := by decide +kernel
theorem dX1_lay_108 : decode cX1_lay 108 = .ok (.iload_n 3, 1) := by decide +kernel
theorem dX1_lay_109 : decode cX1_lay 109 = .ok (.ifCond .ne 16, 3) := by decide +kernel
theorem dX1_lay_125 : decode cX1_lay 125 = .ok (.aload_n 0, 1) := by decide +kernel
theorem dX1_lay_126 : decode cX1_lay 126 = .ok (.getfield 38, 3) := by decide +kernel
theorem dX1_lay_129 : decode cX1_lay 129 = .ok (.iload 4, 2) := by decide +kernel
theorem dX1_lay_131 : decode cX1_lay 131 = .ok (.iload 6, 2) := by decide +kernel
theorem dX1_lay_133 : decode cX1_lay 133 = .ok (.iload_n 3, 1) := by decide +kernel
theorem dX1_lay_134 : decode cX1_lay 134 = .ok (.invokevirtual 62, 3) := by decide +kernel
theorem dX1_lay_137 : decode cX1_lay 137 = .ok (.iastore, 1) := by decide +kernel
theorem dX1_lay_138 : decode cX1_lay 138 = .ok (.iinc 6 1, 3) := by decide +kernel
theorem dX1_lay_141 : decode cX1_lay 141 = .ok (.goto (-83), 3) := by decide +kernel
theorem dX1_lay_112 : decode cX1_lay 112 = .ok (.aload_n 0, 1) := by decide +kernel
theorem dX1_lay_113 : decode cX1_lay 113 = .ok (.getfield 38, 3) := by decide +kernel
theorem dX1_lay_116 : decode cX1_lay 116 = .ok (.getfield 59, 3) := by decide +kernel
theorem dX1_lay_119 : decode cX1_lay 119 = .ok (.iload 7, 2) := by decide +kernel
theorem dX1_lay_121 : decode cX1_lay 121 = .ok (.iaload, 1) := by decide +kernel
theorem dX1_lay_122 : decode cX1_lay 122 = .ok (.goto 15, 3) := by decide +kernel
theorem dX1_lay_80 : decode cX1_lay 80 = .ok (.aload_n 0, 1) := by decide +kernel
theorem dX1_lay_81 : decode cX1_lay 81 = .ok (.getfield 9, 3) := by decide +kernel
theorem dX1_lay_84 : decode cX1_lay 84 = .ok (.iload 7, 2) := by decide +kernel
theorem dX1_lay_86 : decode cX1_lay 86 = .ok (.iconst 1, 1) := by decide +kernel
theorem dX1_lay_87 : decode cX1_lay 87 = .ok (.aload_n 0, 1) := by decide +kernel
theorem dX1_lay_88 : decode cX1_lay 88 = .ok (.getfield 38, 3) := by decide +kernel
theorem dX1_lay_91 : decode cX1_lay 91 = .ok (.getfield 54, 3) := by decide +kernel
theorem dX1_lay_94 : decode cX1_lay 94 = .ok (.iload 7, 2) := by decide +kernel
theorem dX1_lay_96 : decode cX1_lay 96 = .ok (.iaload, 1) := by decide +kernel
theorem dX1_lay_97 : decode cX1_lay 97 = .ok (.ishl, 1) := by decide +kernel
theorem dX1_lay_98 : decode cX1_lay 98 = .ok (.iastore, 1) := by decide +kernel
theorem dX1_lay_99 : decode cX1_lay 99 = .ok (.goto 39, 3) := by decide +kernel
theorem dX1_lay_38 : decode cX1_lay 38 = .ok (.iload_n 2, 1) := by decide +kernel
theorem dX1_lay_39 : decode cX1_lay 39 = .ok (.iload 4, 2) := by decide +kernel
theorem dX1_lay_41 : decode cX1_lay 41 = .ok (.ishr, 1) := by decide +kernel
theorem dX1_lay_42 : decode cX1_lay 42 = .ok (.iconst 1, 1) := by decide +kernel
theorem dX1_lay_43 : decode cX1_lay 43 = .ok (.iand, 1) := by decide +kernel
theorem dX1_lay_44 : decode cX1_lay 44 = .ok (.iconst 1, 1) := by decide +kernel
theorem dX1_lay_45 : decode cX1_lay 45 = .ok (.if_icmp .ne 7, 3) := by decide +kernel
theorem dX1_lay_52 : decode cX1_lay 52 = .ok (.iconst 0, 1) := by decide +kernel
theorem dX1_lay_48 : decode cX1_lay 48 = .ok (.iconst 1, 1) := by decide +kernel
theorem dX1_lay_49 : decode cX1_lay 49 = .ok (.goto 4, 3) := by decide +kernel
theorem w_1_239 : (Cond.fieldLink RX1 42 "SameKeeper$State" "days" "I") ∈ wsL_law := sk_mem (ck_1 _ (List.mem_of_getElem? (i := 239) rfl)) rfl
theorem w_2_102 : (Cond.fieldLink RX1 31 "SameKeeper$Graph" "days" "I") ∈ wsL_law := sk_mem (ck_2 _ (List.mem_of_getElem? (i := 102) rfl)) rfl
theorem w_2_9 : (Cond.fieldLink RX1 45 "SameKeeper$State" "mood" "I") ∈ wsL_law := sk_mem (ck_2 _ (List.mem_of_getElem? (i := 9) rfl)) rfl
theorem w_2_103 : (Cond.fieldLink RX1 35 "SameKeeper$Graph" "start" "I") ∈ wsL_law := sk_mem (ck_2 _ (List.mem_of_getElem? (i := 103) rfl)) rfl
theorem w_4_51 : (Cond.methodLink RX1 48 yJ7_fill_53178) ∈ wsL_law := sk_mem (ck_4 _ (List.mem_of_getElem? (i := 51) rfl)) rfl
theorem w_2_95 : (Cond.fieldLink RX1 38 "SameKeeper$Graph" "table" "LSameKeeper$Table;") ∈ wsL_law := sk_mem (ck_2 _ (List.mem_of_getElem? (i := 95) rfl)) rfl
theorem w_4_52 : (Cond.methodLink RX1 62 yX9_moodsBehind) ∈ wsL_law := sk_mem (ck_4 _ (List.mem_of_getElem? (i := 52) rfl)) rfl
theorem w_2_71 : (Cond.fieldLink RX1 59 "SameKeeper$Table" "open" "[I") ∈ wsL_law := sk_mem (ck_2 _ (List.mem_of_getElem? (i := 71) rfl)) rfl
theorem w_2_68 : (Cond.fieldLink RX1 54 "SameKeeper$Table" "alone" "[I") ∈ wsL_law := sk_mem (ck_2 _ (List.mem_of_getElem? (i := 68) rfl)) rfl
theorem w_4_50 : (Cond.code yX1_lay cX1_lay 8 none) ∈ wsL_law := sk_mem (ck_4 _ (List.mem_of_getElem? (i := 50) rfl)) rfl
set_option maxHeartbeats 4000000 in
set_option maxRecDepth 100000 in
theorem c_lay (l : Launch) (D : va_G) (cI cJ cC cZ cS : ClassId) (q : Nat → Nat) (gd : Nat) (gs : Nat) (e1 : Nat → Int32) (e2 : Nat → Int32) (sa : Nat → Nat) (ft : Nat → Int32) (fa : Nat → Int32) (fo : Nat → Int32) (o0 : Nat) (o1 : Nat) (o2 : Nat) (dy : Nat) (mo : Nat) (wk : Int32) (mu : Int32) (ke : Int32) (fb : Nat → Int32) (fw : Nat → Int32) (li : Nat) (o : Int32) (hsa : ∀ j, sa j ≤ 9) (hdy : dy ≤ 9) (hmo : mo ≤ 9) (hli : li < 10) : skM l yX1_lay cX1_lay 8 none 1 26 0 0 D (skT cI cJ cC cZ cS) [.ref (q 11), .ref o0, .int o, .int (nI li)] [(q 11, .inr (1, [.ref (q 10), .ref (q 67), .ref (q 68), .ref (q 69), .ref (q 70), .ref (q 71), .ref (q 72), .int (nI gd), .int (nI gs)])), (q 67, .inl (cI, 90, .inl e1)), (q 68, .inl (cI, 9, .inl e2)), (q 10, .inr (9, [.ref (q 61), .ref (q 62), .ref (q 63), .ref (q 64), .ref (q 65), .ref (q 66)])), (q 61, .inl (cI, 90, .inl (fun j => nI (sa j)))), (q 62, .inl (cI, 900, .inl ft)), (q 63, .inl (cI, 90, .inl fa)), (q 64, .inl (cI, 90, .inl fo)), (o0, .inr (7, [.ref o1, .ref o2, .int (nI dy), .int wk, .int (nI mo), .int mu, .int ke]))] (skV D (skT cI cJ cC cZ cS) (fun (u : va_W) => ∃ (g1 : Nat → Int32), ∃ (g2 : Nat → Int32), u = [(q 11, .inr (1, [.ref (q 10), .ref (q 67), .ref (q 68), .ref (q 69), .ref (q 70), .ref (q 71), .ref (q 72), .int (nI dy), .int (nI mo)])), (q 67, .inl (cI, 90, .inl g1)), (q 68, .inl (cI, 9, .inl g2)), (q 10, .inr (9, [.ref (q 61), .ref (q 62), .ref (q 63), .ref (q 64), .ref (q 65), .ref (q 66)])), (q 61, .inl (cI, 90, .inl (fun j => nI (sa j)))), (q 62, .inl (cI, 900, .inl ft)), (q 63, .inl (cI, 90, .inl fa)), (q 64, .inl (cI, 90, .inl fo)), (o0, .inr (7, [.ref o1, .ref o2, .int (nI dy), .int wk, .int (nI mo), .int mu, .int ke]))])) := by
  refine skM_of (by decide +kernel) (Nat.le_of_ble_eq_true rfl) ?_
  intro p e s m below meth c A ls E hP hD hl
  obtain ⟨hx, hb, hr, hml, hlocks, hin, hown, hts, hK, hA⟩ := E
  have hown : s.vm.findClass RX1 = some m.cls := hown
  have hS : va_S A s.heap s.heap [] := va_S.rf
  have hl : lv_has ls 8 [(0, .ref (q 11)), (1, .ref o0), (2, .int o), (3, .int (nI li))] := hl
  refine lv_aload_n hx hb dX1_lay_0 rfl (lv_at hl 0 rfl) ?_
  refine lv_aload_n hx hb dX1_lay_1 rfl (lv_at hl 1 rfl) ?_
  refine sk_get (v := .int (nI dy)) (C := RX7) (T := TX7) (N := 7) hx hb hts inlX7 hown hK hP 8 rfl rfl 2 (by decide) w_1_239 rfl dX1_lay_2 ?_
  refine sk_put (ws' := [(q 11, .inr (1, [.ref (q 10), .ref (q 67), .ref (q 68), .ref (q 69), .ref (q 70), .ref (q 71), .ref (q 72), .int (nI dy), .int (nI gs)])), (q 67, .inl (cI, 90, .inl e1)), (q 68, .inl (cI, 9, .inl e2)), (q 10, .inr (9, [.ref (q 61), .ref (q 62), .ref (q 63), .ref (q 64), .ref (q 65), .ref (q 66)])), (q 61, .inl (cI, 90, .inl (fun j => nI (sa j)))), (q 62, .inl (cI, 900, .inl ft)), (q 63, .inl (cI, 90, .inl fa)), (q 64, .inl (cI, 90, .inl fo)), (o0, .inr (7, [.ref o1, .ref o2, .int (nI dy), .int wk, .int (nI mo), .int mu, .int ke]))]) (C := RX1) (T := TX1) (N := 9) (v := .int (nI dy)) hx hb hts inlX1 tyX1 tyX1_ok nmX1 hown hK hP hD hS 0 rfl rfl 7 (by decide) w_2_102 rfl rfl rfl (Nat.le_of_ble_eq_true rfl) rfl dX1_lay_5 (fun H locs hP hD hS => ?_)
  refine lv_aload_n hx hb dX1_lay_8 rfl (lv_at hl 0 rfl) ?_
  refine lv_aload_n hx hb dX1_lay_9 rfl (lv_at hl 1 rfl) ?_
  refine sk_get (v := .int (nI mo)) (C := RX7) (T := TX7) (N := 7) hx hb hts inlX7 hown hK hP 8 rfl rfl 4 (by decide) w_2_9 rfl dX1_lay_10 ?_
  refine sk_put (ws' := [(q 11, .inr (1, [.ref (q 10), .ref (q 67), .ref (q 68), .ref (q 69), .ref (q 70), .ref (q 71), .ref (q 72), .int (nI dy), .int (nI mo)])), (q 67, .inl (cI, 90, .inl e1)), (q 68, .inl (cI, 9, .inl e2)), (q 10, .inr (9, [.ref (q 61), .ref (q 62), .ref (q 63), .ref (q 64), .ref (q 65), .ref (q 66)])), (q 61, .inl (cI, 90, .inl (fun j => nI (sa j)))), (q 62, .inl (cI, 900, .inl ft)), (q 63, .inl (cI, 90, .inl fa)), (q 64, .inl (cI, 90, .inl fo)), (o0, .inr (7, [.ref o1, .ref o2, .int (nI dy), .int wk, .int (nI mo), .int mu, .int ke]))]) (C := RX1) (T := TX1) (N := 9) (v := .int (nI mo)) hx hb hts inlX1 tyX1 tyX1_ok nmX1 hown hK hP hD hS 0 rfl rfl 8 (by decide) w_2_103 rfl rfl rfl (Nat.le_of_ble_eq_true rfl) rfl dX1_lay_13 (fun H locs hP hD hS => ?_)
  refine lv_aload_n hx hb dX1_lay_16 rfl (lv_at hl 0 rfl) ?_
  refine sk_get (v := .ref (q 68)) (C := RX1) (T := TX1) (N := 9) hx hb hts inlX1 hown hK hP 0 rfl rfl 2 (by decide) w_2_97 rfl dX1_lay_17 ?_
  refine lv_sipush (v := 1023) hx hb dX1_lay_20 (by decide) ?_
  refine sk_Sv (n := 2) (rest := []) (wr := [(q 11, .inr (1, [.ref (q 10), .ref (q 67), .ref (q 68), .ref (q 69), .ref (q 70), .ref (q 71), .ref (q 72), .int (nI dy), .int (nI mo)])), (q 67, .inl (cI, 90, .inl e1)), (q 10, .inr (9, [.ref (q 61), .ref (q 62), .ref (q 63), .ref (q 64), .ref (q 65), .ref (q 66)])), (q 61, .inl (cI, 90, .inl (fun j => nI (sa j)))), (q 62, .inl (cI, 900, .inl ft)), (q 63, .inl (cI, 90, .inl fa)), (q 64, .inl (cI, 90, .inl fo)), (o0, .inr (7, [.ref o1, .ref o2, .int (nI dy), .int wk, .int (nI mo), .int mu, .int ke]))]) ⟨hx, hb, hml, hown, hts⟩ hl.1 (c_fill l D cI cJ cC cZ cS (q 68) 9 e2 1023 (by omega)) w_4_51 w_2_219 w_1_15 w_2_220 (by decide +kernel) ⟨⟨(Nat.le_of_ble_eq_true rfl), (Nat.le_of_ble_eq_true rfl)⟩, (Nat.le_of_ble_eq_true rfl), (Nat.le_of_ble_eq_true rfl)⟩ hK hP hD hS hA [2] [0, 1, 3, 4, 5, 6, 7, 8] rfl rfl (by decide +kernel) (by decide +kernel) (by decide +kernel) rfl rfl (Nat.le_of_ble_eq_true rfl) dX1_lay_23 (fun u H locs hw hP hD hS => ?_)
  obtain ⟨g_1, rfl⟩ := hw
  have hP : va_P D vwCl [(q 11, .inr (1, [.ref (q 10), .ref (q 67), .ref (q 68), .ref (q 69), .ref (q 70), .ref (q 71), .ref (q 72), .int (nI dy), .int (nI mo)])), (q 67, .inl (cI, 90, .inl e1)), (q 10, .inr (9, [.ref (q 61), .ref (q 62), .ref (q 63), .ref (q 64), .ref (q 65), .ref (q 66)])), (q 61, .inl (cI, 90, .inl (fun j => nI (sa j)))), (q 62, .inl (cI, 900, .inl ft)), (q 63, .inl (cI, 90, .inl fa)), (q 64, .inl (cI, 90, .inl fo)), (o0, .inr (7, [.ref o1, .ref o2, .int (nI dy), .int wk, .int (nI mo), .int mu, .int ke])), (q 68, .inl (cI, 9, .inl g_1))] H := hP
  have hD : va_D A [(q 11, .inr (1, [.ref (q 10), .ref (q 67), .ref (q 68), .ref (q 69), .ref (q 70), .ref (q 71), .ref (q 72), .int (nI dy), .int (nI mo)])), (q 67, .inl (cI, 90, .inl e1)), (q 10, .inr (9, [.ref (q 61), .ref (q 62), .ref (q 63), .ref (q 64), .ref (q 65), .ref (q 66)])), (q 61, .inl (cI, 90, .inl (fun j => nI (sa j)))), (q 62, .inl (cI, 900, .inl ft)), (q 63, .inl (cI, 90, .inl fa)), (q 64, .inl (cI, 90, .inl fo)), (o0, .inr (7, [.ref o1, .ref o2, .int (nI dy), .int wk, .int (nI mo), .int mu, .int ke])), (q 68, .inl (cI, 9, .inl g_1))] := hD
  refine lv_iconst (v := 0) hx hb dX1_lay_26 (by decide) ?_
  refine lv_istore (lv' := [(4, .int 0), (0, .ref (q 11)), (1, .ref o0), (2, .int o), (3, .int (nI li))]) hx hb dX1_lay_27 hl (by decide) rfl (fun ls hl => ?_)
  have lp_2 : ∀ (n_3 : Nat) (i : Nat) (a1 : Nat → Int32) (H : Heap) (locs : List Loc) (ls : Array Slot), dy - i < n_3 → (i ≤ dy) → va_P D vwCl [(q 11, .inr (1, [.ref (q 10), .ref (q 67), .ref (q 68), .ref (q 69), .ref (q 70), .ref (q 71), .ref (q 72), .int (nI dy), .int (nI mo)])), (q 67, .inl (cI, 90, .inl a1)), (q 10, .inr (9, [.ref (q 61), .ref (q 62), .ref (q 63), .ref (q 64), .ref (q 65), .ref (q 66)])), (q 61, .inl (cI, 90, .inl (fun j => nI (sa j)))), (q 62, .inl (cI, 900, .inl ft)), (q 63, .inl (cI, 90, .inl fa)), (q 64, .inl (cI, 90, .inl fo)), (o0, .inr (7, [.ref o1, .ref o2, .int (nI dy), .int wk, .int (nI mo), .int mu, .int ke])), (q 68, .inl (cI, 9, .inl g_1))] H → va_D A [(q 11, .inr (1, [.ref (q 10), .ref (q 67), .ref (q 68), .ref (q 69), .ref (q 70), .ref (q 71), .ref (q 72), .int (nI dy), .int (nI mo)])), (q 67, .inl (cI, 90, .inl a1)), (q 10, .inr (9, [.ref (q 61), .ref (q 62), .ref (q 63), .ref (q 64), .ref (q 65), .ref (q 66)])), (q 61, .inl (cI, 90, .inl (fun j => nI (sa j)))), (q 62, .inl (cI, 900, .inl ft)), (q 63, .inl (cI, 90, .inl fa)), (q 64, .inl (cI, 90, .inl fo)), (o0, .inr (7, [.ref o1, .ref o2, .int (nI dy), .int wk, .int (nI mo), .int mu, .int ke])), (q 68, .inl (cI, 9, .inl g_1))] → va_S A s.heap H locs → lv_has ls 8 [(4, .int (nI i)), (0, .ref (q 11)), (1, .ref o0), (2, .int o), (3, .int (nI li))] → W p l e { frames := 1, cells := 0, slots := 0, locals := 26 } s m ([.ref (q 11), .ref o0, .int o, .int (nI li)] : List Value).toArray below meth c H locs 0 0 (MQ below (skV D (skT cI cJ cC cZ cS) (fun (u : va_W) => ∃ (g1 : Nat → Int32), ∃ (g2 : Nat → Int32), u = [(q 11, .inr (1, [.ref (q 10), .ref (q 67), .ref (q 68), .ref (q 69), .ref (q 70), .ref (q 71), .ref (q 72), .int (nI dy), .int (nI mo)])), (q 67, .inl (cI, 90, .inl g1)), (q 68, .inl (cI, 9, .inl g2)), (q 10, .inr (9, [.ref (q 61), .ref (q 62), .ref (q 63), .ref (q 64), .ref (q 65), .ref (q 66)])), (q 61, .inl (cI, 90, .inl (fun j => nI (sa j)))), (q 62, .inl (cI, 900, .inl ft)), (q 63, .inl (cI, 90, .inl fa)), (q 64, .inl (cI, 90, .inl fo)), (o0, .inr (7, [.ref o1, .ref o2, .int (nI dy), .int wk, .int (nI mo), .int mu, .int ke]))]) A) ([.ref (q 11), .ref o0, .int o, .int (nI li)] : List Value).toArray s 0 0 A) (F0 m 29 ls []) := by
    intro n_3
    induction n_3 with
    | zero => intro i a1 H locs ls hm; exact absurd hm (Nat.not_lt_zero _)
    | succ n_3 ih_lp_2 =>
      intro i a1 H locs ls hm hi hP hD hS hl
      refine lv_iload hx hb dX1_lay_29 (lv_at hl 0 rfl) ?_
      refine lv_aload_n hx hb dX1_lay_31 rfl (lv_at hl 1 rfl) ?_
      refine sk_get (v := .int (nI dy)) (C := RX1) (T := TX1) (N := 9) hx hb hts inlX1 hown hK hP 0 rfl rfl 7 (by decide) w_2_102 rfl dX1_lay_32 ?_
      refine lv_icmp_ge (tgt := 150) hx hb dX1_lay_35 (by decide) (fun c_4 => ?_) (fun c_4 => ?_)
      · have c_4 : dy ≤ i := (nle dy i (by omega) (by omega)).mp c_4
        have hP := hP.sub (ws' := [(q 11, .inr (1, [.ref (q 10), .ref (q 67), .ref (q 68), .ref (q 69), .ref (q 70), .ref (q 71), .ref (q 72), .int (nI dy), .int (nI mo)])), (q 67, .inl (cI, 90, .inl a1)), (q 68, .inl (cI, 9, .inl g_1)), (q 10, .inr (9, [.ref (q 61), .ref (q 62), .ref (q 63), .ref (q 64), .ref (q 65), .ref (q 66)])), (q 61, .inl (cI, 90, .inl (fun j => nI (sa j)))), (q 62, .inl (cI, 900, .inl ft)), (q 63, .inl (cI, 90, .inl fa)), (q 64, .inl (cI, 90, .inl fo)), (o0, .inr (7, [.ref o1, .ref o2, .int (nI dy), .int wk, .int (nI mo), .int mu, .int ke]))]) [0, 1, 8, 2, 3, 4, 5, 6, 7] rfl
        have hD := hD.sub (ws' := [(q 11, .inr (1, [.ref (q 10), .ref (q 67), .ref (q 68), .ref (q 69), .ref (q 70), .ref (q 71), .ref (q 72), .int (nI dy), .int (nI mo)])), (q 67, .inl (cI, 90, .inl a1)), (q 68, .inl (cI, 9, .inl g_1)), (q 10, .inr (9, [.ref (q 61), .ref (q 62), .ref (q 63), .ref (q 64), .ref (q 65), .ref (q 66)])), (q 61, .inl (cI, 90, .inl (fun j => nI (sa j)))), (q 62, .inl (cI, 900, .inl ft)), (q 63, .inl (cI, 90, .inl fa)), (q 64, .inl (cI, 90, .inl fo)), (o0, .inr (7, [.ref o1, .ref o2, .int (nI dy), .int wk, .int (nI mo), .int mu, .int ke]))]) [0, 1, 8, 2, 3, 4, 5, 6, 7] (by decide +kernel) rfl
        exact sk_vret hx hb hr hlocks hK hP hD hS (⟨a1, g_1, rfl⟩) (Nat.le_of_ble_eq_true rfl) (Nat.le_of_ble_eq_true rfl) dX1_lay_150
      · have c_4 : ¬ (dy ≤ i) := fun h => c_4 ((nle dy i (by omega) (by omega)).mpr h)
        have jn_5 : ∀ (bq : Int32) (H : Heap) (locs : List Loc) (ls : Array Slot), va_P D vwCl [(q 11, .inr (1, [.ref (q 10), .ref (q 67), .ref (q 68), .ref (q 69), .ref (q 70), .ref (q 71), .ref (q 72), .int (nI dy), .int (nI mo)])), (q 67, .inl (cI, 90, .inl a1)), (q 10, .inr (9, [.ref (q 61), .ref (q 62), .ref (q 63), .ref (q 64), .ref (q 65), .ref (q 66)])), (q 61, .inl (cI, 90, .inl (fun j => nI (sa j)))), (q 62, .inl (cI, 900, .inl ft)), (q 63, .inl (cI, 90, .inl fa)), (q 64, .inl (cI, 90, .inl fo)), (o0, .inr (7, [.ref o1, .ref o2, .int (nI dy), .int wk, .int (nI mo), .int mu, .int ke])), (q 68, .inl (cI, 9, .inl g_1))] H → va_D A [(q 11, .inr (1, [.ref (q 10), .ref (q 67), .ref (q 68), .ref (q 69), .ref (q 70), .ref (q 71), .ref (q 72), .int (nI dy), .int (nI mo)])), (q 67, .inl (cI, 90, .inl a1)), (q 10, .inr (9, [.ref (q 61), .ref (q 62), .ref (q 63), .ref (q 64), .ref (q 65), .ref (q 66)])), (q 61, .inl (cI, 90, .inl (fun j => nI (sa j)))), (q 62, .inl (cI, 900, .inl ft)), (q 63, .inl (cI, 90, .inl fa)), (q 64, .inl (cI, 90, .inl fo)), (o0, .inr (7, [.ref o1, .ref o2, .int (nI dy), .int wk, .int (nI mo), .int mu, .int ke])), (q 68, .inl (cI, 9, .inl g_1))] → va_S A s.heap H locs → lv_has ls 8 [(4, .int (nI i)), (0, .ref (q 11)), (1, .ref o0), (2, .int o), (3, .int (nI li))] → W p l e { frames := 1, cells := 0, slots := 0, locals := 26 } s m ([.ref (q 11), .ref o0, .int o, .int (nI li)] : List Value).toArray below meth c H locs 0 0 (MQ below (skV D (skT cI cJ cC cZ cS) (fun (u : va_W) => ∃ (g1 : Nat → Int32), ∃ (g2 : Nat → Int32), u = [(q 11, .inr (1, [.ref (q 10), .ref (q 67), .ref (q 68), .ref (q 69), .ref (q 70), .ref (q 71), .ref (q 72), .int (nI dy), .int (nI mo)])), (q 67, .inl (cI, 90, .inl g1)), (q 68, .inl (cI, 9, .inl g2)), (q 10, .inr (9, [.ref (q 61), .ref (q 62), .ref (q 63), .ref (q 64), .ref (q 65), .ref (q 66)])), (q 61, .inl (cI, 90, .inl (fun j => nI (sa j)))), (q 62, .inl (cI, 900, .inl ft)), (q 63, .inl (cI, 90, .inl fa)), (q 64, .inl (cI, 90, .inl fo)), (o0, .inr (7, [.ref o1, .ref o2, .int (nI dy), .int wk, .int (nI mo), .int mu, .int ke]))]) A) ([.ref (q 11), .ref o0, .int o, .int (nI li)] : List Value).toArray s 0 0 A) (F0 m 53 ls [.int bq]) := by
          intro bq H locs ls  hP hD hS hl
          refine lv_istore (lv' := [(5, .int bq), (4, .int (nI i)), (0, .ref (q 11)), (1, .ref o0), (2, .int o), (3, .int (nI li))]) hx hb dX1_lay_53 hl (by decide) rfl (fun ls hl => ?_)
          refine lv_iconst (v := 0) hx hb dX1_lay_55 (by decide) ?_
          refine lv_istore (lv' := [(6, .int 0), (5, .int bq), (4, .int (nI i)), (0, .ref (q 11)), (1, .ref o0), (2, .int o), (3, .int (nI li))]) hx hb dX1_lay_56 hl (by decide) rfl (fun ls hl => ?_)
          have lp_6 : ∀ (n_7 : Nat) (jj : Nat) (a2 : Nat → Int32) (H : Heap) (locs : List Loc) (ls : Array Slot), 10 - jj < n_7 → (jj ≤ 10) → va_P D vwCl [(q 11, .inr (1, [.ref (q 10), .ref (q 67), .ref (q 68), .ref (q 69), .ref (q 70), .ref (q 71), .ref (q 72), .int (nI dy), .int (nI mo)])), (q 67, .inl (cI, 90, .inl a2)), (q 10, .inr (9, [.ref (q 61), .ref (q 62), .ref (q 63), .ref (q 64), .ref (q 65), .ref (q 66)])), (q 61, .inl (cI, 90, .inl (fun j => nI (sa j)))), (q 62, .inl (cI, 900, .inl ft)), (q 63, .inl (cI, 90, .inl fa)), (q 64, .inl (cI, 90, .inl fo)), (o0, .inr (7, [.ref o1, .ref o2, .int (nI dy), .int wk, .int (nI mo), .int mu, .int ke])), (q 68, .inl (cI, 9, .inl g_1))] H → va_D A [(q 11, .inr (1, [.ref (q 10), .ref (q 67), .ref (q 68), .ref (q 69), .ref (q 70), .ref (q 71), .ref (q 72), .int (nI dy), .int (nI mo)])), (q 67, .inl (cI, 90, .inl a2)), (q 10, .inr (9, [.ref (q 61), .ref (q 62), .ref (q 63), .ref (q 64), .ref (q 65), .ref (q 66)])), (q 61, .inl (cI, 90, .inl (fun j => nI (sa j)))), (q 62, .inl (cI, 900, .inl ft)), (q 63, .inl (cI, 90, .inl fa)), (q 64, .inl (cI, 90, .inl fo)), (o0, .inr (7, [.ref o1, .ref o2, .int (nI dy), .int wk, .int (nI mo), .int mu, .int ke])), (q 68, .inl (cI, 9, .inl g_1))] → va_S A s.heap H locs → lv_has ls 8 [(6, .int (nI jj)), (5, .int bq), (4, .int (nI i)), (0, .ref (q 11)), (1, .ref o0), (2, .int o), (3, .int (nI li))] → W p l e { frames := 1, cells := 0, slots := 0, locals := 26 } s m ([.ref (q 11), .ref o0, .int o, .int (nI li)] : List Value).toArray below meth c H locs 0 0 (MQ below (skV D (skT cI cJ cC cZ cS) (fun (u : va_W) => ∃ (g1 : Nat → Int32), ∃ (g2 : Nat → Int32), u = [(q 11, .inr (1, [.ref (q 10), .ref (q 67), .ref (q 68), .ref (q 69), .ref (q 70), .ref (q 71), .ref (q 72), .int (nI dy), .int (nI mo)])), (q 67, .inl (cI, 90, .inl g1)), (q 68, .inl (cI, 9, .inl g2)), (q 10, .inr (9, [.ref (q 61), .ref (q 62), .ref (q 63), .ref (q 64), .ref (q 65), .ref (q 66)])), (q 61, .inl (cI, 90, .inl (fun j => nI (sa j)))), (q 62, .inl (cI, 900, .inl ft)), (q 63, .inl (cI, 90, .inl fa)), (q 64, .inl (cI, 90, .inl fo)), (o0, .inr (7, [.ref o1, .ref o2, .int (nI dy), .int wk, .int (nI mo), .int mu, .int ke]))]) A) ([.ref (q 11), .ref o0, .int o, .int (nI li)] : List Value).toArray s 0 0 A) (F0 m 58 ls []) := by
            intro n_7
            induction n_7 with
            | zero => intro jj a2 H locs ls hm; exact absurd hm (Nat.not_lt_zero _)
            | succ n_7 ih_lp_6 =>
              intro jj a2 H locs ls hm hjj hP hD hS hl
              refine lv_iload hx hb dX1_lay_58 (lv_at hl 0 rfl) ?_
              refine lv_bipush (v := 10) hx hb dX1_lay_60 (by decide) ?_
              refine lv_icmp_ge (tgt := 144) hx hb dX1_lay_62 (by decide) (fun c_8 => ?_) (fun c_8 => ?_)
              · have c_8 : 10 ≤ jj := (nle 10 jj (by omega) (by omega)).mp c_8
                refine lv_iinc (v := nI (i + 1)) (lv' := [(4, .int (nI (i + 1))), (6, .int (nI jj)), (5, .int bq), (0, .ref (q 11)), (1, .ref o0), (2, .int o), (3, .int (nI li))]) hx hb dX1_lay_144 hl (k := 2) rfl (ninc i 1 (by decide)) (by decide) rfl (fun ls hl => ?_)
                refine lv_goto (tgt := 29) hx hb dX1_lay_147 (by decide) ?_
                exact ih_lp_2 (i + 1) a2 _ _ _ (by omega) (by omega) hP hD hS (lv_sub hl [0, 3, 4, 5, 6] rfl)
              · have c_8 : ¬ (10 ≤ jj) := fun h => c_8 ((nle 10 jj (by omega) (by omega)).mpr h)
                refine lv_iload hx hb dX1_lay_65 (lv_at hl 2 rfl) ?_
                refine lv_bipush (v := 10) hx hb dX1_lay_67 (by decide) ?_
                refine lv_imul hx hb dX1_lay_69 ?_
                refine sk_top (nI (i * 10)) (nmul i 10) ?_
                refine lv_iload hx hb dX1_lay_70 (lv_at hl 0 rfl) ?_
                refine lv_iadd hx hb dX1_lay_72 ?_
                refine sk_top (nI (i * 10 + jj)) (nI_add (i * 10) jj) ?_
                refine lv_istore (lv' := [(7, .int (nI (i * 10 + jj))), (6, .int (nI jj)), (5, .int bq), (4, .int (nI i)), (0, .ref (q 11)), (1, .ref o0), (2, .int o), (3, .int (nI li))]) hx hb dX1_lay_73 hl (by decide) rfl (fun ls hl => ?_)
                refine lv_iload hx hb dX1_lay_75 (lv_at hl 2 rfl) ?_
                refine lv_if_eq (tgt := 102) hx hb dX1_lay_77 (by decide) (fun c_9 => ?_) (fun c_9 => ?_)
                · skip
                  refine lv_aload_n hx hb dX1_lay_102 rfl (lv_at hl 4 rfl) ?_
                  refine sk_get (v := .ref (q 67)) (C := RX1) (T := TX1) (N := 9) hx hb hts inlX1 hown hK hP 0 rfl rfl 1 (by decide) w_2_96 rfl dX1_lay_103 ?_
                  refine lv_iload hx hb dX1_lay_106 (lv_at hl 0 rfl) ?_
                  refine lv_iload_n hx hb dX1_lay_108 rfl (lv_at hl 7 rfl) ?_
                  refine lv_if_ne (tgt := 125) hx hb dX1_lay_109 (by decide) (fun c_10 => ?_) (fun c_10 => ?_)
                  · have c_10 : ¬ (li = 0) := fun h => c_10 ((neq li 0 (by omega) (by omega)).mpr h)
                    refine lv_aload_n hx hb dX1_lay_125 rfl (lv_at hl 4 rfl) ?_
                    refine sk_get (v := .ref (q 10)) (C := RX1) (T := TX1) (N := 9) hx hb hts inlX1 hown hK hP 0 rfl rfl 0 (by decide) w_2_95 rfl dX1_lay_126 ?_
                    refine lv_iload hx hb dX1_lay_129 (lv_at hl 3 rfl) ?_
                    refine lv_iload hx hb dX1_lay_131 (lv_at hl 1 rfl) ?_
                    refine lv_iload_n hx hb dX1_lay_133 rfl (lv_at hl 7 rfl) ?_
                    refine sk_Vi (q0 := 0) (n := 3) (rest := [.int (nI (i * 10 + jj)), .ref (q 67)]) (wr := [(q 11, .inr (1, [.ref (q 10), .ref (q 67), .ref (q 68), .ref (q 69), .ref (q 70), .ref (q 71), .ref (q 72), .int (nI dy), .int (nI mo)])), (q 67, .inl (cI, 90, .inl a2)), (q 63, .inl (cI, 90, .inl fa)), (q 64, .inl (cI, 90, .inl fo)), (o0, .inr (7, [.ref o1, .ref o2, .int (nI dy), .int wk, .int (nI mo), .int mu, .int ke])), (q 68, .inl (cI, 9, .inl g_1))]) ⟨hx, hb, hml, hown, hts⟩ hl.1 (c_moodsBehind l D cI cJ cC cZ cS q sa ft i jj li hsa (by omega) (by omega) (by omega)) w_4_52 w_4_18 w_4_19 w_1_12 w_4_20 (by decide +kernel) ⟨⟨(Nat.le_of_ble_eq_true rfl), (Nat.le_of_ble_eq_true rfl)⟩, (Nat.le_of_ble_eq_true rfl), (Nat.le_of_ble_eq_true rfl)⟩ hK hP hD hS hA [2, 3, 4] [0, 1, 5, 6, 7, 8] rfl rfl (by decide +kernel) (by decide +kernel) (by decide +kernel) rfl rfl rfl rfl (Nat.le_of_ble_eq_true rfl) dX1_lay_134 (fun r_11 u H locs hw hP hD hS => ?_)
                    obtain rfl := hw
                    have hP : va_P D vwCl [(q 11, .inr (1, [.ref (q 10), .ref (q 67), .ref (q 68), .ref (q 69), .ref (q 70), .ref (q 71), .ref (q 72), .int (nI dy), .int (nI mo)])), (q 67, .inl (cI, 90, .inl a2)), (q 63, .inl (cI, 90, .inl fa)), (q 64, .inl (cI, 90, .inl fo)), (o0, .inr (7, [.ref o1, .ref o2, .int (nI dy), .int wk, .int (nI mo), .int mu, .int ke])), (q 68, .inl (cI, 9, .inl g_1)), (q 10, .inr (9, [.ref (q 61), .ref (q 62), .ref (q 63), .ref (q 64), .ref (q 65), .ref (q 66)])), (q 61, .inl (cI, 90, .inl (fun j => nI (sa j)))), (q 62, .inl (cI, 900, .inl ft))] H := hP
                    have hD : va_D A [(q 11, .inr (1, [.ref (q 10), .ref (q 67), .ref (q 68), .ref (q 69), .ref (q 70), .ref (q 71), .ref (q 72), .int (nI dy), .int (nI mo)])), (q 67, .inl (cI, 90, .inl a2)), (q 63, .inl (cI, 90, .inl fa)), (q 64, .inl (cI, 90, .inl fo)), (o0, .inr (7, [.ref o1, .ref o2, .int (nI dy), .int wk, .int (nI mo), .int mu, .int ke])), (q 68, .inl (cI, 9, .inl g_1)), (q 10, .inr (9, [.ref (q 61), .ref (q 62), .ref (q 63), .ref (q 64), .ref (q 65), .ref (q 66)])), (q 61, .inl (cI, 90, .inl (fun j => nI (sa j)))), (q 62, .inl (cI, 900, .inl ft))] := hD
                    refine sk_iastO (ws' := fun f_12 => [(q 11, .inr (1, [.ref (q 10), .ref (q 67), .ref (q 68), .ref (q 69), .ref (q 70), .ref (q 71), .ref (q 72), .int (nI dy), .int (nI mo)])), (q 67, .inl (cI, 90, .inl f_12)), (q 63, .inl (cI, 90, .inl fa)), (q 64, .inl (cI, 90, .inl fo)), (o0, .inr (7, [.ref o1, .ref o2, .int (nI dy), .int wk, .int (nI mo), .int mu, .int ke])), (q 68, .inl (cI, 9, .inl g_1)), (q 10, .inr (9, [.ref (q 61), .ref (q 62), .ref (q 63), .ref (q 64), .ref (q 65), .ref (q 66)])), (q 61, .inl (cI, 90, .inl (fun j => nI (sa j)))), (q 62, .inl (cI, 900, .inl ft))]) hx hb hK hP hD hS 1 0 rfl rfl (vin (i * 10 + jj) 90 (by omega) (by omega)) (fun _ => rfl) dX1_lay_137 (fun f_12 H locs hP hD hS => ?_)
                    refine lv_iinc (v := nI (jj + 1)) (lv' := [(6, .int (nI (jj + 1))), (7, .int (nI (i * 10 + jj))), (5, .int bq), (4, .int (nI i)), (0, .ref (q 11)), (1, .ref o0), (2, .int o), (3, .int (nI li))]) hx hb dX1_lay_138 hl (k := 1) rfl (ninc jj 1 (by decide)) (by decide) rfl (fun ls hl => ?_)
                    refine lv_goto (tgt := 58) hx hb dX1_lay_141 (by decide) ?_
                    have hP := hP.sub (ws' := [(q 11, .inr (1, [.ref (q 10), .ref (q 67), .ref (q 68), .ref (q 69), .ref (q 70), .ref (q 71), .ref (q 72), .int (nI dy), .int (nI mo)])), (q 67, .inl (cI, 90, .inl f_12)), (q 10, .inr (9, [.ref (q 61), .ref (q 62), .ref (q 63), .ref (q 64), .ref (q 65), .ref (q 66)])), (q 61, .inl (cI, 90, .inl (fun j => nI (sa j)))), (q 62, .inl (cI, 900, .inl ft)), (q 63, .inl (cI, 90, .inl fa)), (q 64, .inl (cI, 90, .inl fo)), (o0, .inr (7, [.ref o1, .ref o2, .int (nI dy), .int wk, .int (nI mo), .int mu, .int ke])), (q 68, .inl (cI, 9, .inl g_1))]) [0, 1, 6, 7, 8, 2, 3, 4, 5] rfl
                    have hD := hD.sub (ws' := [(q 11, .inr (1, [.ref (q 10), .ref (q 67), .ref (q 68), .ref (q 69), .ref (q 70), .ref (q 71), .ref (q 72), .int (nI dy), .int (nI mo)])), (q 67, .inl (cI, 90, .inl f_12)), (q 10, .inr (9, [.ref (q 61), .ref (q 62), .ref (q 63), .ref (q 64), .ref (q 65), .ref (q 66)])), (q 61, .inl (cI, 90, .inl (fun j => nI (sa j)))), (q 62, .inl (cI, 900, .inl ft)), (q 63, .inl (cI, 90, .inl fa)), (q 64, .inl (cI, 90, .inl fo)), (o0, .inr (7, [.ref o1, .ref o2, .int (nI dy), .int wk, .int (nI mo), .int mu, .int ke])), (q 68, .inl (cI, 9, .inl g_1))]) [0, 1, 6, 7, 8, 2, 3, 4, 5] (by decide +kernel) rfl
                    exact ih_lp_6 (jj + 1) f_12 _ _ _ (by omega) (by omega) hP hD hS (lv_sub hl [0, 2, 3, 4, 5, 6, 7] rfl)
                  · have c_10 : li = 0 := (neq li 0 (by omega) (by omega)).mp c_10
                    refine lv_aload_n hx hb dX1_lay_112 rfl (lv_at hl 4 rfl) ?_
                    refine sk_get (v := .ref (q 10)) (C := RX1) (T := TX1) (N := 9) hx hb hts inlX1 hown hK hP 0 rfl rfl 0 (by decide) w_2_95 rfl dX1_lay_113 ?_
                    refine sk_get (v := .ref (q 64)) (C := RX9) (T := TX9) (N := 6) hx hb hts inlX9 hown hK hP 2 rfl rfl 3 (by decide) w_2_71 rfl dX1_lay_116 ?_
                    refine lv_iload hx hb dX1_lay_119 (lv_at hl 0 rfl) ?_
                    refine va_iald hx hb hK.1 hP 6 0 rfl rfl (vin (i * 10 + jj) 90 (by omega) (by omega)) dX1_lay_121 ?_
                    refine lv_topi (fun v_13 ev_13 => ?_)
                    refine lv_goto (tgt := 137) hx hb dX1_lay_122 (by decide) ?_
                    refine sk_iastO (ws' := fun f_14 => [(q 11, .inr (1, [.ref (q 10), .ref (q 67), .ref (q 68), .ref (q 69), .ref (q 70), .ref (q 71), .ref (q 72), .int (nI dy), .int (nI mo)])), (q 67, .inl (cI, 90, .inl f_14)), (q 10, .inr (9, [.ref (q 61), .ref (q 62), .ref (q 63), .ref (q 64), .ref (q 65), .ref (q 66)])), (q 61, .inl (cI, 90, .inl (fun j => nI (sa j)))), (q 62, .inl (cI, 900, .inl ft)), (q 63, .inl (cI, 90, .inl fa)), (q 64, .inl (cI, 90, .inl fo)), (o0, .inr (7, [.ref o1, .ref o2, .int (nI dy), .int wk, .int (nI mo), .int mu, .int ke])), (q 68, .inl (cI, 9, .inl g_1))]) hx hb hK hP hD hS 1 0 rfl rfl (vin (i * 10 + jj) 90 (by omega) (by omega)) (fun _ => rfl) dX1_lay_137 (fun f_14 H locs hP hD hS => ?_)
                    refine lv_iinc (v := nI (jj + 1)) (lv' := [(6, .int (nI (jj + 1))), (7, .int (nI (i * 10 + jj))), (5, .int bq), (4, .int (nI i)), (0, .ref (q 11)), (1, .ref o0), (2, .int o), (3, .int (nI li))]) hx hb dX1_lay_138 hl (k := 1) rfl (ninc jj 1 (by decide)) (by decide) rfl (fun ls hl => ?_)
                    refine lv_goto (tgt := 58) hx hb dX1_lay_141 (by decide) ?_
                    exact ih_lp_6 (jj + 1) f_14 _ _ _ (by omega) (by omega) hP hD hS (lv_sub hl [0, 2, 3, 4, 5, 6, 7] rfl)
                · skip
                  refine lv_aload_n hx hb dX1_lay_80 rfl (lv_at hl 4 rfl) ?_
                  refine sk_get (v := .ref (q 67)) (C := RX1) (T := TX1) (N := 9) hx hb hts inlX1 hown hK hP 0 rfl rfl 1 (by decide) w_2_96 rfl dX1_lay_81 ?_
                  refine lv_iload hx hb dX1_lay_84 (lv_at hl 0 rfl) ?_
                  refine lv_iconst (v := 1) hx hb dX1_lay_86 (by decide) ?_
                  refine lv_aload_n hx hb dX1_lay_87 rfl (lv_at hl 4 rfl) ?_
                  refine sk_get (v := .ref (q 10)) (C := RX1) (T := TX1) (N := 9) hx hb hts inlX1 hown hK hP 0 rfl rfl 0 (by decide) w_2_95 rfl dX1_lay_88 ?_
                  refine sk_get (v := .ref (q 63)) (C := RX9) (T := TX9) (N := 6) hx hb hts inlX9 hown hK hP 2 rfl rfl 2 (by decide) w_2_68 rfl dX1_lay_91 ?_
                  refine lv_iload hx hb dX1_lay_94 (lv_at hl 0 rfl) ?_
                  refine va_iald hx hb hK.1 hP 5 0 rfl rfl (vin (i * 10 + jj) 90 (by omega) (by omega)) dX1_lay_96 ?_
                  refine lv_topi (fun v_15 ev_15 => ?_)
                  refine lv_ishl hx hb dX1_lay_97 ?_
                  refine lv_topi (fun v_16 ev_16 => ?_)
                  refine sk_iastO (ws' := fun f_17 => [(q 11, .inr (1, [.ref (q 10), .ref (q 67), .ref (q 68), .ref (q 69), .ref (q 70), .ref (q 71), .ref (q 72), .int (nI dy), .int (nI mo)])), (q 67, .inl (cI, 90, .inl f_17)), (q 10, .inr (9, [.ref (q 61), .ref (q 62), .ref (q 63), .ref (q 64), .ref (q 65), .ref (q 66)])), (q 61, .inl (cI, 90, .inl (fun j => nI (sa j)))), (q 62, .inl (cI, 900, .inl ft)), (q 63, .inl (cI, 90, .inl fa)), (q 64, .inl (cI, 90, .inl fo)), (o0, .inr (7, [.ref o1, .ref o2, .int (nI dy), .int wk, .int (nI mo), .int mu, .int ke])), (q 68, .inl (cI, 9, .inl g_1))]) hx hb hK hP hD hS 1 0 rfl rfl (vin (i * 10 + jj) 90 (by omega) (by omega)) (fun _ => rfl) dX1_lay_98 (fun f_17 H locs hP hD hS => ?_)
                  refine lv_goto (tgt := 138) hx hb dX1_lay_99 (by decide) ?_
                  refine lv_iinc (v := nI (jj + 1)) (lv' := [(6, .int (nI (jj + 1))), (7, .int (nI (i * 10 + jj))), (5, .int bq), (4, .int (nI i)), (0, .ref (q 11)), (1, .ref o0), (2, .int o), (3, .int (nI li))]) hx hb dX1_lay_138 hl (k := 1) rfl (ninc jj 1 (by decide)) (by decide) rfl (fun ls hl => ?_)
                  refine lv_goto (tgt := 58) hx hb dX1_lay_141 (by decide) ?_
                  exact ih_lp_6 (jj + 1) f_17 _ _ _ (by omega) (by omega) hP hD hS (lv_sub hl [0, 2, 3, 4, 5, 6, 7] rfl)
          exact lp_6 (10 - 0 + 1) 0 a1 _ _ _ (Nat.lt_succ_self _) (by omega) hP hD hS (lv_sub hl [0, 1, 2, 3, 4, 5, 6] rfl)
        refine lv_iload_n hx hb dX1_lay_38 rfl (lv_at hl 3 rfl) ?_
        refine lv_iload hx hb dX1_lay_39 (lv_at hl 0 rfl) ?_
        refine lv_ishr hx hb dX1_lay_41 ?_
        refine lv_topi (fun v_18 ev_18 => ?_)
        refine lv_iconst (v := 1) hx hb dX1_lay_42 (by decide) ?_
        refine lv_iand hx hb dX1_lay_43 ?_
        refine lv_topi (fun v_19 ev_19 => ?_)
        refine lv_iconst (v := 1) hx hb dX1_lay_44 (by decide) ?_
        refine lv_icmp_ne (tgt := 52) hx hb dX1_lay_45 (by decide) (fun c_20 => ?_) (fun c_20 => ?_)
        · skip
          refine lv_iconst (v := 0) hx hb dX1_lay_52 (by decide) ?_
          exact jn_5 0 _ _ _  hP hD hS (lv_sub hl [0, 1, 2, 3, 4] rfl)
        · skip
          refine lv_iconst (v := 1) hx hb dX1_lay_48 (by decide) ?_
          refine lv_goto (tgt := 53) hx hb dX1_lay_49 (by decide) ?_
          exact jn_5 1 _ _ _  hP hD hS (lv_sub hl [0, 1, 2, 3, 4] rfl)
  exact lp_2 (dy - 0 + 1) 0 e1 _ _ _ (Nat.lt_succ_self _) (by omega) hP hD hS (lv_sub hl [0, 1, 2, 3, 4] rfl)
theorem dX1_settle_0 : decode cX1_settle 0 = .ok (.aload_n 0, 1) := by decide +kernel
theorem dX1_settle_1 : decode cX1_settle 1 = .ok (.getfield 18, 3) := by decide +kernel
theorem dX1_settle_4 : decode cX1_settle 4 = .ok (.aload_n 0, 1) := by decide +kernel
theorem dX1_settle_5 : decode cX1_settle 5 = .ok (.getfield 31, 3) := by decide +kernel
theorem dX1_settle_8 : decode cX1_settle 8 = .ok (.sipush 1023, 3) := by decide +kernel
theorem dX1_settle_11 : decode cX1_settle 11 = .ok (.iastore, 1) := by decide +kernel
theorem dX1_settle_12 : decode cX1_settle 12 = .ok (.aload_n 0, 1) := by decide +kernel
theorem dX1_settle_13 : decode cX1_settle 13 = .ok (.getfield 31, 3) := by decide +kernel
theorem dX1_settle_16 : decode cX1_settle 16 = .ok (.iconst 1, 1) := by decide +kernel
theorem dX1_settle_17 : decode cX1_settle 17 = .ok (.isub, 1) := by decide +kernel
theorem dX1_settle_18 : decode cX1_settle 18 = .ok (.istore_n 1, 1) := by decide +kernel
theorem dX1_settle_19 : decode cX1_settle 19 = .ok (.iload_n 1, 1) := by decide +kernel
theorem dX1_settle_20 : decode cX1_settle 20 = .ok (.ifCond .lt 47, 3) := by decide +kernel
theorem dX1_settle_67 : decode cX1_settle 67 = .ok (.aload_n 0, 1) := by decide +kernel
theorem dX1_settle_68 : decode cX1_settle 68 = .ok (.getfield 18, 3) := by decide +kernel
theorem dX1_settle_71 : decode cX1_settle 71 = .ok (.iconst 0, 1) := by decide +kernel
theorem dX1_settle_72 : decode cX1_settle 72 = .ok (.iaload, 1) := by decide +kernel
theorem dX1_settle_73 : decode cX1_settle 73 = .ok (.aload_n 0, 1) := by decide +kernel
theorem dX1_settle_74 : decode cX1_settle 74 = .ok (.getfield 35, 3) := by decide +kernel
theorem dX1_settle_77 : decode cX1_settle 77 = .ok (.ishr, 1) := by decide +kernel
theorem dX1_settle_78 : decode cX1_settle 78 = .ok (.iconst 1, 1) := by decide +kernel
theorem dX1_settle_79 : decode cX1_settle 79 = .ok (.iand, 1) := by decide +kernel
theorem dX1_settle_80 : decode cX1_settle 80 = .ok (.iconst 1, 1) := by decide +kernel
theorem dX1_settle_81 : decode cX1_settle 81 = .ok (.if_icmp .ne 7, 3) := by decide +kernel
theorem dX1_settle_88 : decode cX1_settle 88 = .ok (.iconst 0, 1) := by decide +kernel
theorem dX1_settle_89 : decode cX1_settle 89 = .ok (.ireturn, 1) := by decide +kernel
theorem dX1_settle_84 : decode cX1_settle 84 = .ok (.iconst 1, 1) := by decide +kernel
theorem dX1_settle_85 : decode cX1_settle 85 = .ok (.goto 4, 3) := by decide +kernel
theorem dX1_settle_23 : decode cX1_settle 23 = .ok (.iconst 0, 1) := by decide +kernel
theorem dX1_settle_24 : decode cX1_settle 24 = .ok (.istore_n 2, 1) := by decide +kernel
theorem dX1_settle_25 : decode cX1_settle 25 = .ok (.iconst 0, 1) := by decide +kernel
theorem dX1_settle_26 : decode cX1_settle 26 = .ok (.istore_n 3, 1) := by decide +kernel
theorem dX1_settle_27 : decode cX1_settle 27 = .ok (.iload_n 3, 1) := by decide +kernel
theorem dX1_settle_28 : decode cX1_settle 28 = .ok (.bipush 10, 2) := by decide +kernel
theorem dX1_settle_30 : decode cX1_settle 30 = .ok (.if_icmp .ge 24, 3) := by decide +kernel
theorem dX1_settle_54 : decode cX1_settle 54 = .ok (.aload_n 0, 1) := by decide +kernel
theorem dX1_settle_55 : decode cX1_settle 55 = .ok (.getfield 18, 3) := by decide +kernel
theorem dX1_settle_58 : decode cX1_settle 58 = .ok (.iload_n 1, 1) := by decide +kernel
theorem dX1_settle_59 : decode cX1_settle 59 = .ok (.iload_n 2, 1) := by decide +kernel
theorem dX1_settle_60 : decode cX1_settle 60 = .ok (.iastore, 1) := by decide +kernel
theorem dX1_settle_61 : decode cX1_settle 61 = .ok (.iinc 1 (-1), 3) := by decide +kernel
theorem dX1_settle_64 : decode cX1_settle 64 = .ok (.goto (-45), 3) := by decide +kernel
theorem dX1_settle_33 : decode cX1_settle 33 = .ok (.aload_n 0, 1) := by decide +kernel
theorem dX1_settle_34 : decode cX1_settle 34 = .ok (.iload_n 1, 1) := by decide +kernel
theorem dX1_settle_35 : decode cX1_settle 35 = .ok (.iload_n 3, 1) := by decide +kernel
theorem dX1_settle_36 : decode cX1_settle 36 = .ok (.invokevirtual 66, 3) := by decide +kernel
theorem dX1_settle_39 : decode cX1_settle 39 = .ok (.ifCond .eq 9, 3) := by decide +kernel
theorem dX1_settle_48 : decode cX1_settle 48 = .ok (.iinc 3 1, 3) := by decide +kernel
theorem dX1_settle_51 : decode cX1_settle 51 = .ok (.goto (-24), 3) := by decide +kernel
theorem dX1_settle_42 : decode cX1_settle 42 = .ok (.iload_n 2, 1) := by decide +kernel
theorem dX1_settle_43 : decode cX1_settle 43 = .ok (.iconst 1, 1) := by decide +kernel
theorem dX1_settle_44 : decode cX1_settle 44 = .ok (.iload_n 3, 1) := by decide +kernel
theorem dX1_settle_45 : decode cX1_settle 45 = .ok (.ishl, 1) := by decide +kernel
theorem dX1_settle_46 : decode cX1_settle 46 = .ok (.ior, 1) := by decide +kernel
theorem dX1_settle_47 : decode cX1_settle 47 = .ok (.istore_n 2, 1) := by decide +kernel
theorem w_4_57 : (Cond.methodLink RX1 66 yX1_next) ∈ wsL_law := sk_mem (ck_4 _ (List.mem_of_getElem? (i := 57) rfl)) rfl
theorem w_4_59 : (Cond.instanceMethod yX1_next) ∈ wsL_law := sk_mem (ck_4 _ (List.mem_of_getElem? (i := 59) rfl)) rfl
theorem w_0_20 : (Cond.selects RX1 yX1_next yX1_next) ∈ wsL_law := sk_mem (ck_0 _ (List.mem_of_getElem? (i := 20) rfl)) rfl
theorem w_1_13 : (Cond.initialized RX1) ∈ wsL_law := sk_mem (ck_1 _ (List.mem_of_getElem? (i := 13) rfl)) rfl
theorem w_4_56 : (Cond.code yX1_settle cX1_settle 4 (some .boolean)) ∈ wsL_law := sk_mem (ck_4 _ (List.mem_of_getElem? (i := 56) rfl)) rfl
set_option maxHeartbeats 4000000 in
set_option maxRecDepth 100000 in
theorem c_settle (l : Launch) (D : va_G) (cI cJ cC cZ cS : ClassId) (q : Nat → Nat) (gd : Nat) (gs : Nat) (e1 : Nat → Int32) (e2 : Nat → Int32) (e3 : Nat → Int32) (hgd : gd ≤ 9) (hgs : gs ≤ 9) : skM l yX1_settle cX1_settle 4 (some .boolean) 1 22 0 0 D (skT cI cJ cC cZ cS) [.ref (q 11)] [(q 11, .inr (1, [.ref (q 10), .ref (q 67), .ref (q 68), .ref (q 69), .ref (q 70), .ref (q 71), .ref (q 72), .int (nI gd), .int (nI gs)])), (q 67, .inl (cI, 90, .inl e1)), (q 68, .inl (cI, 9, .inl e2)), (q 69, .inl (cI, 10, .inl e3))] (skI D (skT cI cJ cC cZ cS) (fun (r : Int32) (u : va_W) => ∃ (b : Nat), ∃ (g3 : Nat → Int32), b ≤ 1 ∧ r = nI b ∧ u = [(q 11, .inr (1, [.ref (q 10), .ref (q 67), .ref (q 68), .ref (q 69), .ref (q 70), .ref (q 71), .ref (q 72), .int (nI gd), .int (nI gs)])), (q 67, .inl (cI, 90, .inl e1)), (q 68, .inl (cI, 9, .inl e2)), (q 69, .inl (cI, 10, .inl g3))])) := by
  refine skM_of (by decide +kernel) (Nat.le_of_ble_eq_true rfl) ?_
  intro p e s m below meth c A ls E hP hD hl
  obtain ⟨hx, hb, hr, hml, hlocks, hin, hown, hts, hK, hA⟩ := E
  have hown : s.vm.findClass RX1 = some m.cls := hown
  have hS : va_S A s.heap s.heap [] := va_S.rf
  have hl : lv_has ls 4 [(0, .ref (q 11))] := hl
  refine lv_aload_n hx hb dX1_settle_0 rfl (lv_at hl 0 rfl) ?_
  refine sk_get (v := .ref (q 69)) (C := RX1) (T := TX1) (N := 9) hx hb hts inlX1 hown hK hP 0 rfl rfl 3 (by decide) w_2_98 rfl dX1_settle_1 ?_
  refine lv_aload_n hx hb dX1_settle_4 rfl (lv_at hl 0 rfl) ?_
  refine sk_get (v := .int (nI gd)) (C := RX1) (T := TX1) (N := 9) hx hb hts inlX1 hown hK hP 0 rfl rfl 7 (by decide) w_2_102 rfl dX1_settle_5 ?_
  refine lv_sipush (v := 1023) hx hb dX1_settle_8 (by decide) ?_
  refine sk_iastO (ws' := fun f_1 => [(q 11, .inr (1, [.ref (q 10), .ref (q 67), .ref (q 68), .ref (q 69), .ref (q 70), .ref (q 71), .ref (q 72), .int (nI gd), .int (nI gs)])), (q 67, .inl (cI, 90, .inl e1)), (q 68, .inl (cI, 9, .inl e2)), (q 69, .inl (cI, 10, .inl f_1))]) hx hb hK hP hD hS 3 0 rfl rfl (vin gd 10 (by omega) (by omega)) (fun _ => rfl) dX1_settle_11 (fun f_1 H locs hP hD hS => ?_)
  refine lv_aload_n hx hb dX1_settle_12 rfl (lv_at hl 0 rfl) ?_
  refine sk_get (v := .int (nI gd)) (C := RX1) (T := TX1) (N := 9) hx hb hts inlX1 hown hK hP 0 rfl rfl 7 (by decide) w_2_102 rfl dX1_settle_13 ?_
  refine lv_iconst (v := 1) hx hb dX1_settle_16 (by decide) ?_
  refine lv_isub hx hb dX1_settle_17 ?_
  refine lv_istore_n (lv' := [(1, .int (nI gd - 1)), (0, .ref (q 11))]) hx hb dX1_settle_18 rfl hl (by decide) rfl (fun ls hl => ?_)
  have lp_2 : ∀ (n_3 : Nat) (dd : Nat) (a3 : Nat → Int32) (H : Heap) (locs : List Loc) (ls : Array Slot), dd < n_3 → (dd ≤ 9) → va_P D vwCl [(q 11, .inr (1, [.ref (q 10), .ref (q 67), .ref (q 68), .ref (q 69), .ref (q 70), .ref (q 71), .ref (q 72), .int (nI gd), .int (nI gs)])), (q 67, .inl (cI, 90, .inl e1)), (q 68, .inl (cI, 9, .inl e2)), (q 69, .inl (cI, 10, .inl a3))] H → va_D A [(q 11, .inr (1, [.ref (q 10), .ref (q 67), .ref (q 68), .ref (q 69), .ref (q 70), .ref (q 71), .ref (q 72), .int (nI gd), .int (nI gs)])), (q 67, .inl (cI, 90, .inl e1)), (q 68, .inl (cI, 9, .inl e2)), (q 69, .inl (cI, 10, .inl a3))] → va_S A s.heap H locs → lv_has ls 4 [(1, .int (nI dd - 1)), (0, .ref (q 11))] → W p l e { frames := 1, cells := 0, slots := 0, locals := 22 } s m ([.ref (q 11)] : List Value).toArray below meth c H locs 0 0 (MQ below (skI D (skT cI cJ cC cZ cS) (fun (r : Int32) (u : va_W) => ∃ (b : Nat), ∃ (g3 : Nat → Int32), b ≤ 1 ∧ r = nI b ∧ u = [(q 11, .inr (1, [.ref (q 10), .ref (q 67), .ref (q 68), .ref (q 69), .ref (q 70), .ref (q 71), .ref (q 72), .int (nI gd), .int (nI gs)])), (q 67, .inl (cI, 90, .inl e1)), (q 68, .inl (cI, 9, .inl e2)), (q 69, .inl (cI, 10, .inl g3))]) A) ([.ref (q 11)] : List Value).toArray s 0 0 A) (F0 m 19 ls []) := by
    intro n_3
    induction n_3 with
    | zero => intro dd a3 H locs ls hm; exact absurd hm (Nat.not_lt_zero _)
    | succ n_3 ih_lp_2 =>
      intro dd a3 H locs ls hm hdd hP hD hS hl
      refine lv_iload_n hx hb dX1_settle_19 rfl (lv_at hl 0 rfl) ?_
      refine lv_if_lt (tgt := 67) hx hb dX1_settle_20 (by decide) (fun c_4 => ?_) (fun c_4 => ?_)
      · have c_4 : dd = 0 := npm0 dd (by omega) c_4
        refine lv_aload_n hx hb dX1_settle_67 rfl (lv_at hl 1 rfl) ?_
        refine sk_get (v := .ref (q 69)) (C := RX1) (T := TX1) (N := 9) hx hb hts inlX1 hown hK hP 0 rfl rfl 3 (by decide) w_2_98 rfl dX1_settle_68 ?_
        refine lv_iconst (v := 0) hx hb dX1_settle_71 (by decide) ?_
        refine va_iald hx hb hK.1 hP 3 0 rfl rfl (by unfold vp_in; decide) dX1_settle_72 ?_
        refine lv_topi (fun v_5 ev_5 => ?_)
        refine lv_aload_n hx hb dX1_settle_73 rfl (lv_at hl 1 rfl) ?_
        refine sk_get (v := .int (nI gs)) (C := RX1) (T := TX1) (N := 9) hx hb hts inlX1 hown hK hP 0 rfl rfl 8 (by decide) w_2_103 rfl dX1_settle_74 ?_
        refine lv_ishr hx hb dX1_settle_77 ?_
        refine lv_topi (fun v_6 ev_6 => ?_)
        refine lv_iconst (v := 1) hx hb dX1_settle_78 (by decide) ?_
        refine lv_iand hx hb dX1_settle_79 ?_
        refine lv_topi (fun v_7 ev_7 => ?_)
        refine lv_iconst (v := 1) hx hb dX1_settle_80 (by decide) ?_
        refine lv_icmp_ne (tgt := 88) hx hb dX1_settle_81 (by decide) (fun c_8 => ?_) (fun c_8 => ?_)
        · skip
          refine lv_iconst (v := 0) hx hb dX1_settle_88 (by decide) ?_
          exact sk_iret hx hb hr rfl hlocks hK hP hD hS (⟨0, a3, by omega, rfl, rfl⟩) (Nat.le_of_ble_eq_true rfl) (Nat.le_of_ble_eq_true rfl) dX1_settle_89
        · skip
          refine lv_iconst (v := 1) hx hb dX1_settle_84 (by decide) ?_
          refine lv_goto (tgt := 89) hx hb dX1_settle_85 (by decide) ?_
          exact sk_iret hx hb hr rfl hlocks hK hP hD hS (⟨1, a3, by omega, rfl, rfl⟩) (Nat.le_of_ble_eq_true rfl) (Nat.le_of_ble_eq_true rfl) dX1_settle_89
      · have c_4 : 1 ≤ dd := npm1 dd c_4
        rw [npred dd (by omega)] at hl
        refine lv_iconst (v := 0) hx hb dX1_settle_23 (by decide) ?_
        refine lv_istore_n (lv' := [(2, .int 0), (1, .int (nI (dd - 1))), (0, .ref (q 11))]) hx hb dX1_settle_24 rfl hl (by decide) rfl (fun ls hl => ?_)
        refine lv_iconst (v := 0) hx hb dX1_settle_25 (by decide) ?_
        refine lv_istore_n (lv' := [(3, .int 0), (2, .int 0), (1, .int (nI (dd - 1))), (0, .ref (q 11))]) hx hb dX1_settle_26 rfl hl (by decide) rfl (fun ls hl => ?_)
        have lp_9 : ∀ (n_10 : Nat) (i : Nat) (al : Int32) (H : Heap) (locs : List Loc) (ls : Array Slot), 10 - i < n_10 → (i ≤ 10) → va_P D vwCl [(q 11, .inr (1, [.ref (q 10), .ref (q 67), .ref (q 68), .ref (q 69), .ref (q 70), .ref (q 71), .ref (q 72), .int (nI gd), .int (nI gs)])), (q 67, .inl (cI, 90, .inl e1)), (q 68, .inl (cI, 9, .inl e2)), (q 69, .inl (cI, 10, .inl a3))] H → va_D A [(q 11, .inr (1, [.ref (q 10), .ref (q 67), .ref (q 68), .ref (q 69), .ref (q 70), .ref (q 71), .ref (q 72), .int (nI gd), .int (nI gs)])), (q 67, .inl (cI, 90, .inl e1)), (q 68, .inl (cI, 9, .inl e2)), (q 69, .inl (cI, 10, .inl a3))] → va_S A s.heap H locs → lv_has ls 4 [(3, .int (nI i)), (2, .int al), (1, .int (nI (dd - 1))), (0, .ref (q 11))] → W p l e { frames := 1, cells := 0, slots := 0, locals := 22 } s m ([.ref (q 11)] : List Value).toArray below meth c H locs 0 0 (MQ below (skI D (skT cI cJ cC cZ cS) (fun (r : Int32) (u : va_W) => ∃ (b : Nat), ∃ (g3 : Nat → Int32), b ≤ 1 ∧ r = nI b ∧ u = [(q 11, .inr (1, [.ref (q 10), .ref (q 67), .ref (q 68), .ref (q 69), .ref (q 70), .ref (q 71), .ref (q 72), .int (nI gd), .int (nI gs)])), (q 67, .inl (cI, 90, .inl e1)), (q 68, .inl (cI, 9, .inl e2)), (q 69, .inl (cI, 10, .inl g3))]) A) ([.ref (q 11)] : List Value).toArray s 0 0 A) (F0 m 27 ls []) := by
          intro n_10
          induction n_10 with
          | zero => intro i al H locs ls hm; exact absurd hm (Nat.not_lt_zero _)
          | succ n_10 ih_lp_9 =>
            intro i al H locs ls hm hi hP hD hS hl
            refine lv_iload_n hx hb dX1_settle_27 rfl (lv_at hl 0 rfl) ?_
            refine lv_bipush (v := 10) hx hb dX1_settle_28 (by decide) ?_
            refine lv_icmp_ge (tgt := 54) hx hb dX1_settle_30 (by decide) (fun c_11 => ?_) (fun c_11 => ?_)
            · have c_11 : 10 ≤ i := (nle 10 i (by omega) (by omega)).mp c_11
              refine lv_aload_n hx hb dX1_settle_54 rfl (lv_at hl 3 rfl) ?_
              refine sk_get (v := .ref (q 69)) (C := RX1) (T := TX1) (N := 9) hx hb hts inlX1 hown hK hP 0 rfl rfl 3 (by decide) w_2_98 rfl dX1_settle_55 ?_
              refine lv_iload_n hx hb dX1_settle_58 rfl (lv_at hl 2 rfl) ?_
              refine lv_iload_n hx hb dX1_settle_59 rfl (lv_at hl 1 rfl) ?_
              refine sk_iastO (ws' := fun f_12 => [(q 11, .inr (1, [.ref (q 10), .ref (q 67), .ref (q 68), .ref (q 69), .ref (q 70), .ref (q 71), .ref (q 72), .int (nI gd), .int (nI gs)])), (q 67, .inl (cI, 90, .inl e1)), (q 68, .inl (cI, 9, .inl e2)), (q 69, .inl (cI, 10, .inl f_12))]) hx hb hK hP hD hS 3 0 rfl rfl (vin (dd - 1) 10 (by omega) (by omega)) (fun _ => rfl) dX1_settle_60 (fun f_12 H locs hP hD hS => ?_)
              refine lv_iinc (v := nI (dd - 1) - 1) (lv' := [(1, .int (nI (dd - 1) - 1)), (3, .int (nI i)), (2, .int al), (0, .ref (q 11))]) hx hb dX1_settle_61 hl (k := 2) rfl (ndn _) (by decide) rfl (fun ls hl => ?_)
              refine lv_goto (tgt := 19) hx hb dX1_settle_64 (by decide) ?_
              exact ih_lp_2 (dd - 1) f_12 _ _ _ (by omega) (by omega) hP hD hS (lv_sub hl [0, 3] rfl)
            · have c_11 : ¬ (10 ≤ i) := fun h => c_11 ((nle 10 i (by omega) (by omega)).mpr h)
              refine lv_aload_n hx hb dX1_settle_33 rfl (lv_at hl 3 rfl) ?_
              refine lv_iload_n hx hb dX1_settle_34 rfl (lv_at hl 2 rfl) ?_
              refine lv_iload_n hx hb dX1_settle_35 rfl (lv_at hl 0 rfl) ?_
              refine sk_Vi (q0 := 0) (n := 2) (rest := []) (wr := []) ⟨hx, hb, hml, hown, hts⟩ hl.1 (c_next l D cI cJ cC cZ cS q gd gs e1 e2 a3 (dd - 1) i (by omega) (by omega)) w_4_57 w_4_59 w_0_20 w_1_13 w_4_60 (by decide +kernel) ⟨⟨(Nat.le_of_ble_eq_true rfl), (Nat.le_of_ble_eq_true rfl)⟩, (Nat.le_of_ble_eq_true rfl), (Nat.le_of_ble_eq_true rfl)⟩ hK hP hD hS hA [0, 1, 2, 3] [] rfl rfl (by decide +kernel) (by decide +kernel) (by decide +kernel) rfl rfl rfl rfl (Nat.le_of_ble_eq_true rfl) dX1_settle_36 (fun r_13 u H locs hw hP hD hS => ?_)
              obtain rfl := hw
              have hP : va_P D vwCl [(q 11, .inr (1, [.ref (q 10), .ref (q 67), .ref (q 68), .ref (q 69), .ref (q 70), .ref (q 71), .ref (q 72), .int (nI gd), .int (nI gs)])), (q 67, .inl (cI, 90, .inl e1)), (q 68, .inl (cI, 9, .inl e2)), (q 69, .inl (cI, 10, .inl a3))] H := hP
              have hD : va_D A [(q 11, .inr (1, [.ref (q 10), .ref (q 67), .ref (q 68), .ref (q 69), .ref (q 70), .ref (q 71), .ref (q 72), .int (nI gd), .int (nI gs)])), (q 67, .inl (cI, 90, .inl e1)), (q 68, .inl (cI, 9, .inl e2)), (q 69, .inl (cI, 10, .inl a3))] := hD
              refine lv_if_eq (tgt := 48) hx hb dX1_settle_39 (by decide) (fun c_14 => ?_) (fun c_14 => ?_)
              · skip
                refine lv_iinc (v := nI (i + 1)) (lv' := [(3, .int (nI (i + 1))), (2, .int al), (1, .int (nI (dd - 1))), (0, .ref (q 11))]) hx hb dX1_settle_48 hl (k := 0) rfl (ninc i 1 (by decide)) (by decide) rfl (fun ls hl => ?_)
                refine lv_goto (tgt := 27) hx hb dX1_settle_51 (by decide) ?_
                exact ih_lp_9 (i + 1) al _ _ _ (by omega) (by omega) hP hD hS (lv_sub hl [0, 1, 2, 3] rfl)
              · skip
                refine lv_iload_n hx hb dX1_settle_42 rfl (lv_at hl 1 rfl) ?_
                refine lv_iconst (v := 1) hx hb dX1_settle_43 (by decide) ?_
                refine lv_iload_n hx hb dX1_settle_44 rfl (lv_at hl 0 rfl) ?_
                refine lv_ishl hx hb dX1_settle_45 ?_
                refine lv_topi (fun v_15 ev_15 => ?_)
                refine lv_ior hx hb dX1_settle_46 ?_
                refine lv_topi (fun v_16 ev_16 => ?_)
                refine lv_istore_n (lv' := [(2, .int v_16), (3, .int (nI i)), (1, .int (nI (dd - 1))), (0, .ref (q 11))]) hx hb dX1_settle_47 rfl hl (by decide) rfl (fun ls hl => ?_)
                refine lv_iinc (v := nI (i + 1)) (lv' := [(3, .int (nI (i + 1))), (2, .int v_16), (1, .int (nI (dd - 1))), (0, .ref (q 11))]) hx hb dX1_settle_48 hl (k := 1) rfl (ninc i 1 (by decide)) (by decide) rfl (fun ls hl => ?_)
                refine lv_goto (tgt := 27) hx hb dX1_settle_51 (by decide) ?_
                exact ih_lp_9 (i + 1) v_16 _ _ _ (by omega) (by omega) hP hD hS (lv_sub hl [0, 1, 2, 3] rfl)
        exact lp_9 (10 - 0 + 1) 0 0 _ _ _ (Nat.lt_succ_self _) (by omega) hP hD hS (lv_sub hl [0, 1, 2, 3] rfl)
  exact lp_2 (gd + 1) gd f_1 _ _ _ (Nat.lt_succ_self _) (by omega) hP hD hS (lv_sub hl [0, 1] rfl)
theorem dX1_moodsOf_0 : decode cX1_moodsOf 0 = .ok (.iconst 1, 1) := by decide +kernel
theorem dX1_moodsOf_1 : decode cX1_moodsOf 1 = .ok (.aload_n 0, 1) := by decide +kernel
theorem dX1_moodsOf_2 : decode cX1_moodsOf 2 = .ok (.getfield 35, 3) := by decide +kernel
theorem dX1_moodsOf_5 : decode cX1_moodsOf 5 = .ok (.ishl, 1) := by decide +kernel
theorem dX1_moodsOf_6 : decode cX1_moodsOf 6 = .ok (.istore_n 2, 1) := by decide +kernel
theorem dX1_moodsOf_7 : decode cX1_moodsOf 7 = .ok (.iconst 0, 1) := by decide +kernel
theorem dX1_moodsOf_8 : decode cX1_moodsOf 8 = .ok (.istore_n 3, 1) := by decide +kernel
theorem dX1_moodsOf_9 : decode cX1_moodsOf 9 = .ok (.iload_n 3, 1) := by decide +kernel
theorem dX1_moodsOf_10 : decode cX1_moodsOf 10 = .ok (.iload_n 1, 1) := by decide +kernel
theorem dX1_moodsOf_11 : decode cX1_moodsOf 11 = .ok (.if_icmp .gt 53, 3) := by decide +kernel
theorem dX1_moodsOf_64 : decode cX1_moodsOf 64 = .ok (.iload_n 2, 1) := by decide +kernel
theorem dX1_moodsOf_65 : decode cX1_moodsOf 65 = .ok (.ireturn, 1) := by decide +kernel
theorem dX1_moodsOf_14 : decode cX1_moodsOf 14 = .ok (.iconst 0, 1) := by decide +kernel
theorem dX1_moodsOf_15 : decode cX1_moodsOf 15 = .ok (.istore 4, 2) := by decide +kernel
theorem dX1_moodsOf_17 : decode cX1_moodsOf 17 = .ok (.iconst 0, 1) := by decide +kernel
theorem dX1_moodsOf_18 : decode cX1_moodsOf 18 = .ok (.istore 5, 2) := by decide +kernel
theorem dX1_moodsOf_20 : decode cX1_moodsOf 20 = .ok (.iload 5, 2) := by decide +kernel
theorem dX1_moodsOf_22 : decode cX1_moodsOf 22 = .ok (.bipush 10, 2) := by decide +kernel
theorem dX1_moodsOf_24 : decode cX1_moodsOf 24 = .ok (.if_icmp .ge 31, 3) := by decide +kernel
theorem dX1_moodsOf_55 : decode cX1_moodsOf 55 = .ok (.iload 4, 2) := by decide +kernel
theorem dX1_moodsOf_57 : decode cX1_moodsOf 57 = .ok (.istore_n 2, 1) := by decide +kernel
theorem dX1_moodsOf_58 : decode cX1_moodsOf 58 = .ok (.iinc 3 1, 3) := by decide +kernel
theorem dX1_moodsOf_61 : decode cX1_moodsOf 61 = .ok (.goto (-52), 3) := by decide +kernel
theorem dX1_moodsOf_27 : decode cX1_moodsOf 27 = .ok (.iload_n 2, 1) := by decide +kernel
theorem dX1_moodsOf_28 : decode cX1_moodsOf 28 = .ok (.iload 5, 2) := by decide +kernel
theorem dX1_moodsOf_30 : decode cX1_moodsOf 30 = .ok (.ishr, 1) := by decide +kernel
theorem dX1_moodsOf_31 : decode cX1_moodsOf 31 = .ok (.iconst 1, 1) := by decide +kernel
theorem dX1_moodsOf_32 : decode cX1_moodsOf 32 = .ok (.iand, 1) := by decide +kernel
theorem dX1_moodsOf_33 : decode cX1_moodsOf 33 = .ok (.iconst 1, 1) := by decide +kernel
theorem dX1_moodsOf_34 : decode cX1_moodsOf 34 = .ok (.if_icmp .ne 15, 3) := by decide +kernel
theorem dX1_moodsOf_49 : decode cX1_moodsOf 49 = .ok (.iinc 5 1, 3) := by decide +kernel
theorem dX1_moodsOf_52 : decode cX1_moodsOf 52 = .ok (.goto (-32), 3) := by decide +kernel
theorem dX1_moodsOf_37 : decode cX1_moodsOf 37 = .ok (.iload 4, 2) := by decide +kernel
theorem dX1_moodsOf_39 : decode cX1_moodsOf 39 = .ok (.aload_n 0, 1) := by decide +kernel
theorem dX1_moodsOf_40 : decode cX1_moodsOf 40 = .ok (.iload_n 3, 1) := by decide +kernel
theorem dX1_moodsOf_41 : decode cX1_moodsOf 41 = .ok (.iload 5, 2) := by decide +kernel
theorem dX1_moodsOf_43 : decode cX1_moodsOf 43 = .ok (.invokevirtual 66, 3) := by decide +kernel
theorem dX1_moodsOf_46 : decode cX1_moodsOf 46 = .ok (.ior, 1) := by decide +kernel
theorem dX1_moodsOf_47 : decode cX1_moodsOf 47 = .ok (.istore 4, 2) := by decide +kernel
theorem w_4_107 : (Cond.code yX1_moodsOf cX1_moodsOf 6 (some .int)) ∈ wsL_law := sk_mem (ck_4 _ (List.mem_of_getElem? (i := 107) rfl)) rfl
set_option maxHeartbeats 4000000 in
set_option maxRecDepth 100000 in
theorem c_moodsOf (l : Launch) (D : va_G) (cI cJ cC cZ cS : ClassId) (q : Nat → Nat) (gd : Nat) (gs : Nat) (e1 : Nat → Int32) (e2 : Nat → Int32) (e3 : Nat → Int32) (d : Nat) (hgd : gd ≤ 9) (hgs : gs ≤ 9) (hd : d < 9) : skM l yX1_moodsOf cX1_moodsOf 6 (some .int) 1 22 0 0 D (skT cI cJ cC cZ cS) [.ref (q 11), .int (nI d)] [(q 11, .inr (1, [.ref (q 10), .ref (q 67), .ref (q 68), .ref (q 69), .ref (q 70), .ref (q 71), .ref (q 72), .int (nI gd), .int (nI gs)])), (q 67, .inl (cI, 90, .inl e1)), (q 68, .inl (cI, 9, .inl e2)), (q 69, .inl (cI, 10, .inl e3))] (skI D (skT cI cJ cC cZ cS) (fun (r : Int32) (u : va_W) => u = [(q 11, .inr (1, [.ref (q 10), .ref (q 67), .ref (q 68), .ref (q 69), .ref (q 70), .ref (q 71), .ref (q 72), .int (nI gd), .int (nI gs)])), (q 67, .inl (cI, 90, .inl e1)), (q 68, .inl (cI, 9, .inl e2)), (q 69, .inl (cI, 10, .inl e3))])) := by
  refine skM_of (by decide +kernel) (Nat.le_of_ble_eq_true rfl) ?_
  intro p e s m below meth c A ls E hP hD hl
  obtain ⟨hx, hb, hr, hml, hlocks, hin, hown, hts, hK, hA⟩ := E
  have hown : s.vm.findClass RX1 = some m.cls := hown
  have hS : va_S A s.heap s.heap [] := va_S.rf
  have hl : lv_has ls 6 [(0, .ref (q 11)), (1, .int (nI d))] := hl
  refine lv_iconst (v := 1) hx hb dX1_moodsOf_0 (by decide) ?_
  refine lv_aload_n hx hb dX1_moodsOf_1 rfl (lv_at hl 0 rfl) ?_
  refine sk_get (v := .int (nI gs)) (C := RX1) (T := TX1) (N := 9) hx hb hts inlX1 hown hK hP 0 rfl rfl 8 (by decide) w_2_103 rfl dX1_moodsOf_2 ?_
  refine lv_ishl hx hb dX1_moodsOf_5 ?_
  refine lv_topi (fun v_1 ev_1 => ?_)
  refine lv_istore_n (lv' := [(2, .int v_1), (0, .ref (q 11)), (1, .int (nI d))]) hx hb dX1_moodsOf_6 rfl hl (by decide) rfl (fun ls hl => ?_)
  refine lv_iconst (v := 0) hx hb dX1_moodsOf_7 (by decide) ?_
  refine lv_istore_n (lv' := [(3, .int 0), (2, .int v_1), (0, .ref (q 11)), (1, .int (nI d))]) hx hb dX1_moodsOf_8 rfl hl (by decide) rfl (fun ls hl => ?_)
  have lp_2 : ∀ (n_3 : Nat) (i : Nat) (ms : Int32) (H : Heap) (locs : List Loc) (ls : Array Slot), d + 1 - i < n_3 → (i ≤ d + 1) → va_P D vwCl [(q 11, .inr (1, [.ref (q 10), .ref (q 67), .ref (q 68), .ref (q 69), .ref (q 70), .ref (q 71), .ref (q 72), .int (nI gd), .int (nI gs)])), (q 67, .inl (cI, 90, .inl e1)), (q 68, .inl (cI, 9, .inl e2)), (q 69, .inl (cI, 10, .inl e3))] H → va_D A [(q 11, .inr (1, [.ref (q 10), .ref (q 67), .ref (q 68), .ref (q 69), .ref (q 70), .ref (q 71), .ref (q 72), .int (nI gd), .int (nI gs)])), (q 67, .inl (cI, 90, .inl e1)), (q 68, .inl (cI, 9, .inl e2)), (q 69, .inl (cI, 10, .inl e3))] → va_S A s.heap H locs → lv_has ls 6 [(3, .int (nI i)), (2, .int ms), (0, .ref (q 11)), (1, .int (nI d))] → W p l e { frames := 1, cells := 0, slots := 0, locals := 22 } s m ([.ref (q 11), .int (nI d)] : List Value).toArray below meth c H locs 0 0 (MQ below (skI D (skT cI cJ cC cZ cS) (fun (r : Int32) (u : va_W) => u = [(q 11, .inr (1, [.ref (q 10), .ref (q 67), .ref (q 68), .ref (q 69), .ref (q 70), .ref (q 71), .ref (q 72), .int (nI gd), .int (nI gs)])), (q 67, .inl (cI, 90, .inl e1)), (q 68, .inl (cI, 9, .inl e2)), (q 69, .inl (cI, 10, .inl e3))]) A) ([.ref (q 11), .int (nI d)] : List Value).toArray s 0 0 A) (F0 m 9 ls []) := by
    intro n_3
    induction n_3 with
    | zero => intro i ms H locs ls hm; exact absurd hm (Nat.not_lt_zero _)
    | succ n_3 ih_lp_2 =>
      intro i ms H locs ls hm hi hP hD hS hl
      refine lv_iload_n hx hb dX1_moodsOf_9 rfl (lv_at hl 0 rfl) ?_
      refine lv_iload_n hx hb dX1_moodsOf_10 rfl (lv_at hl 3 rfl) ?_
      refine lv_icmp_gt (tgt := 64) hx hb dX1_moodsOf_11 (by decide) (fun c_4 => ?_) (fun c_4 => ?_)
      · have c_4 : d < i := (nlt d i (by omega) (by omega)).mp c_4
        refine lv_iload_n hx hb dX1_moodsOf_64 rfl (lv_at hl 1 rfl) ?_
        exact sk_iret hx hb hr rfl hlocks hK hP hD hS rfl (Nat.le_of_ble_eq_true rfl) (Nat.le_of_ble_eq_true rfl) dX1_moodsOf_65
      · have c_4 : ¬ (d < i) := fun h => c_4 ((nlt d i (by omega) (by omega)).mpr h)
        refine lv_iconst (v := 0) hx hb dX1_moodsOf_14 (by decide) ?_
        refine lv_istore (lv' := [(4, .int 0), (3, .int (nI i)), (2, .int ms), (0, .ref (q 11)), (1, .int (nI d))]) hx hb dX1_moodsOf_15 hl (by decide) rfl (fun ls hl => ?_)
        refine lv_iconst (v := 0) hx hb dX1_moodsOf_17 (by decide) ?_
        refine lv_istore (lv' := [(5, .int 0), (4, .int 0), (3, .int (nI i)), (2, .int ms), (0, .ref (q 11)), (1, .int (nI d))]) hx hb dX1_moodsOf_18 hl (by decide) rfl (fun ls hl => ?_)
        have lp_5 : ∀ (n_6 : Nat) (jj : Nat) (rc : Int32) (H : Heap) (locs : List Loc) (ls : Array Slot), 10 - jj < n_6 → (jj ≤ 10) → va_P D vwCl [(q 11, .inr (1, [.ref (q 10), .ref (q 67), .ref (q 68), .ref (q 69), .ref (q 70), .ref (q 71), .ref (q 72), .int (nI gd), .int (nI gs)])), (q 67, .inl (cI, 90, .inl e1)), (q 68, .inl (cI, 9, .inl e2)), (q 69, .inl (cI, 10, .inl e3))] H → va_D A [(q 11, .inr (1, [.ref (q 10), .ref (q 67), .ref (q 68), .ref (q 69), .ref (q 70), .ref (q 71), .ref (q 72), .int (nI gd), .int (nI gs)])), (q 67, .inl (cI, 90, .inl e1)), (q 68, .inl (cI, 9, .inl e2)), (q 69, .inl (cI, 10, .inl e3))] → va_S A s.heap H locs → lv_has ls 6 [(5, .int (nI jj)), (4, .int rc), (3, .int (nI i)), (2, .int ms), (0, .ref (q 11)), (1, .int (nI d))] → W p l e { frames := 1, cells := 0, slots := 0, locals := 22 } s m ([.ref (q 11), .int (nI d)] : List Value).toArray below meth c H locs 0 0 (MQ below (skI D (skT cI cJ cC cZ cS) (fun (r : Int32) (u : va_W) => u = [(q 11, .inr (1, [.ref (q 10), .ref (q 67), .ref (q 68), .ref (q 69), .ref (q 70), .ref (q 71), .ref (q 72), .int (nI gd), .int (nI gs)])), (q 67, .inl (cI, 90, .inl e1)), (q 68, .inl (cI, 9, .inl e2)), (q 69, .inl (cI, 10, .inl e3))]) A) ([.ref (q 11), .int (nI d)] : List Value).toArray s 0 0 A) (F0 m 20 ls []) := by
          intro n_6
          induction n_6 with
          | zero => intro jj rc H locs ls hm; exact absurd hm (Nat.not_lt_zero _)
          | succ n_6 ih_lp_5 =>
            intro jj rc H locs ls hm hjj hP hD hS hl
            refine lv_iload hx hb dX1_moodsOf_20 (lv_at hl 0 rfl) ?_
            refine lv_bipush (v := 10) hx hb dX1_moodsOf_22 (by decide) ?_
            refine lv_icmp_ge (tgt := 55) hx hb dX1_moodsOf_24 (by decide) (fun c_7 => ?_) (fun c_7 => ?_)
            · have c_7 : 10 ≤ jj := (nle 10 jj (by omega) (by omega)).mp c_7
              refine lv_iload hx hb dX1_moodsOf_55 (lv_at hl 1 rfl) ?_
              refine lv_istore_n (lv' := [(2, .int rc), (5, .int (nI jj)), (4, .int rc), (3, .int (nI i)), (0, .ref (q 11)), (1, .int (nI d))]) hx hb dX1_moodsOf_57 rfl hl (by decide) rfl (fun ls hl => ?_)
              refine lv_iinc (v := nI (i + 1)) (lv' := [(3, .int (nI (i + 1))), (2, .int rc), (5, .int (nI jj)), (4, .int rc), (0, .ref (q 11)), (1, .int (nI d))]) hx hb dX1_moodsOf_58 hl (k := 3) rfl (ninc i 1 (by decide)) (by decide) rfl (fun ls hl => ?_)
              refine lv_goto (tgt := 9) hx hb dX1_moodsOf_61 (by decide) ?_
              exact ih_lp_2 (i + 1) rc _ _ _ (by omega) (by omega) hP hD hS (lv_sub hl [0, 1, 4, 5] rfl)
            · have c_7 : ¬ (10 ≤ jj) := fun h => c_7 ((nle 10 jj (by omega) (by omega)).mpr h)
              refine lv_iload_n hx hb dX1_moodsOf_27 rfl (lv_at hl 3 rfl) ?_
              refine lv_iload hx hb dX1_moodsOf_28 (lv_at hl 0 rfl) ?_
              refine lv_ishr hx hb dX1_moodsOf_30 ?_
              refine lv_topi (fun v_8 ev_8 => ?_)
              refine lv_iconst (v := 1) hx hb dX1_moodsOf_31 (by decide) ?_
              refine lv_iand hx hb dX1_moodsOf_32 ?_
              refine lv_topi (fun v_9 ev_9 => ?_)
              refine lv_iconst (v := 1) hx hb dX1_moodsOf_33 (by decide) ?_
              refine lv_icmp_ne (tgt := 49) hx hb dX1_moodsOf_34 (by decide) (fun c_10 => ?_) (fun c_10 => ?_)
              · skip
                refine lv_iinc (v := nI (jj + 1)) (lv' := [(5, .int (nI (jj + 1))), (4, .int rc), (3, .int (nI i)), (2, .int ms), (0, .ref (q 11)), (1, .int (nI d))]) hx hb dX1_moodsOf_49 hl (k := 0) rfl (ninc jj 1 (by decide)) (by decide) rfl (fun ls hl => ?_)
                refine lv_goto (tgt := 20) hx hb dX1_moodsOf_52 (by decide) ?_
                exact ih_lp_5 (jj + 1) rc _ _ _ (by omega) (by omega) hP hD hS (lv_sub hl [0, 1, 2, 3, 4, 5] rfl)
              · skip
                refine lv_iload hx hb dX1_moodsOf_37 (lv_at hl 1 rfl) ?_
                refine lv_aload_n hx hb dX1_moodsOf_39 rfl (lv_at hl 4 rfl) ?_
                refine lv_iload_n hx hb dX1_moodsOf_40 rfl (lv_at hl 2 rfl) ?_
                refine lv_iload hx hb dX1_moodsOf_41 (lv_at hl 0 rfl) ?_
                refine sk_Vi (q0 := 0) (n := 2) (rest := [.int rc]) (wr := []) ⟨hx, hb, hml, hown, hts⟩ hl.1 (c_next l D cI cJ cC cZ cS q gd gs e1 e2 e3 i jj (by omega) (by omega)) w_4_57 w_4_59 w_0_20 w_1_13 w_4_60 (by decide +kernel) ⟨⟨(Nat.le_of_ble_eq_true rfl), (Nat.le_of_ble_eq_true rfl)⟩, (Nat.le_of_ble_eq_true rfl), (Nat.le_of_ble_eq_true rfl)⟩ hK hP hD hS hA [0, 1, 2, 3] [] rfl rfl (by decide +kernel) (by decide +kernel) (by decide +kernel) rfl rfl rfl rfl (Nat.le_of_ble_eq_true rfl) dX1_moodsOf_43 (fun r_11 u H locs hw hP hD hS => ?_)
                obtain rfl := hw
                have hP : va_P D vwCl [(q 11, .inr (1, [.ref (q 10), .ref (q 67), .ref (q 68), .ref (q 69), .ref (q 70), .ref (q 71), .ref (q 72), .int (nI gd), .int (nI gs)])), (q 67, .inl (cI, 90, .inl e1)), (q 68, .inl (cI, 9, .inl e2)), (q 69, .inl (cI, 10, .inl e3))] H := hP
                have hD : va_D A [(q 11, .inr (1, [.ref (q 10), .ref (q 67), .ref (q 68), .ref (q 69), .ref (q 70), .ref (q 71), .ref (q 72), .int (nI gd), .int (nI gs)])), (q 67, .inl (cI, 90, .inl e1)), (q 68, .inl (cI, 9, .inl e2)), (q 69, .inl (cI, 10, .inl e3))] := hD
                refine lv_ior hx hb dX1_moodsOf_46 ?_
                refine lv_topi (fun v_12 ev_12 => ?_)
                refine lv_istore (lv' := [(4, .int v_12), (5, .int (nI jj)), (3, .int (nI i)), (2, .int ms), (0, .ref (q 11)), (1, .int (nI d))]) hx hb dX1_moodsOf_47 hl (by decide) rfl (fun ls hl => ?_)
                refine lv_iinc (v := nI (jj + 1)) (lv' := [(5, .int (nI (jj + 1))), (4, .int v_12), (3, .int (nI i)), (2, .int ms), (0, .ref (q 11)), (1, .int (nI d))]) hx hb dX1_moodsOf_49 hl (k := 1) rfl (ninc jj 1 (by decide)) (by decide) rfl (fun ls hl => ?_)
                refine lv_goto (tgt := 20) hx hb dX1_moodsOf_52 (by decide) ?_
                exact ih_lp_5 (jj + 1) v_12 _ _ _ (by omega) (by omega) hP hD hS (lv_sub hl [0, 1, 2, 3, 4, 5] rfl)
        exact lp_5 (10 - 0 + 1) 0 0 _ _ _ (Nat.lt_succ_self _) (by omega) hP hD hS (lv_sub hl [0, 1, 2, 3, 4, 5] rfl)
  exact lp_2 (d + 1 - 0 + 1) 0 v_1 _ _ _ (Nat.lt_succ_self _) (by omega) hP hD hS (lv_sub hl [0, 1, 2, 3] rfl)
theorem dX1_takeFirst_0 : decode cX1_takeFirst 0 = .ok (.aload_n 0, 1) := by decide +kernel
theorem dX1_takeFirst_1 : decode cX1_takeFirst 1 = .ok (.getfield 35, 3) := by decide +kernel
theorem dX1_takeFirst_4 : decode cX1_takeFirst 4 = .ok (.istore_n 2, 1) := by decide +kernel
theorem dX1_takeFirst_5 : decode cX1_takeFirst 5 = .ok (.iconst 0, 1) := by decide +kernel
theorem dX1_takeFirst_6 : decode cX1_takeFirst 6 = .ok (.istore_n 3, 1) := by decide +kernel
theorem dX1_takeFirst_7 : decode cX1_takeFirst 7 = .ok (.iload_n 3, 1) := by decide +kernel
theorem dX1_takeFirst_8 : decode cX1_takeFirst 8 = .ok (.aload_n 0, 1) := by decide +kernel
theorem dX1_takeFirst_9 : decode cX1_takeFirst 9 = .ok (.getfield 31, 3) := by decide +kernel
theorem dX1_takeFirst_12 : decode cX1_takeFirst 12 = .ok (.if_icmp .ge 26, 3) := by decide +kernel
theorem dX1_takeFirst_38 : decode cX1_takeFirst 38 = .ok (.return_, 1) := by decide +kernel
theorem dX1_takeFirst_15 : decode cX1_takeFirst 15 = .ok (.aload_n 0, 1) := by decide +kernel
theorem dX1_takeFirst_16 : decode cX1_takeFirst 16 = .ok (.iload_n 3, 1) := by decide +kernel
theorem dX1_takeFirst_17 : decode cX1_takeFirst 17 = .ok (.iload_n 2, 1) := by decide +kernel
theorem dX1_takeFirst_18 : decode cX1_takeFirst 18 = .ok (.invokevirtual 66, 3) := by decide +kernel
theorem dX1_takeFirst_21 : decode cX1_takeFirst 21 = .ok (.invokestatic 70, 3) := by decide +kernel
theorem dX1_takeFirst_24 : decode cX1_takeFirst 24 = .ok (.bipush 10, 2) := by decide +kernel
theorem dX1_takeFirst_26 : decode cX1_takeFirst 26 = .ok (.irem, 1) := by decide +kernel
theorem dX1_takeFirst_27 : decode cX1_takeFirst 27 = .ok (.istore_n 2, 1) := by decide +kernel
theorem dX1_takeFirst_28 : decode cX1_takeFirst 28 = .ok (.aload_n 1, 1) := by decide +kernel
theorem dX1_takeFirst_29 : decode cX1_takeFirst 29 = .ok (.iload_n 3, 1) := by decide +kernel
theorem dX1_takeFirst_30 : decode cX1_takeFirst 30 = .ok (.iload_n 2, 1) := by decide +kernel
theorem dX1_takeFirst_31 : decode cX1_takeFirst 31 = .ok (.iastore, 1) := by decide +kernel
theorem dX1_takeFirst_32 : decode cX1_takeFirst 32 = .ok (.iinc 3 1, 3) := by decide +kernel
theorem dX1_takeFirst_35 : decode cX1_takeFirst 35 = .ok (.goto (-28), 3) := by decide +kernel
theorem w_4_116 : (Cond.methodLink RX1 70 yJ6_numberOfTrailingZeros_0f7a4) ∈ wsL_law := sk_mem (ck_4 _ (List.mem_of_getElem? (i := 116) rfl)) rfl
theorem w_4_117 : (Cond.static yJ6_numberOfTrailingZeros_0f7a4) ∈ wsL_law := sk_mem (ck_4 _ (List.mem_of_getElem? (i := 117) rfl)) rfl
theorem w_1_21 : (Cond.initialized RJ6) ∈ wsL_law := sk_mem (ck_1 _ (List.mem_of_getElem? (i := 21) rfl)) rfl
theorem w_4_115 : (Cond.code yX1_takeFirst cX1_takeFirst 4 none) ∈ wsL_law := sk_mem (ck_4 _ (List.mem_of_getElem? (i := 115) rfl)) rfl
set_option maxHeartbeats 4000000 in
set_option maxRecDepth 100000 in
theorem c_takeFirst (l : Launch) (D : va_G) (cI cJ cC cZ cS : ClassId) (q : Nat → Nat) (gd : Nat) (gs : Nat) (e1 : Nat → Int32) (e2 : Nat → Int32) (e3 : Nat → Int32) (rw : Nat) (ra : Nat → Int32) (hgd : gd ≤ 9) (hgs : gs ≤ 9) : skM l yX1_takeFirst cX1_takeFirst 4 none 1 22 0 0 D (skT cI cJ cC cZ cS) [.ref (q 11), .ref rw] [(q 11, .inr (1, [.ref (q 10), .ref (q 67), .ref (q 68), .ref (q 69), .ref (q 70), .ref (q 71), .ref (q 72), .int (nI gd), .int (nI gs)])), (q 67, .inl (cI, 90, .inl e1)), (q 68, .inl (cI, 9, .inl e2)), (q 69, .inl (cI, 10, .inl e3)), (rw, .inl (cI, 9, .inl ra))] (skV D (skT cI cJ cC cZ cS) (fun (u : va_W) => ∃ (ra2 : Nat → Int32), rowOk ra2 gd ∧ u = [(q 11, .inr (1, [.ref (q 10), .ref (q 67), .ref (q 68), .ref (q 69), .ref (q 70), .ref (q 71), .ref (q 72), .int (nI gd), .int (nI gs)])), (q 67, .inl (cI, 90, .inl e1)), (q 68, .inl (cI, 9, .inl e2)), (q 69, .inl (cI, 10, .inl e3)), (rw, .inl (cI, 9, .inl ra2))])) := by
  refine skM_of (by decide +kernel) (Nat.le_of_ble_eq_true rfl) ?_
  intro p e s m below meth c A ls E hP hD hl
  obtain ⟨hx, hb, hr, hml, hlocks, hin, hown, hts, hK, hA⟩ := E
  have hown : s.vm.findClass RX1 = some m.cls := hown
  have hS : va_S A s.heap s.heap [] := va_S.rf
  have hl : lv_has ls 4 [(0, .ref (q 11)), (1, .ref rw)] := hl
  refine lv_aload_n hx hb dX1_takeFirst_0 rfl (lv_at hl 0 rfl) ?_
  refine sk_get (v := .int (nI gs)) (C := RX1) (T := TX1) (N := 9) hx hb hts inlX1 hown hK hP 0 rfl rfl 8 (by decide) w_2_103 rfl dX1_takeFirst_1 ?_
  refine lv_istore_n (lv' := [(2, .int (nI gs)), (0, .ref (q 11)), (1, .ref rw)]) hx hb dX1_takeFirst_4 rfl hl (by decide) rfl (fun ls hl => ?_)
  refine lv_iconst (v := 0) hx hb dX1_takeFirst_5 (by decide) ?_
  refine lv_istore_n (lv' := [(3, .int 0), (2, .int (nI gs)), (0, .ref (q 11)), (1, .ref rw)]) hx hb dX1_takeFirst_6 rfl hl (by decide) rfl (fun ls hl => ?_)
  have lp_1 : ∀ (n_2 : Nat) (i : Nat) (ah : Nat) (rb : Nat → Int32) (H : Heap) (locs : List Loc) (ls : Array Slot), gd - i < n_2 → (i ≤ gd) → (ah < 10) → (rowOk rb i) → va_P D vwCl [(q 11, .inr (1, [.ref (q 10), .ref (q 67), .ref (q 68), .ref (q 69), .ref (q 70), .ref (q 71), .ref (q 72), .int (nI gd), .int (nI gs)])), (q 67, .inl (cI, 90, .inl e1)), (q 68, .inl (cI, 9, .inl e2)), (q 69, .inl (cI, 10, .inl e3)), (rw, .inl (cI, 9, .inl rb))] H → va_D A [(q 11, .inr (1, [.ref (q 10), .ref (q 67), .ref (q 68), .ref (q 69), .ref (q 70), .ref (q 71), .ref (q 72), .int (nI gd), .int (nI gs)])), (q 67, .inl (cI, 90, .inl e1)), (q 68, .inl (cI, 9, .inl e2)), (q 69, .inl (cI, 10, .inl e3)), (rw, .inl (cI, 9, .inl rb))] → va_S A s.heap H locs → lv_has ls 4 [(3, .int (nI i)), (2, .int (nI ah)), (0, .ref (q 11)), (1, .ref rw)] → W p l e { frames := 1, cells := 0, slots := 0, locals := 22 } s m ([.ref (q 11), .ref rw] : List Value).toArray below meth c H locs 0 0 (MQ below (skV D (skT cI cJ cC cZ cS) (fun (u : va_W) => ∃ (ra2 : Nat → Int32), rowOk ra2 gd ∧ u = [(q 11, .inr (1, [.ref (q 10), .ref (q 67), .ref (q 68), .ref (q 69), .ref (q 70), .ref (q 71), .ref (q 72), .int (nI gd), .int (nI gs)])), (q 67, .inl (cI, 90, .inl e1)), (q 68, .inl (cI, 9, .inl e2)), (q 69, .inl (cI, 10, .inl e3)), (rw, .inl (cI, 9, .inl ra2))]) A) ([.ref (q 11), .ref rw] : List Value).toArray s 0 0 A) (F0 m 7 ls []) := by
    intro n_2
    induction n_2 with
    | zero => intro i ah rb H locs ls hm; exact absurd hm (Nat.not_lt_zero _)
    | succ n_2 ih_lp_1 =>
      intro i ah rb H locs ls hm hi hah hro hP hD hS hl
      refine lv_iload_n hx hb dX1_takeFirst_7 rfl (lv_at hl 0 rfl) ?_
      refine lv_aload_n hx hb dX1_takeFirst_8 rfl (lv_at hl 2 rfl) ?_
      refine sk_get (v := .int (nI gd)) (C := RX1) (T := TX1) (N := 9) hx hb hts inlX1 hown hK hP 0 rfl rfl 7 (by decide) w_2_102 rfl dX1_takeFirst_9 ?_
      refine lv_icmp_ge (tgt := 38) hx hb dX1_takeFirst_12 (by decide) (fun c_3 => ?_) (fun c_3 => ?_)
      · have c_3 : gd ≤ i := (nle gd i (by omega) (by omega)).mp c_3
        exact sk_vret hx hb hr hlocks hK hP hD hS (⟨rb, by rw [show gd = i by omega]; exact hro, rfl⟩) (Nat.le_of_ble_eq_true rfl) (Nat.le_of_ble_eq_true rfl) dX1_takeFirst_38
      · have c_3 : ¬ (gd ≤ i) := fun h => c_3 ((nle gd i (by omega) (by omega)).mpr h)
        refine lv_aload_n hx hb dX1_takeFirst_15 rfl (lv_at hl 2 rfl) ?_
        refine lv_iload_n hx hb dX1_takeFirst_16 rfl (lv_at hl 0 rfl) ?_
        refine lv_iload_n hx hb dX1_takeFirst_17 rfl (lv_at hl 1 rfl) ?_
        refine sk_Vi (q0 := 0) (n := 2) (rest := []) (wr := [(rw, .inl (cI, 9, .inl rb))]) ⟨hx, hb, hml, hown, hts⟩ hl.1 (c_next l D cI cJ cC cZ cS q gd gs e1 e2 e3 i ah (by omega) (by omega)) w_4_57 w_4_59 w_0_20 w_1_13 w_4_60 (by decide +kernel) ⟨⟨(Nat.le_of_ble_eq_true rfl), (Nat.le_of_ble_eq_true rfl)⟩, (Nat.le_of_ble_eq_true rfl), (Nat.le_of_ble_eq_true rfl)⟩ hK hP hD hS hA [0, 1, 2, 3] [4] rfl rfl (by decide +kernel) (by decide +kernel) (by decide +kernel) rfl rfl rfl rfl (Nat.le_of_ble_eq_true rfl) dX1_takeFirst_18 (fun r_4 u H locs hw hP hD hS => ?_)
        obtain rfl := hw
        have hP : va_P D vwCl [(rw, .inl (cI, 9, .inl rb)), (q 11, .inr (1, [.ref (q 10), .ref (q 67), .ref (q 68), .ref (q 69), .ref (q 70), .ref (q 71), .ref (q 72), .int (nI gd), .int (nI gs)])), (q 67, .inl (cI, 90, .inl e1)), (q 68, .inl (cI, 9, .inl e2)), (q 69, .inl (cI, 10, .inl e3))] H := hP
        have hD : va_D A [(rw, .inl (cI, 9, .inl rb)), (q 11, .inr (1, [.ref (q 10), .ref (q 67), .ref (q 68), .ref (q 69), .ref (q 70), .ref (q 71), .ref (q 72), .int (nI gd), .int (nI gs)])), (q 67, .inl (cI, 90, .inl e1)), (q 68, .inl (cI, 9, .inl e2)), (q 69, .inl (cI, 10, .inl e3))] := hD
        refine sk_Si (n := 1) (rest := []) (wr := [(rw, .inl (cI, 9, .inl rb)), (q 11, .inr (1, [.ref (q 10), .ref (q 67), .ref (q 68), .ref (q 69), .ref (q 70), .ref (q 71), .ref (q 72), .int (nI gd), .int (nI gs)])), (q 67, .inl (cI, 90, .inl e1)), (q 68, .inl (cI, 9, .inl e2)), (q 69, .inl (cI, 10, .inl e3))]) ⟨hx, hb, hml, hown, hts⟩ hl.1 (c_ntz l D cI cJ cC cZ cS r_4) w_4_116 w_4_117 w_1_21 w_4_118 (by decide +kernel) ⟨⟨(Nat.le_of_ble_eq_true rfl), (Nat.le_of_ble_eq_true rfl)⟩, (Nat.le_of_ble_eq_true rfl), (Nat.le_of_ble_eq_true rfl)⟩ hK hP hD hS hA [] [0, 1, 2, 3, 4] rfl rfl (by decide +kernel) (by decide +kernel) (by decide +kernel) rfl rfl (Nat.le_of_ble_eq_true rfl) dX1_takeFirst_21 (fun r_6 u H locs hw hP hD hS => ?_)
        obtain ⟨v_5, hv_7, rfl, rfl⟩ := hw
        have hP : va_P D vwCl [(rw, .inl (cI, 9, .inl rb)), (q 11, .inr (1, [.ref (q 10), .ref (q 67), .ref (q 68), .ref (q 69), .ref (q 70), .ref (q 71), .ref (q 72), .int (nI gd), .int (nI gs)])), (q 67, .inl (cI, 90, .inl e1)), (q 68, .inl (cI, 9, .inl e2)), (q 69, .inl (cI, 10, .inl e3))] H := hP
        have hD : va_D A [(rw, .inl (cI, 9, .inl rb)), (q 11, .inr (1, [.ref (q 10), .ref (q 67), .ref (q 68), .ref (q 69), .ref (q 70), .ref (q 71), .ref (q 72), .int (nI gd), .int (nI gs)])), (q 67, .inl (cI, 90, .inl e1)), (q 68, .inl (cI, 9, .inl e2)), (q 69, .inl (cI, 10, .inl e3))] := hD
        refine lv_bipush (v := 10) hx hb dX1_takeFirst_24 (by decide) ?_
        refine lv_irem hx hb dX1_takeFirst_26 (by decide) ?_
        refine sk_top (nI (v_5 % 10)) (nrem v_5 10 (by omega) (by omega) (by omega)) ?_
        refine lv_istore_n (lv' := [(2, .int (nI (v_5 % 10))), (3, .int (nI i)), (0, .ref (q 11)), (1, .ref rw)]) hx hb dX1_takeFirst_27 rfl hl (by decide) rfl (fun ls hl => ?_)
        refine lv_aload_n hx hb dX1_takeFirst_28 rfl (lv_at hl 3 rfl) ?_
        refine lv_iload_n hx hb dX1_takeFirst_29 rfl (lv_at hl 1 rfl) ?_
        refine lv_iload_n hx hb dX1_takeFirst_30 rfl (lv_at hl 0 rfl) ?_
        refine sk_iast (ws' := [(rw, .inl (cI, 9, .inl (upd rb (nI i).toNatClampNeg (nI (v_5 % 10))))), (q 11, .inr (1, [.ref (q 10), .ref (q 67), .ref (q 68), .ref (q 69), .ref (q 70), .ref (q 71), .ref (q 72), .int (nI gd), .int (nI gs)])), (q 67, .inl (cI, 90, .inl e1)), (q 68, .inl (cI, 9, .inl e2)), (q 69, .inl (cI, 10, .inl e3))]) hx hb hK hP hD hS 0 0 rfl rfl (vin i 9 (by omega) (by omega)) rfl dX1_takeFirst_31 (fun H locs hP hD hS => ?_)
        have ho_9 := rowOk_up (f := rb) (i := i) (v := (v_5 % 10)) hro (by omega) (by omega)
        generalize ef_10 : upd rb (nI i).toNatClampNeg (nI (v_5 % 10)) = f_8 at hP hD ho_9
        refine lv_iinc (v := nI (i + 1)) (lv' := [(3, .int (nI (i + 1))), (2, .int (nI (v_5 % 10))), (0, .ref (q 11)), (1, .ref rw)]) hx hb dX1_takeFirst_32 hl (k := 1) rfl (ninc i 1 (by decide)) (by decide) rfl (fun ls hl => ?_)
        refine lv_goto (tgt := 7) hx hb dX1_takeFirst_35 (by decide) ?_
        have hP := hP.sub (ws' := [(q 11, .inr (1, [.ref (q 10), .ref (q 67), .ref (q 68), .ref (q 69), .ref (q 70), .ref (q 71), .ref (q 72), .int (nI gd), .int (nI gs)])), (q 67, .inl (cI, 90, .inl e1)), (q 68, .inl (cI, 9, .inl e2)), (q 69, .inl (cI, 10, .inl e3)), (rw, .inl (cI, 9, .inl f_8))]) [1, 2, 3, 4, 0] rfl
        have hD := hD.sub (ws' := [(q 11, .inr (1, [.ref (q 10), .ref (q 67), .ref (q 68), .ref (q 69), .ref (q 70), .ref (q 71), .ref (q 72), .int (nI gd), .int (nI gs)])), (q 67, .inl (cI, 90, .inl e1)), (q 68, .inl (cI, 9, .inl e2)), (q 69, .inl (cI, 10, .inl e3)), (rw, .inl (cI, 9, .inl f_8))]) [1, 2, 3, 4, 0] (by decide +kernel) rfl
        exact ih_lp_1 (i + 1) (v_5 % 10) f_8 _ _ _ (by omega) (by omega) (by omega) ho_9 hP hD hS (lv_sub hl [0, 1, 2, 3] rfl)
  exact lp_1 (gd - 0 + 1) 0 gs ra _ _ _ (Nat.lt_succ_self _) (by omega) (by omega) (rowOk_0 _) hP hD hS (lv_sub hl [0, 1, 2, 3] rfl)
theorem dX1_countWays_0 : decode cX1_countWays 0 = .ok (.iconst 0, 1) := by decide +kernel
theorem dX1_countWays_1 : decode cX1_countWays 1 = .ok (.istore_n 1, 1) := by decide +kernel
theorem dX1_countWays_2 : decode cX1_countWays 2 = .ok (.iload_n 1, 1) := by decide +kernel
theorem dX1_countWays_3 : decode cX1_countWays 3 = .ok (.bipush 10, 2) := by decide +kernel
theorem dX1_countWays_5 : decode cX1_countWays 5 = .ok (.if_icmp .ge 24, 3) := by decide +kernel
theorem dX1_countWays_29 : decode cX1_countWays 29 = .ok (.aload_n 0, 1) := by decide +kernel
theorem dX1_countWays_30 : decode cX1_countWays 30 = .ok (.getfield 31, 3) := by decide +kernel
theorem dX1_countWays_33 : decode cX1_countWays 33 = .ok (.iconst 1, 1) := by decide +kernel
theorem dX1_countWays_34 : decode cX1_countWays 34 = .ok (.isub, 1) := by decide +kernel
theorem dX1_countWays_35 : decode cX1_countWays 35 = .ok (.istore_n 1, 1) := by decide +kernel
theorem dX1_countWays_36 : decode cX1_countWays 36 = .ok (.iload_n 1, 1) := by decide +kernel
theorem dX1_countWays_37 : decode cX1_countWays 37 = .ok (.ifCond .lt 95, 3) := by decide +kernel
theorem dX1_countWays_132 : decode cX1_countWays 132 = .ok (.aload_n 0, 1) := by decide +kernel
theorem dX1_countWays_133 : decode cX1_countWays 133 = .ok (.getfield 21, 3) := by decide +kernel
theorem dX1_countWays_136 : decode cX1_countWays 136 = .ok (.aload_n 0, 1) := by decide +kernel
theorem dX1_countWays_137 : decode cX1_countWays 137 = .ok (.getfield 35, 3) := by decide +kernel
theorem dX1_countWays_140 : decode cX1_countWays 140 = .ok (.laload, 1) := by decide +kernel
theorem dX1_countWays_141 : decode cX1_countWays 141 = .ok (.lreturn, 1) := by decide +kernel
theorem dX1_countWays_40 : decode cX1_countWays 40 = .ok (.iconst 0, 1) := by decide +kernel
theorem dX1_countWays_41 : decode cX1_countWays 41 = .ok (.istore_n 2, 1) := by decide +kernel
theorem dX1_countWays_42 : decode cX1_countWays 42 = .ok (.iload_n 2, 1) := by decide +kernel
theorem dX1_countWays_43 : decode cX1_countWays 43 = .ok (.bipush 10, 2) := by decide +kernel
theorem dX1_countWays_45 : decode cX1_countWays 45 = .ok (.if_icmp .ge 81, 3) := by decide +kernel
theorem dX1_countWays_126 : decode cX1_countWays 126 = .ok (.iinc 1 (-1), 3) := by decide +kernel
theorem dX1_countWays_129 : decode cX1_countWays 129 = .ok (.goto (-93), 3) := by decide +kernel
theorem dX1_countWays_48 : decode cX1_countWays 48 = .ok (.aload_n 0, 1) := by decide +kernel
theorem dX1_countWays_49 : decode cX1_countWays 49 = .ok (.iload_n 1, 1) := by decide +kernel
theorem dX1_countWays_50 : decode cX1_countWays 50 = .ok (.iload_n 2, 1) := by decide +kernel
theorem dX1_countWays_51 : decode cX1_countWays 51 = .ok (.invokevirtual 66, 3) := by decide +kernel
theorem dX1_countWays_54 : decode cX1_countWays 54 = .ok (.istore_n 3, 1) := by decide +kernel
theorem dX1_countWays_55 : decode cX1_countWays 55 = .ok (.lconst 0, 1) := by decide +kernel
theorem dX1_countWays_56 : decode cX1_countWays 56 = .ok (.lstore 4, 2) := by decide +kernel
theorem dX1_countWays_58 : decode cX1_countWays 58 = .ok (.iconst 0, 1) := by decide +kernel
theorem dX1_countWays_59 : decode cX1_countWays 59 = .ok (.istore 6, 2) := by decide +kernel
theorem dX1_countWays_61 : decode cX1_countWays 61 = .ok (.iload 6, 2) := by decide +kernel
theorem dX1_countWays_63 : decode cX1_countWays 63 = .ok (.bipush 10, 2) := by decide +kernel
theorem dX1_countWays_65 : decode cX1_countWays 65 = .ok (.if_icmp .ge 42, 3) := by decide +kernel
theorem dX1_countWays_107 : decode cX1_countWays 107 = .ok (.aload_n 0, 1) := by decide +kernel
theorem dX1_countWays_108 : decode cX1_countWays 108 = .ok (.getfield 21, 3) := by decide +kernel
theorem dX1_countWays_111 : decode cX1_countWays 111 = .ok (.iload_n 1, 1) := by decide +kernel
theorem dX1_countWays_112 : decode cX1_countWays 112 = .ok (.bipush 10, 2) := by decide +kernel
theorem dX1_countWays_114 : decode cX1_countWays 114 = .ok (.imul, 1) := by decide +kernel
theorem dX1_countWays_115 : decode cX1_countWays 115 = .ok (.iload_n 2, 1) := by decide +kernel
theorem dX1_countWays_116 : decode cX1_countWays 116 = .ok (.iadd, 1) := by decide +kernel
theorem dX1_countWays_117 : decode cX1_countWays 117 = .ok (.lload 4, 2) := by decide +kernel
theorem dX1_countWays_119 : decode cX1_countWays 119 = .ok (.lastore, 1) := by decide +kernel
theorem dX1_countWays_120 : decode cX1_countWays 120 = .ok (.iinc 2 1, 3) := by decide +kernel
theorem dX1_countWays_123 : decode cX1_countWays 123 = .ok (.goto (-81), 3) := by decide +kernel
theorem dX1_countWays_68 : decode cX1_countWays 68 = .ok (.lload 4, 2) := by decide +kernel
theorem dX1_countWays_70 : decode cX1_countWays 70 = .ok (.iload_n 3, 1) := by decide +kernel
theorem dX1_countWays_71 : decode cX1_countWays 71 = .ok (.iload 6, 2) := by decide +kernel
theorem dX1_countWays_73 : decode cX1_countWays 73 = .ok (.ishr, 1) := by decide +kernel
theorem dX1_countWays_74 : decode cX1_countWays 74 = .ok (.iconst 1, 1) := by decide +kernel
theorem dX1_countWays_75 : decode cX1_countWays 75 = .ok (.iand, 1) := by decide +kernel
theorem dX1_countWays_76 : decode cX1_countWays 76 = .ok (.iconst 1, 1) := by decide +kernel
theorem dX1_countWays_77 : decode cX1_countWays 77 = .ok (.if_icmp .ne 20, 3) := by decide +kernel
theorem dX1_countWays_97 : decode cX1_countWays 97 = .ok (.lconst 0, 1) := by decide +kernel
theorem dX1_countWays_98 : decode cX1_countWays 98 = .ok (.ladd, 1) := by decide +kernel
theorem dX1_countWays_99 : decode cX1_countWays 99 = .ok (.lstore 4, 2) := by decide +kernel
theorem dX1_countWays_101 : decode cX1_countWays 101 = .ok (.iinc 6 1, 3) := by decide +kernel
theorem dX1_countWays_104 : decode cX1_countWays 104 = .ok (.goto (-43), 3) := by decide +kernel
theorem dX1_countWays_80 : decode cX1_countWays 80 = .ok (.aload_n 0, 1) := by decide +kernel
theorem dX1_countWays_81 : decode cX1_countWays 81 = .ok (.getfield 21, 3) := by decide +kernel
theorem dX1_countWays_84 : decode cX1_countWays 84 = .ok (.iload_n 1, 1) := by decide +kernel
theorem dX1_countWays_85 : decode cX1_countWays 85 = .ok (.iconst 1, 1) := by decide +kernel
theorem dX1_countWays_86 : decode cX1_countWays 86 = .ok (.iadd, 1) := by decide +kernel
theorem dX1_countWays_87 : decode cX1_countWays 87 = .ok (.bipush 10, 2) := by decide +kernel
theorem dX1_countWays_89 : decode cX1_countWays 89 = .ok (.imul, 1) := by decide +kernel
theorem dX1_countWays_90 : decode cX1_countWays 90 = .ok (.iload 6, 2) := by decide +kernel
theorem dX1_countWays_92 : decode cX1_countWays 92 = .ok (.iadd, 1) := by decide +kernel
theorem dX1_countWays_93 : decode cX1_countWays 93 = .ok (.laload, 1) := by decide +kernel
theorem dX1_countWays_94 : decode cX1_countWays 94 = .ok (.goto 4, 3) := by decide +kernel
theorem dX1_countWays_8 : decode cX1_countWays 8 = .ok (.aload_n 0, 1) := by decide +kernel
theorem dX1_countWays_9 : decode cX1_countWays 9 = .ok (.getfield 21, 3) := by decide +kernel
theorem dX1_countWays_12 : decode cX1_countWays 12 = .ok (.aload_n 0, 1) := by decide +kernel
theorem dX1_countWays_13 : decode cX1_countWays 13 = .ok (.getfield 31, 3) := by decide +kernel
theorem dX1_countWays_16 : decode cX1_countWays 16 = .ok (.bipush 10, 2) := by decide +kernel
theorem dX1_countWays_18 : decode cX1_countWays 18 = .ok (.imul, 1) := by decide +kernel
theorem dX1_countWays_19 : decode cX1_countWays 19 = .ok (.iload_n 1, 1) := by decide +kernel
theorem dX1_countWays_20 : decode cX1_countWays 20 = .ok (.iadd, 1) := by decide +kernel
theorem dX1_countWays_21 : decode cX1_countWays 21 = .ok (.lconst 1, 1) := by decide +kernel
theorem dX1_countWays_22 : decode cX1_countWays 22 = .ok (.lastore, 1) := by decide +kernel
theorem dX1_countWays_23 : decode cX1_countWays 23 = .ok (.iinc 1 1, 3) := by decide +kernel
theorem dX1_countWays_26 : decode cX1_countWays 26 = .ok (.goto (-24), 3) := by decide +kernel
theorem w_2_99 : (Cond.fieldLink RX1 21 "SameKeeper$Graph" "ways" "[J") ∈ wsL_law := sk_mem (ck_2 _ (List.mem_of_getElem? (i := 99) rfl)) rfl
theorem w_4_64 : (Cond.code yX1_countWays cX1_countWays 7 (some .long)) ∈ wsL_law := sk_mem (ck_4 _ (List.mem_of_getElem? (i := 64) rfl)) rfl
set_option maxHeartbeats 4000000 in
set_option maxRecDepth 100000 in
theorem c_countWays (l : Launch) (D : va_G) (cI cJ cC cZ cS : ClassId) (q : Nat → Nat) (gd : Nat) (gs : Nat) (e1 : Nat → Int32) (e2 : Nat → Int32) (e3 : Nat → Int32) (e4 : Nat → Int64) (hgd : gd ≤ 9) (hgs : gs ≤ 9) : skM l yX1_countWays cX1_countWays 7 (some .long) 1 22 0 0 D (skT cI cJ cC cZ cS) [.ref (q 11)] [(q 11, .inr (1, [.ref (q 10), .ref (q 67), .ref (q 68), .ref (q 69), .ref (q 70), .ref (q 71), .ref (q 72), .int (nI gd), .int (nI gs)])), (q 67, .inl (cI, 90, .inl e1)), (q 68, .inl (cI, 9, .inl e2)), (q 69, .inl (cI, 10, .inl e3)), (q 70, .inl (cJ, 100, .inr (.inl e4)))] (skL D (skT cI cJ cC cZ cS) (fun (r : Int64) (u : va_W) => ∃ (g4 : Nat → Int64), u = [(q 11, .inr (1, [.ref (q 10), .ref (q 67), .ref (q 68), .ref (q 69), .ref (q 70), .ref (q 71), .ref (q 72), .int (nI gd), .int (nI gs)])), (q 67, .inl (cI, 90, .inl e1)), (q 68, .inl (cI, 9, .inl e2)), (q 69, .inl (cI, 10, .inl e3)), (q 70, .inl (cJ, 100, .inr (.inl g4)))])) := by
  refine skM_of (by decide +kernel) (Nat.le_of_ble_eq_true rfl) ?_
  intro p e s m below meth c A ls E hP hD hl
  obtain ⟨hx, hb, hr, hml, hlocks, hin, hown, hts, hK, hA⟩ := E
  have hown : s.vm.findClass RX1 = some m.cls := hown
  have hS : va_S A s.heap s.heap [] := va_S.rf
  have hl : lv_has ls 7 [(0, .ref (q 11))] := hl
  refine lv_iconst (v := 0) hx hb dX1_countWays_0 (by decide) ?_
  refine lv_istore_n (lv' := [(1, .int 0), (0, .ref (q 11))]) hx hb dX1_countWays_1 rfl hl (by decide) rfl (fun ls hl => ?_)
  have lp_1 : ∀ (n_2 : Nat) (i : Nat) (a4 : Nat → Int64) (H : Heap) (locs : List Loc) (ls : Array Slot), 10 - i < n_2 → (i ≤ 10) → va_P D vwCl [(q 11, .inr (1, [.ref (q 10), .ref (q 67), .ref (q 68), .ref (q 69), .ref (q 70), .ref (q 71), .ref (q 72), .int (nI gd), .int (nI gs)])), (q 67, .inl (cI, 90, .inl e1)), (q 68, .inl (cI, 9, .inl e2)), (q 69, .inl (cI, 10, .inl e3)), (q 70, .inl (cJ, 100, .inr (.inl a4)))] H → va_D A [(q 11, .inr (1, [.ref (q 10), .ref (q 67), .ref (q 68), .ref (q 69), .ref (q 70), .ref (q 71), .ref (q 72), .int (nI gd), .int (nI gs)])), (q 67, .inl (cI, 90, .inl e1)), (q 68, .inl (cI, 9, .inl e2)), (q 69, .inl (cI, 10, .inl e3)), (q 70, .inl (cJ, 100, .inr (.inl a4)))] → va_S A s.heap H locs → lv_has ls 7 [(1, .int (nI i)), (0, .ref (q 11))] → W p l e { frames := 1, cells := 0, slots := 0, locals := 22 } s m ([.ref (q 11)] : List Value).toArray below meth c H locs 0 0 (MQ below (skL D (skT cI cJ cC cZ cS) (fun (r : Int64) (u : va_W) => ∃ (g4 : Nat → Int64), u = [(q 11, .inr (1, [.ref (q 10), .ref (q 67), .ref (q 68), .ref (q 69), .ref (q 70), .ref (q 71), .ref (q 72), .int (nI gd), .int (nI gs)])), (q 67, .inl (cI, 90, .inl e1)), (q 68, .inl (cI, 9, .inl e2)), (q 69, .inl (cI, 10, .inl e3)), (q 70, .inl (cJ, 100, .inr (.inl g4)))]) A) ([.ref (q 11)] : List Value).toArray s 0 0 A) (F0 m 2 ls []) := by
    intro n_2
    induction n_2 with
    | zero => intro i a4 H locs ls hm; exact absurd hm (Nat.not_lt_zero _)
    | succ n_2 ih_lp_1 =>
      intro i a4 H locs ls hm hi hP hD hS hl
      refine lv_iload_n hx hb dX1_countWays_2 rfl (lv_at hl 0 rfl) ?_
      refine lv_bipush (v := 10) hx hb dX1_countWays_3 (by decide) ?_
      refine lv_icmp_ge (tgt := 29) hx hb dX1_countWays_5 (by decide) (fun c_3 => ?_) (fun c_3 => ?_)
      · have c_3 : 10 ≤ i := (nle 10 i (by omega) (by omega)).mp c_3
        refine lv_aload_n hx hb dX1_countWays_29 rfl (lv_at hl 1 rfl) ?_
        refine sk_get (v := .int (nI gd)) (C := RX1) (T := TX1) (N := 9) hx hb hts inlX1 hown hK hP 0 rfl rfl 7 (by decide) w_2_102 rfl dX1_countWays_30 ?_
        refine lv_iconst (v := 1) hx hb dX1_countWays_33 (by decide) ?_
        refine lv_isub hx hb dX1_countWays_34 ?_
        refine lv_istore_n (lv' := [(1, .int (nI gd - 1)), (0, .ref (q 11))]) hx hb dX1_countWays_35 rfl hl (by decide) rfl (fun ls hl => ?_)
        have lp_4 : ∀ (n_5 : Nat) (dd : Nat) (b4 : Nat → Int64) (H : Heap) (locs : List Loc) (ls : Array Slot), dd < n_5 → (dd ≤ 9) → va_P D vwCl [(q 11, .inr (1, [.ref (q 10), .ref (q 67), .ref (q 68), .ref (q 69), .ref (q 70), .ref (q 71), .ref (q 72), .int (nI gd), .int (nI gs)])), (q 67, .inl (cI, 90, .inl e1)), (q 68, .inl (cI, 9, .inl e2)), (q 69, .inl (cI, 10, .inl e3)), (q 70, .inl (cJ, 100, .inr (.inl b4)))] H → va_D A [(q 11, .inr (1, [.ref (q 10), .ref (q 67), .ref (q 68), .ref (q 69), .ref (q 70), .ref (q 71), .ref (q 72), .int (nI gd), .int (nI gs)])), (q 67, .inl (cI, 90, .inl e1)), (q 68, .inl (cI, 9, .inl e2)), (q 69, .inl (cI, 10, .inl e3)), (q 70, .inl (cJ, 100, .inr (.inl b4)))] → va_S A s.heap H locs → lv_has ls 7 [(1, .int (nI dd - 1)), (0, .ref (q 11))] → W p l e { frames := 1, cells := 0, slots := 0, locals := 22 } s m ([.ref (q 11)] : List Value).toArray below meth c H locs 0 0 (MQ below (skL D (skT cI cJ cC cZ cS) (fun (r : Int64) (u : va_W) => ∃ (g4 : Nat → Int64), u = [(q 11, .inr (1, [.ref (q 10), .ref (q 67), .ref (q 68), .ref (q 69), .ref (q 70), .ref (q 71), .ref (q 72), .int (nI gd), .int (nI gs)])), (q 67, .inl (cI, 90, .inl e1)), (q 68, .inl (cI, 9, .inl e2)), (q 69, .inl (cI, 10, .inl e3)), (q 70, .inl (cJ, 100, .inr (.inl g4)))]) A) ([.ref (q 11)] : List Value).toArray s 0 0 A) (F0 m 36 ls []) := by
          intro n_5
          induction n_5 with
          | zero => intro dd b4 H locs ls hm; exact absurd hm (Nat.not_lt_zero _)
          | succ n_5 ih_lp_4 =>
            intro dd b4 H locs ls hm hdd hP hD hS hl
            refine lv_iload_n hx hb dX1_countWays_36 rfl (lv_at hl 0 rfl) ?_
            refine lv_if_lt (tgt := 132) hx hb dX1_countWays_37 (by decide) (fun c_6 => ?_) (fun c_6 => ?_)
            · have c_6 : dd = 0 := npm0 dd (by omega) c_6
              refine lv_aload_n hx hb dX1_countWays_132 rfl (lv_at hl 1 rfl) ?_
              refine sk_get (v := .ref (q 70)) (C := RX1) (T := TX1) (N := 9) hx hb hts inlX1 hown hK hP 0 rfl rfl 4 (by decide) w_2_99 rfl dX1_countWays_133 ?_
              refine lv_aload_n hx hb dX1_countWays_136 rfl (lv_at hl 1 rfl) ?_
              refine sk_get (v := .int (nI gs)) (C := RX1) (T := TX1) (N := 9) hx hb hts inlX1 hown hK hP 0 rfl rfl 8 (by decide) w_2_103 rfl dX1_countWays_137 ?_
              refine va_lald hx hb hK.1 hP 4 1 rfl rfl (vin gs 100 (by omega) (by omega)) dX1_countWays_140 ?_
              refine lv_topl (fun v_7 ev_7 => ?_)
              exact sk_lret hx hb hr hlocks hK hP hD hS (⟨b4, rfl⟩) (Nat.le_of_ble_eq_true rfl) (Nat.le_of_ble_eq_true rfl) dX1_countWays_141
            · have c_6 : 1 ≤ dd := npm1 dd c_6
              rw [npred dd (by omega)] at hl
              refine lv_iconst (v := 0) hx hb dX1_countWays_40 (by decide) ?_
              refine lv_istore_n (lv' := [(2, .int 0), (1, .int (nI (dd - 1))), (0, .ref (q 11))]) hx hb dX1_countWays_41 rfl hl (by decide) rfl (fun ls hl => ?_)
              have lp_8 : ∀ (n_9 : Nat) (jj : Nat) (c4 : Nat → Int64) (H : Heap) (locs : List Loc) (ls : Array Slot), 10 - jj < n_9 → (jj ≤ 10) → va_P D vwCl [(q 11, .inr (1, [.ref (q 10), .ref (q 67), .ref (q 68), .ref (q 69), .ref (q 70), .ref (q 71), .ref (q 72), .int (nI gd), .int (nI gs)])), (q 67, .inl (cI, 90, .inl e1)), (q 68, .inl (cI, 9, .inl e2)), (q 69, .inl (cI, 10, .inl e3)), (q 70, .inl (cJ, 100, .inr (.inl c4)))] H → va_D A [(q 11, .inr (1, [.ref (q 10), .ref (q 67), .ref (q 68), .ref (q 69), .ref (q 70), .ref (q 71), .ref (q 72), .int (nI gd), .int (nI gs)])), (q 67, .inl (cI, 90, .inl e1)), (q 68, .inl (cI, 9, .inl e2)), (q 69, .inl (cI, 10, .inl e3)), (q 70, .inl (cJ, 100, .inr (.inl c4)))] → va_S A s.heap H locs → lv_has ls 7 [(2, .int (nI jj)), (1, .int (nI (dd - 1))), (0, .ref (q 11))] → W p l e { frames := 1, cells := 0, slots := 0, locals := 22 } s m ([.ref (q 11)] : List Value).toArray below meth c H locs 0 0 (MQ below (skL D (skT cI cJ cC cZ cS) (fun (r : Int64) (u : va_W) => ∃ (g4 : Nat → Int64), u = [(q 11, .inr (1, [.ref (q 10), .ref (q 67), .ref (q 68), .ref (q 69), .ref (q 70), .ref (q 71), .ref (q 72), .int (nI gd), .int (nI gs)])), (q 67, .inl (cI, 90, .inl e1)), (q 68, .inl (cI, 9, .inl e2)), (q 69, .inl (cI, 10, .inl e3)), (q 70, .inl (cJ, 100, .inr (.inl g4)))]) A) ([.ref (q 11)] : List Value).toArray s 0 0 A) (F0 m 42 ls []) := by
                intro n_9
                induction n_9 with
                | zero => intro jj c4 H locs ls hm; exact absurd hm (Nat.not_lt_zero _)
                | succ n_9 ih_lp_8 =>
                  intro jj c4 H locs ls hm hjj hP hD hS hl
                  refine lv_iload_n hx hb dX1_countWays_42 rfl (lv_at hl 0 rfl) ?_
                  refine lv_bipush (v := 10) hx hb dX1_countWays_43 (by decide) ?_
                  refine lv_icmp_ge (tgt := 126) hx hb dX1_countWays_45 (by decide) (fun c_10 => ?_) (fun c_10 => ?_)
                  · have c_10 : 10 ≤ jj := (nle 10 jj (by omega) (by omega)).mp c_10
                    refine lv_iinc (v := nI (dd - 1) - 1) (lv' := [(1, .int (nI (dd - 1) - 1)), (2, .int (nI jj)), (0, .ref (q 11))]) hx hb dX1_countWays_126 hl (k := 1) rfl (ndn _) (by decide) rfl (fun ls hl => ?_)
                    refine lv_goto (tgt := 36) hx hb dX1_countWays_129 (by decide) ?_
                    exact ih_lp_4 (dd - 1) c4 _ _ _ (by omega) (by omega) hP hD hS (lv_sub hl [0, 2] rfl)
                  · have c_10 : ¬ (10 ≤ jj) := fun h => c_10 ((nle 10 jj (by omega) (by omega)).mpr h)
                    refine lv_aload_n hx hb dX1_countWays_48 rfl (lv_at hl 2 rfl) ?_
                    refine lv_iload_n hx hb dX1_countWays_49 rfl (lv_at hl 1 rfl) ?_
                    refine lv_iload_n hx hb dX1_countWays_50 rfl (lv_at hl 0 rfl) ?_
                    refine sk_Vi (q0 := 0) (n := 2) (rest := []) (wr := [(q 70, .inl (cJ, 100, .inr (.inl c4)))]) ⟨hx, hb, hml, hown, hts⟩ hl.1 (c_next l D cI cJ cC cZ cS q gd gs e1 e2 e3 (dd - 1) jj (by omega) (by omega)) w_4_57 w_4_59 w_0_20 w_1_13 w_4_60 (by decide +kernel) ⟨⟨(Nat.le_of_ble_eq_true rfl), (Nat.le_of_ble_eq_true rfl)⟩, (Nat.le_of_ble_eq_true rfl), (Nat.le_of_ble_eq_true rfl)⟩ hK hP hD hS hA [0, 1, 2, 3] [4] rfl rfl (by decide +kernel) (by decide +kernel) (by decide +kernel) rfl rfl rfl rfl (Nat.le_of_ble_eq_true rfl) dX1_countWays_51 (fun r_11 u H locs hw hP hD hS => ?_)
                    obtain rfl := hw
                    have hP : va_P D vwCl [(q 70, .inl (cJ, 100, .inr (.inl c4))), (q 11, .inr (1, [.ref (q 10), .ref (q 67), .ref (q 68), .ref (q 69), .ref (q 70), .ref (q 71), .ref (q 72), .int (nI gd), .int (nI gs)])), (q 67, .inl (cI, 90, .inl e1)), (q 68, .inl (cI, 9, .inl e2)), (q 69, .inl (cI, 10, .inl e3))] H := hP
                    have hD : va_D A [(q 70, .inl (cJ, 100, .inr (.inl c4))), (q 11, .inr (1, [.ref (q 10), .ref (q 67), .ref (q 68), .ref (q 69), .ref (q 70), .ref (q 71), .ref (q 72), .int (nI gd), .int (nI gs)])), (q 67, .inl (cI, 90, .inl e1)), (q 68, .inl (cI, 9, .inl e2)), (q 69, .inl (cI, 10, .inl e3))] := hD
                    refine lv_istore_n (lv' := [(3, .int r_11), (2, .int (nI jj)), (1, .int (nI (dd - 1))), (0, .ref (q 11))]) hx hb dX1_countWays_54 rfl hl (by decide) rfl (fun ls hl => ?_)
                    refine lv_lconst (v := 0) hx hb dX1_countWays_55 (by decide) ?_
                    refine lv_lstore (lv' := [(4, .long 0), (3, .int r_11), (2, .int (nI jj)), (1, .int (nI (dd - 1))), (0, .ref (q 11))]) hx hb dX1_countWays_56 hl (by decide) rfl (fun ls hl => ?_)
                    refine lv_iconst (v := 0) hx hb dX1_countWays_58 (by decide) ?_
                    refine lv_istore (lv' := [(6, .int 0), (4, .long 0), (3, .int r_11), (2, .int (nI jj)), (1, .int (nI (dd - 1))), (0, .ref (q 11))]) hx hb dX1_countWays_59 hl (by decide) rfl (fun ls hl => ?_)
                    have lp_12 : ∀ (n_13 : Nat) (kk : Nat) (sm : Int64) (H : Heap) (locs : List Loc) (ls : Array Slot), 10 - kk < n_13 → (kk ≤ 10) → va_P D vwCl [(q 70, .inl (cJ, 100, .inr (.inl c4))), (q 11, .inr (1, [.ref (q 10), .ref (q 67), .ref (q 68), .ref (q 69), .ref (q 70), .ref (q 71), .ref (q 72), .int (nI gd), .int (nI gs)])), (q 67, .inl (cI, 90, .inl e1)), (q 68, .inl (cI, 9, .inl e2)), (q 69, .inl (cI, 10, .inl e3))] H → va_D A [(q 70, .inl (cJ, 100, .inr (.inl c4))), (q 11, .inr (1, [.ref (q 10), .ref (q 67), .ref (q 68), .ref (q 69), .ref (q 70), .ref (q 71), .ref (q 72), .int (nI gd), .int (nI gs)])), (q 67, .inl (cI, 90, .inl e1)), (q 68, .inl (cI, 9, .inl e2)), (q 69, .inl (cI, 10, .inl e3))] → va_S A s.heap H locs → lv_has ls 7 [(6, .int (nI kk)), (4, .long sm), (3, .int r_11), (2, .int (nI jj)), (1, .int (nI (dd - 1))), (0, .ref (q 11))] → W p l e { frames := 1, cells := 0, slots := 0, locals := 22 } s m ([.ref (q 11)] : List Value).toArray below meth c H locs 0 0 (MQ below (skL D (skT cI cJ cC cZ cS) (fun (r : Int64) (u : va_W) => ∃ (g4 : Nat → Int64), u = [(q 11, .inr (1, [.ref (q 10), .ref (q 67), .ref (q 68), .ref (q 69), .ref (q 70), .ref (q 71), .ref (q 72), .int (nI gd), .int (nI gs)])), (q 67, .inl (cI, 90, .inl e1)), (q 68, .inl (cI, 9, .inl e2)), (q 69, .inl (cI, 10, .inl e3)), (q 70, .inl (cJ, 100, .inr (.inl g4)))]) A) ([.ref (q 11)] : List Value).toArray s 0 0 A) (F0 m 61 ls []) := by
                      intro n_13
                      induction n_13 with
                      | zero => intro kk sm H locs ls hm; exact absurd hm (Nat.not_lt_zero _)
                      | succ n_13 ih_lp_12 =>
                        intro kk sm H locs ls hm hkk hP hD hS hl
                        refine lv_iload hx hb dX1_countWays_61 (lv_at hl 0 rfl) ?_
                        refine lv_bipush (v := 10) hx hb dX1_countWays_63 (by decide) ?_
                        refine lv_icmp_ge (tgt := 107) hx hb dX1_countWays_65 (by decide) (fun c_14 => ?_) (fun c_14 => ?_)
                        · have c_14 : 10 ≤ kk := (nle 10 kk (by omega) (by omega)).mp c_14
                          refine lv_aload_n hx hb dX1_countWays_107 rfl (lv_at hl 5 rfl) ?_
                          refine sk_get (v := .ref (q 70)) (C := RX1) (T := TX1) (N := 9) hx hb hts inlX1 hown hK hP 1 rfl rfl 4 (by decide) w_2_99 rfl dX1_countWays_108 ?_
                          refine lv_iload_n hx hb dX1_countWays_111 rfl (lv_at hl 4 rfl) ?_
                          refine lv_bipush (v := 10) hx hb dX1_countWays_112 (by decide) ?_
                          refine lv_imul hx hb dX1_countWays_114 ?_
                          refine sk_top (nI ((dd - 1) * 10)) (nmul (dd - 1) 10) ?_
                          refine lv_iload_n hx hb dX1_countWays_115 rfl (lv_at hl 3 rfl) ?_
                          refine lv_iadd hx hb dX1_countWays_116 ?_
                          refine sk_top (nI ((dd - 1) * 10 + jj)) (nI_add ((dd - 1) * 10) jj) ?_
                          refine lv_lload hx hb dX1_countWays_117 (lv_at hl 1 rfl) ?_
                          refine sk_lastO (ws' := fun f_15 => [(q 70, .inl (cJ, 100, .inr (.inl f_15))), (q 11, .inr (1, [.ref (q 10), .ref (q 67), .ref (q 68), .ref (q 69), .ref (q 70), .ref (q 71), .ref (q 72), .int (nI gd), .int (nI gs)])), (q 67, .inl (cI, 90, .inl e1)), (q 68, .inl (cI, 9, .inl e2)), (q 69, .inl (cI, 10, .inl e3))]) hx hb hK hP hD hS 0 1 rfl rfl (vin ((dd - 1) * 10 + jj) 100 (by omega) (by omega)) (fun _ => rfl) dX1_countWays_119 (fun f_15 H locs hP hD hS => ?_)
                          refine lv_iinc (v := nI (jj + 1)) (lv' := [(2, .int (nI (jj + 1))), (6, .int (nI kk)), (4, .long sm), (3, .int r_11), (1, .int (nI (dd - 1))), (0, .ref (q 11))]) hx hb dX1_countWays_120 hl (k := 3) rfl (ninc jj 1 (by decide)) (by decide) rfl (fun ls hl => ?_)
                          refine lv_goto (tgt := 42) hx hb dX1_countWays_123 (by decide) ?_
                          have hP := hP.sub (ws' := [(q 11, .inr (1, [.ref (q 10), .ref (q 67), .ref (q 68), .ref (q 69), .ref (q 70), .ref (q 71), .ref (q 72), .int (nI gd), .int (nI gs)])), (q 67, .inl (cI, 90, .inl e1)), (q 68, .inl (cI, 9, .inl e2)), (q 69, .inl (cI, 10, .inl e3)), (q 70, .inl (cJ, 100, .inr (.inl f_15)))]) [1, 2, 3, 4, 0] rfl
                          have hD := hD.sub (ws' := [(q 11, .inr (1, [.ref (q 10), .ref (q 67), .ref (q 68), .ref (q 69), .ref (q 70), .ref (q 71), .ref (q 72), .int (nI gd), .int (nI gs)])), (q 67, .inl (cI, 90, .inl e1)), (q 68, .inl (cI, 9, .inl e2)), (q 69, .inl (cI, 10, .inl e3)), (q 70, .inl (cJ, 100, .inr (.inl f_15)))]) [1, 2, 3, 4, 0] (by decide +kernel) rfl
                          exact ih_lp_8 (jj + 1) f_15 _ _ _ (by omega) (by omega) hP hD hS (lv_sub hl [0, 4, 5] rfl)
                        · have c_14 : ¬ (10 ≤ kk) := fun h => c_14 ((nle 10 kk (by omega) (by omega)).mpr h)
                          refine lv_lload hx hb dX1_countWays_68 (lv_at hl 1 rfl) ?_
                          refine lv_iload_n hx hb dX1_countWays_70 rfl (lv_at hl 2 rfl) ?_
                          refine lv_iload hx hb dX1_countWays_71 (lv_at hl 0 rfl) ?_
                          refine lv_ishr hx hb dX1_countWays_73 ?_
                          refine lv_topi (fun v_16 ev_16 => ?_)
                          refine lv_iconst (v := 1) hx hb dX1_countWays_74 (by decide) ?_
                          refine lv_iand hx hb dX1_countWays_75 ?_
                          refine lv_topi (fun v_17 ev_17 => ?_)
                          refine lv_iconst (v := 1) hx hb dX1_countWays_76 (by decide) ?_
                          refine lv_icmp_ne (tgt := 97) hx hb dX1_countWays_77 (by decide) (fun c_18 => ?_) (fun c_18 => ?_)
                          · skip
                            refine lv_lconst (v := 0) hx hb dX1_countWays_97 (by decide) ?_
                            refine lv_ladd hx hb dX1_countWays_98 ?_
                            refine lv_topl (fun v_19 ev_19 => ?_)
                            refine lv_lstore (lv' := [(4, .long v_19), (6, .int (nI kk)), (3, .int r_11), (2, .int (nI jj)), (1, .int (nI (dd - 1))), (0, .ref (q 11))]) hx hb dX1_countWays_99 hl (by decide) rfl (fun ls hl => ?_)
                            refine lv_iinc (v := nI (kk + 1)) (lv' := [(6, .int (nI (kk + 1))), (4, .long v_19), (3, .int r_11), (2, .int (nI jj)), (1, .int (nI (dd - 1))), (0, .ref (q 11))]) hx hb dX1_countWays_101 hl (k := 1) rfl (ninc kk 1 (by decide)) (by decide) rfl (fun ls hl => ?_)
                            refine lv_goto (tgt := 61) hx hb dX1_countWays_104 (by decide) ?_
                            exact ih_lp_12 (kk + 1) v_19 _ _ _ (by omega) (by omega) hP hD hS (lv_sub hl [0, 1, 2, 3, 4, 5] rfl)
                          · skip
                            refine lv_aload_n hx hb dX1_countWays_80 rfl (lv_at hl 5 rfl) ?_
                            refine sk_get (v := .ref (q 70)) (C := RX1) (T := TX1) (N := 9) hx hb hts inlX1 hown hK hP 1 rfl rfl 4 (by decide) w_2_99 rfl dX1_countWays_81 ?_
                            refine lv_iload_n hx hb dX1_countWays_84 rfl (lv_at hl 4 rfl) ?_
                            refine lv_iconst (v := 1) hx hb dX1_countWays_85 (by decide) ?_
                            refine lv_iadd hx hb dX1_countWays_86 ?_
                            refine sk_top (nI (dd - 1 + 1)) (nI_add (dd - 1) 1) ?_
                            refine lv_bipush (v := 10) hx hb dX1_countWays_87 (by decide) ?_
                            refine lv_imul hx hb dX1_countWays_89 ?_
                            refine sk_top (nI ((dd - 1 + 1) * 10)) (nmul (dd - 1 + 1) 10) ?_
                            refine lv_iload hx hb dX1_countWays_90 (lv_at hl 0 rfl) ?_
                            refine lv_iadd hx hb dX1_countWays_92 ?_
                            refine sk_top (nI ((dd - 1 + 1) * 10 + kk)) (nI_add ((dd - 1 + 1) * 10) kk) ?_
                            refine va_lald hx hb hK.1 hP 0 1 rfl rfl (vin ((dd - 1 + 1) * 10 + kk) 100 (by omega) (by omega)) dX1_countWays_93 ?_
                            refine lv_topl (fun v_20 ev_20 => ?_)
                            refine lv_goto (tgt := 98) hx hb dX1_countWays_94 (by decide) ?_
                            refine lv_ladd hx hb dX1_countWays_98 ?_
                            refine lv_topl (fun v_21 ev_21 => ?_)
                            refine lv_lstore (lv' := [(4, .long v_21), (6, .int (nI kk)), (3, .int r_11), (2, .int (nI jj)), (1, .int (nI (dd - 1))), (0, .ref (q 11))]) hx hb dX1_countWays_99 hl (by decide) rfl (fun ls hl => ?_)
                            refine lv_iinc (v := nI (kk + 1)) (lv' := [(6, .int (nI (kk + 1))), (4, .long v_21), (3, .int r_11), (2, .int (nI jj)), (1, .int (nI (dd - 1))), (0, .ref (q 11))]) hx hb dX1_countWays_101 hl (k := 1) rfl (ninc kk 1 (by decide)) (by decide) rfl (fun ls hl => ?_)
                            refine lv_goto (tgt := 61) hx hb dX1_countWays_104 (by decide) ?_
                            exact ih_lp_12 (kk + 1) v_21 _ _ _ (by omega) (by omega) hP hD hS (lv_sub hl [0, 1, 2, 3, 4, 5] rfl)
                    exact lp_12 (10 - 0 + 1) 0 0 _ _ _ (Nat.lt_succ_self _) (by omega) hP hD hS (lv_sub hl [0, 1, 2, 3, 4, 5] rfl)
              exact lp_8 (10 - 0 + 1) 0 b4 _ _ _ (Nat.lt_succ_self _) (by omega) hP hD hS (lv_sub hl [0, 1, 2] rfl)
        exact lp_4 (gd + 1) gd a4 _ _ _ (Nat.lt_succ_self _) (by omega) hP hD hS (lv_sub hl [0, 1] rfl)
      · have c_3 : ¬ (10 ≤ i) := fun h => c_3 ((nle 10 i (by omega) (by omega)).mpr h)
        refine lv_aload_n hx hb dX1_countWays_8 rfl (lv_at hl 1 rfl) ?_
        refine sk_get (v := .ref (q 70)) (C := RX1) (T := TX1) (N := 9) hx hb hts inlX1 hown hK hP 0 rfl rfl 4 (by decide) w_2_99 rfl dX1_countWays_9 ?_
        refine lv_aload_n hx hb dX1_countWays_12 rfl (lv_at hl 1 rfl) ?_
        refine sk_get (v := .int (nI gd)) (C := RX1) (T := TX1) (N := 9) hx hb hts inlX1 hown hK hP 0 rfl rfl 7 (by decide) w_2_102 rfl dX1_countWays_13 ?_
        refine lv_bipush (v := 10) hx hb dX1_countWays_16 (by decide) ?_
        refine lv_imul hx hb dX1_countWays_18 ?_
        refine sk_top (nI (gd * 10)) (nmul gd 10) ?_
        refine lv_iload_n hx hb dX1_countWays_19 rfl (lv_at hl 0 rfl) ?_
        refine lv_iadd hx hb dX1_countWays_20 ?_
        refine sk_top (nI (gd * 10 + i)) (nI_add (gd * 10) i) ?_
        refine lv_lconst (v := 1) hx hb dX1_countWays_21 (by decide) ?_
        refine sk_lastO (ws' := fun f_22 => [(q 11, .inr (1, [.ref (q 10), .ref (q 67), .ref (q 68), .ref (q 69), .ref (q 70), .ref (q 71), .ref (q 72), .int (nI gd), .int (nI gs)])), (q 67, .inl (cI, 90, .inl e1)), (q 68, .inl (cI, 9, .inl e2)), (q 69, .inl (cI, 10, .inl e3)), (q 70, .inl (cJ, 100, .inr (.inl f_22)))]) hx hb hK hP hD hS 4 1 rfl rfl (vin (gd * 10 + i) 100 (by omega) (by omega)) (fun _ => rfl) dX1_countWays_22 (fun f_22 H locs hP hD hS => ?_)
        refine lv_iinc (v := nI (i + 1)) (lv' := [(1, .int (nI (i + 1))), (0, .ref (q 11))]) hx hb dX1_countWays_23 hl (k := 0) rfl (ninc i 1 (by decide)) (by decide) rfl (fun ls hl => ?_)
        refine lv_goto (tgt := 2) hx hb dX1_countWays_26 (by decide) ?_
        exact ih_lp_1 (i + 1) f_22 _ _ _ (by omega) (by omega) hP hD hS (lv_sub hl [0, 1] rfl)
  exact lp_1 (10 - 0 + 1) 0 e4 _ _ _ (Nat.lt_succ_self _) (by omega) hP hD hS (lv_sub hl [0, 1] rfl)
theorem dX1_countComings_0 : decode cX1_countComings 0 = .ok (.aload_n 0, 1) := by decide +kernel
theorem dX1_countComings_1 : decode cX1_countComings 1 = .ok (.getfield 25, 3) := by decide +kernel
theorem dX1_countComings_4 : decode cX1_countComings 4 = .ok (.lconst 0, 1) := by decide +kernel
theorem dX1_countComings_5 : decode cX1_countComings 5 = .ok (.invokestatic 76, 3) := by decide +kernel
theorem dX1_countComings_8 : decode cX1_countComings 8 = .ok (.aload_n 0, 1) := by decide +kernel
theorem dX1_countComings_9 : decode cX1_countComings 9 = .ok (.getfield 25, 3) := by decide +kernel
theorem dX1_countComings_12 : decode cX1_countComings 12 = .ok (.aload_n 0, 1) := by decide +kernel
theorem dX1_countComings_13 : decode cX1_countComings 13 = .ok (.getfield 35, 3) := by decide +kernel
theorem dX1_countComings_16 : decode cX1_countComings 16 = .ok (.lconst 1, 1) := by decide +kernel
theorem dX1_countComings_17 : decode cX1_countComings 17 = .ok (.lastore, 1) := by decide +kernel
theorem dX1_countComings_18 : decode cX1_countComings 18 = .ok (.iconst 0, 1) := by decide +kernel
theorem dX1_countComings_19 : decode cX1_countComings 19 = .ok (.istore_n 1, 1) := by decide +kernel
theorem dX1_countComings_20 : decode cX1_countComings 20 = .ok (.iload_n 1, 1) := by decide +kernel
theorem dX1_countComings_21 : decode cX1_countComings 21 = .ok (.aload_n 0, 1) := by decide +kernel
theorem dX1_countComings_22 : decode cX1_countComings 22 = .ok (.getfield 31, 3) := by decide +kernel
theorem dX1_countComings_25 : decode cX1_countComings 25 = .ok (.if_icmp .ge 84, 3) := by decide +kernel
theorem dX1_countComings_109 : decode cX1_countComings 109 = .ok (.return_, 1) := by decide +kernel
theorem dX1_countComings_28 : decode cX1_countComings 28 = .ok (.iconst 0, 1) := by decide +kernel
theorem dX1_countComings_29 : decode cX1_countComings 29 = .ok (.istore_n 2, 1) := by decide +kernel
theorem dX1_countComings_30 : decode cX1_countComings 30 = .ok (.iload_n 2, 1) := by decide +kernel
theorem dX1_countComings_31 : decode cX1_countComings 31 = .ok (.bipush 10, 2) := by decide +kernel
theorem dX1_countComings_33 : decode cX1_countComings 33 = .ok (.if_icmp .ge 70, 3) := by decide +kernel
theorem dX1_countComings_103 : decode cX1_countComings 103 = .ok (.iinc 1 1, 3) := by decide +kernel
theorem dX1_countComings_106 : decode cX1_countComings 106 = .ok (.goto (-86), 3) := by decide +kernel
theorem dX1_countComings_36 : decode cX1_countComings 36 = .ok (.aload_n 0, 1) := by decide +kernel
theorem dX1_countComings_37 : decode cX1_countComings 37 = .ok (.iload_n 1, 1) := by decide +kernel
theorem dX1_countComings_38 : decode cX1_countComings 38 = .ok (.iload_n 2, 1) := by decide +kernel
theorem dX1_countComings_39 : decode cX1_countComings 39 = .ok (.invokevirtual 66, 3) := by decide +kernel
theorem dX1_countComings_42 : decode cX1_countComings 42 = .ok (.istore_n 3, 1) := by decide +kernel
theorem dX1_countComings_43 : decode cX1_countComings 43 = .ok (.iconst 0, 1) := by decide +kernel
theorem dX1_countComings_44 : decode cX1_countComings 44 = .ok (.istore 4, 2) := by decide +kernel
theorem dX1_countComings_46 : decode cX1_countComings 46 = .ok (.iload 4, 2) := by decide +kernel
theorem dX1_countComings_48 : decode cX1_countComings 48 = .ok (.bipush 10, 2) := by decide +kernel
theorem dX1_countComings_50 : decode cX1_countComings 50 = .ok (.if_icmp .ge 47, 3) := by decide +kernel
theorem dX1_countComings_97 : decode cX1_countComings 97 = .ok (.iinc 2 1, 3) := by decide +kernel
theorem dX1_countComings_100 : decode cX1_countComings 100 = .ok (.goto (-70), 3) := by decide +kernel
theorem dX1_countComings_53 : decode cX1_countComings 53 = .ok (.iload_n 3, 1) := by decide +kernel
theorem dX1_countComings_54 : decode cX1_countComings 54 = .ok (.iload 4, 2) := by decide +kernel
theorem dX1_countComings_56 : decode cX1_countComings 56 = .ok (.ishr, 1) := by decide +kernel
theorem dX1_countComings_57 : decode cX1_countComings 57 = .ok (.iconst 1, 1) := by decide +kernel
theorem dX1_countComings_58 : decode cX1_countComings 58 = .ok (.iand, 1) := by decide +kernel
theorem dX1_countComings_59 : decode cX1_countComings 59 = .ok (.iconst 1, 1) := by decide +kernel
theorem dX1_countComings_60 : decode cX1_countComings 60 = .ok (.if_icmp .ne 31, 3) := by decide +kernel
theorem dX1_countComings_91 : decode cX1_countComings 91 = .ok (.iinc 4 1, 3) := by decide +kernel
theorem dX1_countComings_94 : decode cX1_countComings 94 = .ok (.goto (-48), 3) := by decide +kernel
theorem dX1_countComings_63 : decode cX1_countComings 63 = .ok (.aload_n 0, 1) := by decide +kernel
theorem dX1_countComings_64 : decode cX1_countComings 64 = .ok (.getfield 25, 3) := by decide +kernel
theorem dX1_countComings_67 : decode cX1_countComings 67 = .ok (.iload_n 1, 1) := by decide +kernel
theorem dX1_countComings_68 : decode cX1_countComings 68 = .ok (.iconst 1, 1) := by decide +kernel
theorem dX1_countComings_69 : decode cX1_countComings 69 = .ok (.iadd, 1) := by decide +kernel
theorem dX1_countComings_70 : decode cX1_countComings 70 = .ok (.bipush 10, 2) := by decide +kernel
theorem dX1_countComings_72 : decode cX1_countComings 72 = .ok (.imul, 1) := by decide +kernel
theorem dX1_countComings_73 : decode cX1_countComings 73 = .ok (.iload 4, 2) := by decide +kernel
theorem dX1_countComings_75 : decode cX1_countComings 75 = .ok (.iadd, 1) := by decide +kernel
theorem dX1_countComings_76 : decode cX1_countComings 76 = .ok (.dup2, 1) := by decide +kernel
theorem dX1_countComings_77 : decode cX1_countComings 77 = .ok (.laload, 1) := by decide +kernel
theorem dX1_countComings_78 : decode cX1_countComings 78 = .ok (.aload_n 0, 1) := by decide +kernel
theorem dX1_countComings_79 : decode cX1_countComings 79 = .ok (.getfield 25, 3) := by decide +kernel
theorem dX1_countComings_82 : decode cX1_countComings 82 = .ok (.iload_n 1, 1) := by decide +kernel
theorem dX1_countComings_83 : decode cX1_countComings 83 = .ok (.bipush 10, 2) := by decide +kernel
theorem dX1_countComings_85 : decode cX1_countComings 85 = .ok (.imul, 1) := by decide +kernel
theorem dX1_countComings_86 : decode cX1_countComings 86 = .ok (.iload_n 2, 1) := by decide +kernel
theorem dX1_countComings_87 : decode cX1_countComings 87 = .ok (.iadd, 1) := by decide +kernel
theorem dX1_countComings_88 : decode cX1_countComings 88 = .ok (.laload, 1) := by decide +kernel
theorem dX1_countComings_89 : decode cX1_countComings 89 = .ok (.ladd, 1) := by decide +kernel
theorem dX1_countComings_90 : decode cX1_countComings 90 = .ok (.lastore, 1) := by decide +kernel
theorem w_2_100 : (Cond.fieldLink RX1 25 "SameKeeper$Graph" "comings" "[J") ∈ wsL_law := sk_mem (ck_2 _ (List.mem_of_getElem? (i := 100) rfl)) rfl
theorem w_4_85 : (Cond.methodLink RX1 76 yJ7_fill_d0a16) ∈ wsL_law := sk_mem (ck_4 _ (List.mem_of_getElem? (i := 85) rfl)) rfl
theorem w_4_86 : (Cond.static yJ7_fill_d0a16) ∈ wsL_law := sk_mem (ck_4 _ (List.mem_of_getElem? (i := 86) rfl)) rfl
theorem w_4_84 : (Cond.code yX1_countComings cX1_countComings 5 none) ∈ wsL_law := sk_mem (ck_4 _ (List.mem_of_getElem? (i := 84) rfl)) rfl
set_option maxHeartbeats 4000000 in
set_option maxRecDepth 100000 in
theorem c_countComings (l : Launch) (D : va_G) (cI cJ cC cZ cS : ClassId) (q : Nat → Nat) (gd : Nat) (gs : Nat) (e1 : Nat → Int32) (e2 : Nat → Int32) (e3 : Nat → Int32) (e5 : Nat → Int64) (hgd : gd ≤ 9) (hgs : gs ≤ 9) : skM l yX1_countComings cX1_countComings 5 none 1 24 0 0 D (skT cI cJ cC cZ cS) [.ref (q 11)] [(q 11, .inr (1, [.ref (q 10), .ref (q 67), .ref (q 68), .ref (q 69), .ref (q 70), .ref (q 71), .ref (q 72), .int (nI gd), .int (nI gs)])), (q 67, .inl (cI, 90, .inl e1)), (q 68, .inl (cI, 9, .inl e2)), (q 69, .inl (cI, 10, .inl e3)), (q 71, .inl (cJ, 100, .inr (.inl e5)))] (skV D (skT cI cJ cC cZ cS) (fun (u : va_W) => ∃ (g5 : Nat → Int64), u = [(q 11, .inr (1, [.ref (q 10), .ref (q 67), .ref (q 68), .ref (q 69), .ref (q 70), .ref (q 71), .ref (q 72), .int (nI gd), .int (nI gs)])), (q 67, .inl (cI, 90, .inl e1)), (q 68, .inl (cI, 9, .inl e2)), (q 69, .inl (cI, 10, .inl e3)), (q 71, .inl (cJ, 100, .inr (.inl g5)))])) := by
  refine skM_of (by decide +kernel) (Nat.le_of_ble_eq_true rfl) ?_
  intro p e s m below meth c A ls E hP hD hl
  obtain ⟨hx, hb, hr, hml, hlocks, hin, hown, hts, hK, hA⟩ := E
  have hown : s.vm.findClass RX1 = some m.cls := hown
  have hS : va_S A s.heap s.heap [] := va_S.rf
  have hl : lv_has ls 5 [(0, .ref (q 11))] := hl
  refine lv_aload_n hx hb dX1_countComings_0 rfl (lv_at hl 0 rfl) ?_
  refine sk_get (v := .ref (q 71)) (C := RX1) (T := TX1) (N := 9) hx hb hts inlX1 hown hK hP 0 rfl rfl 5 (by decide) w_2_100 rfl dX1_countComings_1 ?_
  refine lv_lconst (v := 0) hx hb dX1_countComings_4 (by decide) ?_
  refine sk_Sv (n := 2) (rest := []) (wr := [(q 11, .inr (1, [.ref (q 10), .ref (q 67), .ref (q 68), .ref (q 69), .ref (q 70), .ref (q 71), .ref (q 72), .int (nI gd), .int (nI gs)])), (q 67, .inl (cI, 90, .inl e1)), (q 68, .inl (cI, 9, .inl e2)), (q 69, .inl (cI, 10, .inl e3))]) ⟨hx, hb, hml, hown, hts⟩ hl.1 (c_fillL l D cI cJ cC cZ cS (q 71) 100 e5 0 (by omega)) w_4_85 w_4_86 w_1_15 w_4_87 (by decide +kernel) ⟨⟨(Nat.le_of_ble_eq_true rfl), (Nat.le_of_ble_eq_true rfl)⟩, (Nat.le_of_ble_eq_true rfl), (Nat.le_of_ble_eq_true rfl)⟩ hK hP hD hS hA [4] [0, 1, 2, 3] rfl rfl (by decide +kernel) (by decide +kernel) (by decide +kernel) rfl rfl (Nat.le_of_ble_eq_true rfl) dX1_countComings_5 (fun u H locs hw hP hD hS => ?_)
  obtain ⟨g_1, rfl⟩ := hw
  have hP : va_P D vwCl [(q 11, .inr (1, [.ref (q 10), .ref (q 67), .ref (q 68), .ref (q 69), .ref (q 70), .ref (q 71), .ref (q 72), .int (nI gd), .int (nI gs)])), (q 67, .inl (cI, 90, .inl e1)), (q 68, .inl (cI, 9, .inl e2)), (q 69, .inl (cI, 10, .inl e3)), (q 71, .inl (cJ, 100, .inr (.inl g_1)))] H := hP
  have hD : va_D A [(q 11, .inr (1, [.ref (q 10), .ref (q 67), .ref (q 68), .ref (q 69), .ref (q 70), .ref (q 71), .ref (q 72), .int (nI gd), .int (nI gs)])), (q 67, .inl (cI, 90, .inl e1)), (q 68, .inl (cI, 9, .inl e2)), (q 69, .inl (cI, 10, .inl e3)), (q 71, .inl (cJ, 100, .inr (.inl g_1)))] := hD
  refine lv_aload_n hx hb dX1_countComings_8 rfl (lv_at hl 0 rfl) ?_
  refine sk_get (v := .ref (q 71)) (C := RX1) (T := TX1) (N := 9) hx hb hts inlX1 hown hK hP 0 rfl rfl 5 (by decide) w_2_100 rfl dX1_countComings_9 ?_
  refine lv_aload_n hx hb dX1_countComings_12 rfl (lv_at hl 0 rfl) ?_
  refine sk_get (v := .int (nI gs)) (C := RX1) (T := TX1) (N := 9) hx hb hts inlX1 hown hK hP 0 rfl rfl 8 (by decide) w_2_103 rfl dX1_countComings_13 ?_
  refine lv_lconst (v := 1) hx hb dX1_countComings_16 (by decide) ?_
  refine sk_lastO (ws' := fun f_2 => [(q 11, .inr (1, [.ref (q 10), .ref (q 67), .ref (q 68), .ref (q 69), .ref (q 70), .ref (q 71), .ref (q 72), .int (nI gd), .int (nI gs)])), (q 67, .inl (cI, 90, .inl e1)), (q 68, .inl (cI, 9, .inl e2)), (q 69, .inl (cI, 10, .inl e3)), (q 71, .inl (cJ, 100, .inr (.inl f_2)))]) hx hb hK hP hD hS 4 1 rfl rfl (vin gs 100 (by omega) (by omega)) (fun _ => rfl) dX1_countComings_17 (fun f_2 H locs hP hD hS => ?_)
  refine lv_iconst (v := 0) hx hb dX1_countComings_18 (by decide) ?_
  refine lv_istore_n (lv' := [(1, .int 0), (0, .ref (q 11))]) hx hb dX1_countComings_19 rfl hl (by decide) rfl (fun ls hl => ?_)
  have lp_3 : ∀ (n_4 : Nat) (i : Nat) (a5 : Nat → Int64) (H : Heap) (locs : List Loc) (ls : Array Slot), gd - i < n_4 → (i ≤ gd) → va_P D vwCl [(q 11, .inr (1, [.ref (q 10), .ref (q 67), .ref (q 68), .ref (q 69), .ref (q 70), .ref (q 71), .ref (q 72), .int (nI gd), .int (nI gs)])), (q 67, .inl (cI, 90, .inl e1)), (q 68, .inl (cI, 9, .inl e2)), (q 69, .inl (cI, 10, .inl e3)), (q 71, .inl (cJ, 100, .inr (.inl a5)))] H → va_D A [(q 11, .inr (1, [.ref (q 10), .ref (q 67), .ref (q 68), .ref (q 69), .ref (q 70), .ref (q 71), .ref (q 72), .int (nI gd), .int (nI gs)])), (q 67, .inl (cI, 90, .inl e1)), (q 68, .inl (cI, 9, .inl e2)), (q 69, .inl (cI, 10, .inl e3)), (q 71, .inl (cJ, 100, .inr (.inl a5)))] → va_S A s.heap H locs → lv_has ls 5 [(1, .int (nI i)), (0, .ref (q 11))] → W p l e { frames := 1, cells := 0, slots := 0, locals := 24 } s m ([.ref (q 11)] : List Value).toArray below meth c H locs 0 0 (MQ below (skV D (skT cI cJ cC cZ cS) (fun (u : va_W) => ∃ (g5 : Nat → Int64), u = [(q 11, .inr (1, [.ref (q 10), .ref (q 67), .ref (q 68), .ref (q 69), .ref (q 70), .ref (q 71), .ref (q 72), .int (nI gd), .int (nI gs)])), (q 67, .inl (cI, 90, .inl e1)), (q 68, .inl (cI, 9, .inl e2)), (q 69, .inl (cI, 10, .inl e3)), (q 71, .inl (cJ, 100, .inr (.inl g5)))]) A) ([.ref (q 11)] : List Value).toArray s 0 0 A) (F0 m 20 ls []) := by
    intro n_4
    induction n_4 with
    | zero => intro i a5 H locs ls hm; exact absurd hm (Nat.not_lt_zero _)
    | succ n_4 ih_lp_3 =>
      intro i a5 H locs ls hm hi hP hD hS hl
      refine lv_iload_n hx hb dX1_countComings_20 rfl (lv_at hl 0 rfl) ?_
      refine lv_aload_n hx hb dX1_countComings_21 rfl (lv_at hl 1 rfl) ?_
      refine sk_get (v := .int (nI gd)) (C := RX1) (T := TX1) (N := 9) hx hb hts inlX1 hown hK hP 0 rfl rfl 7 (by decide) w_2_102 rfl dX1_countComings_22 ?_
      refine lv_icmp_ge (tgt := 109) hx hb dX1_countComings_25 (by decide) (fun c_5 => ?_) (fun c_5 => ?_)
      · have c_5 : gd ≤ i := (nle gd i (by omega) (by omega)).mp c_5
        exact sk_vret hx hb hr hlocks hK hP hD hS (⟨a5, rfl⟩) (Nat.le_of_ble_eq_true rfl) (Nat.le_of_ble_eq_true rfl) dX1_countComings_109
      · have c_5 : ¬ (gd ≤ i) := fun h => c_5 ((nle gd i (by omega) (by omega)).mpr h)
        refine lv_iconst (v := 0) hx hb dX1_countComings_28 (by decide) ?_
        refine lv_istore_n (lv' := [(2, .int 0), (1, .int (nI i)), (0, .ref (q 11))]) hx hb dX1_countComings_29 rfl hl (by decide) rfl (fun ls hl => ?_)
        have lp_6 : ∀ (n_7 : Nat) (jj : Nat) (b5 : Nat → Int64) (H : Heap) (locs : List Loc) (ls : Array Slot), 10 - jj < n_7 → (jj ≤ 10) → va_P D vwCl [(q 11, .inr (1, [.ref (q 10), .ref (q 67), .ref (q 68), .ref (q 69), .ref (q 70), .ref (q 71), .ref (q 72), .int (nI gd), .int (nI gs)])), (q 67, .inl (cI, 90, .inl e1)), (q 68, .inl (cI, 9, .inl e2)), (q 69, .inl (cI, 10, .inl e3)), (q 71, .inl (cJ, 100, .inr (.inl b5)))] H → va_D A [(q 11, .inr (1, [.ref (q 10), .ref (q 67), .ref (q 68), .ref (q 69), .ref (q 70), .ref (q 71), .ref (q 72), .int (nI gd), .int (nI gs)])), (q 67, .inl (cI, 90, .inl e1)), (q 68, .inl (cI, 9, .inl e2)), (q 69, .inl (cI, 10, .inl e3)), (q 71, .inl (cJ, 100, .inr (.inl b5)))] → va_S A s.heap H locs → lv_has ls 5 [(2, .int (nI jj)), (1, .int (nI i)), (0, .ref (q 11))] → W p l e { frames := 1, cells := 0, slots := 0, locals := 24 } s m ([.ref (q 11)] : List Value).toArray below meth c H locs 0 0 (MQ below (skV D (skT cI cJ cC cZ cS) (fun (u : va_W) => ∃ (g5 : Nat → Int64), u = [(q 11, .inr (1, [.ref (q 10), .ref (q 67), .ref (q 68), .ref (q 69), .ref (q 70), .ref (q 71), .ref (q 72), .int (nI gd), .int (nI gs)])), (q 67, .inl (cI, 90, .inl e1)), (q 68, .inl (cI, 9, .inl e2)), (q 69, .inl (cI, 10, .inl e3)), (q 71, .inl (cJ, 100, .inr (.inl g5)))]) A) ([.ref (q 11)] : List Value).toArray s 0 0 A) (F0 m 30 ls []) := by
          intro n_7
          induction n_7 with
          | zero => intro jj b5 H locs ls hm; exact absurd hm (Nat.not_lt_zero _)
          | succ n_7 ih_lp_6 =>
            intro jj b5 H locs ls hm hjj hP hD hS hl
            refine lv_iload_n hx hb dX1_countComings_30 rfl (lv_at hl 0 rfl) ?_
            refine lv_bipush (v := 10) hx hb dX1_countComings_31 (by decide) ?_
            refine lv_icmp_ge (tgt := 103) hx hb dX1_countComings_33 (by decide) (fun c_8 => ?_) (fun c_8 => ?_)
            · have c_8 : 10 ≤ jj := (nle 10 jj (by omega) (by omega)).mp c_8
              refine lv_iinc (v := nI (i + 1)) (lv' := [(1, .int (nI (i + 1))), (2, .int (nI jj)), (0, .ref (q 11))]) hx hb dX1_countComings_103 hl (k := 1) rfl (ninc i 1 (by decide)) (by decide) rfl (fun ls hl => ?_)
              refine lv_goto (tgt := 20) hx hb dX1_countComings_106 (by decide) ?_
              exact ih_lp_3 (i + 1) b5 _ _ _ (by omega) (by omega) hP hD hS (lv_sub hl [0, 2] rfl)
            · have c_8 : ¬ (10 ≤ jj) := fun h => c_8 ((nle 10 jj (by omega) (by omega)).mpr h)
              refine lv_aload_n hx hb dX1_countComings_36 rfl (lv_at hl 2 rfl) ?_
              refine lv_iload_n hx hb dX1_countComings_37 rfl (lv_at hl 1 rfl) ?_
              refine lv_iload_n hx hb dX1_countComings_38 rfl (lv_at hl 0 rfl) ?_
              refine sk_Vi (q0 := 0) (n := 2) (rest := []) (wr := [(q 71, .inl (cJ, 100, .inr (.inl b5)))]) ⟨hx, hb, hml, hown, hts⟩ hl.1 (c_next l D cI cJ cC cZ cS q gd gs e1 e2 e3 i jj (by omega) (by omega)) w_4_57 w_4_59 w_0_20 w_1_13 w_4_60 (by decide +kernel) ⟨⟨(Nat.le_of_ble_eq_true rfl), (Nat.le_of_ble_eq_true rfl)⟩, (Nat.le_of_ble_eq_true rfl), (Nat.le_of_ble_eq_true rfl)⟩ hK hP hD hS hA [0, 1, 2, 3] [4] rfl rfl (by decide +kernel) (by decide +kernel) (by decide +kernel) rfl rfl rfl rfl (Nat.le_of_ble_eq_true rfl) dX1_countComings_39 (fun r_9 u H locs hw hP hD hS => ?_)
              obtain rfl := hw
              have hP : va_P D vwCl [(q 71, .inl (cJ, 100, .inr (.inl b5))), (q 11, .inr (1, [.ref (q 10), .ref (q 67), .ref (q 68), .ref (q 69), .ref (q 70), .ref (q 71), .ref (q 72), .int (nI gd), .int (nI gs)])), (q 67, .inl (cI, 90, .inl e1)), (q 68, .inl (cI, 9, .inl e2)), (q 69, .inl (cI, 10, .inl e3))] H := hP
              have hD : va_D A [(q 71, .inl (cJ, 100, .inr (.inl b5))), (q 11, .inr (1, [.ref (q 10), .ref (q 67), .ref (q 68), .ref (q 69), .ref (q 70), .ref (q 71), .ref (q 72), .int (nI gd), .int (nI gs)])), (q 67, .inl (cI, 90, .inl e1)), (q 68, .inl (cI, 9, .inl e2)), (q 69, .inl (cI, 10, .inl e3))] := hD
              refine lv_istore_n (lv' := [(3, .int r_9), (2, .int (nI jj)), (1, .int (nI i)), (0, .ref (q 11))]) hx hb dX1_countComings_42 rfl hl (by decide) rfl (fun ls hl => ?_)
              refine lv_iconst (v := 0) hx hb dX1_countComings_43 (by decide) ?_
              refine lv_istore (lv' := [(4, .int 0), (3, .int r_9), (2, .int (nI jj)), (1, .int (nI i)), (0, .ref (q 11))]) hx hb dX1_countComings_44 hl (by decide) rfl (fun ls hl => ?_)
              have lp_10 : ∀ (n_11 : Nat) (kk : Nat) (c5 : Nat → Int64) (H : Heap) (locs : List Loc) (ls : Array Slot), 10 - kk < n_11 → (kk ≤ 10) → va_P D vwCl [(q 71, .inl (cJ, 100, .inr (.inl c5))), (q 11, .inr (1, [.ref (q 10), .ref (q 67), .ref (q 68), .ref (q 69), .ref (q 70), .ref (q 71), .ref (q 72), .int (nI gd), .int (nI gs)])), (q 67, .inl (cI, 90, .inl e1)), (q 68, .inl (cI, 9, .inl e2)), (q 69, .inl (cI, 10, .inl e3))] H → va_D A [(q 71, .inl (cJ, 100, .inr (.inl c5))), (q 11, .inr (1, [.ref (q 10), .ref (q 67), .ref (q 68), .ref (q 69), .ref (q 70), .ref (q 71), .ref (q 72), .int (nI gd), .int (nI gs)])), (q 67, .inl (cI, 90, .inl e1)), (q 68, .inl (cI, 9, .inl e2)), (q 69, .inl (cI, 10, .inl e3))] → va_S A s.heap H locs → lv_has ls 5 [(4, .int (nI kk)), (3, .int r_9), (2, .int (nI jj)), (1, .int (nI i)), (0, .ref (q 11))] → W p l e { frames := 1, cells := 0, slots := 0, locals := 24 } s m ([.ref (q 11)] : List Value).toArray below meth c H locs 0 0 (MQ below (skV D (skT cI cJ cC cZ cS) (fun (u : va_W) => ∃ (g5 : Nat → Int64), u = [(q 11, .inr (1, [.ref (q 10), .ref (q 67), .ref (q 68), .ref (q 69), .ref (q 70), .ref (q 71), .ref (q 72), .int (nI gd), .int (nI gs)])), (q 67, .inl (cI, 90, .inl e1)), (q 68, .inl (cI, 9, .inl e2)), (q 69, .inl (cI, 10, .inl e3)), (q 71, .inl (cJ, 100, .inr (.inl g5)))]) A) ([.ref (q 11)] : List Value).toArray s 0 0 A) (F0 m 46 ls []) := by
                intro n_11
                induction n_11 with
                | zero => intro kk c5 H locs ls hm; exact absurd hm (Nat.not_lt_zero _)
                | succ n_11 ih_lp_10 =>
                  intro kk c5 H locs ls hm hkk hP hD hS hl
                  refine lv_iload hx hb dX1_countComings_46 (lv_at hl 0 rfl) ?_
                  refine lv_bipush (v := 10) hx hb dX1_countComings_48 (by decide) ?_
                  refine lv_icmp_ge (tgt := 97) hx hb dX1_countComings_50 (by decide) (fun c_12 => ?_) (fun c_12 => ?_)
                  · have c_12 : 10 ≤ kk := (nle 10 kk (by omega) (by omega)).mp c_12
                    refine lv_iinc (v := nI (jj + 1)) (lv' := [(2, .int (nI (jj + 1))), (4, .int (nI kk)), (3, .int r_9), (1, .int (nI i)), (0, .ref (q 11))]) hx hb dX1_countComings_97 hl (k := 2) rfl (ninc jj 1 (by decide)) (by decide) rfl (fun ls hl => ?_)
                    refine lv_goto (tgt := 30) hx hb dX1_countComings_100 (by decide) ?_
                    have hP := hP.sub (ws' := [(q 11, .inr (1, [.ref (q 10), .ref (q 67), .ref (q 68), .ref (q 69), .ref (q 70), .ref (q 71), .ref (q 72), .int (nI gd), .int (nI gs)])), (q 67, .inl (cI, 90, .inl e1)), (q 68, .inl (cI, 9, .inl e2)), (q 69, .inl (cI, 10, .inl e3)), (q 71, .inl (cJ, 100, .inr (.inl c5)))]) [1, 2, 3, 4, 0] rfl
                    have hD := hD.sub (ws' := [(q 11, .inr (1, [.ref (q 10), .ref (q 67), .ref (q 68), .ref (q 69), .ref (q 70), .ref (q 71), .ref (q 72), .int (nI gd), .int (nI gs)])), (q 67, .inl (cI, 90, .inl e1)), (q 68, .inl (cI, 9, .inl e2)), (q 69, .inl (cI, 10, .inl e3)), (q 71, .inl (cJ, 100, .inr (.inl c5)))]) [1, 2, 3, 4, 0] (by decide +kernel) rfl
                    exact ih_lp_6 (jj + 1) c5 _ _ _ (by omega) (by omega) hP hD hS (lv_sub hl [0, 3, 4] rfl)
                  · have c_12 : ¬ (10 ≤ kk) := fun h => c_12 ((nle 10 kk (by omega) (by omega)).mpr h)
                    refine lv_iload_n hx hb dX1_countComings_53 rfl (lv_at hl 1 rfl) ?_
                    refine lv_iload hx hb dX1_countComings_54 (lv_at hl 0 rfl) ?_
                    refine lv_ishr hx hb dX1_countComings_56 ?_
                    refine lv_topi (fun v_13 ev_13 => ?_)
                    refine lv_iconst (v := 1) hx hb dX1_countComings_57 (by decide) ?_
                    refine lv_iand hx hb dX1_countComings_58 ?_
                    refine lv_topi (fun v_14 ev_14 => ?_)
                    refine lv_iconst (v := 1) hx hb dX1_countComings_59 (by decide) ?_
                    refine lv_icmp_ne (tgt := 91) hx hb dX1_countComings_60 (by decide) (fun c_15 => ?_) (fun c_15 => ?_)
                    · skip
                      refine lv_iinc (v := nI (kk + 1)) (lv' := [(4, .int (nI (kk + 1))), (3, .int r_9), (2, .int (nI jj)), (1, .int (nI i)), (0, .ref (q 11))]) hx hb dX1_countComings_91 hl (k := 0) rfl (ninc kk 1 (by decide)) (by decide) rfl (fun ls hl => ?_)
                      refine lv_goto (tgt := 46) hx hb dX1_countComings_94 (by decide) ?_
                      exact ih_lp_10 (kk + 1) c5 _ _ _ (by omega) (by omega) hP hD hS (lv_sub hl [0, 1, 2, 3, 4] rfl)
                    · skip
                      refine lv_aload_n hx hb dX1_countComings_63 rfl (lv_at hl 4 rfl) ?_
                      refine sk_get (v := .ref (q 71)) (C := RX1) (T := TX1) (N := 9) hx hb hts inlX1 hown hK hP 1 rfl rfl 5 (by decide) w_2_100 rfl dX1_countComings_64 ?_
                      refine lv_iload_n hx hb dX1_countComings_67 rfl (lv_at hl 3 rfl) ?_
                      refine lv_iconst (v := 1) hx hb dX1_countComings_68 (by decide) ?_
                      refine lv_iadd hx hb dX1_countComings_69 ?_
                      refine sk_top (nI (i + 1)) (nI_add i 1) ?_
                      refine lv_bipush (v := 10) hx hb dX1_countComings_70 (by decide) ?_
                      refine lv_imul hx hb dX1_countComings_72 ?_
                      refine sk_top (nI ((i + 1) * 10)) (nmul (i + 1) 10) ?_
                      refine lv_iload hx hb dX1_countComings_73 (lv_at hl 0 rfl) ?_
                      refine lv_iadd hx hb dX1_countComings_75 ?_
                      refine sk_top (nI ((i + 1) * 10 + kk)) (nI_add ((i + 1) * 10) kk) ?_
                      refine lv_dup2_11 hx hb dX1_countComings_76 rfl rfl ?_
                      refine va_lald hx hb hK.1 hP 0 1 rfl rfl (vin ((i + 1) * 10 + kk) 100 (by omega) (by omega)) dX1_countComings_77 ?_
                      refine lv_topl (fun v_16 ev_16 => ?_)
                      refine lv_aload_n hx hb dX1_countComings_78 rfl (lv_at hl 4 rfl) ?_
                      refine sk_get (v := .ref (q 71)) (C := RX1) (T := TX1) (N := 9) hx hb hts inlX1 hown hK hP 1 rfl rfl 5 (by decide) w_2_100 rfl dX1_countComings_79 ?_
                      refine lv_iload_n hx hb dX1_countComings_82 rfl (lv_at hl 3 rfl) ?_
                      refine lv_bipush (v := 10) hx hb dX1_countComings_83 (by decide) ?_
                      refine lv_imul hx hb dX1_countComings_85 ?_
                      refine sk_top (nI (i * 10)) (nmul i 10) ?_
                      refine lv_iload_n hx hb dX1_countComings_86 rfl (lv_at hl 2 rfl) ?_
                      refine lv_iadd hx hb dX1_countComings_87 ?_
                      refine sk_top (nI (i * 10 + jj)) (nI_add (i * 10) jj) ?_
                      refine va_lald hx hb hK.1 hP 0 1 rfl rfl (vin (i * 10 + jj) 100 (by omega) (by omega)) dX1_countComings_88 ?_
                      refine lv_topl (fun v_17 ev_17 => ?_)
                      refine lv_ladd hx hb dX1_countComings_89 ?_
                      refine lv_topl (fun v_18 ev_18 => ?_)
                      refine sk_lastO (ws' := fun f_19 => [(q 71, .inl (cJ, 100, .inr (.inl f_19))), (q 11, .inr (1, [.ref (q 10), .ref (q 67), .ref (q 68), .ref (q 69), .ref (q 70), .ref (q 71), .ref (q 72), .int (nI gd), .int (nI gs)])), (q 67, .inl (cI, 90, .inl e1)), (q 68, .inl (cI, 9, .inl e2)), (q 69, .inl (cI, 10, .inl e3))]) hx hb hK hP hD hS 0 1 rfl rfl (vin ((i + 1) * 10 + kk) 100 (by omega) (by omega)) (fun _ => rfl) dX1_countComings_90 (fun f_19 H locs hP hD hS => ?_)
                      refine lv_iinc (v := nI (kk + 1)) (lv' := [(4, .int (nI (kk + 1))), (3, .int r_9), (2, .int (nI jj)), (1, .int (nI i)), (0, .ref (q 11))]) hx hb dX1_countComings_91 hl (k := 0) rfl (ninc kk 1 (by decide)) (by decide) rfl (fun ls hl => ?_)
                      refine lv_goto (tgt := 46) hx hb dX1_countComings_94 (by decide) ?_
                      exact ih_lp_10 (kk + 1) f_19 _ _ _ (by omega) (by omega) hP hD hS (lv_sub hl [0, 1, 2, 3, 4] rfl)
              exact lp_10 (10 - 0 + 1) 0 b5 _ _ _ (Nat.lt_succ_self _) (by omega) hP hD hS (lv_sub hl [0, 1, 2, 3, 4] rfl)
        exact lp_6 (10 - 0 + 1) 0 a5 _ _ _ (Nat.lt_succ_self _) (by omega) hP hD hS (lv_sub hl [0, 1, 2] rfl)
  exact lp_3 (gd - 0 + 1) 0 f_2 _ _ _ (Nat.lt_succ_self _) (by omega) hP hD hS (lv_sub hl [0, 1] rfl)
theorem dX1_timesOf_0 : decode cX1_timesOf 0 = .ok (.iload_n 1, 1) := by decide +kernel
theorem dX1_timesOf_1 : decode cX1_timesOf 1 = .ok (.iconst 1, 1) := by decide +kernel
theorem dX1_timesOf_2 : decode cX1_timesOf 2 = .ok (.iadd, 1) := by decide +kernel
theorem dX1_timesOf_3 : decode cX1_timesOf 3 = .ok (.bipush 10, 2) := by decide +kernel
theorem dX1_timesOf_5 : decode cX1_timesOf 5 = .ok (.imul, 1) := by decide +kernel
theorem dX1_timesOf_6 : decode cX1_timesOf 6 = .ok (.iload_n 2, 1) := by decide +kernel
theorem dX1_timesOf_7 : decode cX1_timesOf 7 = .ok (.iadd, 1) := by decide +kernel
theorem dX1_timesOf_8 : decode cX1_timesOf 8 = .ok (.istore_n 3, 1) := by decide +kernel
theorem dX1_timesOf_9 : decode cX1_timesOf 9 = .ok (.aload_n 0, 1) := by decide +kernel
theorem dX1_timesOf_10 : decode cX1_timesOf 10 = .ok (.getfield 25, 3) := by decide +kernel
theorem dX1_timesOf_13 : decode cX1_timesOf 13 = .ok (.iload_n 3, 1) := by decide +kernel
theorem dX1_timesOf_14 : decode cX1_timesOf 14 = .ok (.laload, 1) := by decide +kernel
theorem dX1_timesOf_15 : decode cX1_timesOf 15 = .ok (.aload_n 0, 1) := by decide +kernel
theorem dX1_timesOf_16 : decode cX1_timesOf 16 = .ok (.getfield 21, 3) := by decide +kernel
theorem dX1_timesOf_19 : decode cX1_timesOf 19 = .ok (.iload_n 3, 1) := by decide +kernel
theorem dX1_timesOf_20 : decode cX1_timesOf 20 = .ok (.laload, 1) := by decide +kernel
theorem dX1_timesOf_21 : decode cX1_timesOf 21 = .ok (.lmul, 1) := by decide +kernel
theorem dX1_timesOf_22 : decode cX1_timesOf 22 = .ok (.lreturn, 1) := by decide +kernel
theorem w_4_91 : (Cond.code yX1_timesOf cX1_timesOf 4 (some .long)) ∈ wsL_law := sk_mem (ck_4 _ (List.mem_of_getElem? (i := 91) rfl)) rfl
set_option maxHeartbeats 4000000 in
set_option maxRecDepth 100000 in
theorem c_timesOf (l : Launch) (D : va_G) (cI cJ cC cZ cS : ClassId) (q : Nat → Nat) (gd : Nat) (gs : Nat) (e4 : Nat → Int64) (e5 : Nat → Int64) (d : Nat) (ah : Nat) (hd : d < 9) (hah : ah < 10) : skM l yX1_timesOf cX1_timesOf 4 (some .long) 0 0 0 0 D (skT cI cJ cC cZ cS) [.ref (q 11), .int (nI d), .int (nI ah)] [(q 11, .inr (1, [.ref (q 10), .ref (q 67), .ref (q 68), .ref (q 69), .ref (q 70), .ref (q 71), .ref (q 72), .int (nI gd), .int (nI gs)])), (q 70, .inl (cJ, 100, .inr (.inl e4))), (q 71, .inl (cJ, 100, .inr (.inl e5)))] (skL D (skT cI cJ cC cZ cS) (fun (r : Int64) (u : va_W) => u = [(q 11, .inr (1, [.ref (q 10), .ref (q 67), .ref (q 68), .ref (q 69), .ref (q 70), .ref (q 71), .ref (q 72), .int (nI gd), .int (nI gs)])), (q 70, .inl (cJ, 100, .inr (.inl e4))), (q 71, .inl (cJ, 100, .inr (.inl e5)))])) := by
  refine skM_of (by decide +kernel) (Nat.le_of_ble_eq_true rfl) ?_
  intro p e s m below meth c A ls E hP hD hl
  obtain ⟨hx, hb, hr, hml, hlocks, hin, hown, hts, hK, hA⟩ := E
  have hown : s.vm.findClass RX1 = some m.cls := hown
  have hS : va_S A s.heap s.heap [] := va_S.rf
  have hl : lv_has ls 4 [(0, .ref (q 11)), (1, .int (nI d)), (2, .int (nI ah))] := hl
  refine lv_iload_n hx hb dX1_timesOf_0 rfl (lv_at hl 1 rfl) ?_
  refine lv_iconst (v := 1) hx hb dX1_timesOf_1 (by decide) ?_
  refine lv_iadd hx hb dX1_timesOf_2 ?_
  refine sk_top (nI (d + 1)) (nI_add d 1) ?_
  refine lv_bipush (v := 10) hx hb dX1_timesOf_3 (by decide) ?_
  refine lv_imul hx hb dX1_timesOf_5 ?_
  refine sk_top (nI ((d + 1) * 10)) (nmul (d + 1) 10) ?_
  refine lv_iload_n hx hb dX1_timesOf_6 rfl (lv_at hl 2 rfl) ?_
  refine lv_iadd hx hb dX1_timesOf_7 ?_
  refine sk_top (nI ((d + 1) * 10 + ah)) (nI_add ((d + 1) * 10) ah) ?_
  refine lv_istore_n (lv' := [(3, .int (nI ((d + 1) * 10 + ah))), (0, .ref (q 11)), (1, .int (nI d)), (2, .int (nI ah))]) hx hb dX1_timesOf_8 rfl hl (by decide) rfl (fun ls hl => ?_)
  refine lv_aload_n hx hb dX1_timesOf_9 rfl (lv_at hl 1 rfl) ?_
  refine sk_get (v := .ref (q 71)) (C := RX1) (T := TX1) (N := 9) hx hb hts inlX1 hown hK hP 0 rfl rfl 5 (by decide) w_2_100 rfl dX1_timesOf_10 ?_
  refine lv_iload_n hx hb dX1_timesOf_13 rfl (lv_at hl 0 rfl) ?_
  refine va_lald hx hb hK.1 hP 2 1 rfl rfl (vin ((d + 1) * 10 + ah) 100 (by omega) (by omega)) dX1_timesOf_14 ?_
  refine lv_topl (fun v_1 ev_1 => ?_)
  refine lv_aload_n hx hb dX1_timesOf_15 rfl (lv_at hl 1 rfl) ?_
  refine sk_get (v := .ref (q 70)) (C := RX1) (T := TX1) (N := 9) hx hb hts inlX1 hown hK hP 0 rfl rfl 4 (by decide) w_2_99 rfl dX1_timesOf_16 ?_
  refine lv_iload_n hx hb dX1_timesOf_19 rfl (lv_at hl 0 rfl) ?_
  refine va_lald hx hb hK.1 hP 1 1 rfl rfl (vin ((d + 1) * 10 + ah) 100 (by omega) (by omega)) dX1_timesOf_20 ?_
  refine lv_topl (fun v_2 ev_2 => ?_)
  refine lv_lmul hx hb dX1_timesOf_21 ?_
  refine lv_topl (fun v_3 ev_3 => ?_)
  exact sk_lret hx hb hr hlocks hK hP hD hS rfl (Nat.le_of_ble_eq_true rfl) (Nat.le_of_ble_eq_true rfl) dX1_timesOf_22
theorem dX1_mostLeft_0 : decode cX1_mostLeft 0 = .ok (.lconst 0, 1) := by decide +kernel
theorem dX1_mostLeft_1 : decode cX1_mostLeft 1 = .ok (.lstore_n 2, 1) := by decide +kernel
theorem dX1_mostLeft_2 : decode cX1_mostLeft 2 = .ok (.iconst 0, 1) := by decide +kernel
theorem dX1_mostLeft_3 : decode cX1_mostLeft 3 = .ok (.istore 4, 2) := by decide +kernel
theorem dX1_mostLeft_5 : decode cX1_mostLeft 5 = .ok (.iload 4, 2) := by decide +kernel
theorem dX1_mostLeft_7 : decode cX1_mostLeft 7 = .ok (.bipush 10, 2) := by decide +kernel
theorem dX1_mostLeft_9 : decode cX1_mostLeft 9 = .ok (.if_icmp .ge 21, 3) := by decide +kernel
theorem dX1_mostLeft_30 : decode cX1_mostLeft 30 = .ok (.lload_n 2, 1) := by decide +kernel
theorem dX1_mostLeft_31 : decode cX1_mostLeft 31 = .ok (.lreturn, 1) := by decide +kernel
theorem dX1_mostLeft_12 : decode cX1_mostLeft 12 = .ok (.lload_n 2, 1) := by decide +kernel
theorem dX1_mostLeft_13 : decode cX1_mostLeft 13 = .ok (.aload_n 0, 1) := by decide +kernel
theorem dX1_mostLeft_14 : decode cX1_mostLeft 14 = .ok (.iload_n 1, 1) := by decide +kernel
theorem dX1_mostLeft_15 : decode cX1_mostLeft 15 = .ok (.iload 4, 2) := by decide +kernel
theorem dX1_mostLeft_17 : decode cX1_mostLeft 17 = .ok (.invokevirtual 79, 3) := by decide +kernel
theorem dX1_mostLeft_20 : decode cX1_mostLeft 20 = .ok (.invokestatic 83, 3) := by decide +kernel
theorem dX1_mostLeft_23 : decode cX1_mostLeft 23 = .ok (.lstore_n 2, 1) := by decide +kernel
theorem dX1_mostLeft_24 : decode cX1_mostLeft 24 = .ok (.iinc 4 1, 3) := by decide +kernel
theorem dX1_mostLeft_27 : decode cX1_mostLeft 27 = .ok (.goto (-22), 3) := by decide +kernel
theorem w_4_234 : (Cond.methodLink RX1 79 yX1_timesOf) ∈ wsL_law := sk_mem (ck_4 _ (List.mem_of_getElem? (i := 234) rfl)) rfl
theorem w_4_89 : (Cond.instanceMethod yX1_timesOf) ∈ wsL_law := sk_mem (ck_4 _ (List.mem_of_getElem? (i := 89) rfl)) rfl
theorem w_4_90 : (Cond.selects RX1 yX1_timesOf yX1_timesOf) ∈ wsL_law := sk_mem (ck_4 _ (List.mem_of_getElem? (i := 90) rfl)) rfl
theorem w_4_165 : (Cond.methodLink RX1 83 Lib.MathLoose.max_long.x) ∈ wsL_law := sk_mem (ck_4 _ (List.mem_of_getElem? (i := 165) rfl)) rfl
theorem w_4_233 : (Cond.code yX1_mostLeft cX1_mostLeft 5 (some .long)) ∈ wsL_law := sk_mem (ck_4 _ (List.mem_of_getElem? (i := 233) rfl)) rfl
set_option maxHeartbeats 4000000 in
set_option maxRecDepth 100000 in
theorem c_mostLeft (l : Launch) (D : va_G) (cI cJ cC cZ cS : ClassId) (q : Nat → Nat) (gd : Nat) (gs : Nat) (e4 : Nat → Int64) (e5 : Nat → Int64) (d : Nat) (hd : d < 9) : skM l yX1_mostLeft cX1_mostLeft 5 (some .long) 1 23 0 0 D (skT cI cJ cC cZ cS) [.ref (q 11), .int (nI d)] [(q 11, .inr (1, [.ref (q 10), .ref (q 67), .ref (q 68), .ref (q 69), .ref (q 70), .ref (q 71), .ref (q 72), .int (nI gd), .int (nI gs)])), (q 70, .inl (cJ, 100, .inr (.inl e4))), (q 71, .inl (cJ, 100, .inr (.inl e5)))] (skL D (skT cI cJ cC cZ cS) (fun (r : Int64) (u : va_W) => u = [(q 11, .inr (1, [.ref (q 10), .ref (q 67), .ref (q 68), .ref (q 69), .ref (q 70), .ref (q 71), .ref (q 72), .int (nI gd), .int (nI gs)])), (q 70, .inl (cJ, 100, .inr (.inl e4))), (q 71, .inl (cJ, 100, .inr (.inl e5)))])) := by
  refine skM_of (by decide +kernel) (Nat.le_of_ble_eq_true rfl) ?_
  intro p e s m below meth c A ls E hP hD hl
  obtain ⟨hx, hb, hr, hml, hlocks, hin, hown, hts, hK, hA⟩ := E
  have hown : s.vm.findClass RX1 = some m.cls := hown
  have hS : va_S A s.heap s.heap [] := va_S.rf
  have hl : lv_has ls 5 [(0, .ref (q 11)), (1, .int (nI d))] := hl
  refine lv_lconst (v := 0) hx hb dX1_mostLeft_0 (by decide) ?_
  refine lv_lstore_n (lv' := [(2, .long 0), (0, .ref (q 11)), (1, .int (nI d))]) hx hb dX1_mostLeft_1 rfl hl (by decide) rfl (fun ls hl => ?_)
  refine lv_iconst (v := 0) hx hb dX1_mostLeft_2 (by decide) ?_
  refine lv_istore (lv' := [(4, .int 0), (2, .long 0), (0, .ref (q 11)), (1, .int (nI d))]) hx hb dX1_mostLeft_3 hl (by decide) rfl (fun ls hl => ?_)
  have lp_1 : ∀ (n_2 : Nat) (i : Nat) (ml : Int64) (H : Heap) (locs : List Loc) (ls : Array Slot), 10 - i < n_2 → (i ≤ 10) → va_P D vwCl [(q 11, .inr (1, [.ref (q 10), .ref (q 67), .ref (q 68), .ref (q 69), .ref (q 70), .ref (q 71), .ref (q 72), .int (nI gd), .int (nI gs)])), (q 70, .inl (cJ, 100, .inr (.inl e4))), (q 71, .inl (cJ, 100, .inr (.inl e5)))] H → va_D A [(q 11, .inr (1, [.ref (q 10), .ref (q 67), .ref (q 68), .ref (q 69), .ref (q 70), .ref (q 71), .ref (q 72), .int (nI gd), .int (nI gs)])), (q 70, .inl (cJ, 100, .inr (.inl e4))), (q 71, .inl (cJ, 100, .inr (.inl e5)))] → va_S A s.heap H locs → lv_has ls 5 [(4, .int (nI i)), (2, .long ml), (0, .ref (q 11)), (1, .int (nI d))] → W p l e { frames := 1, cells := 0, slots := 0, locals := 23 } s m ([.ref (q 11), .int (nI d)] : List Value).toArray below meth c H locs 0 0 (MQ below (skL D (skT cI cJ cC cZ cS) (fun (r : Int64) (u : va_W) => u = [(q 11, .inr (1, [.ref (q 10), .ref (q 67), .ref (q 68), .ref (q 69), .ref (q 70), .ref (q 71), .ref (q 72), .int (nI gd), .int (nI gs)])), (q 70, .inl (cJ, 100, .inr (.inl e4))), (q 71, .inl (cJ, 100, .inr (.inl e5)))]) A) ([.ref (q 11), .int (nI d)] : List Value).toArray s 0 0 A) (F0 m 5 ls []) := by
    intro n_2
    induction n_2 with
    | zero => intro i ml H locs ls hm; exact absurd hm (Nat.not_lt_zero _)
    | succ n_2 ih_lp_1 =>
      intro i ml H locs ls hm hi hP hD hS hl
      refine lv_iload hx hb dX1_mostLeft_5 (lv_at hl 0 rfl) ?_
      refine lv_bipush (v := 10) hx hb dX1_mostLeft_7 (by decide) ?_
      refine lv_icmp_ge (tgt := 30) hx hb dX1_mostLeft_9 (by decide) (fun c_3 => ?_) (fun c_3 => ?_)
      · have c_3 : 10 ≤ i := (nle 10 i (by omega) (by omega)).mp c_3
        refine lv_lload_n hx hb dX1_mostLeft_30 rfl (lv_at hl 1 rfl) ?_
        exact sk_lret hx hb hr hlocks hK hP hD hS rfl (Nat.le_of_ble_eq_true rfl) (Nat.le_of_ble_eq_true rfl) dX1_mostLeft_31
      · have c_3 : ¬ (10 ≤ i) := fun h => c_3 ((nle 10 i (by omega) (by omega)).mpr h)
        refine lv_lload_n hx hb dX1_mostLeft_12 rfl (lv_at hl 1 rfl) ?_
        refine lv_aload_n hx hb dX1_mostLeft_13 rfl (lv_at hl 2 rfl) ?_
        refine lv_iload_n hx hb dX1_mostLeft_14 rfl (lv_at hl 3 rfl) ?_
        refine lv_iload hx hb dX1_mostLeft_15 (lv_at hl 0 rfl) ?_
        refine sk_Vl (q0 := 0) (n := 2) (rest := [.long ml]) (wr := []) ⟨hx, hb, hml, hown, hts⟩ hl.1 (c_timesOf l D cI cJ cC cZ cS q gd gs e4 e5 d i (by omega) (by omega)) w_4_234 w_4_89 w_4_90 w_1_13 w_4_91 (by decide +kernel) ⟨⟨(Nat.le_of_ble_eq_true rfl), (Nat.le_of_ble_eq_true rfl)⟩, (Nat.le_of_ble_eq_true rfl), (Nat.le_of_ble_eq_true rfl)⟩ hK hP hD hS hA [0, 1, 2] [] rfl rfl (by decide +kernel) (by decide +kernel) (by decide +kernel) rfl rfl rfl rfl (Nat.le_of_ble_eq_true rfl) dX1_mostLeft_17 (fun r_4 u H locs hw hP hD hS => ?_)
        obtain rfl := hw
        have hP : va_P D vwCl [(q 11, .inr (1, [.ref (q 10), .ref (q 67), .ref (q 68), .ref (q 69), .ref (q 70), .ref (q 71), .ref (q 72), .int (nI gd), .int (nI gs)])), (q 70, .inl (cJ, 100, .inr (.inl e4))), (q 71, .inl (cJ, 100, .inr (.inl e5)))] H := hP
        have hD : va_D A [(q 11, .inr (1, [.ref (q 10), .ref (q 67), .ref (q 68), .ref (q 69), .ref (q 70), .ref (q 71), .ref (q 72), .int (nI gd), .int (nI gs)])), (q 70, .inl (cJ, 100, .inr (.inl e4))), (q 71, .inl (cJ, 100, .inr (.inl e5)))] := hD
        refine va_mmax_long hx hb (by rw [hml]; exact hl.1.symm) hown (hts _ w_4_165) (hts _ w_4_0) (hts _ w_1_3) (hts _ w_4_1) (Nat.le_of_ble_eq_true rfl) (Nat.le_of_ble_eq_true rfl) (Nat.le_of_ble_eq_true rfl) (Nat.le_of_ble_eq_true rfl) dX1_mostLeft_20 ?_
        refine lv_topl (fun v_5 ev_5 => ?_)
        refine lv_lstore_n (lv' := [(2, .long v_5), (4, .int (nI i)), (0, .ref (q 11)), (1, .int (nI d))]) hx hb dX1_mostLeft_23 rfl hl (by decide) rfl (fun ls hl => ?_)
        refine lv_iinc (v := nI (i + 1)) (lv' := [(4, .int (nI (i + 1))), (2, .long v_5), (0, .ref (q 11)), (1, .int (nI d))]) hx hb dX1_mostLeft_24 hl (k := 1) rfl (ninc i 1 (by decide)) (by decide) rfl (fun ls hl => ?_)
        refine lv_goto (tgt := 5) hx hb dX1_mostLeft_27 (by decide) ?_
        exact ih_lp_1 (i + 1) v_5 _ _ _ (by omega) (by omega) hP hD hS (lv_sub hl [0, 1, 2, 3] rfl)
  exact lp_1 (10 - 0 + 1) 0 0 _ _ _ (Nat.lt_succ_self _) (by omega) hP hD hS (lv_sub hl [0, 1, 2, 3] rfl)
theorem dX1_takeNumbered_0 : decode cX1_takeNumbered 0 = .ok (.lload_n 1, 1) := by decide +kernel
theorem dX1_takeNumbered_1 : decode cX1_takeNumbered 1 = .ok (.lstore 4, 2) := by decide +kernel
theorem dX1_takeNumbered_3 : decode cX1_takeNumbered 3 = .ok (.aload_n 0, 1) := by decide +kernel
theorem dX1_takeNumbered_4 : decode cX1_takeNumbered 4 = .ok (.getfield 35, 3) := by decide +kernel
theorem dX1_takeNumbered_7 : decode cX1_takeNumbered 7 = .ok (.istore 6, 2) := by decide +kernel
theorem dX1_takeNumbered_9 : decode cX1_takeNumbered 9 = .ok (.iconst 0, 1) := by decide +kernel
theorem dX1_takeNumbered_10 : decode cX1_takeNumbered 10 = .ok (.istore 7, 2) := by decide +kernel
theorem dX1_takeNumbered_12 : decode cX1_takeNumbered 12 = .ok (.iload 7, 2) := by decide +kernel
theorem dX1_takeNumbered_14 : decode cX1_takeNumbered 14 = .ok (.aload_n 0, 1) := by decide +kernel
theorem dX1_takeNumbered_15 : decode cX1_takeNumbered 15 = .ok (.getfield 31, 3) := by decide +kernel
theorem dX1_takeNumbered_18 : decode cX1_takeNumbered 18 = .ok (.if_icmp .ge 102, 3) := by decide +kernel
theorem dX1_takeNumbered_120 : decode cX1_takeNumbered 120 = .ok (.return_, 1) := by decide +kernel
theorem dX1_takeNumbered_21 : decode cX1_takeNumbered 21 = .ok (.aload_n 0, 1) := by decide +kernel
theorem dX1_takeNumbered_22 : decode cX1_takeNumbered 22 = .ok (.iload 7, 2) := by decide +kernel
theorem dX1_takeNumbered_24 : decode cX1_takeNumbered 24 = .ok (.iload 6, 2) := by decide +kernel
theorem dX1_takeNumbered_26 : decode cX1_takeNumbered 26 = .ok (.invokevirtual 66, 3) := by decide +kernel
theorem dX1_takeNumbered_29 : decode cX1_takeNumbered 29 = .ok (.istore 8, 2) := by decide +kernel
theorem dX1_takeNumbered_31 : decode cX1_takeNumbered 31 = .ok (.iconst 0, 1) := by decide +kernel
theorem dX1_takeNumbered_32 : decode cX1_takeNumbered 32 = .ok (.istore 9, 2) := by decide +kernel
theorem dX1_takeNumbered_34 : decode cX1_takeNumbered 34 = .ok (.iconst 0, 1) := by decide +kernel
theorem dX1_takeNumbered_35 : decode cX1_takeNumbered 35 = .ok (.istore 10, 2) := by decide +kernel
theorem dX1_takeNumbered_37 : decode cX1_takeNumbered 37 = .ok (.iload 10, 2) := by decide +kernel
theorem dX1_takeNumbered_39 : decode cX1_takeNumbered 39 = .ok (.bipush 10, 2) := by decide +kernel
theorem dX1_takeNumbered_41 : decode cX1_takeNumbered 41 = .ok (.if_icmp .ge 63, 3) := by decide +kernel
theorem dX1_takeNumbered_104 : decode cX1_takeNumbered 104 = .ok (.aload_n 3, 1) := by decide +kernel
theorem dX1_takeNumbered_105 : decode cX1_takeNumbered 105 = .ok (.iload 7, 2) := by decide +kernel
theorem dX1_takeNumbered_107 : decode cX1_takeNumbered 107 = .ok (.iload 9, 2) := by decide +kernel
theorem dX1_takeNumbered_109 : decode cX1_takeNumbered 109 = .ok (.iastore, 1) := by decide +kernel
theorem dX1_takeNumbered_110 : decode cX1_takeNumbered 110 = .ok (.iload 9, 2) := by decide +kernel
theorem dX1_takeNumbered_112 : decode cX1_takeNumbered 112 = .ok (.istore 6, 2) := by decide +kernel
theorem dX1_takeNumbered_114 : decode cX1_takeNumbered 114 = .ok (.iinc 7 1, 3) := by decide +kernel
theorem dX1_takeNumbered_117 : decode cX1_takeNumbered 117 = .ok (.goto (-105), 3) := by decide +kernel
theorem dX1_takeNumbered_44 : decode cX1_takeNumbered 44 = .ok (.iload 8, 2) := by decide +kernel
theorem dX1_takeNumbered_46 : decode cX1_takeNumbered 46 = .ok (.iload 10, 2) := by decide +kernel
theorem dX1_takeNumbered_48 : decode cX1_takeNumbered 48 = .ok (.ishr, 1) := by decide +kernel
theorem dX1_takeNumbered_49 : decode cX1_takeNumbered 49 = .ok (.iconst 1, 1) := by decide +kernel
theorem dX1_takeNumbered_50 : decode cX1_takeNumbered 50 = .ok (.iand, 1) := by decide +kernel
theorem dX1_takeNumbered_51 : decode cX1_takeNumbered 51 = .ok (.iconst 1, 1) := by decide +kernel
theorem dX1_takeNumbered_52 : decode cX1_takeNumbered 52 = .ok (.if_icmp .ne 21, 3) := by decide +kernel
theorem dX1_takeNumbered_73 : decode cX1_takeNumbered 73 = .ok (.lconst 0, 1) := by decide +kernel
theorem dX1_takeNumbered_74 : decode cX1_takeNumbered 74 = .ok (.lstore 11, 2) := by decide +kernel
theorem dX1_takeNumbered_76 : decode cX1_takeNumbered 76 = .ok (.lload 4, 2) := by decide +kernel
theorem dX1_takeNumbered_78 : decode cX1_takeNumbered 78 = .ok (.lload 11, 2) := by decide +kernel
theorem dX1_takeNumbered_80 : decode cX1_takeNumbered 80 = .ok (.lcmp, 1) := by decide +kernel
theorem dX1_takeNumbered_81 : decode cX1_takeNumbered 81 = .ok (.ifCond .ge 10, 3) := by decide +kernel
theorem dX1_takeNumbered_91 : decode cX1_takeNumbered 91 = .ok (.lload 4, 2) := by decide +kernel
theorem dX1_takeNumbered_93 : decode cX1_takeNumbered 93 = .ok (.lload 11, 2) := by decide +kernel
theorem dX1_takeNumbered_95 : decode cX1_takeNumbered 95 = .ok (.lsub, 1) := by decide +kernel
theorem dX1_takeNumbered_96 : decode cX1_takeNumbered 96 = .ok (.lstore 4, 2) := by decide +kernel
theorem dX1_takeNumbered_98 : decode cX1_takeNumbered 98 = .ok (.iinc 10 1, 3) := by decide +kernel
theorem dX1_takeNumbered_101 : decode cX1_takeNumbered 101 = .ok (.goto (-64), 3) := by decide +kernel
theorem dX1_takeNumbered_84 : decode cX1_takeNumbered 84 = .ok (.iload 10, 2) := by decide +kernel
theorem dX1_takeNumbered_86 : decode cX1_takeNumbered 86 = .ok (.istore 9, 2) := by decide +kernel
theorem dX1_takeNumbered_88 : decode cX1_takeNumbered 88 = .ok (.goto 16, 3) := by decide +kernel
theorem dX1_takeNumbered_55 : decode cX1_takeNumbered 55 = .ok (.aload_n 0, 1) := by decide +kernel
theorem dX1_takeNumbered_56 : decode cX1_takeNumbered 56 = .ok (.getfield 21, 3) := by decide +kernel
theorem dX1_takeNumbered_59 : decode cX1_takeNumbered 59 = .ok (.iload 7, 2) := by decide +kernel
theorem dX1_takeNumbered_61 : decode cX1_takeNumbered 61 = .ok (.iconst 1, 1) := by decide +kernel
theorem dX1_takeNumbered_62 : decode cX1_takeNumbered 62 = .ok (.iadd, 1) := by decide +kernel
theorem dX1_takeNumbered_63 : decode cX1_takeNumbered 63 = .ok (.bipush 10, 2) := by decide +kernel
theorem dX1_takeNumbered_65 : decode cX1_takeNumbered 65 = .ok (.imul, 1) := by decide +kernel
theorem dX1_takeNumbered_66 : decode cX1_takeNumbered 66 = .ok (.iload 10, 2) := by decide +kernel
theorem dX1_takeNumbered_68 : decode cX1_takeNumbered 68 = .ok (.iadd, 1) := by decide +kernel
theorem dX1_takeNumbered_69 : decode cX1_takeNumbered 69 = .ok (.laload, 1) := by decide +kernel
theorem dX1_takeNumbered_70 : decode cX1_takeNumbered 70 = .ok (.goto 4, 3) := by decide +kernel
theorem w_4_76 : (Cond.code yX1_takeNumbered cX1_takeNumbered 13 none) ∈ wsL_law := sk_mem (ck_4 _ (List.mem_of_getElem? (i := 76) rfl)) rfl
theorem dX1_gainBy_0 : decode cX1_gainBy 0 = .ok (.aload_n 0, 1) := by decide +kernel
theorem dX1_gainBy_1 : decode cX1_gainBy 1 = .ok (.getfield 38, 3) := by decide +kernel
theorem dX1_gainBy_4 : decode cX1_gainBy 4 = .ok (.getfield 94, 3) := by decide +kernel
theorem dX1_gainBy_7 : decode cX1_gainBy 7 = .ok (.iload_n 1, 1) := by decide +kernel
theorem dX1_gainBy_8 : decode cX1_gainBy 8 = .ok (.bipush 10, 2) := by decide +kernel
theorem dX1_gainBy_10 : decode cX1_gainBy 10 = .ok (.imul, 1) := by decide +kernel
theorem dX1_gainBy_11 : decode cX1_gainBy 11 = .ok (.iload_n 2, 1) := by decide +kernel
theorem dX1_gainBy_12 : decode cX1_gainBy 12 = .ok (.iadd, 1) := by decide +kernel
theorem dX1_gainBy_13 : decode cX1_gainBy 13 = .ok (.laload, 1) := by decide +kernel
theorem dX1_gainBy_14 : decode cX1_gainBy 14 = .ok (.aload_n 0, 1) := by decide +kernel
theorem dX1_gainBy_15 : decode cX1_gainBy 15 = .ok (.getfield 28, 3) := by decide +kernel
theorem dX1_gainBy_18 : decode cX1_gainBy 18 = .ok (.iload_n 1, 1) := by decide +kernel
theorem dX1_gainBy_19 : decode cX1_gainBy 19 = .ok (.iconst 1, 1) := by decide +kernel
theorem dX1_gainBy_20 : decode cX1_gainBy 20 = .ok (.iadd, 1) := by decide +kernel
theorem dX1_gainBy_21 : decode cX1_gainBy 21 = .ok (.bipush 10, 2) := by decide +kernel
theorem dX1_gainBy_23 : decode cX1_gainBy 23 = .ok (.imul, 1) := by decide +kernel
theorem dX1_gainBy_24 : decode cX1_gainBy 24 = .ok (.iload_n 2, 1) := by decide +kernel
theorem dX1_gainBy_25 : decode cX1_gainBy 25 = .ok (.iadd, 1) := by decide +kernel
theorem dX1_gainBy_26 : decode cX1_gainBy 26 = .ok (.laload, 1) := by decide +kernel
theorem dX1_gainBy_27 : decode cX1_gainBy 27 = .ok (.ladd, 1) := by decide +kernel
theorem dX1_gainBy_28 : decode cX1_gainBy 28 = .ok (.lreturn, 1) := by decide +kernel
theorem w_2_73 : (Cond.fieldLink RX1 94 "SameKeeper$Table" "wages" "[J") ∈ wsL_law := sk_mem (ck_2 _ (List.mem_of_getElem? (i := 73) rfl)) rfl
theorem w_2_101 : (Cond.fieldLink RX1 28 "SameKeeper$Graph" "gains" "[J") ∈ wsL_law := sk_mem (ck_2 _ (List.mem_of_getElem? (i := 101) rfl)) rfl
theorem w_4_164 : (Cond.code yX1_gainBy cX1_gainBy 3 (some .long)) ∈ wsL_law := sk_mem (ck_4 _ (List.mem_of_getElem? (i := 164) rfl)) rfl
set_option maxHeartbeats 4000000 in
set_option maxRecDepth 100000 in
theorem c_gainBy (l : Launch) (D : va_G) (cI cJ cC cZ cS : ClassId) (q : Nat → Nat) (gd : Nat) (gs : Nat) (e6 : Nat → Int64) (fg : Nat → Int64) (d : Nat) (ah : Nat) (hd : d < 9) (hah : ah < 10) : skM l yX1_gainBy cX1_gainBy 3 (some .long) 0 0 0 0 D (skT cI cJ cC cZ cS) [.ref (q 11), .int (nI d), .int (nI ah)] [(q 11, .inr (1, [.ref (q 10), .ref (q 67), .ref (q 68), .ref (q 69), .ref (q 70), .ref (q 71), .ref (q 72), .int (nI gd), .int (nI gs)])), (q 72, .inl (cJ, 100, .inr (.inl e6))), (q 10, .inr (9, [.ref (q 61), .ref (q 62), .ref (q 63), .ref (q 64), .ref (q 65), .ref (q 66)])), (q 65, .inl (cJ, 90, .inr (.inl fg)))] (skL D (skT cI cJ cC cZ cS) (fun (r : Int64) (u : va_W) => u = [(q 11, .inr (1, [.ref (q 10), .ref (q 67), .ref (q 68), .ref (q 69), .ref (q 70), .ref (q 71), .ref (q 72), .int (nI gd), .int (nI gs)])), (q 72, .inl (cJ, 100, .inr (.inl e6))), (q 10, .inr (9, [.ref (q 61), .ref (q 62), .ref (q 63), .ref (q 64), .ref (q 65), .ref (q 66)])), (q 65, .inl (cJ, 90, .inr (.inl fg)))])) := by
  refine skM_of (by decide +kernel) (Nat.le_of_ble_eq_true rfl) ?_
  intro p e s m below meth c A ls E hP hD hl
  obtain ⟨hx, hb, hr, hml, hlocks, hin, hown, hts, hK, hA⟩ := E
  have hown : s.vm.findClass RX1 = some m.cls := hown
  have hS : va_S A s.heap s.heap [] := va_S.rf
  have hl : lv_has ls 3 [(0, .ref (q 11)), (1, .int (nI d)), (2, .int (nI ah))] := hl
  refine lv_aload_n hx hb dX1_gainBy_0 rfl (lv_at hl 0 rfl) ?_
  refine sk_get (v := .ref (q 10)) (C := RX1) (T := TX1) (N := 9) hx hb hts inlX1 hown hK hP 0 rfl rfl 0 (by decide) w_2_95 rfl dX1_gainBy_1 ?_
  refine sk_get (v := .ref (q 65)) (C := RX9) (T := TX9) (N := 6) hx hb hts inlX9 hown hK hP 2 rfl rfl 4 (by decide) w_2_73 rfl dX1_gainBy_4 ?_
  refine lv_iload_n hx hb dX1_gainBy_7 rfl (lv_at hl 1 rfl) ?_
  refine lv_bipush (v := 10) hx hb dX1_gainBy_8 (by decide) ?_
  refine lv_imul hx hb dX1_gainBy_10 ?_
  refine sk_top (nI (d * 10)) (nmul d 10) ?_
  refine lv_iload_n hx hb dX1_gainBy_11 rfl (lv_at hl 2 rfl) ?_
  refine lv_iadd hx hb dX1_gainBy_12 ?_
  refine sk_top (nI (d * 10 + ah)) (nI_add (d * 10) ah) ?_
  refine va_lald hx hb hK.1 hP 3 1 rfl rfl (vin (d * 10 + ah) 90 (by omega) (by omega)) dX1_gainBy_13 ?_
  refine lv_topl (fun v_1 ev_1 => ?_)
  refine lv_aload_n hx hb dX1_gainBy_14 rfl (lv_at hl 0 rfl) ?_
  refine sk_get (v := .ref (q 72)) (C := RX1) (T := TX1) (N := 9) hx hb hts inlX1 hown hK hP 0 rfl rfl 6 (by decide) w_2_101 rfl dX1_gainBy_15 ?_
  refine lv_iload_n hx hb dX1_gainBy_18 rfl (lv_at hl 1 rfl) ?_
  refine lv_iconst (v := 1) hx hb dX1_gainBy_19 (by decide) ?_
  refine lv_iadd hx hb dX1_gainBy_20 ?_
  refine sk_top (nI (d + 1)) (nI_add d 1) ?_
  refine lv_bipush (v := 10) hx hb dX1_gainBy_21 (by decide) ?_
  refine lv_imul hx hb dX1_gainBy_23 ?_
  refine sk_top (nI ((d + 1) * 10)) (nmul (d + 1) 10) ?_
  refine lv_iload_n hx hb dX1_gainBy_24 rfl (lv_at hl 2 rfl) ?_
  refine lv_iadd hx hb dX1_gainBy_25 ?_
  refine sk_top (nI ((d + 1) * 10 + ah)) (nI_add ((d + 1) * 10) ah) ?_
  refine va_lald hx hb hK.1 hP 1 1 rfl rfl (vin ((d + 1) * 10 + ah) 100 (by omega) (by omega)) dX1_gainBy_26 ?_
  refine lv_topl (fun v_2 ev_2 => ?_)
  refine lv_ladd hx hb dX1_gainBy_27 ?_
  refine lv_topl (fun v_3 ev_3 => ?_)
  exact sk_lret hx hb hr hlocks hK hP hD hS rfl (Nat.le_of_ble_eq_true rfl) (Nat.le_of_ble_eq_true rfl) dX1_gainBy_28
theorem dX1_bestPay_0 : decode cX1_bestPay 0 = .ok (.iconst 0, 1) := by decide +kernel
theorem dX1_bestPay_1 : decode cX1_bestPay 1 = .ok (.istore_n 1, 1) := by decide +kernel
theorem dX1_bestPay_2 : decode cX1_bestPay 2 = .ok (.iload_n 1, 1) := by decide +kernel
theorem dX1_bestPay_3 : decode cX1_bestPay 3 = .ok (.bipush 10, 2) := by decide +kernel
theorem dX1_bestPay_5 : decode cX1_bestPay 5 = .ok (.if_icmp .ge 24, 3) := by decide +kernel
theorem dX1_bestPay_29 : decode cX1_bestPay 29 = .ok (.aload_n 0, 1) := by decide +kernel
theorem dX1_bestPay_30 : decode cX1_bestPay 30 = .ok (.getfield 31, 3) := by decide +kernel
theorem dX1_bestPay_33 : decode cX1_bestPay 33 = .ok (.iconst 1, 1) := by decide +kernel
theorem dX1_bestPay_34 : decode cX1_bestPay 34 = .ok (.isub, 1) := by decide +kernel
theorem dX1_bestPay_35 : decode cX1_bestPay 35 = .ok (.istore_n 1, 1) := by decide +kernel
theorem dX1_bestPay_36 : decode cX1_bestPay 36 = .ok (.iload_n 1, 1) := by decide +kernel
theorem dX1_bestPay_37 : decode cX1_bestPay 37 = .ok (.ifCond .lt 88, 3) := by decide +kernel
theorem dX1_bestPay_125 : decode cX1_bestPay 125 = .ok (.aload_n 0, 1) := by decide +kernel
theorem dX1_bestPay_126 : decode cX1_bestPay 126 = .ok (.getfield 28, 3) := by decide +kernel
theorem dX1_bestPay_129 : decode cX1_bestPay 129 = .ok (.aload_n 0, 1) := by decide +kernel
theorem dX1_bestPay_130 : decode cX1_bestPay 130 = .ok (.getfield 35, 3) := by decide +kernel
theorem dX1_bestPay_133 : decode cX1_bestPay 133 = .ok (.laload, 1) := by decide +kernel
theorem dX1_bestPay_134 : decode cX1_bestPay 134 = .ok (.lreturn, 1) := by decide +kernel
theorem dX1_bestPay_40 : decode cX1_bestPay 40 = .ok (.iconst 0, 1) := by decide +kernel
theorem dX1_bestPay_41 : decode cX1_bestPay 41 = .ok (.istore_n 2, 1) := by decide +kernel
theorem dX1_bestPay_42 : decode cX1_bestPay 42 = .ok (.iload_n 2, 1) := by decide +kernel
theorem dX1_bestPay_43 : decode cX1_bestPay 43 = .ok (.bipush 10, 2) := by decide +kernel
theorem dX1_bestPay_45 : decode cX1_bestPay 45 = .ok (.if_icmp .ge 74, 3) := by decide +kernel
theorem dX1_bestPay_119 : decode cX1_bestPay 119 = .ok (.iinc 1 (-1), 3) := by decide +kernel
theorem dX1_bestPay_122 : decode cX1_bestPay 122 = .ok (.goto (-86), 3) := by decide +kernel
theorem dX1_bestPay_48 : decode cX1_bestPay 48 = .ok (.aload_n 0, 1) := by decide +kernel
theorem dX1_bestPay_49 : decode cX1_bestPay 49 = .ok (.iload_n 1, 1) := by decide +kernel
theorem dX1_bestPay_50 : decode cX1_bestPay 50 = .ok (.iload_n 2, 1) := by decide +kernel
theorem dX1_bestPay_51 : decode cX1_bestPay 51 = .ok (.invokevirtual 66, 3) := by decide +kernel
theorem dX1_bestPay_54 : decode cX1_bestPay 54 = .ok (.istore_n 3, 1) := by decide +kernel
theorem dX1_bestPay_55 : decode cX1_bestPay 55 = .ok (.ldc2_w 89, 3) := by decide +kernel
theorem dX1_bestPay_58 : decode cX1_bestPay 58 = .ok (.lstore 4, 2) := by decide +kernel
theorem dX1_bestPay_60 : decode cX1_bestPay 60 = .ok (.iconst 0, 1) := by decide +kernel
theorem dX1_bestPay_61 : decode cX1_bestPay 61 = .ok (.istore 6, 2) := by decide +kernel
theorem dX1_bestPay_63 : decode cX1_bestPay 63 = .ok (.iload 6, 2) := by decide +kernel
theorem dX1_bestPay_65 : decode cX1_bestPay 65 = .ok (.bipush 10, 2) := by decide +kernel
theorem dX1_bestPay_67 : decode cX1_bestPay 67 = .ok (.if_icmp .ge 33, 3) := by decide +kernel
theorem dX1_bestPay_100 : decode cX1_bestPay 100 = .ok (.aload_n 0, 1) := by decide +kernel
theorem dX1_bestPay_101 : decode cX1_bestPay 101 = .ok (.getfield 28, 3) := by decide +kernel
theorem dX1_bestPay_104 : decode cX1_bestPay 104 = .ok (.iload_n 1, 1) := by decide +kernel
theorem dX1_bestPay_105 : decode cX1_bestPay 105 = .ok (.bipush 10, 2) := by decide +kernel
theorem dX1_bestPay_107 : decode cX1_bestPay 107 = .ok (.imul, 1) := by decide +kernel
theorem dX1_bestPay_108 : decode cX1_bestPay 108 = .ok (.iload_n 2, 1) := by decide +kernel
theorem dX1_bestPay_109 : decode cX1_bestPay 109 = .ok (.iadd, 1) := by decide +kernel
theorem dX1_bestPay_110 : decode cX1_bestPay 110 = .ok (.lload 4, 2) := by decide +kernel
theorem dX1_bestPay_112 : decode cX1_bestPay 112 = .ok (.lastore, 1) := by decide +kernel
theorem dX1_bestPay_113 : decode cX1_bestPay 113 = .ok (.iinc 2 1, 3) := by decide +kernel
theorem dX1_bestPay_116 : decode cX1_bestPay 116 = .ok (.goto (-74), 3) := by decide +kernel
theorem dX1_bestPay_70 : decode cX1_bestPay 70 = .ok (.iload_n 3, 1) := by decide +kernel
theorem dX1_bestPay_71 : decode cX1_bestPay 71 = .ok (.iload 6, 2) := by decide +kernel
theorem dX1_bestPay_73 : decode cX1_bestPay 73 = .ok (.ishr, 1) := by decide +kernel
theorem dX1_bestPay_74 : decode cX1_bestPay 74 = .ok (.iconst 1, 1) := by decide +kernel
theorem dX1_bestPay_75 : decode cX1_bestPay 75 = .ok (.iand, 1) := by decide +kernel
theorem dX1_bestPay_76 : decode cX1_bestPay 76 = .ok (.iconst 1, 1) := by decide +kernel
theorem dX1_bestPay_77 : decode cX1_bestPay 77 = .ok (.if_icmp .ne 17, 3) := by decide +kernel
theorem dX1_bestPay_94 : decode cX1_bestPay 94 = .ok (.iinc 6 1, 3) := by decide +kernel
theorem dX1_bestPay_97 : decode cX1_bestPay 97 = .ok (.goto (-34), 3) := by decide +kernel
theorem dX1_bestPay_80 : decode cX1_bestPay 80 = .ok (.lload 4, 2) := by decide +kernel
theorem dX1_bestPay_82 : decode cX1_bestPay 82 = .ok (.aload_n 0, 1) := by decide +kernel
theorem dX1_bestPay_83 : decode cX1_bestPay 83 = .ok (.iload_n 1, 1) := by decide +kernel
theorem dX1_bestPay_84 : decode cX1_bestPay 84 = .ok (.iload 6, 2) := by decide +kernel
theorem dX1_bestPay_86 : decode cX1_bestPay 86 = .ok (.invokevirtual 91, 3) := by decide +kernel
theorem dX1_bestPay_89 : decode cX1_bestPay 89 = .ok (.invokestatic 83, 3) := by decide +kernel
theorem dX1_bestPay_92 : decode cX1_bestPay 92 = .ok (.lstore 4, 2) := by decide +kernel
theorem dX1_bestPay_8 : decode cX1_bestPay 8 = .ok (.aload_n 0, 1) := by decide +kernel
theorem dX1_bestPay_9 : decode cX1_bestPay 9 = .ok (.getfield 28, 3) := by decide +kernel
theorem dX1_bestPay_12 : decode cX1_bestPay 12 = .ok (.aload_n 0, 1) := by decide +kernel
theorem dX1_bestPay_13 : decode cX1_bestPay 13 = .ok (.getfield 31, 3) := by decide +kernel
theorem dX1_bestPay_16 : decode cX1_bestPay 16 = .ok (.bipush 10, 2) := by decide +kernel
theorem dX1_bestPay_18 : decode cX1_bestPay 18 = .ok (.imul, 1) := by decide +kernel
theorem dX1_bestPay_19 : decode cX1_bestPay 19 = .ok (.iload_n 1, 1) := by decide +kernel
theorem dX1_bestPay_20 : decode cX1_bestPay 20 = .ok (.iadd, 1) := by decide +kernel
theorem dX1_bestPay_21 : decode cX1_bestPay 21 = .ok (.lconst 0, 1) := by decide +kernel
theorem dX1_bestPay_22 : decode cX1_bestPay 22 = .ok (.lastore, 1) := by decide +kernel
theorem dX1_bestPay_23 : decode cX1_bestPay 23 = .ok (.iinc 1 1, 3) := by decide +kernel
theorem dX1_bestPay_26 : decode cX1_bestPay 26 = .ok (.goto (-24), 3) := by decide +kernel
theorem w_4_160 : (Cond.constantLong RX1 89 (-1000000000000000)) ∈ wsL_law := sk_mem (ck_4 _ (List.mem_of_getElem? (i := 160) rfl)) rfl
theorem w_4_161 : (Cond.methodLink RX1 91 yX1_gainBy) ∈ wsL_law := sk_mem (ck_4 _ (List.mem_of_getElem? (i := 161) rfl)) rfl
theorem w_4_163 : (Cond.instanceMethod yX1_gainBy) ∈ wsL_law := sk_mem (ck_4 _ (List.mem_of_getElem? (i := 163) rfl)) rfl
theorem w_0_26 : (Cond.selects RX1 yX1_gainBy yX1_gainBy) ∈ wsL_law := sk_mem (ck_0 _ (List.mem_of_getElem? (i := 26) rfl)) rfl
theorem w_4_159 : (Cond.code yX1_bestPay cX1_bestPay 7 (some .long)) ∈ wsL_law := sk_mem (ck_4 _ (List.mem_of_getElem? (i := 159) rfl)) rfl
set_option maxHeartbeats 4000000 in
set_option maxRecDepth 100000 in
theorem c_bestPay (l : Launch) (D : va_G) (cI cJ cC cZ cS : ClassId) (q : Nat → Nat) (gd : Nat) (gs : Nat) (e1 : Nat → Int32) (e2 : Nat → Int32) (e3 : Nat → Int32) (e6 : Nat → Int64) (fg : Nat → Int64) (hgd : gd ≤ 9) (hgs : gs ≤ 9) : skM l yX1_bestPay cX1_bestPay 7 (some .long) 1 23 0 0 D (skT cI cJ cC cZ cS) [.ref (q 11)] [(q 11, .inr (1, [.ref (q 10), .ref (q 67), .ref (q 68), .ref (q 69), .ref (q 70), .ref (q 71), .ref (q 72), .int (nI gd), .int (nI gs)])), (q 67, .inl (cI, 90, .inl e1)), (q 68, .inl (cI, 9, .inl e2)), (q 69, .inl (cI, 10, .inl e3)), (q 72, .inl (cJ, 100, .inr (.inl e6))), (q 10, .inr (9, [.ref (q 61), .ref (q 62), .ref (q 63), .ref (q 64), .ref (q 65), .ref (q 66)])), (q 65, .inl (cJ, 90, .inr (.inl fg)))] (skL D (skT cI cJ cC cZ cS) (fun (r : Int64) (u : va_W) => ∃ (g6 : Nat → Int64), u = [(q 11, .inr (1, [.ref (q 10), .ref (q 67), .ref (q 68), .ref (q 69), .ref (q 70), .ref (q 71), .ref (q 72), .int (nI gd), .int (nI gs)])), (q 67, .inl (cI, 90, .inl e1)), (q 68, .inl (cI, 9, .inl e2)), (q 69, .inl (cI, 10, .inl e3)), (q 72, .inl (cJ, 100, .inr (.inl g6))), (q 10, .inr (9, [.ref (q 61), .ref (q 62), .ref (q 63), .ref (q 64), .ref (q 65), .ref (q 66)])), (q 65, .inl (cJ, 90, .inr (.inl fg)))])) := by
  refine skM_of (by decide +kernel) (Nat.le_of_ble_eq_true rfl) ?_
  intro p e s m below meth c A ls E hP hD hl
  obtain ⟨hx, hb, hr, hml, hlocks, hin, hown, hts, hK, hA⟩ := E
  have hown : s.vm.findClass RX1 = some m.cls := hown
  have hS : va_S A s.heap s.heap [] := va_S.rf
  have hl : lv_has ls 7 [(0, .ref (q 11))] := hl
  refine lv_iconst (v := 0) hx hb dX1_bestPay_0 (by decide) ?_
  refine lv_istore_n (lv' := [(1, .int 0), (0, .ref (q 11))]) hx hb dX1_bestPay_1 rfl hl (by decide) rfl (fun ls hl => ?_)
  have lp_1 : ∀ (n_2 : Nat) (i : Nat) (a6 : Nat → Int64) (H : Heap) (locs : List Loc) (ls : Array Slot), 10 - i < n_2 → (i ≤ 10) → va_P D vwCl [(q 11, .inr (1, [.ref (q 10), .ref (q 67), .ref (q 68), .ref (q 69), .ref (q 70), .ref (q 71), .ref (q 72), .int (nI gd), .int (nI gs)])), (q 67, .inl (cI, 90, .inl e1)), (q 68, .inl (cI, 9, .inl e2)), (q 69, .inl (cI, 10, .inl e3)), (q 72, .inl (cJ, 100, .inr (.inl a6))), (q 10, .inr (9, [.ref (q 61), .ref (q 62), .ref (q 63), .ref (q 64), .ref (q 65), .ref (q 66)])), (q 65, .inl (cJ, 90, .inr (.inl fg)))] H → va_D A [(q 11, .inr (1, [.ref (q 10), .ref (q 67), .ref (q 68), .ref (q 69), .ref (q 70), .ref (q 71), .ref (q 72), .int (nI gd), .int (nI gs)])), (q 67, .inl (cI, 90, .inl e1)), (q 68, .inl (cI, 9, .inl e2)), (q 69, .inl (cI, 10, .inl e3)), (q 72, .inl (cJ, 100, .inr (.inl a6))), (q 10, .inr (9, [.ref (q 61), .ref (q 62), .ref (q 63), .ref (q 64), .ref (q 65), .ref (q 66)])), (q 65, .inl (cJ, 90, .inr (.inl fg)))] → va_S A s.heap H locs → lv_has ls 7 [(1, .int (nI i)), (0, .ref (q 11))] → W p l e { frames := 1, cells := 0, slots := 0, locals := 23 } s m ([.ref (q 11)] : List Value).toArray below meth c H locs 0 0 (MQ below (skL D (skT cI cJ cC cZ cS) (fun (r : Int64) (u : va_W) => ∃ (g6 : Nat → Int64), u = [(q 11, .inr (1, [.ref (q 10), .ref (q 67), .ref (q 68), .ref (q 69), .ref (q 70), .ref (q 71), .ref (q 72), .int (nI gd), .int (nI gs)])), (q 67, .inl (cI, 90, .inl e1)), (q 68, .inl (cI, 9, .inl e2)), (q 69, .inl (cI, 10, .inl e3)), (q 72, .inl (cJ, 100, .inr (.inl g6))), (q 10, .inr (9, [.ref (q 61), .ref (q 62), .ref (q 63), .ref (q 64), .ref (q 65), .ref (q 66)])), (q 65, .inl (cJ, 90, .inr (.inl fg)))]) A) ([.ref (q 11)] : List Value).toArray s 0 0 A) (F0 m 2 ls []) := by
    intro n_2
    induction n_2 with
    | zero => intro i a6 H locs ls hm; exact absurd hm (Nat.not_lt_zero _)
    | succ n_2 ih_lp_1 =>
      intro i a6 H locs ls hm hi hP hD hS hl
      refine lv_iload_n hx hb dX1_bestPay_2 rfl (lv_at hl 0 rfl) ?_
      refine lv_bipush (v := 10) hx hb dX1_bestPay_3 (by decide) ?_
      refine lv_icmp_ge (tgt := 29) hx hb dX1_bestPay_5 (by decide) (fun c_3 => ?_) (fun c_3 => ?_)
      · have c_3 : 10 ≤ i := (nle 10 i (by omega) (by omega)).mp c_3
        refine lv_aload_n hx hb dX1_bestPay_29 rfl (lv_at hl 1 rfl) ?_
        refine sk_get (v := .int (nI gd)) (C := RX1) (T := TX1) (N := 9) hx hb hts inlX1 hown hK hP 0 rfl rfl 7 (by decide) w_2_102 rfl dX1_bestPay_30 ?_
        refine lv_iconst (v := 1) hx hb dX1_bestPay_33 (by decide) ?_
        refine lv_isub hx hb dX1_bestPay_34 ?_
        refine lv_istore_n (lv' := [(1, .int (nI gd - 1)), (0, .ref (q 11))]) hx hb dX1_bestPay_35 rfl hl (by decide) rfl (fun ls hl => ?_)
        have lp_4 : ∀ (n_5 : Nat) (dd : Nat) (b6 : Nat → Int64) (H : Heap) (locs : List Loc) (ls : Array Slot), dd < n_5 → (dd ≤ 9) → va_P D vwCl [(q 11, .inr (1, [.ref (q 10), .ref (q 67), .ref (q 68), .ref (q 69), .ref (q 70), .ref (q 71), .ref (q 72), .int (nI gd), .int (nI gs)])), (q 67, .inl (cI, 90, .inl e1)), (q 68, .inl (cI, 9, .inl e2)), (q 69, .inl (cI, 10, .inl e3)), (q 72, .inl (cJ, 100, .inr (.inl b6))), (q 10, .inr (9, [.ref (q 61), .ref (q 62), .ref (q 63), .ref (q 64), .ref (q 65), .ref (q 66)])), (q 65, .inl (cJ, 90, .inr (.inl fg)))] H → va_D A [(q 11, .inr (1, [.ref (q 10), .ref (q 67), .ref (q 68), .ref (q 69), .ref (q 70), .ref (q 71), .ref (q 72), .int (nI gd), .int (nI gs)])), (q 67, .inl (cI, 90, .inl e1)), (q 68, .inl (cI, 9, .inl e2)), (q 69, .inl (cI, 10, .inl e3)), (q 72, .inl (cJ, 100, .inr (.inl b6))), (q 10, .inr (9, [.ref (q 61), .ref (q 62), .ref (q 63), .ref (q 64), .ref (q 65), .ref (q 66)])), (q 65, .inl (cJ, 90, .inr (.inl fg)))] → va_S A s.heap H locs → lv_has ls 7 [(1, .int (nI dd - 1)), (0, .ref (q 11))] → W p l e { frames := 1, cells := 0, slots := 0, locals := 23 } s m ([.ref (q 11)] : List Value).toArray below meth c H locs 0 0 (MQ below (skL D (skT cI cJ cC cZ cS) (fun (r : Int64) (u : va_W) => ∃ (g6 : Nat → Int64), u = [(q 11, .inr (1, [.ref (q 10), .ref (q 67), .ref (q 68), .ref (q 69), .ref (q 70), .ref (q 71), .ref (q 72), .int (nI gd), .int (nI gs)])), (q 67, .inl (cI, 90, .inl e1)), (q 68, .inl (cI, 9, .inl e2)), (q 69, .inl (cI, 10, .inl e3)), (q 72, .inl (cJ, 100, .inr (.inl g6))), (q 10, .inr (9, [.ref (q 61), .ref (q 62), .ref (q 63), .ref (q 64), .ref (q 65), .ref (q 66)])), (q 65, .inl (cJ, 90, .inr (.inl fg)))]) A) ([.ref (q 11)] : List Value).toArray s 0 0 A) (F0 m 36 ls []) := by
          intro n_5
          induction n_5 with
          | zero => intro dd b6 H locs ls hm; exact absurd hm (Nat.not_lt_zero _)
          | succ n_5 ih_lp_4 =>
            intro dd b6 H locs ls hm hdd hP hD hS hl
            refine lv_iload_n hx hb dX1_bestPay_36 rfl (lv_at hl 0 rfl) ?_
            refine lv_if_lt (tgt := 125) hx hb dX1_bestPay_37 (by decide) (fun c_6 => ?_) (fun c_6 => ?_)
            · have c_6 : dd = 0 := npm0 dd (by omega) c_6
              refine lv_aload_n hx hb dX1_bestPay_125 rfl (lv_at hl 1 rfl) ?_
              refine sk_get (v := .ref (q 72)) (C := RX1) (T := TX1) (N := 9) hx hb hts inlX1 hown hK hP 0 rfl rfl 6 (by decide) w_2_101 rfl dX1_bestPay_126 ?_
              refine lv_aload_n hx hb dX1_bestPay_129 rfl (lv_at hl 1 rfl) ?_
              refine sk_get (v := .int (nI gs)) (C := RX1) (T := TX1) (N := 9) hx hb hts inlX1 hown hK hP 0 rfl rfl 8 (by decide) w_2_103 rfl dX1_bestPay_130 ?_
              refine va_lald hx hb hK.1 hP 4 1 rfl rfl (vin gs 100 (by omega) (by omega)) dX1_bestPay_133 ?_
              refine lv_topl (fun v_7 ev_7 => ?_)
              exact sk_lret hx hb hr hlocks hK hP hD hS (⟨b6, rfl⟩) (Nat.le_of_ble_eq_true rfl) (Nat.le_of_ble_eq_true rfl) dX1_bestPay_134
            · have c_6 : 1 ≤ dd := npm1 dd c_6
              rw [npred dd (by omega)] at hl
              refine lv_iconst (v := 0) hx hb dX1_bestPay_40 (by decide) ?_
              refine lv_istore_n (lv' := [(2, .int 0), (1, .int (nI (dd - 1))), (0, .ref (q 11))]) hx hb dX1_bestPay_41 rfl hl (by decide) rfl (fun ls hl => ?_)
              have lp_8 : ∀ (n_9 : Nat) (jj : Nat) (c6 : Nat → Int64) (H : Heap) (locs : List Loc) (ls : Array Slot), 10 - jj < n_9 → (jj ≤ 10) → va_P D vwCl [(q 11, .inr (1, [.ref (q 10), .ref (q 67), .ref (q 68), .ref (q 69), .ref (q 70), .ref (q 71), .ref (q 72), .int (nI gd), .int (nI gs)])), (q 67, .inl (cI, 90, .inl e1)), (q 68, .inl (cI, 9, .inl e2)), (q 69, .inl (cI, 10, .inl e3)), (q 72, .inl (cJ, 100, .inr (.inl c6))), (q 10, .inr (9, [.ref (q 61), .ref (q 62), .ref (q 63), .ref (q 64), .ref (q 65), .ref (q 66)])), (q 65, .inl (cJ, 90, .inr (.inl fg)))] H → va_D A [(q 11, .inr (1, [.ref (q 10), .ref (q 67), .ref (q 68), .ref (q 69), .ref (q 70), .ref (q 71), .ref (q 72), .int (nI gd), .int (nI gs)])), (q 67, .inl (cI, 90, .inl e1)), (q 68, .inl (cI, 9, .inl e2)), (q 69, .inl (cI, 10, .inl e3)), (q 72, .inl (cJ, 100, .inr (.inl c6))), (q 10, .inr (9, [.ref (q 61), .ref (q 62), .ref (q 63), .ref (q 64), .ref (q 65), .ref (q 66)])), (q 65, .inl (cJ, 90, .inr (.inl fg)))] → va_S A s.heap H locs → lv_has ls 7 [(2, .int (nI jj)), (1, .int (nI (dd - 1))), (0, .ref (q 11))] → W p l e { frames := 1, cells := 0, slots := 0, locals := 23 } s m ([.ref (q 11)] : List Value).toArray below meth c H locs 0 0 (MQ below (skL D (skT cI cJ cC cZ cS) (fun (r : Int64) (u : va_W) => ∃ (g6 : Nat → Int64), u = [(q 11, .inr (1, [.ref (q 10), .ref (q 67), .ref (q 68), .ref (q 69), .ref (q 70), .ref (q 71), .ref (q 72), .int (nI gd), .int (nI gs)])), (q 67, .inl (cI, 90, .inl e1)), (q 68, .inl (cI, 9, .inl e2)), (q 69, .inl (cI, 10, .inl e3)), (q 72, .inl (cJ, 100, .inr (.inl g6))), (q 10, .inr (9, [.ref (q 61), .ref (q 62), .ref (q 63), .ref (q 64), .ref (q 65), .ref (q 66)])), (q 65, .inl (cJ, 90, .inr (.inl fg)))]) A) ([.ref (q 11)] : List Value).toArray s 0 0 A) (F0 m 42 ls []) := by
                intro n_9
                induction n_9 with
                | zero => intro jj c6 H locs ls hm; exact absurd hm (Nat.not_lt_zero _)
                | succ n_9 ih_lp_8 =>
                  intro jj c6 H locs ls hm hjj hP hD hS hl
                  refine lv_iload_n hx hb dX1_bestPay_42 rfl (lv_at hl 0 rfl) ?_
                  refine lv_bipush (v := 10) hx hb dX1_bestPay_43 (by decide) ?_
                  refine lv_icmp_ge (tgt := 119) hx hb dX1_bestPay_45 (by decide) (fun c_10 => ?_) (fun c_10 => ?_)
                  · have c_10 : 10 ≤ jj := (nle 10 jj (by omega) (by omega)).mp c_10
                    refine lv_iinc (v := nI (dd - 1) - 1) (lv' := [(1, .int (nI (dd - 1) - 1)), (2, .int (nI jj)), (0, .ref (q 11))]) hx hb dX1_bestPay_119 hl (k := 1) rfl (ndn _) (by decide) rfl (fun ls hl => ?_)
                    refine lv_goto (tgt := 36) hx hb dX1_bestPay_122 (by decide) ?_
                    exact ih_lp_4 (dd - 1) c6 _ _ _ (by omega) (by omega) hP hD hS (lv_sub hl [0, 2] rfl)
                  · have c_10 : ¬ (10 ≤ jj) := fun h => c_10 ((nle 10 jj (by omega) (by omega)).mpr h)
                    refine lv_aload_n hx hb dX1_bestPay_48 rfl (lv_at hl 2 rfl) ?_
                    refine lv_iload_n hx hb dX1_bestPay_49 rfl (lv_at hl 1 rfl) ?_
                    refine lv_iload_n hx hb dX1_bestPay_50 rfl (lv_at hl 0 rfl) ?_
                    refine sk_Vi (q0 := 0) (n := 2) (rest := []) (wr := [(q 72, .inl (cJ, 100, .inr (.inl c6))), (q 10, .inr (9, [.ref (q 61), .ref (q 62), .ref (q 63), .ref (q 64), .ref (q 65), .ref (q 66)])), (q 65, .inl (cJ, 90, .inr (.inl fg)))]) ⟨hx, hb, hml, hown, hts⟩ hl.1 (c_next l D cI cJ cC cZ cS q gd gs e1 e2 e3 (dd - 1) jj (by omega) (by omega)) w_4_57 w_4_59 w_0_20 w_1_13 w_4_60 (by decide +kernel) ⟨⟨(Nat.le_of_ble_eq_true rfl), (Nat.le_of_ble_eq_true rfl)⟩, (Nat.le_of_ble_eq_true rfl), (Nat.le_of_ble_eq_true rfl)⟩ hK hP hD hS hA [0, 1, 2, 3] [4, 5, 6] rfl rfl (by decide +kernel) (by decide +kernel) (by decide +kernel) rfl rfl rfl rfl (Nat.le_of_ble_eq_true rfl) dX1_bestPay_51 (fun r_11 u H locs hw hP hD hS => ?_)
                    obtain rfl := hw
                    have hP : va_P D vwCl [(q 72, .inl (cJ, 100, .inr (.inl c6))), (q 10, .inr (9, [.ref (q 61), .ref (q 62), .ref (q 63), .ref (q 64), .ref (q 65), .ref (q 66)])), (q 65, .inl (cJ, 90, .inr (.inl fg))), (q 11, .inr (1, [.ref (q 10), .ref (q 67), .ref (q 68), .ref (q 69), .ref (q 70), .ref (q 71), .ref (q 72), .int (nI gd), .int (nI gs)])), (q 67, .inl (cI, 90, .inl e1)), (q 68, .inl (cI, 9, .inl e2)), (q 69, .inl (cI, 10, .inl e3))] H := hP
                    have hD : va_D A [(q 72, .inl (cJ, 100, .inr (.inl c6))), (q 10, .inr (9, [.ref (q 61), .ref (q 62), .ref (q 63), .ref (q 64), .ref (q 65), .ref (q 66)])), (q 65, .inl (cJ, 90, .inr (.inl fg))), (q 11, .inr (1, [.ref (q 10), .ref (q 67), .ref (q 68), .ref (q 69), .ref (q 70), .ref (q 71), .ref (q 72), .int (nI gd), .int (nI gs)])), (q 67, .inl (cI, 90, .inl e1)), (q 68, .inl (cI, 9, .inl e2)), (q 69, .inl (cI, 10, .inl e3))] := hD
                    refine lv_istore_n (lv' := [(3, .int r_11), (2, .int (nI jj)), (1, .int (nI (dd - 1))), (0, .ref (q 11))]) hx hb dX1_bestPay_54 rfl hl (by decide) rfl (fun ls hl => ?_)
                    refine lv_ldc2 (v := (-1000000000000000)) hx hb hown (hts _ w_4_160) dX1_bestPay_55 ?_
                    refine lv_lstore (lv' := [(4, .long (-1000000000000000)), (3, .int r_11), (2, .int (nI jj)), (1, .int (nI (dd - 1))), (0, .ref (q 11))]) hx hb dX1_bestPay_58 hl (by decide) rfl (fun ls hl => ?_)
                    refine lv_iconst (v := 0) hx hb dX1_bestPay_60 (by decide) ?_
                    refine lv_istore (lv' := [(6, .int 0), (4, .long (-1000000000000000)), (3, .int r_11), (2, .int (nI jj)), (1, .int (nI (dd - 1))), (0, .ref (q 11))]) hx hb dX1_bestPay_61 hl (by decide) rfl (fun ls hl => ?_)
                    have lp_12 : ∀ (n_13 : Nat) (kk : Nat) (sm : Int64) (H : Heap) (locs : List Loc) (ls : Array Slot), 10 - kk < n_13 → (kk ≤ 10) → va_P D vwCl [(q 72, .inl (cJ, 100, .inr (.inl c6))), (q 10, .inr (9, [.ref (q 61), .ref (q 62), .ref (q 63), .ref (q 64), .ref (q 65), .ref (q 66)])), (q 65, .inl (cJ, 90, .inr (.inl fg))), (q 11, .inr (1, [.ref (q 10), .ref (q 67), .ref (q 68), .ref (q 69), .ref (q 70), .ref (q 71), .ref (q 72), .int (nI gd), .int (nI gs)])), (q 67, .inl (cI, 90, .inl e1)), (q 68, .inl (cI, 9, .inl e2)), (q 69, .inl (cI, 10, .inl e3))] H → va_D A [(q 72, .inl (cJ, 100, .inr (.inl c6))), (q 10, .inr (9, [.ref (q 61), .ref (q 62), .ref (q 63), .ref (q 64), .ref (q 65), .ref (q 66)])), (q 65, .inl (cJ, 90, .inr (.inl fg))), (q 11, .inr (1, [.ref (q 10), .ref (q 67), .ref (q 68), .ref (q 69), .ref (q 70), .ref (q 71), .ref (q 72), .int (nI gd), .int (nI gs)])), (q 67, .inl (cI, 90, .inl e1)), (q 68, .inl (cI, 9, .inl e2)), (q 69, .inl (cI, 10, .inl e3))] → va_S A s.heap H locs → lv_has ls 7 [(6, .int (nI kk)), (4, .long sm), (3, .int r_11), (2, .int (nI jj)), (1, .int (nI (dd - 1))), (0, .ref (q 11))] → W p l e { frames := 1, cells := 0, slots := 0, locals := 23 } s m ([.ref (q 11)] : List Value).toArray below meth c H locs 0 0 (MQ below (skL D (skT cI cJ cC cZ cS) (fun (r : Int64) (u : va_W) => ∃ (g6 : Nat → Int64), u = [(q 11, .inr (1, [.ref (q 10), .ref (q 67), .ref (q 68), .ref (q 69), .ref (q 70), .ref (q 71), .ref (q 72), .int (nI gd), .int (nI gs)])), (q 67, .inl (cI, 90, .inl e1)), (q 68, .inl (cI, 9, .inl e2)), (q 69, .inl (cI, 10, .inl e3)), (q 72, .inl (cJ, 100, .inr (.inl g6))), (q 10, .inr (9, [.ref (q 61), .ref (q 62), .ref (q 63), .ref (q 64), .ref (q 65), .ref (q 66)])), (q 65, .inl (cJ, 90, .inr (.inl fg)))]) A) ([.ref (q 11)] : List Value).toArray s 0 0 A) (F0 m 63 ls []) := by
                      intro n_13
                      induction n_13 with
                      | zero => intro kk sm H locs ls hm; exact absurd hm (Nat.not_lt_zero _)
                      | succ n_13 ih_lp_12 =>
                        intro kk sm H locs ls hm hkk hP hD hS hl
                        refine lv_iload hx hb dX1_bestPay_63 (lv_at hl 0 rfl) ?_
                        refine lv_bipush (v := 10) hx hb dX1_bestPay_65 (by decide) ?_
                        refine lv_icmp_ge (tgt := 100) hx hb dX1_bestPay_67 (by decide) (fun c_14 => ?_) (fun c_14 => ?_)
                        · have c_14 : 10 ≤ kk := (nle 10 kk (by omega) (by omega)).mp c_14
                          refine lv_aload_n hx hb dX1_bestPay_100 rfl (lv_at hl 5 rfl) ?_
                          refine sk_get (v := .ref (q 72)) (C := RX1) (T := TX1) (N := 9) hx hb hts inlX1 hown hK hP 3 rfl rfl 6 (by decide) w_2_101 rfl dX1_bestPay_101 ?_
                          refine lv_iload_n hx hb dX1_bestPay_104 rfl (lv_at hl 4 rfl) ?_
                          refine lv_bipush (v := 10) hx hb dX1_bestPay_105 (by decide) ?_
                          refine lv_imul hx hb dX1_bestPay_107 ?_
                          refine sk_top (nI ((dd - 1) * 10)) (nmul (dd - 1) 10) ?_
                          refine lv_iload_n hx hb dX1_bestPay_108 rfl (lv_at hl 3 rfl) ?_
                          refine lv_iadd hx hb dX1_bestPay_109 ?_
                          refine sk_top (nI ((dd - 1) * 10 + jj)) (nI_add ((dd - 1) * 10) jj) ?_
                          refine lv_lload hx hb dX1_bestPay_110 (lv_at hl 1 rfl) ?_
                          refine sk_lastO (ws' := fun f_15 => [(q 72, .inl (cJ, 100, .inr (.inl f_15))), (q 10, .inr (9, [.ref (q 61), .ref (q 62), .ref (q 63), .ref (q 64), .ref (q 65), .ref (q 66)])), (q 65, .inl (cJ, 90, .inr (.inl fg))), (q 11, .inr (1, [.ref (q 10), .ref (q 67), .ref (q 68), .ref (q 69), .ref (q 70), .ref (q 71), .ref (q 72), .int (nI gd), .int (nI gs)])), (q 67, .inl (cI, 90, .inl e1)), (q 68, .inl (cI, 9, .inl e2)), (q 69, .inl (cI, 10, .inl e3))]) hx hb hK hP hD hS 0 1 rfl rfl (vin ((dd - 1) * 10 + jj) 100 (by omega) (by omega)) (fun _ => rfl) dX1_bestPay_112 (fun f_15 H locs hP hD hS => ?_)
                          refine lv_iinc (v := nI (jj + 1)) (lv' := [(2, .int (nI (jj + 1))), (6, .int (nI kk)), (4, .long sm), (3, .int r_11), (1, .int (nI (dd - 1))), (0, .ref (q 11))]) hx hb dX1_bestPay_113 hl (k := 3) rfl (ninc jj 1 (by decide)) (by decide) rfl (fun ls hl => ?_)
                          refine lv_goto (tgt := 42) hx hb dX1_bestPay_116 (by decide) ?_
                          have hP := hP.sub (ws' := [(q 11, .inr (1, [.ref (q 10), .ref (q 67), .ref (q 68), .ref (q 69), .ref (q 70), .ref (q 71), .ref (q 72), .int (nI gd), .int (nI gs)])), (q 67, .inl (cI, 90, .inl e1)), (q 68, .inl (cI, 9, .inl e2)), (q 69, .inl (cI, 10, .inl e3)), (q 72, .inl (cJ, 100, .inr (.inl f_15))), (q 10, .inr (9, [.ref (q 61), .ref (q 62), .ref (q 63), .ref (q 64), .ref (q 65), .ref (q 66)])), (q 65, .inl (cJ, 90, .inr (.inl fg)))]) [3, 4, 5, 6, 0, 1, 2] rfl
                          have hD := hD.sub (ws' := [(q 11, .inr (1, [.ref (q 10), .ref (q 67), .ref (q 68), .ref (q 69), .ref (q 70), .ref (q 71), .ref (q 72), .int (nI gd), .int (nI gs)])), (q 67, .inl (cI, 90, .inl e1)), (q 68, .inl (cI, 9, .inl e2)), (q 69, .inl (cI, 10, .inl e3)), (q 72, .inl (cJ, 100, .inr (.inl f_15))), (q 10, .inr (9, [.ref (q 61), .ref (q 62), .ref (q 63), .ref (q 64), .ref (q 65), .ref (q 66)])), (q 65, .inl (cJ, 90, .inr (.inl fg)))]) [3, 4, 5, 6, 0, 1, 2] (by decide +kernel) rfl
                          exact ih_lp_8 (jj + 1) f_15 _ _ _ (by omega) (by omega) hP hD hS (lv_sub hl [0, 4, 5] rfl)
                        · have c_14 : ¬ (10 ≤ kk) := fun h => c_14 ((nle 10 kk (by omega) (by omega)).mpr h)
                          refine lv_iload_n hx hb dX1_bestPay_70 rfl (lv_at hl 2 rfl) ?_
                          refine lv_iload hx hb dX1_bestPay_71 (lv_at hl 0 rfl) ?_
                          refine lv_ishr hx hb dX1_bestPay_73 ?_
                          refine lv_topi (fun v_16 ev_16 => ?_)
                          refine lv_iconst (v := 1) hx hb dX1_bestPay_74 (by decide) ?_
                          refine lv_iand hx hb dX1_bestPay_75 ?_
                          refine lv_topi (fun v_17 ev_17 => ?_)
                          refine lv_iconst (v := 1) hx hb dX1_bestPay_76 (by decide) ?_
                          refine lv_icmp_ne (tgt := 94) hx hb dX1_bestPay_77 (by decide) (fun c_18 => ?_) (fun c_18 => ?_)
                          · skip
                            refine lv_iinc (v := nI (kk + 1)) (lv' := [(6, .int (nI (kk + 1))), (4, .long sm), (3, .int r_11), (2, .int (nI jj)), (1, .int (nI (dd - 1))), (0, .ref (q 11))]) hx hb dX1_bestPay_94 hl (k := 0) rfl (ninc kk 1 (by decide)) (by decide) rfl (fun ls hl => ?_)
                            refine lv_goto (tgt := 63) hx hb dX1_bestPay_97 (by decide) ?_
                            exact ih_lp_12 (kk + 1) sm _ _ _ (by omega) (by omega) hP hD hS (lv_sub hl [0, 1, 2, 3, 4, 5] rfl)
                          · skip
                            refine lv_lload hx hb dX1_bestPay_80 (lv_at hl 1 rfl) ?_
                            refine lv_aload_n hx hb dX1_bestPay_82 rfl (lv_at hl 5 rfl) ?_
                            refine lv_iload_n hx hb dX1_bestPay_83 rfl (lv_at hl 4 rfl) ?_
                            refine lv_iload hx hb dX1_bestPay_84 (lv_at hl 0 rfl) ?_
                            refine sk_Vl (q0 := 0) (n := 2) (rest := [.long sm]) (wr := [(q 67, .inl (cI, 90, .inl e1)), (q 68, .inl (cI, 9, .inl e2)), (q 69, .inl (cI, 10, .inl e3))]) ⟨hx, hb, hml, hown, hts⟩ hl.1 (c_gainBy l D cI cJ cC cZ cS q gd gs c6 fg (dd - 1) kk (by omega) (by omega)) w_4_161 w_4_163 w_0_26 w_1_13 w_4_164 (by decide +kernel) ⟨⟨(Nat.le_of_ble_eq_true rfl), (Nat.le_of_ble_eq_true rfl)⟩, (Nat.le_of_ble_eq_true rfl), (Nat.le_of_ble_eq_true rfl)⟩ hK hP hD hS hA [3, 0, 1, 2] [4, 5, 6] rfl rfl (by decide +kernel) (by decide +kernel) (by decide +kernel) rfl rfl rfl rfl (Nat.le_of_ble_eq_true rfl) dX1_bestPay_86 (fun r_19 u H locs hw hP hD hS => ?_)
                            obtain rfl := hw
                            have hP : va_P D vwCl [(q 67, .inl (cI, 90, .inl e1)), (q 68, .inl (cI, 9, .inl e2)), (q 69, .inl (cI, 10, .inl e3)), (q 11, .inr (1, [.ref (q 10), .ref (q 67), .ref (q 68), .ref (q 69), .ref (q 70), .ref (q 71), .ref (q 72), .int (nI gd), .int (nI gs)])), (q 72, .inl (cJ, 100, .inr (.inl c6))), (q 10, .inr (9, [.ref (q 61), .ref (q 62), .ref (q 63), .ref (q 64), .ref (q 65), .ref (q 66)])), (q 65, .inl (cJ, 90, .inr (.inl fg)))] H := hP
                            have hD : va_D A [(q 67, .inl (cI, 90, .inl e1)), (q 68, .inl (cI, 9, .inl e2)), (q 69, .inl (cI, 10, .inl e3)), (q 11, .inr (1, [.ref (q 10), .ref (q 67), .ref (q 68), .ref (q 69), .ref (q 70), .ref (q 71), .ref (q 72), .int (nI gd), .int (nI gs)])), (q 72, .inl (cJ, 100, .inr (.inl c6))), (q 10, .inr (9, [.ref (q 61), .ref (q 62), .ref (q 63), .ref (q 64), .ref (q 65), .ref (q 66)])), (q 65, .inl (cJ, 90, .inr (.inl fg)))] := hD
                            refine va_mmax_long hx hb (by rw [hml]; exact hl.1.symm) hown (hts _ w_4_165) (hts _ w_4_0) (hts _ w_1_3) (hts _ w_4_1) (Nat.le_of_ble_eq_true rfl) (Nat.le_of_ble_eq_true rfl) (Nat.le_of_ble_eq_true rfl) (Nat.le_of_ble_eq_true rfl) dX1_bestPay_89 ?_
                            refine lv_topl (fun v_20 ev_20 => ?_)
                            refine lv_lstore (lv' := [(4, .long v_20), (6, .int (nI kk)), (3, .int r_11), (2, .int (nI jj)), (1, .int (nI (dd - 1))), (0, .ref (q 11))]) hx hb dX1_bestPay_92 hl (by decide) rfl (fun ls hl => ?_)
                            refine lv_iinc (v := nI (kk + 1)) (lv' := [(6, .int (nI (kk + 1))), (4, .long v_20), (3, .int r_11), (2, .int (nI jj)), (1, .int (nI (dd - 1))), (0, .ref (q 11))]) hx hb dX1_bestPay_94 hl (k := 1) rfl (ninc kk 1 (by decide)) (by decide) rfl (fun ls hl => ?_)
                            refine lv_goto (tgt := 63) hx hb dX1_bestPay_97 (by decide) ?_
                            have hP := hP.sub (ws' := [(q 72, .inl (cJ, 100, .inr (.inl c6))), (q 10, .inr (9, [.ref (q 61), .ref (q 62), .ref (q 63), .ref (q 64), .ref (q 65), .ref (q 66)])), (q 65, .inl (cJ, 90, .inr (.inl fg))), (q 11, .inr (1, [.ref (q 10), .ref (q 67), .ref (q 68), .ref (q 69), .ref (q 70), .ref (q 71), .ref (q 72), .int (nI gd), .int (nI gs)])), (q 67, .inl (cI, 90, .inl e1)), (q 68, .inl (cI, 9, .inl e2)), (q 69, .inl (cI, 10, .inl e3))]) [4, 5, 6, 3, 0, 1, 2] rfl
                            have hD := hD.sub (ws' := [(q 72, .inl (cJ, 100, .inr (.inl c6))), (q 10, .inr (9, [.ref (q 61), .ref (q 62), .ref (q 63), .ref (q 64), .ref (q 65), .ref (q 66)])), (q 65, .inl (cJ, 90, .inr (.inl fg))), (q 11, .inr (1, [.ref (q 10), .ref (q 67), .ref (q 68), .ref (q 69), .ref (q 70), .ref (q 71), .ref (q 72), .int (nI gd), .int (nI gs)])), (q 67, .inl (cI, 90, .inl e1)), (q 68, .inl (cI, 9, .inl e2)), (q 69, .inl (cI, 10, .inl e3))]) [4, 5, 6, 3, 0, 1, 2] (by decide +kernel) rfl
                            exact ih_lp_12 (kk + 1) v_20 _ _ _ (by omega) (by omega) hP hD hS (lv_sub hl [0, 1, 2, 3, 4, 5] rfl)
                    exact lp_12 (10 - 0 + 1) 0 (-1000000000000000) _ _ _ (Nat.lt_succ_self _) (by omega) hP hD hS (lv_sub hl [0, 1, 2, 3, 4, 5] rfl)
              exact lp_8 (10 - 0 + 1) 0 b6 _ _ _ (Nat.lt_succ_self _) (by omega) hP hD hS (lv_sub hl [0, 1, 2] rfl)
        exact lp_4 (gd + 1) gd a6 _ _ _ (Nat.lt_succ_self _) (by omega) hP hD hS (lv_sub hl [0, 1] rfl)
      · have c_3 : ¬ (10 ≤ i) := fun h => c_3 ((nle 10 i (by omega) (by omega)).mpr h)
        refine lv_aload_n hx hb dX1_bestPay_8 rfl (lv_at hl 1 rfl) ?_
        refine sk_get (v := .ref (q 72)) (C := RX1) (T := TX1) (N := 9) hx hb hts inlX1 hown hK hP 0 rfl rfl 6 (by decide) w_2_101 rfl dX1_bestPay_9 ?_
        refine lv_aload_n hx hb dX1_bestPay_12 rfl (lv_at hl 1 rfl) ?_
        refine sk_get (v := .int (nI gd)) (C := RX1) (T := TX1) (N := 9) hx hb hts inlX1 hown hK hP 0 rfl rfl 7 (by decide) w_2_102 rfl dX1_bestPay_13 ?_
        refine lv_bipush (v := 10) hx hb dX1_bestPay_16 (by decide) ?_
        refine lv_imul hx hb dX1_bestPay_18 ?_
        refine sk_top (nI (gd * 10)) (nmul gd 10) ?_
        refine lv_iload_n hx hb dX1_bestPay_19 rfl (lv_at hl 0 rfl) ?_
        refine lv_iadd hx hb dX1_bestPay_20 ?_
        refine sk_top (nI (gd * 10 + i)) (nI_add (gd * 10) i) ?_
        refine lv_lconst (v := 0) hx hb dX1_bestPay_21 (by decide) ?_
        refine sk_lastO (ws' := fun f_21 => [(q 11, .inr (1, [.ref (q 10), .ref (q 67), .ref (q 68), .ref (q 69), .ref (q 70), .ref (q 71), .ref (q 72), .int (nI gd), .int (nI gs)])), (q 67, .inl (cI, 90, .inl e1)), (q 68, .inl (cI, 9, .inl e2)), (q 69, .inl (cI, 10, .inl e3)), (q 72, .inl (cJ, 100, .inr (.inl f_21))), (q 10, .inr (9, [.ref (q 61), .ref (q 62), .ref (q 63), .ref (q 64), .ref (q 65), .ref (q 66)])), (q 65, .inl (cJ, 90, .inr (.inl fg)))]) hx hb hK hP hD hS 4 1 rfl rfl (vin (gd * 10 + i) 100 (by omega) (by omega)) (fun _ => rfl) dX1_bestPay_22 (fun f_21 H locs hP hD hS => ?_)
        refine lv_iinc (v := nI (i + 1)) (lv' := [(1, .int (nI (i + 1))), (0, .ref (q 11))]) hx hb dX1_bestPay_23 hl (k := 0) rfl (ninc i 1 (by decide)) (by decide) rfl (fun ls hl => ?_)
        refine lv_goto (tgt := 2) hx hb dX1_bestPay_26 (by decide) ?_
        exact ih_lp_1 (i + 1) f_21 _ _ _ (by omega) (by omega) hP hD hS (lv_sub hl [0, 1] rfl)
  exact lp_1 (10 - 0 + 1) 0 e6 _ _ _ (Nat.lt_succ_self _) (by omega) hP hD hS (lv_sub hl [0, 1] rfl)
theorem dX1_takeBestPaid_0 : decode cX1_takeBestPaid 0 = .ok (.aload_n 0, 1) := by decide +kernel
theorem dX1_takeBestPaid_1 : decode cX1_takeBestPaid 1 = .ok (.getfield 35, 3) := by decide +kernel
theorem dX1_takeBestPaid_4 : decode cX1_takeBestPaid 4 = .ok (.istore_n 2, 1) := by decide +kernel
theorem dX1_takeBestPaid_5 : decode cX1_takeBestPaid 5 = .ok (.iconst 0, 1) := by decide +kernel
theorem dX1_takeBestPaid_6 : decode cX1_takeBestPaid 6 = .ok (.istore_n 3, 1) := by decide +kernel
theorem dX1_takeBestPaid_7 : decode cX1_takeBestPaid 7 = .ok (.iload_n 3, 1) := by decide +kernel
theorem dX1_takeBestPaid_8 : decode cX1_takeBestPaid 8 = .ok (.aload_n 0, 1) := by decide +kernel
theorem dX1_takeBestPaid_9 : decode cX1_takeBestPaid 9 = .ok (.getfield 31, 3) := by decide +kernel
theorem dX1_takeBestPaid_12 : decode cX1_takeBestPaid 12 = .ok (.if_icmp .ge 84, 3) := by decide +kernel
theorem dX1_takeBestPaid_96 : decode cX1_takeBestPaid 96 = .ok (.return_, 1) := by decide +kernel
theorem dX1_takeBestPaid_15 : decode cX1_takeBestPaid 15 = .ok (.aload_n 0, 1) := by decide +kernel
theorem dX1_takeBestPaid_16 : decode cX1_takeBestPaid 16 = .ok (.iload_n 3, 1) := by decide +kernel
theorem dX1_takeBestPaid_17 : decode cX1_takeBestPaid 17 = .ok (.iload_n 2, 1) := by decide +kernel
theorem dX1_takeBestPaid_18 : decode cX1_takeBestPaid 18 = .ok (.invokevirtual 66, 3) := by decide +kernel
theorem dX1_takeBestPaid_21 : decode cX1_takeBestPaid 21 = .ok (.istore 4, 2) := by decide +kernel
theorem dX1_takeBestPaid_23 : decode cX1_takeBestPaid 23 = .ok (.iconst 0, 1) := by decide +kernel
theorem dX1_takeBestPaid_24 : decode cX1_takeBestPaid 24 = .ok (.istore 5, 2) := by decide +kernel
theorem dX1_takeBestPaid_26 : decode cX1_takeBestPaid 26 = .ok (.iconst 0, 1) := by decide +kernel
theorem dX1_takeBestPaid_27 : decode cX1_takeBestPaid 27 = .ok (.istore 6, 2) := by decide +kernel
theorem dX1_takeBestPaid_29 : decode cX1_takeBestPaid 29 = .ok (.iload 6, 2) := by decide +kernel
theorem dX1_takeBestPaid_31 : decode cX1_takeBestPaid 31 = .ok (.bipush 10, 2) := by decide +kernel
theorem dX1_takeBestPaid_33 : decode cX1_takeBestPaid 33 = .ok (.if_icmp .ge 49, 3) := by decide +kernel
theorem dX1_takeBestPaid_82 : decode cX1_takeBestPaid 82 = .ok (.aload_n 1, 1) := by decide +kernel
theorem dX1_takeBestPaid_83 : decode cX1_takeBestPaid 83 = .ok (.iload_n 3, 1) := by decide +kernel
theorem dX1_takeBestPaid_84 : decode cX1_takeBestPaid 84 = .ok (.iload 5, 2) := by decide +kernel
theorem dX1_takeBestPaid_86 : decode cX1_takeBestPaid 86 = .ok (.iastore, 1) := by decide +kernel
theorem dX1_takeBestPaid_87 : decode cX1_takeBestPaid 87 = .ok (.iload 5, 2) := by decide +kernel
theorem dX1_takeBestPaid_89 : decode cX1_takeBestPaid 89 = .ok (.istore_n 2, 1) := by decide +kernel
theorem dX1_takeBestPaid_90 : decode cX1_takeBestPaid 90 = .ok (.iinc 3 1, 3) := by decide +kernel
theorem dX1_takeBestPaid_93 : decode cX1_takeBestPaid 93 = .ok (.goto (-86), 3) := by decide +kernel
theorem dX1_takeBestPaid_36 : decode cX1_takeBestPaid 36 = .ok (.iload 4, 2) := by decide +kernel
theorem dX1_takeBestPaid_38 : decode cX1_takeBestPaid 38 = .ok (.iload 6, 2) := by decide +kernel
theorem dX1_takeBestPaid_40 : decode cX1_takeBestPaid 40 = .ok (.ishr, 1) := by decide +kernel
theorem dX1_takeBestPaid_41 : decode cX1_takeBestPaid 41 = .ok (.iconst 1, 1) := by decide +kernel
theorem dX1_takeBestPaid_42 : decode cX1_takeBestPaid 42 = .ok (.iand, 1) := by decide +kernel
theorem dX1_takeBestPaid_43 : decode cX1_takeBestPaid 43 = .ok (.iconst 1, 1) := by decide +kernel
theorem dX1_takeBestPaid_44 : decode cX1_takeBestPaid 44 = .ok (.if_icmp .ne 32, 3) := by decide +kernel
theorem dX1_takeBestPaid_76 : decode cX1_takeBestPaid 76 = .ok (.iinc 6 1, 3) := by decide +kernel
theorem dX1_takeBestPaid_79 : decode cX1_takeBestPaid 79 = .ok (.goto (-50), 3) := by decide +kernel
theorem dX1_takeBestPaid_47 : decode cX1_takeBestPaid 47 = .ok (.aload_n 0, 1) := by decide +kernel
theorem dX1_takeBestPaid_48 : decode cX1_takeBestPaid 48 = .ok (.iload_n 3, 1) := by decide +kernel
theorem dX1_takeBestPaid_49 : decode cX1_takeBestPaid 49 = .ok (.iload 6, 2) := by decide +kernel
theorem dX1_takeBestPaid_51 : decode cX1_takeBestPaid 51 = .ok (.invokevirtual 91, 3) := by decide +kernel
theorem dX1_takeBestPaid_54 : decode cX1_takeBestPaid 54 = .ok (.aload_n 0, 1) := by decide +kernel
theorem dX1_takeBestPaid_55 : decode cX1_takeBestPaid 55 = .ok (.getfield 28, 3) := by decide +kernel
theorem dX1_takeBestPaid_58 : decode cX1_takeBestPaid 58 = .ok (.iload_n 3, 1) := by decide +kernel
theorem dX1_takeBestPaid_59 : decode cX1_takeBestPaid 59 = .ok (.bipush 10, 2) := by decide +kernel
theorem dX1_takeBestPaid_61 : decode cX1_takeBestPaid 61 = .ok (.imul, 1) := by decide +kernel
theorem dX1_takeBestPaid_62 : decode cX1_takeBestPaid 62 = .ok (.iload_n 2, 1) := by decide +kernel
theorem dX1_takeBestPaid_63 : decode cX1_takeBestPaid 63 = .ok (.iadd, 1) := by decide +kernel
theorem dX1_takeBestPaid_64 : decode cX1_takeBestPaid 64 = .ok (.laload, 1) := by decide +kernel
theorem dX1_takeBestPaid_65 : decode cX1_takeBestPaid 65 = .ok (.lcmp, 1) := by decide +kernel
theorem dX1_takeBestPaid_66 : decode cX1_takeBestPaid 66 = .ok (.ifCond .ne 10, 3) := by decide +kernel
theorem dX1_takeBestPaid_69 : decode cX1_takeBestPaid 69 = .ok (.iload 6, 2) := by decide +kernel
theorem dX1_takeBestPaid_71 : decode cX1_takeBestPaid 71 = .ok (.istore 5, 2) := by decide +kernel
theorem dX1_takeBestPaid_73 : decode cX1_takeBestPaid 73 = .ok (.goto 9, 3) := by decide +kernel
theorem w_4_173 : (Cond.code yX1_takeBestPaid cX1_takeBestPaid 7 none) ∈ wsL_law := sk_mem (ck_4 _ (List.mem_of_getElem? (i := 173) rfl)) rfl
set_option maxHeartbeats 4000000 in
set_option maxRecDepth 100000 in
theorem c_takeBestPaid (l : Launch) (D : va_G) (cI cJ cC cZ cS : ClassId) (q : Nat → Nat) (gd : Nat) (gs : Nat) (e1 : Nat → Int32) (e2 : Nat → Int32) (e3 : Nat → Int32) (e6 : Nat → Int64) (fg : Nat → Int64) (rw : Nat) (ra : Nat → Int32) (hgd : gd ≤ 9) (hgs : gs ≤ 9) : skM l yX1_takeBestPaid cX1_takeBestPaid 7 none 1 22 0 0 D (skT cI cJ cC cZ cS) [.ref (q 11), .ref rw] [(q 11, .inr (1, [.ref (q 10), .ref (q 67), .ref (q 68), .ref (q 69), .ref (q 70), .ref (q 71), .ref (q 72), .int (nI gd), .int (nI gs)])), (q 67, .inl (cI, 90, .inl e1)), (q 68, .inl (cI, 9, .inl e2)), (q 69, .inl (cI, 10, .inl e3)), (q 72, .inl (cJ, 100, .inr (.inl e6))), (q 10, .inr (9, [.ref (q 61), .ref (q 62), .ref (q 63), .ref (q 64), .ref (q 65), .ref (q 66)])), (q 65, .inl (cJ, 90, .inr (.inl fg))), (rw, .inl (cI, 9, .inl ra))] (skV D (skT cI cJ cC cZ cS) (fun (u : va_W) => ∃ (ra2 : Nat → Int32), rowOk ra2 gd ∧ u = [(q 11, .inr (1, [.ref (q 10), .ref (q 67), .ref (q 68), .ref (q 69), .ref (q 70), .ref (q 71), .ref (q 72), .int (nI gd), .int (nI gs)])), (q 67, .inl (cI, 90, .inl e1)), (q 68, .inl (cI, 9, .inl e2)), (q 69, .inl (cI, 10, .inl e3)), (q 72, .inl (cJ, 100, .inr (.inl e6))), (q 10, .inr (9, [.ref (q 61), .ref (q 62), .ref (q 63), .ref (q 64), .ref (q 65), .ref (q 66)])), (q 65, .inl (cJ, 90, .inr (.inl fg))), (rw, .inl (cI, 9, .inl ra2))])) := by
  refine skM_of (by decide +kernel) (Nat.le_of_ble_eq_true rfl) ?_
  intro p e s m below meth c A ls E hP hD hl
  obtain ⟨hx, hb, hr, hml, hlocks, hin, hown, hts, hK, hA⟩ := E
  have hown : s.vm.findClass RX1 = some m.cls := hown
  have hS : va_S A s.heap s.heap [] := va_S.rf
  have hl : lv_has ls 7 [(0, .ref (q 11)), (1, .ref rw)] := hl
  refine lv_aload_n hx hb dX1_takeBestPaid_0 rfl (lv_at hl 0 rfl) ?_
  refine sk_get (v := .int (nI gs)) (C := RX1) (T := TX1) (N := 9) hx hb hts inlX1 hown hK hP 0 rfl rfl 8 (by decide) w_2_103 rfl dX1_takeBestPaid_1 ?_
  refine lv_istore_n (lv' := [(2, .int (nI gs)), (0, .ref (q 11)), (1, .ref rw)]) hx hb dX1_takeBestPaid_4 rfl hl (by decide) rfl (fun ls hl => ?_)
  refine lv_iconst (v := 0) hx hb dX1_takeBestPaid_5 (by decide) ?_
  refine lv_istore_n (lv' := [(3, .int 0), (2, .int (nI gs)), (0, .ref (q 11)), (1, .ref rw)]) hx hb dX1_takeBestPaid_6 rfl hl (by decide) rfl (fun ls hl => ?_)
  have lp_1 : ∀ (n_2 : Nat) (i : Nat) (ah : Nat) (rb : Nat → Int32) (H : Heap) (locs : List Loc) (ls : Array Slot), gd - i < n_2 → (i ≤ gd) → (ah < 10) → (rowOk rb i) → va_P D vwCl [(q 11, .inr (1, [.ref (q 10), .ref (q 67), .ref (q 68), .ref (q 69), .ref (q 70), .ref (q 71), .ref (q 72), .int (nI gd), .int (nI gs)])), (q 67, .inl (cI, 90, .inl e1)), (q 68, .inl (cI, 9, .inl e2)), (q 69, .inl (cI, 10, .inl e3)), (q 72, .inl (cJ, 100, .inr (.inl e6))), (q 10, .inr (9, [.ref (q 61), .ref (q 62), .ref (q 63), .ref (q 64), .ref (q 65), .ref (q 66)])), (q 65, .inl (cJ, 90, .inr (.inl fg))), (rw, .inl (cI, 9, .inl rb))] H → va_D A [(q 11, .inr (1, [.ref (q 10), .ref (q 67), .ref (q 68), .ref (q 69), .ref (q 70), .ref (q 71), .ref (q 72), .int (nI gd), .int (nI gs)])), (q 67, .inl (cI, 90, .inl e1)), (q 68, .inl (cI, 9, .inl e2)), (q 69, .inl (cI, 10, .inl e3)), (q 72, .inl (cJ, 100, .inr (.inl e6))), (q 10, .inr (9, [.ref (q 61), .ref (q 62), .ref (q 63), .ref (q 64), .ref (q 65), .ref (q 66)])), (q 65, .inl (cJ, 90, .inr (.inl fg))), (rw, .inl (cI, 9, .inl rb))] → va_S A s.heap H locs → lv_has ls 7 [(3, .int (nI i)), (2, .int (nI ah)), (0, .ref (q 11)), (1, .ref rw)] → W p l e { frames := 1, cells := 0, slots := 0, locals := 22 } s m ([.ref (q 11), .ref rw] : List Value).toArray below meth c H locs 0 0 (MQ below (skV D (skT cI cJ cC cZ cS) (fun (u : va_W) => ∃ (ra2 : Nat → Int32), rowOk ra2 gd ∧ u = [(q 11, .inr (1, [.ref (q 10), .ref (q 67), .ref (q 68), .ref (q 69), .ref (q 70), .ref (q 71), .ref (q 72), .int (nI gd), .int (nI gs)])), (q 67, .inl (cI, 90, .inl e1)), (q 68, .inl (cI, 9, .inl e2)), (q 69, .inl (cI, 10, .inl e3)), (q 72, .inl (cJ, 100, .inr (.inl e6))), (q 10, .inr (9, [.ref (q 61), .ref (q 62), .ref (q 63), .ref (q 64), .ref (q 65), .ref (q 66)])), (q 65, .inl (cJ, 90, .inr (.inl fg))), (rw, .inl (cI, 9, .inl ra2))]) A) ([.ref (q 11), .ref rw] : List Value).toArray s 0 0 A) (F0 m 7 ls []) := by
    intro n_2
    induction n_2 with
    | zero => intro i ah rb H locs ls hm; exact absurd hm (Nat.not_lt_zero _)
    | succ n_2 ih_lp_1 =>
      intro i ah rb H locs ls hm hi hah hro hP hD hS hl
      refine lv_iload_n hx hb dX1_takeBestPaid_7 rfl (lv_at hl 0 rfl) ?_
      refine lv_aload_n hx hb dX1_takeBestPaid_8 rfl (lv_at hl 2 rfl) ?_
      refine sk_get (v := .int (nI gd)) (C := RX1) (T := TX1) (N := 9) hx hb hts inlX1 hown hK hP 0 rfl rfl 7 (by decide) w_2_102 rfl dX1_takeBestPaid_9 ?_
      refine lv_icmp_ge (tgt := 96) hx hb dX1_takeBestPaid_12 (by decide) (fun c_3 => ?_) (fun c_3 => ?_)
      · have c_3 : gd ≤ i := (nle gd i (by omega) (by omega)).mp c_3
        exact sk_vret hx hb hr hlocks hK hP hD hS (⟨rb, by rw [show gd = i by omega]; exact hro, rfl⟩) (Nat.le_of_ble_eq_true rfl) (Nat.le_of_ble_eq_true rfl) dX1_takeBestPaid_96
      · have c_3 : ¬ (gd ≤ i) := fun h => c_3 ((nle gd i (by omega) (by omega)).mpr h)
        refine lv_aload_n hx hb dX1_takeBestPaid_15 rfl (lv_at hl 2 rfl) ?_
        refine lv_iload_n hx hb dX1_takeBestPaid_16 rfl (lv_at hl 0 rfl) ?_
        refine lv_iload_n hx hb dX1_takeBestPaid_17 rfl (lv_at hl 1 rfl) ?_
        refine sk_Vi (q0 := 0) (n := 2) (rest := []) (wr := [(q 72, .inl (cJ, 100, .inr (.inl e6))), (q 10, .inr (9, [.ref (q 61), .ref (q 62), .ref (q 63), .ref (q 64), .ref (q 65), .ref (q 66)])), (q 65, .inl (cJ, 90, .inr (.inl fg))), (rw, .inl (cI, 9, .inl rb))]) ⟨hx, hb, hml, hown, hts⟩ hl.1 (c_next l D cI cJ cC cZ cS q gd gs e1 e2 e3 i ah (by omega) (by omega)) w_4_57 w_4_59 w_0_20 w_1_13 w_4_60 (by decide +kernel) ⟨⟨(Nat.le_of_ble_eq_true rfl), (Nat.le_of_ble_eq_true rfl)⟩, (Nat.le_of_ble_eq_true rfl), (Nat.le_of_ble_eq_true rfl)⟩ hK hP hD hS hA [0, 1, 2, 3] [4, 5, 6, 7] rfl rfl (by decide +kernel) (by decide +kernel) (by decide +kernel) rfl rfl rfl rfl (Nat.le_of_ble_eq_true rfl) dX1_takeBestPaid_18 (fun r_4 u H locs hw hP hD hS => ?_)
        obtain rfl := hw
        have hP : va_P D vwCl [(q 72, .inl (cJ, 100, .inr (.inl e6))), (q 10, .inr (9, [.ref (q 61), .ref (q 62), .ref (q 63), .ref (q 64), .ref (q 65), .ref (q 66)])), (q 65, .inl (cJ, 90, .inr (.inl fg))), (rw, .inl (cI, 9, .inl rb)), (q 11, .inr (1, [.ref (q 10), .ref (q 67), .ref (q 68), .ref (q 69), .ref (q 70), .ref (q 71), .ref (q 72), .int (nI gd), .int (nI gs)])), (q 67, .inl (cI, 90, .inl e1)), (q 68, .inl (cI, 9, .inl e2)), (q 69, .inl (cI, 10, .inl e3))] H := hP
        have hD : va_D A [(q 72, .inl (cJ, 100, .inr (.inl e6))), (q 10, .inr (9, [.ref (q 61), .ref (q 62), .ref (q 63), .ref (q 64), .ref (q 65), .ref (q 66)])), (q 65, .inl (cJ, 90, .inr (.inl fg))), (rw, .inl (cI, 9, .inl rb)), (q 11, .inr (1, [.ref (q 10), .ref (q 67), .ref (q 68), .ref (q 69), .ref (q 70), .ref (q 71), .ref (q 72), .int (nI gd), .int (nI gs)])), (q 67, .inl (cI, 90, .inl e1)), (q 68, .inl (cI, 9, .inl e2)), (q 69, .inl (cI, 10, .inl e3))] := hD
        refine lv_istore (lv' := [(4, .int r_4), (3, .int (nI i)), (2, .int (nI ah)), (0, .ref (q 11)), (1, .ref rw)]) hx hb dX1_takeBestPaid_21 hl (by decide) rfl (fun ls hl => ?_)
        refine lv_iconst (v := 0) hx hb dX1_takeBestPaid_23 (by decide) ?_
        refine lv_istore (lv' := [(5, .int 0), (4, .int r_4), (3, .int (nI i)), (2, .int (nI ah)), (0, .ref (q 11)), (1, .ref rw)]) hx hb dX1_takeBestPaid_24 hl (by decide) rfl (fun ls hl => ?_)
        refine lv_iconst (v := 0) hx hb dX1_takeBestPaid_26 (by decide) ?_
        refine lv_istore (lv' := [(6, .int 0), (5, .int 0), (4, .int r_4), (3, .int (nI i)), (2, .int (nI ah)), (0, .ref (q 11)), (1, .ref rw)]) hx hb dX1_takeBestPaid_27 hl (by decide) rfl (fun ls hl => ?_)
        have lp_5 : ∀ (n_6 : Nat) (jj : Nat) (H : Heap) (locs : List Loc) (ls : Array Slot), 10 - jj < n_6 → (jj ≤ 10) → va_P D vwCl [(q 72, .inl (cJ, 100, .inr (.inl e6))), (q 10, .inr (9, [.ref (q 61), .ref (q 62), .ref (q 63), .ref (q 64), .ref (q 65), .ref (q 66)])), (q 65, .inl (cJ, 90, .inr (.inl fg))), (rw, .inl (cI, 9, .inl rb)), (q 11, .inr (1, [.ref (q 10), .ref (q 67), .ref (q 68), .ref (q 69), .ref (q 70), .ref (q 71), .ref (q 72), .int (nI gd), .int (nI gs)])), (q 67, .inl (cI, 90, .inl e1)), (q 68, .inl (cI, 9, .inl e2)), (q 69, .inl (cI, 10, .inl e3))] H → va_D A [(q 72, .inl (cJ, 100, .inr (.inl e6))), (q 10, .inr (9, [.ref (q 61), .ref (q 62), .ref (q 63), .ref (q 64), .ref (q 65), .ref (q 66)])), (q 65, .inl (cJ, 90, .inr (.inl fg))), (rw, .inl (cI, 9, .inl rb)), (q 11, .inr (1, [.ref (q 10), .ref (q 67), .ref (q 68), .ref (q 69), .ref (q 70), .ref (q 71), .ref (q 72), .int (nI gd), .int (nI gs)])), (q 67, .inl (cI, 90, .inl e1)), (q 68, .inl (cI, 9, .inl e2)), (q 69, .inl (cI, 10, .inl e3))] → va_S A s.heap H locs → lv_has ls 7 [(6, .int (nI jj)), (5, .int 0), (4, .int r_4), (3, .int (nI i)), (2, .int (nI ah)), (0, .ref (q 11)), (1, .ref rw)] → W p l e { frames := 1, cells := 0, slots := 0, locals := 22 } s m ([.ref (q 11), .ref rw] : List Value).toArray below meth c H locs 0 0 (MQ below (skV D (skT cI cJ cC cZ cS) (fun (u : va_W) => ∃ (ra2 : Nat → Int32), rowOk ra2 gd ∧ u = [(q 11, .inr (1, [.ref (q 10), .ref (q 67), .ref (q 68), .ref (q 69), .ref (q 70), .ref (q 71), .ref (q 72), .int (nI gd), .int (nI gs)])), (q 67, .inl (cI, 90, .inl e1)), (q 68, .inl (cI, 9, .inl e2)), (q 69, .inl (cI, 10, .inl e3)), (q 72, .inl (cJ, 100, .inr (.inl e6))), (q 10, .inr (9, [.ref (q 61), .ref (q 62), .ref (q 63), .ref (q 64), .ref (q 65), .ref (q 66)])), (q 65, .inl (cJ, 90, .inr (.inl fg))), (rw, .inl (cI, 9, .inl ra2))]) A) ([.ref (q 11), .ref rw] : List Value).toArray s 0 0 A) (F0 m 29 ls []) := by
          intro n_6
          induction n_6 with
          | zero => intro jj H locs ls hm; exact absurd hm (Nat.not_lt_zero _)
          | succ n_6 ih_lp_5 =>
            intro jj H locs ls hm hjj hP hD hS hl
            refine lv_iload hx hb dX1_takeBestPaid_29 (lv_at hl 0 rfl) ?_
            refine lv_bipush (v := 10) hx hb dX1_takeBestPaid_31 (by decide) ?_
            refine lv_icmp_ge (tgt := 82) hx hb dX1_takeBestPaid_33 (by decide) (fun c_7 => ?_) (fun c_7 => ?_)
            · have c_7 : 10 ≤ jj := (nle 10 jj (by omega) (by omega)).mp c_7
              refine lv_aload_n hx hb dX1_takeBestPaid_82 rfl (lv_at hl 6 rfl) ?_
              refine lv_iload_n hx hb dX1_takeBestPaid_83 rfl (lv_at hl 3 rfl) ?_
              refine lv_iload hx hb dX1_takeBestPaid_84 (lv_at hl 1 rfl) ?_
              refine sk_iast (ws' := [(q 72, .inl (cJ, 100, .inr (.inl e6))), (q 10, .inr (9, [.ref (q 61), .ref (q 62), .ref (q 63), .ref (q 64), .ref (q 65), .ref (q 66)])), (q 65, .inl (cJ, 90, .inr (.inl fg))), (rw, .inl (cI, 9, .inl (upd rb (nI i).toNatClampNeg (nI 0)))), (q 11, .inr (1, [.ref (q 10), .ref (q 67), .ref (q 68), .ref (q 69), .ref (q 70), .ref (q 71), .ref (q 72), .int (nI gd), .int (nI gs)])), (q 67, .inl (cI, 90, .inl e1)), (q 68, .inl (cI, 9, .inl e2)), (q 69, .inl (cI, 10, .inl e3))]) hx hb hK hP hD hS 3 0 rfl rfl (vin i 9 (by omega) (by omega)) rfl dX1_takeBestPaid_86 (fun H locs hP hD hS => ?_)
              have ho_9 := rowOk_up (f := rb) (i := i) (v := 0) hro (by omega) (by omega)
              generalize ef_10 : upd rb (nI i).toNatClampNeg (nI 0) = f_8 at hP hD ho_9
              refine lv_iload hx hb dX1_takeBestPaid_87 (lv_at hl 1 rfl) ?_
              refine lv_istore_n (lv' := [(2, .int 0), (6, .int (nI jj)), (5, .int 0), (4, .int r_4), (3, .int (nI i)), (0, .ref (q 11)), (1, .ref rw)]) hx hb dX1_takeBestPaid_89 rfl hl (by decide) rfl (fun ls hl => ?_)
              refine lv_iinc (v := nI (i + 1)) (lv' := [(3, .int (nI (i + 1))), (2, .int 0), (6, .int (nI jj)), (5, .int 0), (4, .int r_4), (0, .ref (q 11)), (1, .ref rw)]) hx hb dX1_takeBestPaid_90 hl (k := 4) rfl (ninc i 1 (by decide)) (by decide) rfl (fun ls hl => ?_)
              refine lv_goto (tgt := 7) hx hb dX1_takeBestPaid_93 (by decide) ?_
              have hP := hP.sub (ws' := [(q 11, .inr (1, [.ref (q 10), .ref (q 67), .ref (q 68), .ref (q 69), .ref (q 70), .ref (q 71), .ref (q 72), .int (nI gd), .int (nI gs)])), (q 67, .inl (cI, 90, .inl e1)), (q 68, .inl (cI, 9, .inl e2)), (q 69, .inl (cI, 10, .inl e3)), (q 72, .inl (cJ, 100, .inr (.inl e6))), (q 10, .inr (9, [.ref (q 61), .ref (q 62), .ref (q 63), .ref (q 64), .ref (q 65), .ref (q 66)])), (q 65, .inl (cJ, 90, .inr (.inl fg))), (rw, .inl (cI, 9, .inl f_8))]) [4, 5, 6, 7, 0, 1, 2, 3] rfl
              have hD := hD.sub (ws' := [(q 11, .inr (1, [.ref (q 10), .ref (q 67), .ref (q 68), .ref (q 69), .ref (q 70), .ref (q 71), .ref (q 72), .int (nI gd), .int (nI gs)])), (q 67, .inl (cI, 90, .inl e1)), (q 68, .inl (cI, 9, .inl e2)), (q 69, .inl (cI, 10, .inl e3)), (q 72, .inl (cJ, 100, .inr (.inl e6))), (q 10, .inr (9, [.ref (q 61), .ref (q 62), .ref (q 63), .ref (q 64), .ref (q 65), .ref (q 66)])), (q 65, .inl (cJ, 90, .inr (.inl fg))), (rw, .inl (cI, 9, .inl f_8))]) [4, 5, 6, 7, 0, 1, 2, 3] (by decide +kernel) rfl
              exact ih_lp_1 (i + 1) 0 f_8 _ _ _ (by omega) (by omega) (by omega) ho_9 hP hD hS (lv_sub hl [0, 1, 5, 6] rfl)
            · have c_7 : ¬ (10 ≤ jj) := fun h => c_7 ((nle 10 jj (by omega) (by omega)).mpr h)
              refine lv_iload hx hb dX1_takeBestPaid_36 (lv_at hl 2 rfl) ?_
              refine lv_iload hx hb dX1_takeBestPaid_38 (lv_at hl 0 rfl) ?_
              refine lv_ishr hx hb dX1_takeBestPaid_40 ?_
              refine lv_topi (fun v_11 ev_11 => ?_)
              refine lv_iconst (v := 1) hx hb dX1_takeBestPaid_41 (by decide) ?_
              refine lv_iand hx hb dX1_takeBestPaid_42 ?_
              refine lv_topi (fun v_12 ev_12 => ?_)
              refine lv_iconst (v := 1) hx hb dX1_takeBestPaid_43 (by decide) ?_
              refine lv_icmp_ne (tgt := 76) hx hb dX1_takeBestPaid_44 (by decide) (fun c_13 => ?_) (fun c_13 => ?_)
              · skip
                refine lv_iinc (v := nI (jj + 1)) (lv' := [(6, .int (nI (jj + 1))), (5, .int 0), (4, .int r_4), (3, .int (nI i)), (2, .int (nI ah)), (0, .ref (q 11)), (1, .ref rw)]) hx hb dX1_takeBestPaid_76 hl (k := 0) rfl (ninc jj 1 (by decide)) (by decide) rfl (fun ls hl => ?_)
                refine lv_goto (tgt := 29) hx hb dX1_takeBestPaid_79 (by decide) ?_
                exact ih_lp_5 (jj + 1) _ _ _ (by omega) (by omega) hP hD hS (lv_sub hl [0, 1, 2, 3, 4, 5, 6] rfl)
              · skip
                refine lv_aload_n hx hb dX1_takeBestPaid_47 rfl (lv_at hl 5 rfl) ?_
                refine lv_iload_n hx hb dX1_takeBestPaid_48 rfl (lv_at hl 3 rfl) ?_
                refine lv_iload hx hb dX1_takeBestPaid_49 (lv_at hl 0 rfl) ?_
                refine sk_Vl (q0 := 0) (n := 2) (rest := []) (wr := [(rw, .inl (cI, 9, .inl rb)), (q 67, .inl (cI, 90, .inl e1)), (q 68, .inl (cI, 9, .inl e2)), (q 69, .inl (cI, 10, .inl e3))]) ⟨hx, hb, hml, hown, hts⟩ hl.1 (c_gainBy l D cI cJ cC cZ cS q gd gs e6 fg i jj (by omega) (by omega)) w_4_161 w_4_163 w_0_26 w_1_13 w_4_164 (by decide +kernel) ⟨⟨(Nat.le_of_ble_eq_true rfl), (Nat.le_of_ble_eq_true rfl)⟩, (Nat.le_of_ble_eq_true rfl), (Nat.le_of_ble_eq_true rfl)⟩ hK hP hD hS hA [4, 0, 1, 2] [3, 5, 6, 7] rfl rfl (by decide +kernel) (by decide +kernel) (by decide +kernel) rfl rfl rfl rfl (Nat.le_of_ble_eq_true rfl) dX1_takeBestPaid_51 (fun r_14 u H locs hw hP hD hS => ?_)
                obtain rfl := hw
                have hP : va_P D vwCl [(rw, .inl (cI, 9, .inl rb)), (q 67, .inl (cI, 90, .inl e1)), (q 68, .inl (cI, 9, .inl e2)), (q 69, .inl (cI, 10, .inl e3)), (q 11, .inr (1, [.ref (q 10), .ref (q 67), .ref (q 68), .ref (q 69), .ref (q 70), .ref (q 71), .ref (q 72), .int (nI gd), .int (nI gs)])), (q 72, .inl (cJ, 100, .inr (.inl e6))), (q 10, .inr (9, [.ref (q 61), .ref (q 62), .ref (q 63), .ref (q 64), .ref (q 65), .ref (q 66)])), (q 65, .inl (cJ, 90, .inr (.inl fg)))] H := hP
                have hD : va_D A [(rw, .inl (cI, 9, .inl rb)), (q 67, .inl (cI, 90, .inl e1)), (q 68, .inl (cI, 9, .inl e2)), (q 69, .inl (cI, 10, .inl e3)), (q 11, .inr (1, [.ref (q 10), .ref (q 67), .ref (q 68), .ref (q 69), .ref (q 70), .ref (q 71), .ref (q 72), .int (nI gd), .int (nI gs)])), (q 72, .inl (cJ, 100, .inr (.inl e6))), (q 10, .inr (9, [.ref (q 61), .ref (q 62), .ref (q 63), .ref (q 64), .ref (q 65), .ref (q 66)])), (q 65, .inl (cJ, 90, .inr (.inl fg)))] := hD
                refine lv_aload_n hx hb dX1_takeBestPaid_54 rfl (lv_at hl 5 rfl) ?_
                refine sk_get (v := .ref (q 72)) (C := RX1) (T := TX1) (N := 9) hx hb hts inlX1 hown hK hP 4 rfl rfl 6 (by decide) w_2_101 rfl dX1_takeBestPaid_55 ?_
                refine lv_iload_n hx hb dX1_takeBestPaid_58 rfl (lv_at hl 3 rfl) ?_
                refine lv_bipush (v := 10) hx hb dX1_takeBestPaid_59 (by decide) ?_
                refine lv_imul hx hb dX1_takeBestPaid_61 ?_
                refine sk_top (nI (i * 10)) (nmul i 10) ?_
                refine lv_iload_n hx hb dX1_takeBestPaid_62 rfl (lv_at hl 4 rfl) ?_
                refine lv_iadd hx hb dX1_takeBestPaid_63 ?_
                refine sk_top (nI (i * 10 + ah)) (nI_add (i * 10) ah) ?_
                refine va_lald hx hb hK.1 hP 5 1 rfl rfl (vin (i * 10 + ah) 100 (by omega) (by omega)) dX1_takeBestPaid_64 ?_
                refine lv_topl (fun v_15 ev_15 => ?_)
                refine W.lcmp hx hb dX1_takeBestPaid_65 ?_
                refine lv_if_ne (tgt := 76) hx hb dX1_takeBestPaid_66 (by decide) (fun c_16 => ?_) (fun c_16 => ?_)
                · skip
                  refine lv_iinc (v := nI (jj + 1)) (lv' := [(6, .int (nI (jj + 1))), (5, .int 0), (4, .int r_4), (3, .int (nI i)), (2, .int (nI ah)), (0, .ref (q 11)), (1, .ref rw)]) hx hb dX1_takeBestPaid_76 hl (k := 0) rfl (ninc jj 1 (by decide)) (by decide) rfl (fun ls hl => ?_)
                  refine lv_goto (tgt := 29) hx hb dX1_takeBestPaid_79 (by decide) ?_
                  have hP := hP.sub (ws' := [(q 72, .inl (cJ, 100, .inr (.inl e6))), (q 10, .inr (9, [.ref (q 61), .ref (q 62), .ref (q 63), .ref (q 64), .ref (q 65), .ref (q 66)])), (q 65, .inl (cJ, 90, .inr (.inl fg))), (rw, .inl (cI, 9, .inl rb)), (q 11, .inr (1, [.ref (q 10), .ref (q 67), .ref (q 68), .ref (q 69), .ref (q 70), .ref (q 71), .ref (q 72), .int (nI gd), .int (nI gs)])), (q 67, .inl (cI, 90, .inl e1)), (q 68, .inl (cI, 9, .inl e2)), (q 69, .inl (cI, 10, .inl e3))]) [5, 6, 7, 0, 4, 1, 2, 3] rfl
                  have hD := hD.sub (ws' := [(q 72, .inl (cJ, 100, .inr (.inl e6))), (q 10, .inr (9, [.ref (q 61), .ref (q 62), .ref (q 63), .ref (q 64), .ref (q 65), .ref (q 66)])), (q 65, .inl (cJ, 90, .inr (.inl fg))), (rw, .inl (cI, 9, .inl rb)), (q 11, .inr (1, [.ref (q 10), .ref (q 67), .ref (q 68), .ref (q 69), .ref (q 70), .ref (q 71), .ref (q 72), .int (nI gd), .int (nI gs)])), (q 67, .inl (cI, 90, .inl e1)), (q 68, .inl (cI, 9, .inl e2)), (q 69, .inl (cI, 10, .inl e3))]) [5, 6, 7, 0, 4, 1, 2, 3] (by decide +kernel) rfl
                  exact ih_lp_5 (jj + 1) _ _ _ (by omega) (by omega) hP hD hS (lv_sub hl [0, 1, 2, 3, 4, 5, 6] rfl)
                · skip
                  refine lv_iload hx hb dX1_takeBestPaid_69 (lv_at hl 0 rfl) ?_
                  refine lv_istore (lv' := [(5, .int (nI jj)), (6, .int (nI jj)), (4, .int r_4), (3, .int (nI i)), (2, .int (nI ah)), (0, .ref (q 11)), (1, .ref rw)]) hx hb dX1_takeBestPaid_71 hl (by decide) rfl (fun ls hl => ?_)
                  refine lv_goto (tgt := 82) hx hb dX1_takeBestPaid_73 (by decide) ?_
                  refine lv_aload_n hx hb dX1_takeBestPaid_82 rfl (lv_at hl 6 rfl) ?_
                  refine lv_iload_n hx hb dX1_takeBestPaid_83 rfl (lv_at hl 3 rfl) ?_
                  refine lv_iload hx hb dX1_takeBestPaid_84 (lv_at hl 0 rfl) ?_
                  refine sk_iast (ws' := [(rw, .inl (cI, 9, .inl (upd rb (nI i).toNatClampNeg (nI jj)))), (q 67, .inl (cI, 90, .inl e1)), (q 68, .inl (cI, 9, .inl e2)), (q 69, .inl (cI, 10, .inl e3)), (q 11, .inr (1, [.ref (q 10), .ref (q 67), .ref (q 68), .ref (q 69), .ref (q 70), .ref (q 71), .ref (q 72), .int (nI gd), .int (nI gs)])), (q 72, .inl (cJ, 100, .inr (.inl e6))), (q 10, .inr (9, [.ref (q 61), .ref (q 62), .ref (q 63), .ref (q 64), .ref (q 65), .ref (q 66)])), (q 65, .inl (cJ, 90, .inr (.inl fg)))]) hx hb hK hP hD hS 0 0 rfl rfl (vin i 9 (by omega) (by omega)) rfl dX1_takeBestPaid_86 (fun H locs hP hD hS => ?_)
                  have ho_18 := rowOk_up (f := rb) (i := i) (v := jj) hro (by omega) (by omega)
                  generalize ef_19 : upd rb (nI i).toNatClampNeg (nI jj) = f_17 at hP hD ho_18
                  refine lv_iload hx hb dX1_takeBestPaid_87 (lv_at hl 0 rfl) ?_
                  refine lv_istore_n (lv' := [(2, .int (nI jj)), (5, .int (nI jj)), (6, .int (nI jj)), (4, .int r_4), (3, .int (nI i)), (0, .ref (q 11)), (1, .ref rw)]) hx hb dX1_takeBestPaid_89 rfl hl (by decide) rfl (fun ls hl => ?_)
                  refine lv_iinc (v := nI (i + 1)) (lv' := [(3, .int (nI (i + 1))), (2, .int (nI jj)), (5, .int (nI jj)), (6, .int (nI jj)), (4, .int r_4), (0, .ref (q 11)), (1, .ref rw)]) hx hb dX1_takeBestPaid_90 hl (k := 4) rfl (ninc i 1 (by decide)) (by decide) rfl (fun ls hl => ?_)
                  refine lv_goto (tgt := 7) hx hb dX1_takeBestPaid_93 (by decide) ?_
                  have hP := hP.sub (ws' := [(q 11, .inr (1, [.ref (q 10), .ref (q 67), .ref (q 68), .ref (q 69), .ref (q 70), .ref (q 71), .ref (q 72), .int (nI gd), .int (nI gs)])), (q 67, .inl (cI, 90, .inl e1)), (q 68, .inl (cI, 9, .inl e2)), (q 69, .inl (cI, 10, .inl e3)), (q 72, .inl (cJ, 100, .inr (.inl e6))), (q 10, .inr (9, [.ref (q 61), .ref (q 62), .ref (q 63), .ref (q 64), .ref (q 65), .ref (q 66)])), (q 65, .inl (cJ, 90, .inr (.inl fg))), (rw, .inl (cI, 9, .inl f_17))]) [4, 1, 2, 3, 5, 6, 7, 0] rfl
                  have hD := hD.sub (ws' := [(q 11, .inr (1, [.ref (q 10), .ref (q 67), .ref (q 68), .ref (q 69), .ref (q 70), .ref (q 71), .ref (q 72), .int (nI gd), .int (nI gs)])), (q 67, .inl (cI, 90, .inl e1)), (q 68, .inl (cI, 9, .inl e2)), (q 69, .inl (cI, 10, .inl e3)), (q 72, .inl (cJ, 100, .inr (.inl e6))), (q 10, .inr (9, [.ref (q 61), .ref (q 62), .ref (q 63), .ref (q 64), .ref (q 65), .ref (q 66)])), (q 65, .inl (cJ, 90, .inr (.inl fg))), (rw, .inl (cI, 9, .inl f_17))]) [4, 1, 2, 3, 5, 6, 7, 0] (by decide +kernel) rfl
                  exact ih_lp_1 (i + 1) jj f_17 _ _ _ (by omega) (by omega) (by omega) ho_18 hP hD hS (lv_sub hl [0, 1, 5, 6] rfl)
        exact lp_5 (10 - 0 + 1) 0 _ _ _ (Nat.lt_succ_self _) (by omega) hP hD hS (lv_sub hl [0, 1, 2, 3, 4, 5, 6] rfl)
  exact lp_1 (gd - 0 + 1) 0 gs ra _ _ _ (Nat.lt_succ_self _) (by omega) (by omega) (rowOk_0 _) hP hD hS (lv_sub hl [0, 1, 2, 3] rfl)
/-! the class's own text constant, which lies in the heap that was there before -/
def skTx : String := "lock  from  barge wet   mute  says  does  wage  rain  mood  day   week  told  alone numberfirst weeks or    and   not   all   min   max   last  often total most  least "
def skBy : List Int32 := [108, 111, 99, 107, 32, 32, 102, 114, 111, 109, 32, 32, 98, 97, 114, 103, 101, 32, 119, 101, 116, 32, 32, 32, 109, 117, 116, 101, 32, 32, 115, 97, 121, 115, 32, 32, 100, 111, 101, 115, 32, 32, 119, 97, 103, 101, 32, 32, 114, 97, 105, 110, 32, 32, 109, 111, 111, 100, 32, 32, 100, 97, 121, 32, 32, 32, 119, 101, 101, 107, 32, 32, 116, 111, 108, 100, 32, 32, 97, 108, 111, 110, 101, 32, 110, 117, 109, 98, 101, 114, 102, 105, 114, 115, 116, 32, 119, 101, 101, 107, 115, 32, 111, 114, 32, 32, 32, 32, 97, 110, 100, 32, 32, 32, 110, 111, 116, 32, 32, 32, 97, 108, 108, 32, 32, 32, 109, 105, 110, 32, 32, 32, 109, 97, 120, 32, 32, 32, 108, 97, 115, 116, 32, 32, 111, 102, 116, 101, 110, 32, 116, 111, 116, 97, 108, 32, 109, 111, 115, 116, 32, 32, 108, 101, 97, 115, 116, 32]
def skStr (zk zv : Nat) (zf : Value) (A : Nat → Prop) (U : State) (H : Heap) : Prop :=
  vk_R RX6 59 skTx zk U ∧ va_O "java/lang/String" zk A U H ∧ va_OF "java/lang/String" "coder" "B" (.int 0) zk A U H ∧ va_OF "java/lang/String" "value" "[B" (.ref zv) zk A U H ∧ va_T .byte zv 168 (fun j => .int (skBy.getD j 0)) A U H ∧ va_Z "java/lang/String" "COMPACT_STRINGS" "Z" (.int 1) A U H ∧ va_Z "jdk/internal/util/Preconditions" "SIOOBE_FORMATTER" "Ljava/util/function/BiFunction;" zf A U H ∧ (zf = .null ∨ ∃ a : Nat, zf = .ref a)
theorem skStr.at {zk zv : Nat} {zf : Value} {A B : Nat → Prop} {s U : State} {H : Heap} {locs : List Loc} (h : skStr zk zv zf A s s.heap) (hS : va_S A s.heap H locs) (hF : ∀ q, B q → A q) (hU : U.heap = H) (hW : s.WarmedH U.vm) : skStr zk zv zf B U U.heap := by
  obtain ⟨h1, h2, h3, h4, h5, h6, h7, h8⟩ := h
  rw [hU]
  exact ⟨h1.warm hW, ((h2.kept hS.2.1).narrow hF).moved hW.alike, ((h3.kept hS.2.1).narrow hF).moved hW.alike, ((h4.kept hS.2.1).narrow hF).moved hW.alike, ((h5.kept hS.2.1).narrow hF).moved hW.alike, ((h6.kept hS.2.1).narrow hF).moved hW.alike, ((h7.kept hS.2.1).narrow hF).moved hW.alike, h8⟩
theorem skStr.same {zk zv : Nat} {zf : Value} {A : Nat → Prop} {u U : State} {H : Heap} (h : skStr zk zv zf A u H) (e : U.vm = u.vm) (ha : u.vm.Alike U.vm) : skStr zk zv zf A U H := by
  obtain ⟨h1, h2, h3, h4, h5, h6, h7, h8⟩ := h
  exact ⟨h1.same e, h2.moved ha, h3.moved ha, h4.moved ha, h5.moved ha, h6.moved ha, h7.moved ha, h8⟩
abbrev skPreZ (zk zv : Nat) (zf : Value) (D : va_G) (tys : List (ClassId × FieldType)) (av : List Value) (sz : Nat) (w : va_W) : Array Value → State → Prop := va_Pc av (fun U => U.heap.size = sz ∧ va_P D vwCl w U.heap ∧ skK D tys U ∧ va_D (fun _ => True) w ∧ skStr zk zv zf (va_A w sz) U U.heap)
def skMZ (zk zv : Nat) (zf : Value) (l : Launch) (y : MethodName) (cc : ByteArray) (maxL : Nat) (ret : Option FieldType) (fr lo mc ms : Nat) (D : va_G) (tys : List (ClassId × FieldType)) (av : List Value) (w : va_W) (Qc : (Nat → Prop) → Array Value → State → Outcome → State → Prop) : Prop :=
  ∀ sz : Nat, Met l y (skC y cc maxL ret) { frames := fr, cells := mc, slots := ms, locals := lo } (skPreZ zk zv zf D tys av sz w) (Qc (va_A w sz)) mc ms (va_A w sz)
theorem skMZ_of {zk zv : Nat} {zf : Value} {l : Launch} {y : MethodName} {cc : ByteArray} {maxL : Nat} {ret : Option FieldType} {fr lo mc ms : Nat} {D : va_G} {tys : List (ClassId × FieldType)} {av : List Value} {w : va_W} {Qc : (Nat → Prop) → Array Value → State → Outcome → State → Prop}
    (hy : plainFor y = true) (hlen : (lg_sl av).length ≤ maxL)
    (body : ∀ (p : Program) (e : Env) (s : State) (m : MethodId) (below : List Frame) (meth : Method) (c : Code) (A : Nat → Prop) (ls : Array Slot), skEnv p s m meth c cc ret maxL y av D tys A → va_P D vwCl w s.heap → va_D A w → skStr zk zv zf A s s.heap → lv_has ls maxL (lv_args 0 av) →
      W p l e { frames := fr, cells := mc, slots := ms, locals := lo } s m av.toArray below meth c s.heap [] 0 0 (MQ below (Qc A) av.toArray s mc ms A) (F0 m 0 ls [])) : skMZ zk zv zf l y cc maxL ret fr lo mc ms D tys av w Qc := by
  intro sz
  refine MetFree.of_bodySF (code := cc) (maxLocals := maxL) (ret := ret) hy ?_ ?_
  · intro args s m h hn
    obtain ⟨meth, c, h1, h2, h3, h4, h5, h6, -, -⟩ := Cond.code_spec hn (atoms_spec (ws := skC y cc maxL ret) h _ List.mem_cons_self)
    exact ⟨meth, c, h1, h2, h3, h4, h5, h6⟩
  · intro p e s m args below meth c s₁ B hml hv _
    have hh0 : s₁.heap = s.heap := by rw [B.state]; rfl
    obtain ⟨rfl, hsz, hP, hK, hD0, hZ⟩ := hv
    have hts := atoms_spec (ws := skC y cc maxL ret) B.pre
    subst hsz
    have hD := hD0.self (sz := s.heap.size)
    have hl := lv_entry av (n := maxL) hlen
    have hw : W p l e { frames := fr, cells := mc, slots := ms, locals := lo } s m av.toArray below meth c s.heap [] 0 0 (MQ below (Qc (va_A w s.heap.size)) av.toArray s mc ms (va_A w s.heap.size)) (entryFrame m av.toArray maxL) := by
      rw [lg_entry_eq]
      exact body p e s m below meth c _ _ ⟨B.exec, B.bytes, B.returns, hml, B.notSynchronized, (name_of_methodNamed B.named B.method).1, findClass_of_methodNamed B.named, fun w hw => hts w (List.mem_cons_of_mem _ hw), hK, fun q h => Or.inr h⟩ hP hD hZ hl
    obtain ⟨t, a1, o, b1, b2, b3⟩ := hw s₁ hh0 (Stand.of_body B)
    exact ⟨t, o, a1, b1, b2, ⟨b3.1, b3.2⟩⟩
section SkRowsZ
variable {p : Program} {l : Launch} {e : Env} {R : Room} {s : State} {m : MethodId} {args : Array Value} {below : List Frame} {meth : Method} {c : Code} {H : Heap} {locs : List Loc} {cells slots : Nat} {Q : State → Prop}
variable {cc : ByteArray} {pc : Nat} {ls : Array Slot} {rest : List Value} {D : va_G} {tys : List (ClassId × FieldType)} {ws ws' : va_W} {A : Nat → Prop} {H0 : Heap} {a : Nat}
theorem sk_blindZ (zk zv : Nat) (zf : Value) (D : va_G) (tys : List (ClassId × FieldType)) (av : List Value) (sz : Nat) (w : va_W) : FrameBlind (skPreZ zk zv zf D tys av sz w) := fun a U g mk q => by
  obtain ⟨q0, q1, qP, qK, qD, qZ⟩ := q
  exact ⟨q0, q1, qP, skK.same (u := U) (U := U.calling g mk a) qK rfl (Vm.Alike.refl U.vm), qD, skStr.same (u := U) (U := U.calling g mk a) qZ rfl (Vm.Alike.refl U.vm)⟩
section SkCallsZ
variable {zk zv : Nat} {zf : Value} {y : MethodName} {bytes : ByteArray} {maxL nL fr lo mc ms n index ci q0 N : Nat} {ret : Option FieldType} {own C : String} {b : Nat} {As st0 : List Value} {wc wr : va_W} {fs : List Value} {T : u_T}
theorem sk_preVZ (hZ : skStr zk zv zf A s s.heap) (hS : va_S A s.heap H locs) (hF : ∀ q, va_A wc H.size q → A q) (hK : skK D tys s) (hP : va_P D vwCl ws H) (hD : va_D A ws) (isC : List Nat) (hC : isC.map (fun i => ws[i]?) = wc.map some) (hnC : va_nd isC = true) (av : List Value) : PreS s H (skPreZ zk zv zf D tys av H.size wc) av := by
  have hPc : va_P D vwCl wc H := hP.sub isC (by
    have h9 : isC.filterMap (fun i => ws[i]?) = (isC.map (fun i => ws[i]?)).filterMap id := by rw [List.filterMap_map]; rfl
    rw [h9, hC]
    simp [List.filterMap_map])
  have hDc : va_D A wc := hD.sub isC hnC hC
  exact ⟨sk_blindZ zk zv zf D tys av H.size wc, fun U hU hW => ⟨rfl, by rw [hU], by rw [hU]; exact hPc, hK.warm hW, hDc.weaken (fun _ _ _ _ => trivial), hZ.at hS hF hU hW⟩⟩
theorem sk_ViZ {post : Int32 → va_W → Prop} (S : CallFix p m c cc nL s args wsL_law own) (hls : ls.size = nL) (hM : skMZ zk zv zf l y bytes maxL ret fr lo mc ms D tys (.ref b :: As) wc (skI D tys post))
    (h1 : Cond.methodLink own index y ∈ wsL_law) (h2 : Cond.instanceMethod y ∈ wsL_law) (h3 : Cond.selects C y y ∈ wsL_law) (h4 : Cond.initialized y.cls ∈ wsL_law) (h5 : Cond.code y bytes maxL ret ∈ wsL_law) (hd : skD y n) (hrm : skR R fr lo mc ms maxL cells slots)
    (hK : skK D tys s) (hP : va_P D vwCl ws H) (hD : va_D A ws) (hS : va_S A s.heap H locs) (hZ : skStr zk zv zf A s s.heap) (hA : ∀ q, s.heap.size ≤ q → A q) (isC isR : List Nat) (hC : isC.map (fun i => ws[i]?) = wc.map some) (hR : isR.map (fun i => ws[i]?) = wr.map some) (hnC : va_nd isC = true) (hn : va_nd isR = true) (hdis : ∀ i ∈ isR, i ∉ isC) (he : wc[q0]? = some (b, .inr (ci, fs))) (hc : vwCl[ci]? = some (C, T, N))
    (hlen : As.length = n) (hst : st0 = As.reverse ++ .ref b :: rest) (hcat : (rest.map fun v => v.category).sum ≤ 8) (hdg : decode cc pc = .ok (.invokevirtual index, 3))
    (kk : ∀ (r : Int32) (u : va_W) (H1 : Heap) (locs1 : List Loc), post r u → va_P D vwCl (wr ++ u) H1 → va_D A (wr ++ u) → va_S A s.heap H1 locs1 → W p l e R s m args below meth c H1 locs1 (cells + mc) (slots + ms) Q (F0 m (pc + 3) ls (.int r :: rest))) : W p l e R s m args below meth c H locs cells slots Q (F0 m pc ls st0) := by
  have hts := S.2.2.2.2
  have hFc := va_free (wc := wc) hD hS hA isC hC
  have hpre := sk_preVZ hZ hS hFc hK hP hD isC hC hnC (.ref b :: As)
  refine va_calli (va_runV (As := As) (rest := rest) S (hM H.size) ⟨callB_of n hts (sk_good h5) rfl rfl rfl (hts _ h4) (hts _ h1) hd hrm.1, hts _ h2, hts _ h3⟩ ⟨hpre.1, sk_recv hK hP isC hC he hc, hpre.2⟩ rfl hlen hls hst (lv_room hcat) hdg hrm.2) hS (fun q _ h => hFc q h) hFc (fun r u t H1 locs1 ht hvm hw hB hz1 hk1 hS1 => ?_)
  obtain ⟨hP1, -, hD1⟩ := hB
  rw [ht] at hP1
  obtain ⟨hP', hD'⟩ := va_join (wr := wr) (w1 := u) hP hD isC isR hC hR hn hdis hk1 hFc hP1 hD1
  exact kk r u H1 locs1 hw hP' hD' hS1
theorem sk_VlZ {post : Int64 → va_W → Prop} (S : CallFix p m c cc nL s args wsL_law own) (hls : ls.size = nL) (hM : skMZ zk zv zf l y bytes maxL ret fr lo mc ms D tys (.ref b :: As) wc (skL D tys post))
    (h1 : Cond.methodLink own index y ∈ wsL_law) (h2 : Cond.instanceMethod y ∈ wsL_law) (h3 : Cond.selects C y y ∈ wsL_law) (h4 : Cond.initialized y.cls ∈ wsL_law) (h5 : Cond.code y bytes maxL ret ∈ wsL_law) (hd : skD y n) (hrm : skR R fr lo mc ms maxL cells slots)
    (hK : skK D tys s) (hP : va_P D vwCl ws H) (hD : va_D A ws) (hS : va_S A s.heap H locs) (hZ : skStr zk zv zf A s s.heap) (hA : ∀ q, s.heap.size ≤ q → A q) (isC isR : List Nat) (hC : isC.map (fun i => ws[i]?) = wc.map some) (hR : isR.map (fun i => ws[i]?) = wr.map some) (hnC : va_nd isC = true) (hn : va_nd isR = true) (hdis : ∀ i ∈ isR, i ∉ isC) (he : wc[q0]? = some (b, .inr (ci, fs))) (hc : vwCl[ci]? = some (C, T, N))
    (hlen : As.length = n) (hst : st0 = As.reverse ++ .ref b :: rest) (hcat : (rest.map fun v => v.category).sum ≤ 8) (hdg : decode cc pc = .ok (.invokevirtual index, 3))
    (kk : ∀ (r : Int64) (u : va_W) (H1 : Heap) (locs1 : List Loc), post r u → va_P D vwCl (wr ++ u) H1 → va_D A (wr ++ u) → va_S A s.heap H1 locs1 → W p l e R s m args below meth c H1 locs1 (cells + mc) (slots + ms) Q (F0 m (pc + 3) ls (.long r :: rest))) : W p l e R s m args below meth c H locs cells slots Q (F0 m pc ls st0) := by
  have hts := S.2.2.2.2
  have hFc := va_free (wc := wc) hD hS hA isC hC
  have hpre := sk_preVZ hZ hS hFc hK hP hD isC hC hnC (.ref b :: As)
  refine va_calll (va_runV (As := As) (rest := rest) S (hM H.size) ⟨callB_of n hts (sk_good h5) rfl rfl rfl (hts _ h4) (hts _ h1) hd hrm.1, hts _ h2, hts _ h3⟩ ⟨hpre.1, sk_recv hK hP isC hC he hc, hpre.2⟩ rfl hlen hls hst (lv_room hcat) hdg hrm.2) hS (fun q _ h => hFc q h) hFc (fun r u t H1 locs1 ht hvm hw hB hz1 hk1 hS1 => ?_)
  obtain ⟨hP1, -, hD1⟩ := hB
  rw [ht] at hP1
  obtain ⟨hP', hD'⟩ := va_join (wr := wr) (w1 := u) hP hD isC isR hC hR hn hdis hk1 hFc hP1 hD1
  exact kk r u H1 locs1 hw hP' hD' hS1
theorem sk_VvZ {post : va_W → Prop} (S : CallFix p m c cc nL s args wsL_law own) (hls : ls.size = nL) (hM : skMZ zk zv zf l y bytes maxL ret fr lo mc ms D tys (.ref b :: As) wc (skV D tys post))
    (h1 : Cond.methodLink own index y ∈ wsL_law) (h2 : Cond.instanceMethod y ∈ wsL_law) (h3 : Cond.selects C y y ∈ wsL_law) (h4 : Cond.initialized y.cls ∈ wsL_law) (h5 : Cond.code y bytes maxL ret ∈ wsL_law) (hd : skD y n) (hrm : skR R fr lo mc ms maxL cells slots)
    (hK : skK D tys s) (hP : va_P D vwCl ws H) (hD : va_D A ws) (hS : va_S A s.heap H locs) (hZ : skStr zk zv zf A s s.heap) (hA : ∀ q, s.heap.size ≤ q → A q) (isC isR : List Nat) (hC : isC.map (fun i => ws[i]?) = wc.map some) (hR : isR.map (fun i => ws[i]?) = wr.map some) (hnC : va_nd isC = true) (hn : va_nd isR = true) (hdis : ∀ i ∈ isR, i ∉ isC) (he : wc[q0]? = some (b, .inr (ci, fs))) (hc : vwCl[ci]? = some (C, T, N))
    (hlen : As.length = n) (hst : st0 = As.reverse ++ .ref b :: rest) (hcat : (rest.map fun v => v.category).sum ≤ 8) (hdg : decode cc pc = .ok (.invokevirtual index, 3))
    (kk : ∀ (u : va_W) (H1 : Heap) (locs1 : List Loc), post u → va_P D vwCl (wr ++ u) H1 → va_D A (wr ++ u) → va_S A s.heap H1 locs1 → W p l e R s m args below meth c H1 locs1 (cells + mc) (slots + ms) Q (F0 m (pc + 3) ls rest)) : W p l e R s m args below meth c H locs cells slots Q (F0 m pc ls st0) := by
  have hts := S.2.2.2.2
  have hFc := va_free (wc := wc) hD hS hA isC hC
  have hpre := sk_preVZ hZ hS hFc hK hP hD isC hC hnC (.ref b :: As)
  refine va_callv (va_runV (As := As) (rest := rest) S (hM H.size) ⟨callB_of n hts (sk_good h5) rfl rfl rfl (hts _ h4) (hts _ h1) hd hrm.1, hts _ h2, hts _ h3⟩ ⟨hpre.1, sk_recv hK hP isC hC he hc, hpre.2⟩ rfl hlen hls hst (lv_room hcat) hdg hrm.2) hS (fun q _ h => hFc q h) hFc (fun u t H1 locs1 ht hvm hw hB hz1 hk1 hS1 => ?_)
  obtain ⟨hP1, -, hD1⟩ := hB
  rw [ht] at hP1
  obtain ⟨hP', hD'⟩ := va_join (wr := wr) (w1 := u) hP hD isC isR hC hR hn hdis hk1 hFc hP1 hD1
  exact kk u H1 locs1 hw hP' hD' hS1
theorem sk_SiZ {post : Int32 → va_W → Prop} (S : CallFix p m c cc nL s args wsL_law own) (hls : ls.size = nL) (hM : skMZ zk zv zf l y bytes maxL ret fr lo mc ms D tys As wc (skI D tys post))
    (h1 : Cond.methodLink own index y ∈ wsL_law) (h2 : Cond.static y ∈ wsL_law) (h4 : Cond.initialized y.cls ∈ wsL_law) (h5 : Cond.code y bytes maxL ret ∈ wsL_law) (hd : skD y n) (hrm : skR R fr lo mc ms maxL cells slots)
    (hK : skK D tys s) (hP : va_P D vwCl ws H) (hD : va_D A ws) (hS : va_S A s.heap H locs) (hZ : skStr zk zv zf A s s.heap) (hA : ∀ q, s.heap.size ≤ q → A q) (isC isR : List Nat) (hC : isC.map (fun i => ws[i]?) = wc.map some) (hR : isR.map (fun i => ws[i]?) = wr.map some) (hnC : va_nd isC = true) (hn : va_nd isR = true) (hdis : ∀ i ∈ isR, i ∉ isC)
    (hlen : As.length = n) (hst : st0 = As.reverse ++ rest) (hcat : (rest.map fun v => v.category).sum ≤ 8) (hdg : decode cc pc = .ok (.invokestatic index, 3))
    (kk : ∀ (r : Int32) (u : va_W) (H1 : Heap) (locs1 : List Loc), post r u → va_P D vwCl (wr ++ u) H1 → va_D A (wr ++ u) → va_S A s.heap H1 locs1 → W p l e R s m args below meth c H1 locs1 (cells + mc) (slots + ms) Q (F0 m (pc + 3) ls (.int r :: rest))) : W p l e R s m args below meth c H locs cells slots Q (F0 m pc ls st0) := by
  have hts := S.2.2.2.2
  have hFc := va_free (wc := wc) hD hS hA isC hC
  have hpre := sk_preVZ hZ hS hFc hK hP hD isC hC hnC As
  refine va_calli (va_runS (As := As) (rest := rest) S (hM H.size) ⟨callB_of n hts (sk_good h5) rfl rfl rfl (hts _ h4) (hts _ h1) hd hrm.1, hts _ h2⟩ hpre rfl hlen hls hst (lv_room hcat) hdg hrm.2) hS (fun q _ h => hFc q h) hFc (fun r u t H1 locs1 ht hvm hw hB hz1 hk1 hS1 => ?_)
  obtain ⟨hP1, -, hD1⟩ := hB
  rw [ht] at hP1
  obtain ⟨hP', hD'⟩ := va_join (wr := wr) (w1 := u) hP hD isC isR hC hR hn hdis hk1 hFc hP1 hD1
  exact kk r u H1 locs1 hw hP' hD' hS1
theorem sk_SvZ {post : va_W → Prop} (S : CallFix p m c cc nL s args wsL_law own) (hls : ls.size = nL) (hM : skMZ zk zv zf l y bytes maxL ret fr lo mc ms D tys As wc (skV D tys post))
    (h1 : Cond.methodLink own index y ∈ wsL_law) (h2 : Cond.static y ∈ wsL_law) (h4 : Cond.initialized y.cls ∈ wsL_law) (h5 : Cond.code y bytes maxL ret ∈ wsL_law) (hd : skD y n) (hrm : skR R fr lo mc ms maxL cells slots)
    (hK : skK D tys s) (hP : va_P D vwCl ws H) (hD : va_D A ws) (hS : va_S A s.heap H locs) (hZ : skStr zk zv zf A s s.heap) (hA : ∀ q, s.heap.size ≤ q → A q) (isC isR : List Nat) (hC : isC.map (fun i => ws[i]?) = wc.map some) (hR : isR.map (fun i => ws[i]?) = wr.map some) (hnC : va_nd isC = true) (hn : va_nd isR = true) (hdis : ∀ i ∈ isR, i ∉ isC)
    (hlen : As.length = n) (hst : st0 = As.reverse ++ rest) (hcat : (rest.map fun v => v.category).sum ≤ 8) (hdg : decode cc pc = .ok (.invokestatic index, 3))
    (kk : ∀ (u : va_W) (H1 : Heap) (locs1 : List Loc), post u → va_P D vwCl (wr ++ u) H1 → va_D A (wr ++ u) → va_S A s.heap H1 locs1 → W p l e R s m args below meth c H1 locs1 (cells + mc) (slots + ms) Q (F0 m (pc + 3) ls rest)) : W p l e R s m args below meth c H locs cells slots Q (F0 m pc ls st0) := by
  have hts := S.2.2.2.2
  have hFc := va_free (wc := wc) hD hS hA isC hC
  have hpre := sk_preVZ hZ hS hFc hK hP hD isC hC hnC As
  refine va_callv (va_runS (As := As) (rest := rest) S (hM H.size) ⟨callB_of n hts (sk_good h5) rfl rfl rfl (hts _ h4) (hts _ h1) hd hrm.1, hts _ h2⟩ hpre rfl hlen hls hst (lv_room hcat) hdg hrm.2) hS (fun q _ h => hFc q h) hFc (fun u t H1 locs1 ht hvm hw hB hz1 hk1 hS1 => ?_)
  obtain ⟨hP1, -, hD1⟩ := hB
  rw [ht] at hP1
  obtain ⟨hP', hD'⟩ := va_join (wr := wr) (w1 := u) hP hD isC isR hC hR hn hdis hk1 hFc hP1 hD1
  exact kk u H1 locs1 hw hP' hD' hS1
theorem sk_recvS {C : String} {b : Nat} (hZ : skStr zk zv zf A s s.heap) (hS : va_S A s.heap H locs) (hbz : b = zk) (hCs : C = "java/lang/String") : ∃ cell : Cell, H[b]? = some cell ∧ cell.vm.isStatics = false ∧ s.vm.findClass C = some cell.cls := by
  subst hbz; subst hCs
  obtain ⟨cell, h1, h2, h3, -⟩ := hZ.2.1.kept hS.2.1
  exact ⟨cell, h1, h2, h3⟩
theorem sk_ViS {post : Int32 → va_W → Prop} (S : CallFix p m c cc nL s args wsL_law own) (hls : ls.size = nL) (hM : skMZ zk zv zf l y bytes maxL ret fr lo mc ms D tys (.ref b :: As) wc (skI D tys post))
    (h1 : Cond.methodLink own index y ∈ wsL_law) (h2 : Cond.instanceMethod y ∈ wsL_law) (h3 : Cond.selects C y y ∈ wsL_law) (h4 : Cond.initialized y.cls ∈ wsL_law) (h5 : Cond.code y bytes maxL ret ∈ wsL_law) (hd : skD y n) (hrm : skR R fr lo mc ms maxL cells slots)
    (hK : skK D tys s) (hP : va_P D vwCl ws H) (hD : va_D A ws) (hS : va_S A s.heap H locs) (hZ : skStr zk zv zf A s s.heap) (hA : ∀ q, s.heap.size ≤ q → A q) (isC isR : List Nat) (hC : isC.map (fun i => ws[i]?) = wc.map some) (hR : isR.map (fun i => ws[i]?) = wr.map some) (hnC : va_nd isC = true) (hn : va_nd isR = true) (hdis : ∀ i ∈ isR, i ∉ isC) (hbz : b = zk) (hCs : C = "java/lang/String")
    (hlen : As.length = n) (hst : st0 = As.reverse ++ .ref b :: rest) (hcat : (rest.map fun v => v.category).sum ≤ 8) (hdg : decode cc pc = .ok (.invokevirtual index, 3))
    (kk : ∀ (r : Int32) (u : va_W) (H1 : Heap) (locs1 : List Loc), post r u → va_P D vwCl (wr ++ u) H1 → va_D A (wr ++ u) → va_S A s.heap H1 locs1 → W p l e R s m args below meth c H1 locs1 (cells + mc) (slots + ms) Q (F0 m (pc + 3) ls (.int r :: rest))) : W p l e R s m args below meth c H locs cells slots Q (F0 m pc ls st0) := by
  have hts := S.2.2.2.2
  have hFc := va_free (wc := wc) hD hS hA isC hC
  have hpre := sk_preVZ hZ hS hFc hK hP hD isC hC hnC (.ref b :: As)
  refine va_calli (va_runV (As := As) (rest := rest) S (hM H.size) ⟨callB_of n hts (sk_good h5) rfl rfl rfl (hts _ h4) (hts _ h1) hd hrm.1, hts _ h2, hts _ h3⟩ ⟨hpre.1, sk_recvS hZ hS hbz hCs, hpre.2⟩ rfl hlen hls hst (lv_room hcat) hdg hrm.2) hS (fun q _ h => hFc q h) hFc (fun r u t H1 locs1 ht hvm hw hB hz1 hk1 hS1 => ?_)
  obtain ⟨hP1, -, hD1⟩ := hB
  rw [ht] at hP1
  obtain ⟨hP', hD'⟩ := va_join (wr := wr) (w1 := u) hP hD isC isR hC hR hn hdis hk1 hFc hP1 hD1
  exact kk r u H1 locs1 hw hP' hD' hS1
end SkCallsZ
end SkRowsZ
theorem ch_by : ∀ i, i < 168 → (((skBy.getD i 0) &&& 255).toUInt32 % 65536).toInt32 = skBy.getD i 0 := by decide +kernel
theorem dJ3_checkIndex_8e157_0 : decode cJ3_checkIndex_8e157 0 = .ok (.iload_n 0, 1) := by decide +kernel
theorem dJ3_checkIndex_8e157_1 : decode cJ3_checkIndex_8e157 1 = .ok (.ifCond .lt 8, 3) := by decide +kernel
theorem dJ3_checkIndex_8e157_4 : decode cJ3_checkIndex_8e157 4 = .ok (.iload_n 0, 1) := by decide +kernel
theorem dJ3_checkIndex_8e157_5 : decode cJ3_checkIndex_8e157 5 = .ok (.iload_n 1, 1) := by decide +kernel
theorem dJ3_checkIndex_8e157_6 : decode cJ3_checkIndex_8e157 6 = .ok (.if_icmp .lt 10, 3) := by decide +kernel
theorem dJ3_checkIndex_8e157_16 : decode cJ3_checkIndex_8e157 16 = .ok (.iload_n 0, 1) := by decide +kernel
theorem dJ3_checkIndex_8e157_17 : decode cJ3_checkIndex_8e157 17 = .ok (.ireturn, 1) := by decide +kernel
theorem w_3_22 : (Cond.code yJ3_checkIndex_8e157 cJ3_checkIndex_8e157 3 (some .int)) ∈ wsL_law := sk_mem (ck_3 _ (List.mem_of_getElem? (i := 22) rfl)) rfl
set_option maxHeartbeats 4000000 in
set_option maxRecDepth 100000 in
theorem c_pc_checkIndex_n (l : Launch) (D : va_G) (cI cJ cC cZ cS : ClassId) (i : Nat) (n : Nat) (hi : i < n) (hn : n < 2147483648) : skM l yJ3_checkIndex_8e157 cJ3_checkIndex_8e157 3 (some .int) 0 0 0 0 D (skT cI cJ cC cZ cS) [.int (nI i), .int (nI n), .null] [] (skI D (skT cI cJ cC cZ cS) (fun (r : Int32) (u : va_W) => r = nI i ∧ u = [])) := by
  refine skM_of (by decide +kernel) (Nat.le_of_ble_eq_true rfl) ?_
  intro p e s m below meth c A ls E hP hD hl
  obtain ⟨hx, hb, hr, hml, hlocks, hin, hown, hts, hK, hA⟩ := E
  have hown : s.vm.findClass RJ3 = some m.cls := hown
  have hS : va_S A s.heap s.heap [] := va_S.rf
  have hl : lv_has ls 3 [(0, .int (nI i)), (1, .int (nI n)), (2, .null)] := hl
  refine lv_iload_n hx hb dJ3_checkIndex_8e157_0 rfl (lv_at hl 0 rfl) ?_
  refine lv_if_lt (tgt := 9) hx hb dJ3_checkIndex_8e157_1 (by decide) (fun c => absurd c (nI_pos (by omega))) (fun c_1 => ?_)
  refine lv_iload_n hx hb dJ3_checkIndex_8e157_4 rfl (lv_at hl 0 rfl) ?_
  refine lv_iload_n hx hb dJ3_checkIndex_8e157_5 rfl (lv_at hl 1 rfl) ?_
  refine lv_icmp_lt (tgt := 16) hx hb dJ3_checkIndex_8e157_6 (by decide) (fun c_2 => ?_) (fun c => absurd ((nlt i n (by omega) (by omega)).mpr (by omega)) c)
  refine lv_iload_n hx hb dJ3_checkIndex_8e157_16 rfl (lv_at hl 0 rfl) ?_
  exact sk_iret hx hb hr rfl hlocks hK hP hD hS (⟨rfl, rfl⟩) (Nat.le_of_ble_eq_true rfl) (Nat.le_of_ble_eq_true rfl) dJ3_checkIndex_8e157_17
set_option maxHeartbeats 4000000 in
set_option maxRecDepth 100000 in
theorem c_pc_checkIndex_r (l : Launch) (D : va_G) (cI cJ cC cZ cS : ClassId) (i : Nat) (n : Nat) (zz : Nat) (hi : i < n) (hn : n < 2147483648) : skM l yJ3_checkIndex_8e157 cJ3_checkIndex_8e157 3 (some .int) 0 0 0 0 D (skT cI cJ cC cZ cS) [.int (nI i), .int (nI n), .ref zz] [] (skI D (skT cI cJ cC cZ cS) (fun (r : Int32) (u : va_W) => r = nI i ∧ u = [])) := by
  refine skM_of (by decide +kernel) (Nat.le_of_ble_eq_true rfl) ?_
  intro p e s m below meth c A ls E hP hD hl
  obtain ⟨hx, hb, hr, hml, hlocks, hin, hown, hts, hK, hA⟩ := E
  have hown : s.vm.findClass RJ3 = some m.cls := hown
  have hS : va_S A s.heap s.heap [] := va_S.rf
  have hl : lv_has ls 3 [(0, .int (nI i)), (1, .int (nI n)), (2, .ref zz)] := hl
  refine lv_iload_n hx hb dJ3_checkIndex_8e157_0 rfl (lv_at hl 0 rfl) ?_
  refine lv_if_lt (tgt := 9) hx hb dJ3_checkIndex_8e157_1 (by decide) (fun c => absurd c (nI_pos (by omega))) (fun c_1 => ?_)
  refine lv_iload_n hx hb dJ3_checkIndex_8e157_4 rfl (lv_at hl 0 rfl) ?_
  refine lv_iload_n hx hb dJ3_checkIndex_8e157_5 rfl (lv_at hl 1 rfl) ?_
  refine lv_icmp_lt (tgt := 16) hx hb dJ3_checkIndex_8e157_6 (by decide) (fun c_2 => ?_) (fun c => absurd ((nlt i n (by omega) (by omega)).mpr (by omega)) c)
  refine lv_iload_n hx hb dJ3_checkIndex_8e157_16 rfl (lv_at hl 0 rfl) ?_
  exact sk_iret hx hb hr rfl hlocks hK hP hD hS (⟨rfl, rfl⟩) (Nat.le_of_ble_eq_true rfl) (Nat.le_of_ble_eq_true rfl) dJ3_checkIndex_8e157_17
theorem dJ0_checkIndex_df160_0 : decode cJ0_checkIndex_df160 0 = .ok (.iload_n 0, 1) := by decide +kernel
theorem dJ0_checkIndex_df160_1 : decode cJ0_checkIndex_df160 1 = .ok (.iload_n 1, 1) := by decide +kernel
theorem dJ0_checkIndex_df160_2 : decode cJ0_checkIndex_df160 2 = .ok (.getstatic 1053, 3) := by decide +kernel
theorem dJ0_checkIndex_df160_5 : decode cJ0_checkIndex_df160 5 = .ok (.invokestatic 1059, 3) := by decide +kernel
theorem dJ0_checkIndex_df160_8 : decode cJ0_checkIndex_df160 8 = .ok (.pop, 1) := by decide +kernel
theorem dJ0_checkIndex_df160_9 : decode cJ0_checkIndex_df160 9 = .ok (.return_, 1) := by decide +kernel
theorem w_3_18 : (Cond.fieldLink RJ0 1053 "jdk/internal/util/Preconditions" "SIOOBE_FORMATTER" "Ljava/util/function/BiFunction;") ∈ wsL_law := sk_mem (ck_3 _ (List.mem_of_getElem? (i := 18) rfl)) rfl
theorem w_3_20 : (Cond.methodLink RJ0 1059 yJ3_checkIndex_8e157) ∈ wsL_law := sk_mem (ck_3 _ (List.mem_of_getElem? (i := 20) rfl)) rfl
theorem w_3_21 : (Cond.static yJ3_checkIndex_8e157) ∈ wsL_law := sk_mem (ck_3 _ (List.mem_of_getElem? (i := 21) rfl)) rfl
theorem w_1_18 : (Cond.initialized RJ3) ∈ wsL_law := sk_mem (ck_1 _ (List.mem_of_getElem? (i := 18) rfl)) rfl
theorem w_3_17 : (Cond.code yJ0_checkIndex_df160 cJ0_checkIndex_df160 2 none) ∈ wsL_law := sk_mem (ck_3 _ (List.mem_of_getElem? (i := 17) rfl)) rfl
set_option maxHeartbeats 4000000 in
set_option maxRecDepth 100000 in
theorem c_str_checkIndex (l : Launch) (D : va_G) (cI cJ cC cZ cS : ClassId) (zk zv : Nat) (zf : Value) (i : Nat) (n : Nat) (hi : i < n) (hn : n < 2147483648) : skMZ zk zv zf l yJ0_checkIndex_df160 cJ0_checkIndex_df160 2 none 1 22 0 0 D (skT cI cJ cC cZ cS) [.int (nI i), .int (nI n)] [] (skV D (skT cI cJ cC cZ cS) (fun (u : va_W) => u = [])) := by
  refine skMZ_of (by decide +kernel) (Nat.le_of_ble_eq_true rfl) ?_
  intro p e s m below meth c A ls E hP hD hZ hl
  obtain ⟨hx, hb, hr, hml, hlocks, hin, hown, hts, hK, hA⟩ := E
  have hown : s.vm.findClass RJ0 = some m.cls := hown
  have hS : va_S A s.heap s.heap [] := va_S.rf
  have hl : lv_has ls 2 [(0, .int (nI i)), (1, .int (nI n))] := hl
  refine lv_iload_n hx hb dJ0_checkIndex_df160_0 rfl (lv_at hl 0 rfl) ?_
  refine lv_iload_n hx hb dJ0_checkIndex_df160_1 rfl (lv_at hl 1 rfl) ?_
  rcases hZ.2.2.2.2.2.2.2 with hq | ⟨zz, hq⟩
  · subst hq
    refine va_gets hx hb hZ.2.2.2.2.2.2.1 hS hown (hts _ w_3_18) (fun _ h => h) dJ0_checkIndex_df160_2 ?_
    refine sk_Si (n := 3) (rest := []) (wr := []) ⟨hx, hb, hml, hown, hts⟩ hl.1 (c_pc_checkIndex_n l D cI cJ cC cZ cS i n (by omega) (by omega)) w_3_20 w_3_21 w_1_18 w_3_22 (by decide +kernel) ⟨⟨(Nat.le_of_ble_eq_true rfl), (Nat.le_of_ble_eq_true rfl)⟩, (Nat.le_of_ble_eq_true rfl), (Nat.le_of_ble_eq_true rfl)⟩ hK hP hD hS hA [] [] rfl rfl (by decide +kernel) (by decide +kernel) (by decide +kernel) rfl rfl (Nat.le_of_ble_eq_true rfl) dJ0_checkIndex_df160_5 (fun r_1 u H locs hw hP hD hS => ?_)
    obtain ⟨rfl, rfl⟩ := hw
    have hP : va_P D vwCl [] H := hP
    have hD : va_D A [] := hD
    refine lv_pop hx hb dJ0_checkIndex_df160_8 rfl ?_
    exact sk_vret hx hb hr hlocks hK hP hD hS rfl (Nat.le_of_ble_eq_true rfl) (Nat.le_of_ble_eq_true rfl) dJ0_checkIndex_df160_9
  · subst hq
    refine va_gets hx hb hZ.2.2.2.2.2.2.1 hS hown (hts _ w_3_18) (fun _ h => h) dJ0_checkIndex_df160_2 ?_
    refine sk_Si (n := 3) (rest := []) (wr := []) ⟨hx, hb, hml, hown, hts⟩ hl.1 (c_pc_checkIndex_r l D cI cJ cC cZ cS i n zz (by omega) (by omega)) w_3_20 w_3_21 w_1_18 w_3_22 (by decide +kernel) ⟨⟨(Nat.le_of_ble_eq_true rfl), (Nat.le_of_ble_eq_true rfl)⟩, (Nat.le_of_ble_eq_true rfl), (Nat.le_of_ble_eq_true rfl)⟩ hK hP hD hS hA [] [] rfl rfl (by decide +kernel) (by decide +kernel) (by decide +kernel) rfl rfl (Nat.le_of_ble_eq_true rfl) dJ0_checkIndex_df160_5 (fun r_2 u H locs hw hP hD hS => ?_)
    obtain ⟨rfl, rfl⟩ := hw
    have hP : va_P D vwCl [] H := hP
    have hD : va_D A [] := hD
    refine lv_pop hx hb dJ0_checkIndex_df160_8 rfl ?_
    exact sk_vret hx hb hr hlocks hK hP hD hS rfl (Nat.le_of_ble_eq_true rfl) (Nat.le_of_ble_eq_true rfl) dJ0_checkIndex_df160_9
theorem dJ1_charAt_3b067_0 : decode cJ1_charAt_3b067 0 = .ok (.iload_n 1, 1) := by decide +kernel
theorem dJ1_charAt_3b067_1 : decode cJ1_charAt_3b067 1 = .ok (.aload_n 0, 1) := by decide +kernel
theorem dJ1_charAt_3b067_2 : decode cJ1_charAt_3b067 2 = .ok (.arraylength, 1) := by decide +kernel
theorem dJ1_charAt_3b067_3 : decode cJ1_charAt_3b067 3 = .ok (.invokestatic 9, 3) := by decide +kernel
theorem dJ1_charAt_3b067_6 : decode cJ1_charAt_3b067 6 = .ok (.aload_n 0, 1) := by decide +kernel
theorem dJ1_charAt_3b067_7 : decode cJ1_charAt_3b067 7 = .ok (.iload_n 1, 1) := by decide +kernel
theorem dJ1_charAt_3b067_8 : decode cJ1_charAt_3b067 8 = .ok (.baload, 1) := by decide +kernel
theorem dJ1_charAt_3b067_9 : decode cJ1_charAt_3b067 9 = .ok (.sipush 255, 3) := by decide +kernel
theorem dJ1_charAt_3b067_12 : decode cJ1_charAt_3b067 12 = .ok (.iand, 1) := by decide +kernel
theorem dJ1_charAt_3b067_13 : decode cJ1_charAt_3b067 13 = .ok (.i2c, 1) := by decide +kernel
theorem dJ1_charAt_3b067_14 : decode cJ1_charAt_3b067 14 = .ok (.ireturn, 1) := by decide +kernel
theorem w_3_15 : (Cond.methodLink RJ1 9 yJ0_checkIndex_df160) ∈ wsL_law := sk_mem (ck_3 _ (List.mem_of_getElem? (i := 15) rfl)) rfl
theorem w_3_16 : (Cond.static yJ0_checkIndex_df160) ∈ wsL_law := sk_mem (ck_3 _ (List.mem_of_getElem? (i := 16) rfl)) rfl
theorem w_1_16 : (Cond.initialized RJ0) ∈ wsL_law := sk_mem (ck_1 _ (List.mem_of_getElem? (i := 16) rfl)) rfl
theorem w_3_14 : (Cond.code yJ1_charAt_3b067 cJ1_charAt_3b067 2 (some .char)) ∈ wsL_law := sk_mem (ck_3 _ (List.mem_of_getElem? (i := 14) rfl)) rfl
set_option maxHeartbeats 4000000 in
set_option maxRecDepth 100000 in
theorem c_l1_charAt (l : Launch) (D : va_G) (cI cJ cC cZ cS : ClassId) (zk zv : Nat) (zf : Value) (i : Nat) (hi : i < 168) : skMZ zk zv zf l yJ1_charAt_3b067 cJ1_charAt_3b067 2 (some .char) 2 43 0 0 D (skT cI cJ cC cZ cS) [.ref zv, .int (nI i)] [] (skI D (skT cI cJ cC cZ cS) (fun (r : Int32) (u : va_W) => narrow .char (.int r) = .int r ∧ r = skBy.getD i 0 ∧ u = [])) := by
  refine skMZ_of (by decide +kernel) (Nat.le_of_ble_eq_true rfl) ?_
  intro p e s m below meth c A ls E hP hD hZ hl
  obtain ⟨hx, hb, hr, hml, hlocks, hin, hown, hts, hK, hA⟩ := E
  have hown : s.vm.findClass RJ1 = some m.cls := hown
  have hS : va_S A s.heap s.heap [] := va_S.rf
  have hl : lv_has ls 2 [(0, .ref zv), (1, .int (nI i))] := hl
  refine lv_iload_n hx hb dJ1_charAt_3b067_0 rfl (lv_at hl 1 rfl) ?_
  refine lv_aload_n hx hb dJ1_charAt_3b067_1 rfl (lv_at hl 0 rfl) ?_
  refine va_tlen (v := 168) hx hb hZ.2.2.2.2.1 hS rfl dJ1_charAt_3b067_2 ?_
  refine sk_SvZ (n := 2) (rest := []) (wr := []) ⟨hx, hb, hml, hown, hts⟩ hl.1 (c_str_checkIndex l D cI cJ cC cZ cS zk zv zf i 168 (by omega) (by omega)) w_3_15 w_3_16 w_1_16 w_3_17 (by decide +kernel) ⟨⟨(Nat.le_of_ble_eq_true rfl), (Nat.le_of_ble_eq_true rfl)⟩, (Nat.le_of_ble_eq_true rfl), (Nat.le_of_ble_eq_true rfl)⟩ hK hP hD hS hZ hA [] [] rfl rfl (by decide +kernel) (by decide +kernel) (by decide +kernel) rfl rfl (Nat.le_of_ble_eq_true rfl) dJ1_charAt_3b067_3 (fun u H locs hw hP hD hS => ?_)
  obtain rfl := hw
  have hP : va_P D vwCl [] H := hP
  have hD : va_D A [] := hD
  refine lv_aload_n hx hb dJ1_charAt_3b067_6 rfl (lv_at hl 0 rfl) ?_
  refine lv_iload_n hx hb dJ1_charAt_3b067_7 rfl (lv_at hl 1 rfl) ?_
  refine va_tb hx hb hZ.2.2.2.2.1 hS (vin i 168 (by omega) (by omega)) rfl dJ1_charAt_3b067_8 ?_
  refine lv_topi (fun v_1 ev_1 => ?_)
  refine lv_sipush (v := 255) hx hb dJ1_charAt_3b067_9 (by decide) ?_
  refine lv_iand hx hb dJ1_charAt_3b067_12 ?_
  refine lv_i2c hx hb dJ1_charAt_3b067_13 rfl ?_
  refine lv_topi (fun v_2 ev_2 => ?_)
  exact sk_iret hx hb hr (by rw [ev_2]; exact pk_nc _) hlocks hK hP hD hS (⟨by rw [ev_2]; exact pk_nc _, by rw [ev_2, ev_1, nI_clamp (by omega)]; exact ch_by i (by omega), rfl⟩) (Nat.le_of_ble_eq_true rfl) (Nat.le_of_ble_eq_true rfl) dJ1_charAt_3b067_14
theorem dJ0_coder_7d493_0 : decode cJ0_coder_7d493 0 = .ok (.getstatic 38, 3) := by decide +kernel
theorem dJ0_coder_7d493_3 : decode cJ0_coder_7d493 3 = .ok (.ifCond .eq 10, 3) := by decide +kernel
theorem dJ0_coder_7d493_6 : decode cJ0_coder_7d493 6 = .ok (.aload_n 0, 1) := by decide +kernel
theorem dJ0_coder_7d493_7 : decode cJ0_coder_7d493 7 = .ok (.getfield 15, 3) := by decide +kernel
theorem dJ0_coder_7d493_10 : decode cJ0_coder_7d493 10 = .ok (.goto 4, 3) := by decide +kernel
theorem dJ0_coder_7d493_14 : decode cJ0_coder_7d493 14 = .ok (.ireturn, 1) := by decide +kernel
theorem w_3_2 : (Cond.fieldLink RJ0 38 "java/lang/String" "COMPACT_STRINGS" "Z") ∈ wsL_law := sk_mem (ck_3 _ (List.mem_of_getElem? (i := 2) rfl)) rfl
theorem w_8_232 : (Cond.fieldLink RJ0 15 "java/lang/String" "coder" "B") ∈ wsL_law := sk_mem (ck_8 _ (List.mem_of_getElem? (i := 232) rfl)) rfl
theorem w_3_1 : (Cond.code yJ0_coder_7d493 cJ0_coder_7d493 1 (some .byte)) ∈ wsL_law := sk_mem (ck_3 _ (List.mem_of_getElem? (i := 1) rfl)) rfl
set_option maxHeartbeats 4000000 in
set_option maxRecDepth 100000 in
theorem c_str_coder (l : Launch) (D : va_G) (cI cJ cC cZ cS : ClassId) (zk zv : Nat) (zf : Value)  : skMZ zk zv zf l yJ0_coder_7d493 cJ0_coder_7d493 1 (some .byte) 0 0 0 0 D (skT cI cJ cC cZ cS) [.ref zk] [] (skI D (skT cI cJ cC cZ cS) (fun (r : Int32) (u : va_W) => r = 0 ∧ u = [])) := by
  refine skMZ_of (by decide +kernel) (Nat.le_of_ble_eq_true rfl) ?_
  intro p e s m below meth c A ls E hP hD hZ hl
  obtain ⟨hx, hb, hr, hml, hlocks, hin, hown, hts, hK, hA⟩ := E
  have hown : s.vm.findClass RJ0 = some m.cls := hown
  have hS : va_S A s.heap s.heap [] := va_S.rf
  have hl : lv_has ls 1 [(0, .ref zk)] := hl
  refine va_gets hx hb hZ.2.2.2.2.2.1 hS hown (hts _ w_3_2) (fun _ h => h) dJ0_coder_7d493_0 ?_
  refine lv_if_eq (tgt := 13) hx hb dJ0_coder_7d493_3 (by decide) (fun c => absurd c (by decide)) (fun c_1 => ?_)
  refine lv_aload_n hx hb dJ0_coder_7d493_6 rfl (lv_at hl 0 rfl) ?_
  refine vk_getf hx hb hZ.2.2.1 hS hown (hts _ w_8_232) (fun _ h => h) dJ0_coder_7d493_7 ?_
  refine lv_goto (tgt := 14) hx hb dJ0_coder_7d493_10 (by decide) ?_
  exact sk_iret hx hb hr rfl hlocks hK hP hD hS (⟨rfl, rfl⟩) (Nat.le_of_ble_eq_true rfl) (Nat.le_of_ble_eq_true rfl) dJ0_coder_7d493_14
theorem dJ0_isLatin1_aae02_0 : decode cJ0_isLatin1_aae02 0 = .ok (.getstatic 38, 3) := by decide +kernel
theorem dJ0_isLatin1_aae02_3 : decode cJ0_isLatin1_aae02 3 = .ok (.ifCond .eq 14, 3) := by decide +kernel
theorem dJ0_isLatin1_aae02_6 : decode cJ0_isLatin1_aae02 6 = .ok (.aload_n 0, 1) := by decide +kernel
theorem dJ0_isLatin1_aae02_7 : decode cJ0_isLatin1_aae02 7 = .ok (.getfield 15, 3) := by decide +kernel
theorem dJ0_isLatin1_aae02_10 : decode cJ0_isLatin1_aae02 10 = .ok (.ifCond .ne 7, 3) := by decide +kernel
theorem dJ0_isLatin1_aae02_13 : decode cJ0_isLatin1_aae02 13 = .ok (.iconst 1, 1) := by decide +kernel
theorem dJ0_isLatin1_aae02_14 : decode cJ0_isLatin1_aae02 14 = .ok (.goto 4, 3) := by decide +kernel
theorem dJ0_isLatin1_aae02_18 : decode cJ0_isLatin1_aae02 18 = .ok (.ireturn, 1) := by decide +kernel
theorem w_3_11 : (Cond.code yJ0_isLatin1_aae02 cJ0_isLatin1_aae02 1 (some .boolean)) ∈ wsL_law := sk_mem (ck_3 _ (List.mem_of_getElem? (i := 11) rfl)) rfl
set_option maxHeartbeats 4000000 in
set_option maxRecDepth 100000 in
theorem c_str_isLatin1 (l : Launch) (D : va_G) (cI cJ cC cZ cS : ClassId) (zk zv : Nat) (zf : Value)  : skMZ zk zv zf l yJ0_isLatin1_aae02 cJ0_isLatin1_aae02 1 (some .boolean) 0 0 0 0 D (skT cI cJ cC cZ cS) [.ref zk] [] (skI D (skT cI cJ cC cZ cS) (fun (r : Int32) (u : va_W) => r = 1 ∧ u = [])) := by
  refine skMZ_of (by decide +kernel) (Nat.le_of_ble_eq_true rfl) ?_
  intro p e s m below meth c A ls E hP hD hZ hl
  obtain ⟨hx, hb, hr, hml, hlocks, hin, hown, hts, hK, hA⟩ := E
  have hown : s.vm.findClass RJ0 = some m.cls := hown
  have hS : va_S A s.heap s.heap [] := va_S.rf
  have hl : lv_has ls 1 [(0, .ref zk)] := hl
  refine va_gets hx hb hZ.2.2.2.2.2.1 hS hown (hts _ w_3_2) (fun _ h => h) dJ0_isLatin1_aae02_0 ?_
  refine lv_if_eq (tgt := 17) hx hb dJ0_isLatin1_aae02_3 (by decide) (fun c => absurd c (by decide)) (fun c_1 => ?_)
  refine lv_aload_n hx hb dJ0_isLatin1_aae02_6 rfl (lv_at hl 0 rfl) ?_
  refine vk_getf hx hb hZ.2.2.1 hS hown (hts _ w_8_232) (fun _ h => h) dJ0_isLatin1_aae02_7 ?_
  refine lv_if_ne (tgt := 17) hx hb dJ0_isLatin1_aae02_10 (by decide) (fun c => absurd c (by decide)) (fun c_2 => ?_)
  refine lv_iconst (v := 1) hx hb dJ0_isLatin1_aae02_13 (by decide) ?_
  refine lv_goto (tgt := 18) hx hb dJ0_isLatin1_aae02_14 (by decide) ?_
  exact sk_iret hx hb hr rfl hlocks hK hP hD hS (⟨rfl, rfl⟩) (Nat.le_of_ble_eq_true rfl) (Nat.le_of_ble_eq_true rfl) dJ0_isLatin1_aae02_18
theorem dJ0_length_8abf5_0 : decode cJ0_length_8abf5 0 = .ok (.aload_n 0, 1) := by decide +kernel
theorem dJ0_length_8abf5_1 : decode cJ0_length_8abf5 1 = .ok (.getfield 9, 3) := by decide +kernel
theorem dJ0_length_8abf5_4 : decode cJ0_length_8abf5 4 = .ok (.arraylength, 1) := by decide +kernel
theorem dJ0_length_8abf5_5 : decode cJ0_length_8abf5 5 = .ok (.aload_n 0, 1) := by decide +kernel
theorem dJ0_length_8abf5_6 : decode cJ0_length_8abf5 6 = .ok (.invokevirtual 335, 3) := by decide +kernel
theorem dJ0_length_8abf5_9 : decode cJ0_length_8abf5 9 = .ok (.ishr, 1) := by decide +kernel
theorem dJ0_length_8abf5_10 : decode cJ0_length_8abf5 10 = .ok (.ireturn, 1) := by decide +kernel
theorem w_8_231 : (Cond.fieldLink RJ0 9 "java/lang/String" "value" "[B") ∈ wsL_law := sk_mem (ck_8 _ (List.mem_of_getElem? (i := 231) rfl)) rfl
theorem w_2_238 : (Cond.methodLink RJ0 335 yJ0_coder_7d493) ∈ wsL_law := sk_mem (ck_2 _ (List.mem_of_getElem? (i := 238) rfl)) rfl
theorem w_2_239 : (Cond.instanceMethod yJ0_coder_7d493) ∈ wsL_law := sk_mem (ck_2 _ (List.mem_of_getElem? (i := 239) rfl)) rfl
theorem w_3_0 : (Cond.selects RJ0 yJ0_coder_7d493 yJ0_coder_7d493) ∈ wsL_law := sk_mem (ck_3 _ (List.mem_of_getElem? (i := 0) rfl)) rfl
theorem w_2_237 : (Cond.code yJ0_length_8abf5 cJ0_length_8abf5 1 (some .int)) ∈ wsL_law := sk_mem (ck_2 _ (List.mem_of_getElem? (i := 237) rfl)) rfl
set_option maxHeartbeats 4000000 in
set_option maxRecDepth 100000 in
theorem c_str_length (l : Launch) (D : va_G) (cI cJ cC cZ cS : ClassId) (zk zv : Nat) (zf : Value)  : skMZ zk zv zf l yJ0_length_8abf5 cJ0_length_8abf5 1 (some .int) 1 20 0 0 D (skT cI cJ cC cZ cS) [.ref zk] [] (skI D (skT cI cJ cC cZ cS) (fun (r : Int32) (u : va_W) => r = 168 ∧ u = [])) := by
  refine skMZ_of (by decide +kernel) (Nat.le_of_ble_eq_true rfl) ?_
  intro p e s m below meth c A ls E hP hD hZ hl
  obtain ⟨hx, hb, hr, hml, hlocks, hin, hown, hts, hK, hA⟩ := E
  have hown : s.vm.findClass RJ0 = some m.cls := hown
  have hS : va_S A s.heap s.heap [] := va_S.rf
  have hl : lv_has ls 1 [(0, .ref zk)] := hl
  refine lv_aload_n hx hb dJ0_length_8abf5_0 rfl (lv_at hl 0 rfl) ?_
  refine vk_getf hx hb hZ.2.2.2.1 hS hown (hts _ w_8_231) (fun _ h => h) dJ0_length_8abf5_1 ?_
  refine va_tlen (v := 168) hx hb hZ.2.2.2.2.1 hS rfl dJ0_length_8abf5_4 ?_
  refine lv_aload_n hx hb dJ0_length_8abf5_5 rfl (lv_at hl 0 rfl) ?_
  refine sk_ViS (n := 0) (rest := [.int 168]) (wr := []) ⟨hx, hb, hml, hown, hts⟩ hl.1 (c_str_coder l D cI cJ cC cZ cS zk zv zf) w_2_238 w_2_239 w_3_0 w_1_16 w_3_1 (by decide +kernel) ⟨⟨(Nat.le_of_ble_eq_true rfl), (Nat.le_of_ble_eq_true rfl)⟩, (Nat.le_of_ble_eq_true rfl), (Nat.le_of_ble_eq_true rfl)⟩ hK hP hD hS hZ hA [] [] rfl rfl (by decide +kernel) (by decide +kernel) (by decide +kernel) rfl rfl rfl rfl (Nat.le_of_ble_eq_true rfl) dJ0_length_8abf5_6 (fun r_1 u H locs hw hP hD hS => ?_)
  obtain ⟨rfl, rfl⟩ := hw
  have hP : va_P D vwCl [] H := hP
  have hD : va_D A [] := hD
  refine lv_ishr hx hb dJ0_length_8abf5_9 ?_
  refine sk_top 168 (by decide) ?_
  exact sk_iret hx hb hr rfl hlocks hK hP hD hS (⟨rfl, rfl⟩) (Nat.le_of_ble_eq_true rfl) (Nat.le_of_ble_eq_true rfl) dJ0_length_8abf5_10
theorem dJ0_charAt_5068e_0 : decode cJ0_charAt_5068e 0 = .ok (.aload_n 0, 1) := by decide +kernel
theorem dJ0_charAt_5068e_1 : decode cJ0_charAt_5068e 1 = .ok (.invokevirtual 492, 3) := by decide +kernel
theorem dJ0_charAt_5068e_4 : decode cJ0_charAt_5068e 4 = .ok (.ifCond .eq 12, 3) := by decide +kernel
theorem dJ0_charAt_5068e_7 : decode cJ0_charAt_5068e 7 = .ok (.aload_n 0, 1) := by decide +kernel
theorem dJ0_charAt_5068e_8 : decode cJ0_charAt_5068e 8 = .ok (.getfield 9, 3) := by decide +kernel
theorem dJ0_charAt_5068e_11 : decode cJ0_charAt_5068e 11 = .ok (.iload_n 1, 1) := by decide +kernel
theorem dJ0_charAt_5068e_12 : decode cJ0_charAt_5068e 12 = .ok (.invokestatic 495, 3) := by decide +kernel
theorem dJ0_charAt_5068e_15 : decode cJ0_charAt_5068e 15 = .ok (.ireturn, 1) := by decide +kernel
theorem w_3_8 : (Cond.methodLink RJ0 492 yJ0_isLatin1_aae02) ∈ wsL_law := sk_mem (ck_3 _ (List.mem_of_getElem? (i := 8) rfl)) rfl
theorem w_3_9 : (Cond.instanceMethod yJ0_isLatin1_aae02) ∈ wsL_law := sk_mem (ck_3 _ (List.mem_of_getElem? (i := 9) rfl)) rfl
theorem w_3_10 : (Cond.selects RJ0 yJ0_isLatin1_aae02 yJ0_isLatin1_aae02) ∈ wsL_law := sk_mem (ck_3 _ (List.mem_of_getElem? (i := 10) rfl)) rfl
theorem w_3_12 : (Cond.methodLink RJ0 495 yJ1_charAt_3b067) ∈ wsL_law := sk_mem (ck_3 _ (List.mem_of_getElem? (i := 12) rfl)) rfl
theorem w_3_13 : (Cond.static yJ1_charAt_3b067) ∈ wsL_law := sk_mem (ck_3 _ (List.mem_of_getElem? (i := 13) rfl)) rfl
theorem w_1_17 : (Cond.initialized RJ1) ∈ wsL_law := sk_mem (ck_1 _ (List.mem_of_getElem? (i := 17) rfl)) rfl
theorem w_3_7 : (Cond.code yJ0_charAt_5068e cJ0_charAt_5068e 2 (some .char)) ∈ wsL_law := sk_mem (ck_3 _ (List.mem_of_getElem? (i := 7) rfl)) rfl
set_option maxHeartbeats 4000000 in
set_option maxRecDepth 100000 in
theorem c_str_charAt (l : Launch) (D : va_G) (cI cJ cC cZ cS : ClassId) (zk zv : Nat) (zf : Value) (i : Nat) (hi : i < 168) : skMZ zk zv zf l yJ0_charAt_5068e cJ0_charAt_5068e 2 (some .char) 3 64 0 0 D (skT cI cJ cC cZ cS) [.ref zk, .int (nI i)] [] (skI D (skT cI cJ cC cZ cS) (fun (r : Int32) (u : va_W) => r = skBy.getD i 0 ∧ u = [])) := by
  refine skMZ_of (by decide +kernel) (Nat.le_of_ble_eq_true rfl) ?_
  intro p e s m below meth c A ls E hP hD hZ hl
  obtain ⟨hx, hb, hr, hml, hlocks, hin, hown, hts, hK, hA⟩ := E
  have hown : s.vm.findClass RJ0 = some m.cls := hown
  have hS : va_S A s.heap s.heap [] := va_S.rf
  have hl : lv_has ls 2 [(0, .ref zk), (1, .int (nI i))] := hl
  refine lv_aload_n hx hb dJ0_charAt_5068e_0 rfl (lv_at hl 0 rfl) ?_
  refine sk_ViS (n := 0) (rest := []) (wr := []) ⟨hx, hb, hml, hown, hts⟩ hl.1 (c_str_isLatin1 l D cI cJ cC cZ cS zk zv zf) w_3_8 w_3_9 w_3_10 w_1_16 w_3_11 (by decide +kernel) ⟨⟨(Nat.le_of_ble_eq_true rfl), (Nat.le_of_ble_eq_true rfl)⟩, (Nat.le_of_ble_eq_true rfl), (Nat.le_of_ble_eq_true rfl)⟩ hK hP hD hS hZ hA [] [] rfl rfl (by decide +kernel) (by decide +kernel) (by decide +kernel) rfl rfl rfl rfl (Nat.le_of_ble_eq_true rfl) dJ0_charAt_5068e_1 (fun r_1 u H locs hw hP hD hS => ?_)
  obtain ⟨rfl, rfl⟩ := hw
  have hP : va_P D vwCl [] H := hP
  have hD : va_D A [] := hD
  refine lv_if_eq (tgt := 16) hx hb dJ0_charAt_5068e_4 (by decide) (fun c => absurd c (by decide)) (fun c_2 => ?_)
  refine lv_aload_n hx hb dJ0_charAt_5068e_7 rfl (lv_at hl 0 rfl) ?_
  refine vk_getf hx hb hZ.2.2.2.1 hS hown (hts _ w_8_231) (fun _ h => h) dJ0_charAt_5068e_8 ?_
  refine lv_iload_n hx hb dJ0_charAt_5068e_11 rfl (lv_at hl 1 rfl) ?_
  refine sk_SiZ (n := 2) (rest := []) (wr := []) ⟨hx, hb, hml, hown, hts⟩ hl.1 (c_l1_charAt l D cI cJ cC cZ cS zk zv zf i (by omega)) w_3_12 w_3_13 w_1_17 w_3_14 (by decide +kernel) ⟨⟨(Nat.le_of_ble_eq_true rfl), (Nat.le_of_ble_eq_true rfl)⟩, (Nat.le_of_ble_eq_true rfl), (Nat.le_of_ble_eq_true rfl)⟩ hK hP hD hS hZ hA [] [] rfl rfl (by decide +kernel) (by decide +kernel) (by decide +kernel) rfl rfl (Nat.le_of_ble_eq_true rfl) dJ0_charAt_5068e_12 (fun r_3 u H locs hw hP hD hS => ?_)
  obtain ⟨hn_4, hv_5, rfl⟩ := hw
  have hP : va_P D vwCl [] H := hP
  have hD : va_D A [] := hD
  exact sk_iret hx hb hr hn_4 hlocks hK hP hD hS (⟨hv_5, rfl⟩) (Nat.le_of_ble_eq_true rfl) (Nat.le_of_ble_eq_true rfl) dJ0_charAt_5068e_15
theorem dX6_fail_0 : decode cX6_fail 0 = .ok (.aload_n 0, 1) := by decide +kernel
theorem dX6_fail_1 : decode cX6_fail 1 = .ok (.getfield 27, 3) := by decide +kernel
theorem dX6_fail_4 : decode cX6_fail 4 = .ok (.ifCond .ne 13, 3) := by decide +kernel
theorem dX6_fail_17 : decode cX6_fail 17 = .ok (.aload_n 0, 1) := by decide +kernel
theorem dX6_fail_18 : decode cX6_fail 18 = .ok (.bipush (-2), 2) := by decide +kernel
theorem dX6_fail_20 : decode cX6_fail 20 = .ok (.putfield 21, 3) := by decide +kernel
theorem dX6_fail_23 : decode cX6_fail 23 = .ok (.return_, 1) := by decide +kernel
theorem dX6_fail_7 : decode cX6_fail 7 = .ok (.aload_n 0, 1) := by decide +kernel
theorem dX6_fail_8 : decode cX6_fail 8 = .ok (.iload_n 1, 1) := by decide +kernel
theorem dX6_fail_9 : decode cX6_fail 9 = .ok (.putfield 27, 3) := by decide +kernel
theorem dX6_fail_12 : decode cX6_fail 12 = .ok (.aload_n 0, 1) := by decide +kernel
theorem dX6_fail_13 : decode cX6_fail 13 = .ok (.iload_n 2, 1) := by decide +kernel
theorem dX6_fail_14 : decode cX6_fail 14 = .ok (.putfield 30, 3) := by decide +kernel
theorem w_1_66 : (Cond.fieldLink RX6 27 "SameKeeper$Reader" "fault" "I") ∈ wsL_law := sk_mem (ck_1 _ (List.mem_of_getElem? (i := 66) rfl)) rfl
theorem w_1_60 : (Cond.fieldLink RX6 21 "SameKeeper$Reader" "token" "I") ∈ wsL_law := sk_mem (ck_1 _ (List.mem_of_getElem? (i := 60) rfl)) rfl
theorem w_1_69 : (Cond.fieldLink RX6 30 "SameKeeper$Reader" "place" "I") ∈ wsL_law := sk_mem (ck_1 _ (List.mem_of_getElem? (i := 69) rfl)) rfl
theorem w_3_61 : (Cond.code yX6_fail cX6_fail 3 none) ∈ wsL_law := sk_mem (ck_3 _ (List.mem_of_getElem? (i := 61) rfl)) rfl
theorem dX6_failHere_0 : decode cX6_failHere 0 = .ok (.aload_n 0, 1) := by decide +kernel
theorem dX6_failHere_1 : decode cX6_failHere 1 = .ok (.iconst 1, 1) := by decide +kernel
theorem dX6_failHere_2 : decode cX6_failHere 2 = .ok (.aload_n 0, 1) := by decide +kernel
theorem dX6_failHere_3 : decode cX6_failHere 3 = .ok (.getfield 24, 3) := by decide +kernel
theorem dX6_failHere_6 : decode cX6_failHere 6 = .ok (.invokevirtual 40, 3) := by decide +kernel
theorem dX6_failHere_9 : decode cX6_failHere 9 = .ok (.return_, 1) := by decide +kernel
theorem w_1_64 : (Cond.fieldLink RX6 24 "SameKeeper$Reader" "start" "I") ∈ wsL_law := sk_mem (ck_1 _ (List.mem_of_getElem? (i := 64) rfl)) rfl
theorem w_3_58 : (Cond.methodLink RX6 40 yX6_fail) ∈ wsL_law := sk_mem (ck_3 _ (List.mem_of_getElem? (i := 58) rfl)) rfl
theorem w_3_59 : (Cond.instanceMethod yX6_fail) ∈ wsL_law := sk_mem (ck_3 _ (List.mem_of_getElem? (i := 59) rfl)) rfl
theorem w_3_60 : (Cond.selects RX6 yX6_fail yX6_fail) ∈ wsL_law := sk_mem (ck_3 _ (List.mem_of_getElem? (i := 60) rfl)) rfl
theorem w_1_4 : (Cond.initialized RX6) ∈ wsL_law := sk_mem (ck_1 _ (List.mem_of_getElem? (i := 4) rfl)) rfl
theorem w_3_57 : (Cond.code yX6_failHere cX6_failHere 1 none) ∈ wsL_law := sk_mem (ck_3 _ (List.mem_of_getElem? (i := 57) rfl)) rfl
theorem dX6_readNumber_0 : decode cX6_readNumber 0 = .ok (.aload_n 0, 1) := by decide +kernel
theorem dX6_readNumber_1 : decode cX6_readNumber 1 = .ok (.iconst 0, 1) := by decide +kernel
theorem dX6_readNumber_2 : decode cX6_readNumber 2 = .ok (.putfield 15, 3) := by decide +kernel
theorem dX6_readNumber_5 : decode cX6_readNumber 5 = .ok (.aload_n 0, 1) := by decide +kernel
theorem dX6_readNumber_6 : decode cX6_readNumber 6 = .ok (.getfield 9, 3) := by decide +kernel
theorem dX6_readNumber_9 : decode cX6_readNumber 9 = .ok (.aload_n 0, 1) := by decide +kernel
theorem dX6_readNumber_10 : decode cX6_readNumber 10 = .ok (.getfield 33, 3) := by decide +kernel
theorem dX6_readNumber_13 : decode cX6_readNumber 13 = .ok (.getfield 44, 3) := by decide +kernel
theorem dX6_readNumber_16 : decode cX6_readNumber 16 = .ok (.if_icmp .ge 90, 3) := by decide +kernel
theorem dX6_readNumber_106 : decode cX6_readNumber 106 = .ok (.aload_n 0, 1) := by decide +kernel
theorem dX6_readNumber_107 : decode cX6_readNumber 107 = .ok (.bipush (-3), 2) := by decide +kernel
theorem dX6_readNumber_109 : decode cX6_readNumber 109 = .ok (.putfield 21, 3) := by decide +kernel
theorem dX6_readNumber_112 : decode cX6_readNumber 112 = .ok (.return_, 1) := by decide +kernel
theorem dX6_readNumber_19 : decode cX6_readNumber 19 = .ok (.aload_n 0, 1) := by decide +kernel
theorem dX6_readNumber_20 : decode cX6_readNumber 20 = .ok (.getfield 33, 3) := by decide +kernel
theorem dX6_readNumber_23 : decode cX6_readNumber 23 = .ok (.getfield 49, 3) := by decide +kernel
theorem dX6_readNumber_26 : decode cX6_readNumber 26 = .ok (.aload_n 0, 1) := by decide +kernel
theorem dX6_readNumber_27 : decode cX6_readNumber 27 = .ok (.getfield 9, 3) := by decide +kernel
theorem dX6_readNumber_30 : decode cX6_readNumber 30 = .ok (.iaload, 1) := by decide +kernel
theorem dX6_readNumber_31 : decode cX6_readNumber 31 = .ok (.bipush 48, 2) := by decide +kernel
theorem dX6_readNumber_33 : decode cX6_readNumber 33 = .ok (.if_icmp .lt 73, 3) := by decide +kernel
theorem dX6_readNumber_36 : decode cX6_readNumber 36 = .ok (.aload_n 0, 1) := by decide +kernel
theorem dX6_readNumber_37 : decode cX6_readNumber 37 = .ok (.getfield 33, 3) := by decide +kernel
theorem dX6_readNumber_40 : decode cX6_readNumber 40 = .ok (.getfield 49, 3) := by decide +kernel
theorem dX6_readNumber_43 : decode cX6_readNumber 43 = .ok (.aload_n 0, 1) := by decide +kernel
theorem dX6_readNumber_44 : decode cX6_readNumber 44 = .ok (.getfield 9, 3) := by decide +kernel
theorem dX6_readNumber_47 : decode cX6_readNumber 47 = .ok (.iaload, 1) := by decide +kernel
theorem dX6_readNumber_48 : decode cX6_readNumber 48 = .ok (.bipush 57, 2) := by decide +kernel
theorem dX6_readNumber_50 : decode cX6_readNumber 50 = .ok (.if_icmp .gt 56, 3) := by decide +kernel
theorem dX6_readNumber_53 : decode cX6_readNumber 53 = .ok (.aload_n 0, 1) := by decide +kernel
theorem dX6_readNumber_54 : decode cX6_readNumber 54 = .ok (.getfield 9, 3) := by decide +kernel
theorem dX6_readNumber_57 : decode cX6_readNumber 57 = .ok (.aload_n 0, 1) := by decide +kernel
theorem dX6_readNumber_58 : decode cX6_readNumber 58 = .ok (.getfield 24, 3) := by decide +kernel
theorem dX6_readNumber_61 : decode cX6_readNumber 61 = .ok (.isub, 1) := by decide +kernel
theorem dX6_readNumber_62 : decode cX6_readNumber 62 = .ok (.iconst 4, 1) := by decide +kernel
theorem dX6_readNumber_63 : decode cX6_readNumber 63 = .ok (.if_icmp .ge 30, 3) := by decide +kernel
theorem dX6_readNumber_93 : decode cX6_readNumber 93 = .ok (.aload_n 0, 1) := by decide +kernel
theorem dX6_readNumber_94 : decode cX6_readNumber 94 = .ok (.dup, 1) := by decide +kernel
theorem dX6_readNumber_95 : decode cX6_readNumber 95 = .ok (.getfield 9, 3) := by decide +kernel
theorem dX6_readNumber_98 : decode cX6_readNumber 98 = .ok (.iconst 1, 1) := by decide +kernel
theorem dX6_readNumber_99 : decode cX6_readNumber 99 = .ok (.iadd, 1) := by decide +kernel
theorem dX6_readNumber_100 : decode cX6_readNumber 100 = .ok (.putfield 9, 3) := by decide +kernel
theorem dX6_readNumber_103 : decode cX6_readNumber 103 = .ok (.goto (-98), 3) := by decide +kernel
theorem dX6_readNumber_66 : decode cX6_readNumber 66 = .ok (.aload_n 0, 1) := by decide +kernel
theorem dX6_readNumber_67 : decode cX6_readNumber 67 = .ok (.aload_n 0, 1) := by decide +kernel
theorem dX6_readNumber_68 : decode cX6_readNumber 68 = .ok (.getfield 15, 3) := by decide +kernel
theorem dX6_readNumber_71 : decode cX6_readNumber 71 = .ok (.bipush 10, 2) := by decide +kernel
theorem dX6_readNumber_73 : decode cX6_readNumber 73 = .ok (.imul, 1) := by decide +kernel
theorem dX6_readNumber_74 : decode cX6_readNumber 74 = .ok (.aload_n 0, 1) := by decide +kernel
theorem dX6_readNumber_75 : decode cX6_readNumber 75 = .ok (.getfield 33, 3) := by decide +kernel
theorem dX6_readNumber_78 : decode cX6_readNumber 78 = .ok (.getfield 49, 3) := by decide +kernel
theorem dX6_readNumber_81 : decode cX6_readNumber 81 = .ok (.aload_n 0, 1) := by decide +kernel
theorem dX6_readNumber_82 : decode cX6_readNumber 82 = .ok (.getfield 9, 3) := by decide +kernel
theorem dX6_readNumber_85 : decode cX6_readNumber 85 = .ok (.iaload, 1) := by decide +kernel
theorem dX6_readNumber_86 : decode cX6_readNumber 86 = .ok (.iadd, 1) := by decide +kernel
theorem dX6_readNumber_87 : decode cX6_readNumber 87 = .ok (.bipush 48, 2) := by decide +kernel
theorem dX6_readNumber_89 : decode cX6_readNumber 89 = .ok (.isub, 1) := by decide +kernel
theorem dX6_readNumber_90 : decode cX6_readNumber 90 = .ok (.putfield 15, 3) := by decide +kernel
theorem w_1_58 : (Cond.fieldLink RX6 15 "SameKeeper$Reader" "value" "I") ∈ wsL_law := sk_mem (ck_1 _ (List.mem_of_getElem? (i := 58) rfl)) rfl
theorem w_1_57 : (Cond.fieldLink RX6 9 "SameKeeper$Reader" "at" "I") ∈ wsL_law := sk_mem (ck_1 _ (List.mem_of_getElem? (i := 57) rfl)) rfl
theorem w_1_56 : (Cond.fieldLink RX6 33 "SameKeeper$Reader" "tape" "LSameKeeper$Tape;") ∈ wsL_law := sk_mem (ck_1 _ (List.mem_of_getElem? (i := 56) rfl)) rfl
theorem w_1_43 : (Cond.fieldLink RX6 44 "SameKeeper$Tape" "length" "I") ∈ wsL_law := sk_mem (ck_1 _ (List.mem_of_getElem? (i := 43) rfl)) rfl
theorem w_1_40 : (Cond.fieldLink RX6 49 "SameKeeper$Tape" "bytes" "[I") ∈ wsL_law := sk_mem (ck_1 _ (List.mem_of_getElem? (i := 40) rfl)) rfl
theorem w_3_45 : (Cond.code yX6_readNumber cX6_readNumber 1 none) ∈ wsL_law := sk_mem (ck_3 _ (List.mem_of_getElem? (i := 45) rfl)) rfl
theorem dX6_readWord_0 : decode cX6_readWord 0 = .ok (.aload_n 0, 1) := by decide +kernel
theorem dX6_readWord_1 : decode cX6_readWord 1 = .ok (.getfield 9, 3) := by decide +kernel
theorem dX6_readWord_4 : decode cX6_readWord 4 = .ok (.aload_n 0, 1) := by decide +kernel
theorem dX6_readWord_5 : decode cX6_readWord 5 = .ok (.getfield 33, 3) := by decide +kernel
theorem dX6_readWord_8 : decode cX6_readWord 8 = .ok (.getfield 44, 3) := by decide +kernel
theorem dX6_readWord_11 : decode cX6_readWord 11 = .ok (.if_icmp .ge 50, 3) := by decide +kernel
theorem dX6_readWord_61 : decode cX6_readWord 61 = .ok (.aload_n 0, 1) := by decide +kernel
theorem dX6_readWord_62 : decode cX6_readWord 62 = .ok (.bipush (-2), 2) := by decide +kernel
theorem dX6_readWord_64 : decode cX6_readWord 64 = .ok (.putfield 21, 3) := by decide +kernel
theorem dX6_readWord_67 : decode cX6_readWord 67 = .ok (.aload_n 0, 1) := by decide +kernel
theorem dX6_readWord_68 : decode cX6_readWord 68 = .ok (.getfield 9, 3) := by decide +kernel
theorem dX6_readWord_71 : decode cX6_readWord 71 = .ok (.aload_n 0, 1) := by decide +kernel
theorem dX6_readWord_72 : decode cX6_readWord 72 = .ok (.getfield 24, 3) := by decide +kernel
theorem dX6_readWord_75 : decode cX6_readWord 75 = .ok (.isub, 1) := by decide +kernel
theorem dX6_readWord_76 : decode cX6_readWord 76 = .ok (.bipush 6, 2) := by decide +kernel
theorem dX6_readWord_78 : decode cX6_readWord 78 = .ok (.if_icmp .le 4, 3) := by decide +kernel
theorem dX6_readWord_82 : decode cX6_readWord 82 = .ok (.iconst 0, 1) := by decide +kernel
theorem dX6_readWord_83 : decode cX6_readWord 83 = .ok (.istore_n 1, 1) := by decide +kernel
theorem dX6_readWord_84 : decode cX6_readWord 84 = .ok (.iload_n 1, 1) := by decide +kernel
theorem dX6_readWord_85 : decode cX6_readWord 85 = .ok (.bipush 6, 2) := by decide +kernel
theorem dX6_readWord_87 : decode cX6_readWord 87 = .ok (.iadd, 1) := by decide +kernel
theorem dX6_readWord_88 : decode cX6_readWord 88 = .ok (.ldc 59, 2) := by decide +kernel
theorem dX6_readWord_90 : decode cX6_readWord 90 = .ok (.invokevirtual 61, 3) := by decide +kernel
theorem dX6_readWord_93 : decode cX6_readWord 93 = .ok (.if_icmp .gt 99, 3) := by decide +kernel
theorem dX6_readWord_192 : decode cX6_readWord 192 = .ok (.return_, 1) := by decide +kernel
theorem dX6_readWord_96 : decode cX6_readWord 96 = .ok (.iconst 1, 1) := by decide +kernel
theorem dX6_readWord_97 : decode cX6_readWord 97 = .ok (.istore_n 2, 1) := by decide +kernel
theorem dX6_readWord_98 : decode cX6_readWord 98 = .ok (.iconst 0, 1) := by decide +kernel
theorem dX6_readWord_99 : decode cX6_readWord 99 = .ok (.istore_n 3, 1) := by decide +kernel
theorem dX6_readWord_100 : decode cX6_readWord 100 = .ok (.iload_n 3, 1) := by decide +kernel
theorem dX6_readWord_101 : decode cX6_readWord 101 = .ok (.bipush 6, 2) := by decide +kernel
theorem dX6_readWord_103 : decode cX6_readWord 103 = .ok (.if_icmp .ge 66, 3) := by decide +kernel
theorem dX6_readWord_169 : decode cX6_readWord 169 = .ok (.iload_n 2, 1) := by decide +kernel
theorem dX6_readWord_170 : decode cX6_readWord 170 = .ok (.ifCond .eq 16, 3) := by decide +kernel
theorem dX6_readWord_186 : decode cX6_readWord 186 = .ok (.iinc 1 6, 3) := by decide +kernel
theorem dX6_readWord_189 : decode cX6_readWord 189 = .ok (.goto (-105), 3) := by decide +kernel
theorem dX6_readWord_173 : decode cX6_readWord 173 = .ok (.aload_n 0, 1) := by decide +kernel
theorem dX6_readWord_174 : decode cX6_readWord 174 = .ok (.sipush 256, 3) := by decide +kernel
theorem dX6_readWord_177 : decode cX6_readWord 177 = .ok (.iload_n 1, 1) := by decide +kernel
theorem dX6_readWord_178 : decode cX6_readWord 178 = .ok (.bipush 6, 2) := by decide +kernel
theorem dX6_readWord_180 : decode cX6_readWord 180 = .ok (.idiv, 1) := by decide +kernel
theorem dX6_readWord_181 : decode cX6_readWord 181 = .ok (.iadd, 1) := by decide +kernel
theorem dX6_readWord_182 : decode cX6_readWord 182 = .ok (.putfield 21, 3) := by decide +kernel
theorem dX6_readWord_185 : decode cX6_readWord 185 = .ok (.return_, 1) := by decide +kernel
theorem dX6_readWord_106 : decode cX6_readWord 106 = .ok (.iload_n 2, 1) := by decide +kernel
theorem dX6_readWord_107 : decode cX6_readWord 107 = .ok (.ifCond .eq 62, 3) := by decide +kernel
theorem dX6_readWord_142 : decode cX6_readWord 142 = .ok (.istore 4, 2) := by decide +kernel
theorem dX6_readWord_144 : decode cX6_readWord 144 = .ok (.ldc 59, 2) := by decide +kernel
theorem dX6_readWord_146 : decode cX6_readWord 146 = .ok (.iload_n 1, 1) := by decide +kernel
theorem dX6_readWord_147 : decode cX6_readWord 147 = .ok (.iload_n 3, 1) := by decide +kernel
theorem dX6_readWord_148 : decode cX6_readWord 148 = .ok (.iadd, 1) := by decide +kernel
theorem dX6_readWord_149 : decode cX6_readWord 149 = .ok (.invokevirtual 66, 3) := by decide +kernel
theorem dX6_readWord_152 : decode cX6_readWord 152 = .ok (.iload 4, 2) := by decide +kernel
theorem dX6_readWord_154 : decode cX6_readWord 154 = .ok (.if_icmp .ne 7, 3) := by decide +kernel
theorem dX6_readWord_161 : decode cX6_readWord 161 = .ok (.iconst 0, 1) := by decide +kernel
theorem dX6_readWord_162 : decode cX6_readWord 162 = .ok (.istore_n 2, 1) := by decide +kernel
theorem dX6_readWord_163 : decode cX6_readWord 163 = .ok (.iinc 3 1, 3) := by decide +kernel
theorem dX6_readWord_166 : decode cX6_readWord 166 = .ok (.goto (-66), 3) := by decide +kernel
theorem dX6_readWord_157 : decode cX6_readWord 157 = .ok (.iconst 1, 1) := by decide +kernel
theorem dX6_readWord_158 : decode cX6_readWord 158 = .ok (.goto 4, 3) := by decide +kernel
theorem dX6_readWord_110 : decode cX6_readWord 110 = .ok (.aload_n 0, 1) := by decide +kernel
theorem dX6_readWord_111 : decode cX6_readWord 111 = .ok (.getfield 24, 3) := by decide +kernel
theorem dX6_readWord_114 : decode cX6_readWord 114 = .ok (.iload_n 3, 1) := by decide +kernel
theorem dX6_readWord_115 : decode cX6_readWord 115 = .ok (.iadd, 1) := by decide +kernel
theorem dX6_readWord_116 : decode cX6_readWord 116 = .ok (.aload_n 0, 1) := by decide +kernel
theorem dX6_readWord_117 : decode cX6_readWord 117 = .ok (.getfield 9, 3) := by decide +kernel
theorem dX6_readWord_120 : decode cX6_readWord 120 = .ok (.if_icmp .ge 20, 3) := by decide +kernel
theorem dX6_readWord_140 : decode cX6_readWord 140 = .ok (.bipush 32, 2) := by decide +kernel
theorem dX6_readWord_123 : decode cX6_readWord 123 = .ok (.aload_n 0, 1) := by decide +kernel
theorem dX6_readWord_124 : decode cX6_readWord 124 = .ok (.getfield 33, 3) := by decide +kernel
theorem dX6_readWord_127 : decode cX6_readWord 127 = .ok (.getfield 49, 3) := by decide +kernel
theorem dX6_readWord_130 : decode cX6_readWord 130 = .ok (.aload_n 0, 1) := by decide +kernel
theorem dX6_readWord_131 : decode cX6_readWord 131 = .ok (.getfield 24, 3) := by decide +kernel
theorem dX6_readWord_134 : decode cX6_readWord 134 = .ok (.iload_n 3, 1) := by decide +kernel
theorem dX6_readWord_135 : decode cX6_readWord 135 = .ok (.iadd, 1) := by decide +kernel
theorem dX6_readWord_136 : decode cX6_readWord 136 = .ok (.iaload, 1) := by decide +kernel
theorem dX6_readWord_137 : decode cX6_readWord 137 = .ok (.goto 5, 3) := by decide +kernel
theorem dX6_readWord_81 : decode cX6_readWord 81 = .ok (.return_, 1) := by decide +kernel
theorem dX6_readWord_14 : decode cX6_readWord 14 = .ok (.aload_n 0, 1) := by decide +kernel
theorem dX6_readWord_15 : decode cX6_readWord 15 = .ok (.getfield 33, 3) := by decide +kernel
theorem dX6_readWord_18 : decode cX6_readWord 18 = .ok (.getfield 49, 3) := by decide +kernel
theorem dX6_readWord_21 : decode cX6_readWord 21 = .ok (.aload_n 0, 1) := by decide +kernel
theorem dX6_readWord_22 : decode cX6_readWord 22 = .ok (.getfield 9, 3) := by decide +kernel
theorem dX6_readWord_25 : decode cX6_readWord 25 = .ok (.iaload, 1) := by decide +kernel
theorem dX6_readWord_26 : decode cX6_readWord 26 = .ok (.bipush 97, 2) := by decide +kernel
theorem dX6_readWord_28 : decode cX6_readWord 28 = .ok (.if_icmp .lt 33, 3) := by decide +kernel
theorem dX6_readWord_31 : decode cX6_readWord 31 = .ok (.aload_n 0, 1) := by decide +kernel
theorem dX6_readWord_32 : decode cX6_readWord 32 = .ok (.getfield 33, 3) := by decide +kernel
theorem dX6_readWord_35 : decode cX6_readWord 35 = .ok (.getfield 49, 3) := by decide +kernel
theorem dX6_readWord_38 : decode cX6_readWord 38 = .ok (.aload_n 0, 1) := by decide +kernel
theorem dX6_readWord_39 : decode cX6_readWord 39 = .ok (.getfield 9, 3) := by decide +kernel
theorem dX6_readWord_42 : decode cX6_readWord 42 = .ok (.iaload, 1) := by decide +kernel
theorem dX6_readWord_43 : decode cX6_readWord 43 = .ok (.bipush 122, 2) := by decide +kernel
theorem dX6_readWord_45 : decode cX6_readWord 45 = .ok (.if_icmp .gt 16, 3) := by decide +kernel
theorem dX6_readWord_48 : decode cX6_readWord 48 = .ok (.aload_n 0, 1) := by decide +kernel
theorem dX6_readWord_49 : decode cX6_readWord 49 = .ok (.dup, 1) := by decide +kernel
theorem dX6_readWord_50 : decode cX6_readWord 50 = .ok (.getfield 9, 3) := by decide +kernel
theorem dX6_readWord_53 : decode cX6_readWord 53 = .ok (.iconst 1, 1) := by decide +kernel
theorem dX6_readWord_54 : decode cX6_readWord 54 = .ok (.iadd, 1) := by decide +kernel
theorem dX6_readWord_55 : decode cX6_readWord 55 = .ok (.putfield 9, 3) := by decide +kernel
theorem dX6_readWord_58 : decode cX6_readWord 58 = .ok (.goto (-58), 3) := by decide +kernel
theorem w_2_234 : (Cond.methodLink RX6 61 yJ0_length_8abf5) ∈ wsL_law := sk_mem (ck_2 _ (List.mem_of_getElem? (i := 234) rfl)) rfl
theorem w_2_235 : (Cond.instanceMethod yJ0_length_8abf5) ∈ wsL_law := sk_mem (ck_2 _ (List.mem_of_getElem? (i := 235) rfl)) rfl
theorem w_2_236 : (Cond.selects RJ0 yJ0_length_8abf5 yJ0_length_8abf5) ∈ wsL_law := sk_mem (ck_2 _ (List.mem_of_getElem? (i := 236) rfl)) rfl
theorem w_3_4 : (Cond.methodLink RX6 66 yJ0_charAt_5068e) ∈ wsL_law := sk_mem (ck_3 _ (List.mem_of_getElem? (i := 4) rfl)) rfl
theorem w_3_5 : (Cond.instanceMethod yJ0_charAt_5068e) ∈ wsL_law := sk_mem (ck_3 _ (List.mem_of_getElem? (i := 5) rfl)) rfl
theorem w_3_6 : (Cond.selects RJ0 yJ0_charAt_5068e yJ0_charAt_5068e) ∈ wsL_law := sk_mem (ck_3 _ (List.mem_of_getElem? (i := 6) rfl)) rfl
theorem w_2_232 : (Cond.code yX6_readWord cX6_readWord 5 none) ∈ wsL_law := sk_mem (ck_2 _ (List.mem_of_getElem? (i := 232) rfl)) rfl
theorem dX6_step_0 : decode cX6_step 0 = .ok (.aload_n 0, 1) := by decide +kernel
theorem dX6_step_1 : decode cX6_step 1 = .ok (.getfield 27, 3) := by decide +kernel
theorem dX6_step_4 : decode cX6_step 4 = .ok (.ifCond .eq 4, 3) := by decide +kernel
theorem dX6_step_35 : decode cX6_step 35 = .ok (.istore_n 1, 1) := by decide +kernel
theorem dX6_step_36 : decode cX6_step 36 = .ok (.aload_n 0, 1) := by decide +kernel
theorem dX6_step_37 : decode cX6_step 37 = .ok (.getfield 9, 3) := by decide +kernel
theorem dX6_step_40 : decode cX6_step 40 = .ok (.aload_n 0, 1) := by decide +kernel
theorem dX6_step_41 : decode cX6_step 41 = .ok (.getfield 33, 3) := by decide +kernel
theorem dX6_step_44 : decode cX6_step 44 = .ok (.getfield 44, 3) := by decide +kernel
theorem dX6_step_47 : decode cX6_step 47 = .ok (.if_icmp .ge 50, 3) := by decide +kernel
theorem dX6_step_192 : decode cX6_step 192 = .ok (.aload_n 0, 1) := by decide +kernel
theorem dX6_step_193 : decode cX6_step 193 = .ok (.getfield 24, 3) := by decide +kernel
theorem dX6_step_196 : decode cX6_step 196 = .ok (.iload_n 1, 1) := by decide +kernel
theorem dX6_step_197 : decode cX6_step 197 = .ok (.if_icmp .ne 9, 3) := by decide +kernel
theorem dX6_step_206 : decode cX6_step 206 = .ok (.return_, 1) := by decide +kernel
theorem dX6_step_200 : decode cX6_step 200 = .ok (.aload_n 0, 1) := by decide +kernel
theorem dX6_step_201 : decode cX6_step 201 = .ok (.bipush (-2), 2) := by decide +kernel
theorem dX6_step_203 : decode cX6_step 203 = .ok (.putfield 21, 3) := by decide +kernel
theorem dX6_step_97 : decode cX6_step 97 = .ok (.aload_n 0, 1) := by decide +kernel
theorem dX6_step_98 : decode cX6_step 98 = .ok (.aload_n 0, 1) := by decide +kernel
theorem dX6_step_99 : decode cX6_step 99 = .ok (.getfield 9, 3) := by decide +kernel
theorem dX6_step_102 : decode cX6_step 102 = .ok (.putfield 24, 3) := by decide +kernel
theorem dX6_step_105 : decode cX6_step 105 = .ok (.aload_n 0, 1) := by decide +kernel
theorem dX6_step_106 : decode cX6_step 106 = .ok (.getfield 9, 3) := by decide +kernel
theorem dX6_step_109 : decode cX6_step 109 = .ok (.aload_n 0, 1) := by decide +kernel
theorem dX6_step_110 : decode cX6_step 110 = .ok (.getfield 33, 3) := by decide +kernel
theorem dX6_step_113 : decode cX6_step 113 = .ok (.getfield 44, 3) := by decide +kernel
theorem dX6_step_116 : decode cX6_step 116 = .ok (.if_icmp .lt 9, 3) := by decide +kernel
theorem dX6_step_125 : decode cX6_step 125 = .ok (.aload_n 0, 1) := by decide +kernel
theorem dX6_step_126 : decode cX6_step 126 = .ok (.getfield 33, 3) := by decide +kernel
theorem dX6_step_129 : decode cX6_step 129 = .ok (.getfield 49, 3) := by decide +kernel
theorem dX6_step_132 : decode cX6_step 132 = .ok (.aload_n 0, 1) := by decide +kernel
theorem dX6_step_133 : decode cX6_step 133 = .ok (.getfield 9, 3) := by decide +kernel
theorem dX6_step_136 : decode cX6_step 136 = .ok (.iaload, 1) := by decide +kernel
theorem dX6_step_137 : decode cX6_step 137 = .ok (.istore_n 2, 1) := by decide +kernel
theorem dX6_step_138 : decode cX6_step 138 = .ok (.iload_n 2, 1) := by decide +kernel
theorem dX6_step_139 : decode cX6_step 139 = .ok (.bipush 97, 2) := by decide +kernel
theorem dX6_step_141 : decode cX6_step 141 = .ok (.if_icmp .lt 16, 3) := by decide +kernel
theorem dX6_step_157 : decode cX6_step 157 = .ok (.iload_n 2, 1) := by decide +kernel
theorem dX6_step_158 : decode cX6_step 158 = .ok (.bipush 48, 2) := by decide +kernel
theorem dX6_step_160 : decode cX6_step 160 = .ok (.if_icmp .lt 16, 3) := by decide +kernel
theorem dX6_step_176 : decode cX6_step 176 = .ok (.aload_n 0, 1) := by decide +kernel
theorem dX6_step_177 : decode cX6_step 177 = .ok (.dup, 1) := by decide +kernel
theorem dX6_step_178 : decode cX6_step 178 = .ok (.getfield 9, 3) := by decide +kernel
theorem dX6_step_181 : decode cX6_step 181 = .ok (.iconst 1, 1) := by decide +kernel
theorem dX6_step_182 : decode cX6_step 182 = .ok (.iadd, 1) := by decide +kernel
theorem dX6_step_183 : decode cX6_step 183 = .ok (.putfield 9, 3) := by decide +kernel
theorem dX6_step_186 : decode cX6_step 186 = .ok (.aload_n 0, 1) := by decide +kernel
theorem dX6_step_187 : decode cX6_step 187 = .ok (.iload_n 2, 1) := by decide +kernel
theorem dX6_step_188 : decode cX6_step 188 = .ok (.putfield 21, 3) := by decide +kernel
theorem dX6_step_191 : decode cX6_step 191 = .ok (.return_, 1) := by decide +kernel
theorem dX6_step_163 : decode cX6_step 163 = .ok (.iload_n 2, 1) := by decide +kernel
theorem dX6_step_164 : decode cX6_step 164 = .ok (.bipush 57, 2) := by decide +kernel
theorem dX6_step_166 : decode cX6_step 166 = .ok (.if_icmp .gt 10, 3) := by decide +kernel
theorem dX6_step_169 : decode cX6_step 169 = .ok (.aload_n 0, 1) := by decide +kernel
theorem dX6_step_170 : decode cX6_step 170 = .ok (.invokevirtual 56, 3) := by decide +kernel
theorem dX6_step_173 : decode cX6_step 173 = .ok (.goto 19, 3) := by decide +kernel
theorem dX6_step_144 : decode cX6_step 144 = .ok (.iload_n 2, 1) := by decide +kernel
theorem dX6_step_145 : decode cX6_step 145 = .ok (.bipush 122, 2) := by decide +kernel
theorem dX6_step_147 : decode cX6_step 147 = .ok (.if_icmp .gt 10, 3) := by decide +kernel
theorem dX6_step_150 : decode cX6_step 150 = .ok (.aload_n 0, 1) := by decide +kernel
theorem dX6_step_151 : decode cX6_step 151 = .ok (.invokevirtual 53, 3) := by decide +kernel
theorem dX6_step_154 : decode cX6_step 154 = .ok (.goto 38, 3) := by decide +kernel
theorem dX6_step_119 : decode cX6_step 119 = .ok (.aload_n 0, 1) := by decide +kernel
theorem dX6_step_120 : decode cX6_step 120 = .ok (.iconst (-1), 1) := by decide +kernel
theorem dX6_step_121 : decode cX6_step 121 = .ok (.putfield 21, 3) := by decide +kernel
theorem dX6_step_124 : decode cX6_step 124 = .ok (.return_, 1) := by decide +kernel
theorem dX6_step_50 : decode cX6_step 50 = .ok (.aload_n 0, 1) := by decide +kernel
theorem dX6_step_51 : decode cX6_step 51 = .ok (.getfield 33, 3) := by decide +kernel
theorem dX6_step_54 : decode cX6_step 54 = .ok (.getfield 49, 3) := by decide +kernel
theorem dX6_step_57 : decode cX6_step 57 = .ok (.aload_n 0, 1) := by decide +kernel
theorem dX6_step_58 : decode cX6_step 58 = .ok (.getfield 9, 3) := by decide +kernel
theorem dX6_step_61 : decode cX6_step 61 = .ok (.iaload, 1) := by decide +kernel
theorem dX6_step_62 : decode cX6_step 62 = .ok (.bipush 32, 2) := by decide +kernel
theorem dX6_step_64 : decode cX6_step 64 = .ok (.if_icmp .eq 20, 3) := by decide +kernel
theorem dX6_step_84 : decode cX6_step 84 = .ok (.aload_n 0, 1) := by decide +kernel
theorem dX6_step_85 : decode cX6_step 85 = .ok (.dup, 1) := by decide +kernel
theorem dX6_step_86 : decode cX6_step 86 = .ok (.getfield 9, 3) := by decide +kernel
theorem dX6_step_89 : decode cX6_step 89 = .ok (.iconst 1, 1) := by decide +kernel
theorem dX6_step_90 : decode cX6_step 90 = .ok (.iadd, 1) := by decide +kernel
theorem dX6_step_91 : decode cX6_step 91 = .ok (.putfield 9, 3) := by decide +kernel
theorem dX6_step_94 : decode cX6_step 94 = .ok (.goto (-58), 3) := by decide +kernel
theorem dX6_step_67 : decode cX6_step 67 = .ok (.aload_n 0, 1) := by decide +kernel
theorem dX6_step_68 : decode cX6_step 68 = .ok (.getfield 33, 3) := by decide +kernel
theorem dX6_step_71 : decode cX6_step 71 = .ok (.getfield 49, 3) := by decide +kernel
theorem dX6_step_74 : decode cX6_step 74 = .ok (.aload_n 0, 1) := by decide +kernel
theorem dX6_step_75 : decode cX6_step 75 = .ok (.getfield 9, 3) := by decide +kernel
theorem dX6_step_78 : decode cX6_step 78 = .ok (.iaload, 1) := by decide +kernel
theorem dX6_step_79 : decode cX6_step 79 = .ok (.bipush 10, 2) := by decide +kernel
theorem dX6_step_81 : decode cX6_step 81 = .ok (.if_icmp .ne 16, 3) := by decide +kernel
theorem dX6_step_8 : decode cX6_step 8 = .ok (.aload_n 0, 1) := by decide +kernel
theorem dX6_step_9 : decode cX6_step 9 = .ok (.getfield 21, 3) := by decide +kernel
theorem dX6_step_12 : decode cX6_step 12 = .ok (.bipush (-3), 2) := by decide +kernel
theorem dX6_step_14 : decode cX6_step 14 = .ok (.if_icmp .eq 13, 3) := by decide +kernel
theorem dX6_step_27 : decode cX6_step 27 = .ok (.aload_n 0, 1) := by decide +kernel
theorem dX6_step_28 : decode cX6_step 28 = .ok (.getfield 9, 3) := by decide +kernel
theorem dX6_step_31 : decode cX6_step 31 = .ok (.goto 4, 3) := by decide +kernel
theorem dX6_step_17 : decode cX6_step 17 = .ok (.aload_n 0, 1) := by decide +kernel
theorem dX6_step_18 : decode cX6_step 18 = .ok (.getfield 21, 3) := by decide +kernel
theorem dX6_step_21 : decode cX6_step 21 = .ok (.sipush 256, 3) := by decide +kernel
theorem dX6_step_24 : decode cX6_step 24 = .ok (.if_icmp .lt 10, 3) := by decide +kernel
theorem dX6_step_34 : decode cX6_step 34 = .ok (.iconst (-1), 1) := by decide +kernel
theorem dX6_step_7 : decode cX6_step 7 = .ok (.return_, 1) := by decide +kernel
theorem w_3_42 : (Cond.methodLink RX6 56 yX6_readNumber) ∈ wsL_law := sk_mem (ck_3 _ (List.mem_of_getElem? (i := 42) rfl)) rfl
theorem w_3_44 : (Cond.instanceMethod yX6_readNumber) ∈ wsL_law := sk_mem (ck_3 _ (List.mem_of_getElem? (i := 44) rfl)) rfl
theorem w_0_3 : (Cond.selects RX6 yX6_readNumber yX6_readNumber) ∈ wsL_law := sk_mem (ck_0 _ (List.mem_of_getElem? (i := 3) rfl)) rfl
theorem w_2_229 : (Cond.methodLink RX6 53 yX6_readWord) ∈ wsL_law := sk_mem (ck_2 _ (List.mem_of_getElem? (i := 229) rfl)) rfl
theorem w_2_231 : (Cond.instanceMethod yX6_readWord) ∈ wsL_law := sk_mem (ck_2 _ (List.mem_of_getElem? (i := 231) rfl)) rfl
theorem w_0_2 : (Cond.selects RX6 yX6_readWord yX6_readWord) ∈ wsL_law := sk_mem (ck_0 _ (List.mem_of_getElem? (i := 2) rfl)) rfl
theorem w_2_228 : (Cond.code yX6_step cX6_step 3 none) ∈ wsL_law := sk_mem (ck_2 _ (List.mem_of_getElem? (i := 228) rfl)) rfl
theorem dX6_begin_0 : decode cX6_begin 0 = .ok (.aload_n 0, 1) := by decide +kernel
theorem dX6_begin_1 : decode cX6_begin 1 = .ok (.iconst 0, 1) := by decide +kernel
theorem dX6_begin_2 : decode cX6_begin 2 = .ok (.putfield 9, 3) := by decide +kernel
theorem dX6_begin_5 : decode cX6_begin 5 = .ok (.aload_n 0, 1) := by decide +kernel
theorem dX6_begin_6 : decode cX6_begin 6 = .ok (.iconst 0, 1) := by decide +kernel
theorem dX6_begin_7 : decode cX6_begin 7 = .ok (.putfield 18, 3) := by decide +kernel
theorem dX6_begin_10 : decode cX6_begin 10 = .ok (.aload_n 0, 1) := by decide +kernel
theorem dX6_begin_11 : decode cX6_begin 11 = .ok (.iconst 0, 1) := by decide +kernel
theorem dX6_begin_12 : decode cX6_begin 12 = .ok (.putfield 27, 3) := by decide +kernel
theorem dX6_begin_15 : decode cX6_begin 15 = .ok (.aload_n 0, 1) := by decide +kernel
theorem dX6_begin_16 : decode cX6_begin 16 = .ok (.iconst (-1), 1) := by decide +kernel
theorem dX6_begin_17 : decode cX6_begin 17 = .ok (.putfield 30, 3) := by decide +kernel
theorem dX6_begin_20 : decode cX6_begin 20 = .ok (.aload_n 0, 1) := by decide +kernel
theorem dX6_begin_21 : decode cX6_begin 21 = .ok (.iconst (-1), 1) := by decide +kernel
theorem dX6_begin_22 : decode cX6_begin 22 = .ok (.putfield 21, 3) := by decide +kernel
theorem dX6_begin_25 : decode cX6_begin 25 = .ok (.aload_n 0, 1) := by decide +kernel
theorem dX6_begin_26 : decode cX6_begin 26 = .ok (.invokevirtual 37, 3) := by decide +kernel
theorem dX6_begin_29 : decode cX6_begin 29 = .ok (.return_, 1) := by decide +kernel
theorem w_1_59 : (Cond.fieldLink RX6 18 "SameKeeper$Reader" "open" "I") ∈ wsL_law := sk_mem (ck_1 _ (List.mem_of_getElem? (i := 59) rfl)) rfl
theorem w_2_225 : (Cond.methodLink RX6 37 yX6_step) ∈ wsL_law := sk_mem (ck_2 _ (List.mem_of_getElem? (i := 225) rfl)) rfl
theorem w_2_226 : (Cond.instanceMethod yX6_step) ∈ wsL_law := sk_mem (ck_2 _ (List.mem_of_getElem? (i := 226) rfl)) rfl
theorem w_2_227 : (Cond.selects RX6 yX6_step yX6_step) ∈ wsL_law := sk_mem (ck_2 _ (List.mem_of_getElem? (i := 227) rfl)) rfl
theorem w_2_224 : (Cond.code yX6_begin cX6_begin 1 none) ∈ wsL_law := sk_mem (ck_2 _ (List.mem_of_getElem? (i := 224) rfl)) rfl
theorem dX6_needs_0 : decode cX6_needs 0 = .ok (.aload_n 0, 1) := by decide +kernel
theorem dX6_needs_1 : decode cX6_needs 1 = .ok (.getfield 21, 3) := by decide +kernel
theorem dX6_needs_4 : decode cX6_needs 4 = .ok (.iload_n 1, 1) := by decide +kernel
theorem dX6_needs_5 : decode cX6_needs 5 = .ok (.if_icmp .ne 10, 3) := by decide +kernel
theorem dX6_needs_15 : decode cX6_needs 15 = .ok (.aload_n 0, 1) := by decide +kernel
theorem dX6_needs_16 : decode cX6_needs 16 = .ok (.invokevirtual 70, 3) := by decide +kernel
theorem dX6_needs_19 : decode cX6_needs 19 = .ok (.return_, 1) := by decide +kernel
theorem dX6_needs_8 : decode cX6_needs 8 = .ok (.aload_n 0, 1) := by decide +kernel
theorem dX6_needs_9 : decode cX6_needs 9 = .ok (.invokevirtual 37, 3) := by decide +kernel
theorem dX6_needs_12 : decode cX6_needs 12 = .ok (.goto 7, 3) := by decide +kernel
theorem w_3_54 : (Cond.methodLink RX6 70 yX6_failHere) ∈ wsL_law := sk_mem (ck_3 _ (List.mem_of_getElem? (i := 54) rfl)) rfl
theorem w_3_55 : (Cond.instanceMethod yX6_failHere) ∈ wsL_law := sk_mem (ck_3 _ (List.mem_of_getElem? (i := 55) rfl)) rfl
theorem w_3_56 : (Cond.selects RX6 yX6_failHere yX6_failHere) ∈ wsL_law := sk_mem (ck_3 _ (List.mem_of_getElem? (i := 56) rfl)) rfl
theorem w_3_53 : (Cond.code yX6_needs cX6_needs 2 none) ∈ wsL_law := sk_mem (ck_3 _ (List.mem_of_getElem? (i := 53) rfl)) rfl
theorem dX6_takes_0 : decode cX6_takes 0 = .ok (.aload_n 0, 1) := by decide +kernel
theorem dX6_takes_1 : decode cX6_takes 1 = .ok (.getfield 21, 3) := by decide +kernel
theorem dX6_takes_4 : decode cX6_takes 4 = .ok (.iload_n 1, 1) := by decide +kernel
theorem dX6_takes_5 : decode cX6_takes 5 = .ok (.if_icmp .eq 5, 3) := by decide +kernel
theorem dX6_takes_10 : decode cX6_takes 10 = .ok (.aload_n 0, 1) := by decide +kernel
theorem dX6_takes_11 : decode cX6_takes 11 = .ok (.invokevirtual 37, 3) := by decide +kernel
theorem dX6_takes_14 : decode cX6_takes 14 = .ok (.iconst 1, 1) := by decide +kernel
theorem dX6_takes_15 : decode cX6_takes 15 = .ok (.ireturn, 1) := by decide +kernel
theorem dX6_takes_8 : decode cX6_takes 8 = .ok (.iconst 0, 1) := by decide +kernel
theorem dX6_takes_9 : decode cX6_takes 9 = .ok (.ireturn, 1) := by decide +kernel
theorem w_5_89 : (Cond.code yX6_takes cX6_takes 2 (some .boolean)) ∈ wsL_law := sk_mem (ck_5 _ (List.mem_of_getElem? (i := 89) rfl)) rfl
theorem dX6_takeNumber_0 : decode cX6_takeNumber 0 = .ok (.aload_n 0, 1) := by decide +kernel
theorem dX6_takeNumber_1 : decode cX6_takeNumber 1 = .ok (.getfield 15, 3) := by decide +kernel
theorem dX6_takeNumber_4 : decode cX6_takeNumber 4 = .ok (.istore_n 3, 1) := by decide +kernel
theorem dX6_takeNumber_5 : decode cX6_takeNumber 5 = .ok (.aload_n 0, 1) := by decide +kernel
theorem dX6_takeNumber_6 : decode cX6_takeNumber 6 = .ok (.getfield 21, 3) := by decide +kernel
theorem dX6_takeNumber_9 : decode cX6_takeNumber 9 = .ok (.bipush (-3), 2) := by decide +kernel
theorem dX6_takeNumber_11 : decode cX6_takeNumber 11 = .ok (.if_icmp .eq 9, 3) := by decide +kernel
theorem dX6_takeNumber_20 : decode cX6_takeNumber 20 = .ok (.aload_n 0, 1) := by decide +kernel
theorem dX6_takeNumber_21 : decode cX6_takeNumber 21 = .ok (.getfield 9, 3) := by decide +kernel
theorem dX6_takeNumber_24 : decode cX6_takeNumber 24 = .ok (.aload_n 0, 1) := by decide +kernel
theorem dX6_takeNumber_25 : decode cX6_takeNumber 25 = .ok (.getfield 24, 3) := by decide +kernel
theorem dX6_takeNumber_28 : decode cX6_takeNumber 28 = .ok (.isub, 1) := by decide +kernel
theorem dX6_takeNumber_29 : decode cX6_takeNumber 29 = .ok (.iconst 4, 1) := by decide +kernel
theorem dX6_takeNumber_30 : decode cX6_takeNumber 30 = .ok (.if_icmp .le 16, 3) := by decide +kernel
theorem dX6_takeNumber_46 : decode cX6_takeNumber 46 = .ok (.iload_n 3, 1) := by decide +kernel
theorem dX6_takeNumber_47 : decode cX6_takeNumber 47 = .ok (.iload_n 1, 1) := by decide +kernel
theorem dX6_takeNumber_48 : decode cX6_takeNumber 48 = .ok (.if_icmp .lt 8, 3) := by decide +kernel
theorem dX6_takeNumber_56 : decode cX6_takeNumber 56 = .ok (.aload_n 0, 1) := by decide +kernel
theorem dX6_takeNumber_57 : decode cX6_takeNumber 57 = .ok (.iconst 2, 1) := by decide +kernel
theorem dX6_takeNumber_58 : decode cX6_takeNumber 58 = .ok (.aload_n 0, 1) := by decide +kernel
theorem dX6_takeNumber_59 : decode cX6_takeNumber 59 = .ok (.getfield 24, 3) := by decide +kernel
theorem dX6_takeNumber_62 : decode cX6_takeNumber 62 = .ok (.invokevirtual 40, 3) := by decide +kernel
theorem dX6_takeNumber_65 : decode cX6_takeNumber 65 = .ok (.iload_n 1, 1) := by decide +kernel
theorem dX6_takeNumber_66 : decode cX6_takeNumber 66 = .ok (.ireturn, 1) := by decide +kernel
theorem dX6_takeNumber_51 : decode cX6_takeNumber 51 = .ok (.iload_n 3, 1) := by decide +kernel
theorem dX6_takeNumber_52 : decode cX6_takeNumber 52 = .ok (.iload_n 2, 1) := by decide +kernel
theorem dX6_takeNumber_53 : decode cX6_takeNumber 53 = .ok (.if_icmp .le 14, 3) := by decide +kernel
theorem dX6_takeNumber_67 : decode cX6_takeNumber 67 = .ok (.aload_n 0, 1) := by decide +kernel
theorem dX6_takeNumber_68 : decode cX6_takeNumber 68 = .ok (.invokevirtual 37, 3) := by decide +kernel
theorem dX6_takeNumber_71 : decode cX6_takeNumber 71 = .ok (.iload_n 3, 1) := by decide +kernel
theorem dX6_takeNumber_72 : decode cX6_takeNumber 72 = .ok (.ireturn, 1) := by decide +kernel
theorem dX6_takeNumber_33 : decode cX6_takeNumber 33 = .ok (.aload_n 0, 1) := by decide +kernel
theorem dX6_takeNumber_34 : decode cX6_takeNumber 34 = .ok (.iconst 1, 1) := by decide +kernel
theorem dX6_takeNumber_35 : decode cX6_takeNumber 35 = .ok (.aload_n 0, 1) := by decide +kernel
theorem dX6_takeNumber_36 : decode cX6_takeNumber 36 = .ok (.getfield 24, 3) := by decide +kernel
theorem dX6_takeNumber_39 : decode cX6_takeNumber 39 = .ok (.iconst 4, 1) := by decide +kernel
theorem dX6_takeNumber_40 : decode cX6_takeNumber 40 = .ok (.iadd, 1) := by decide +kernel
theorem dX6_takeNumber_41 : decode cX6_takeNumber 41 = .ok (.invokevirtual 40, 3) := by decide +kernel
theorem dX6_takeNumber_44 : decode cX6_takeNumber 44 = .ok (.iload_n 1, 1) := by decide +kernel
theorem dX6_takeNumber_45 : decode cX6_takeNumber 45 = .ok (.ireturn, 1) := by decide +kernel
theorem dX6_takeNumber_14 : decode cX6_takeNumber 14 = .ok (.aload_n 0, 1) := by decide +kernel
theorem dX6_takeNumber_15 : decode cX6_takeNumber 15 = .ok (.invokevirtual 70, 3) := by decide +kernel
theorem dX6_takeNumber_18 : decode cX6_takeNumber 18 = .ok (.iload_n 1, 1) := by decide +kernel
theorem dX6_takeNumber_19 : decode cX6_takeNumber 19 = .ok (.ireturn, 1) := by decide +kernel
theorem w_3_65 : (Cond.code yX6_takeNumber cX6_takeNumber 4 (some .int)) ∈ wsL_law := sk_mem (ck_3 _ (List.mem_of_getElem? (i := 65) rfl)) rfl
theorem dX6_opens_0 : decode cX6_opens 0 = .ok (.aload_n 0, 1) := by decide +kernel
theorem dX6_opens_1 : decode cX6_opens 1 = .ok (.getfield 21, 3) := by decide +kernel
theorem dX6_opens_4 : decode cX6_opens 4 = .ok (.iload_n 1, 1) := by decide +kernel
theorem dX6_opens_5 : decode cX6_opens 5 = .ok (.if_icmp .eq 9, 3) := by decide +kernel
theorem dX6_opens_14 : decode cX6_opens 14 = .ok (.aload_n 0, 1) := by decide +kernel
theorem dX6_opens_15 : decode cX6_opens 15 = .ok (.getfield 18, 3) := by decide +kernel
theorem dX6_opens_18 : decode cX6_opens 18 = .ok (.bipush 6, 2) := by decide +kernel
theorem dX6_opens_20 : decode cX6_opens 20 = .ok (.if_icmp .lt 14, 3) := by decide +kernel
theorem dX6_opens_34 : decode cX6_opens 34 = .ok (.aload_n 0, 1) := by decide +kernel
theorem dX6_opens_35 : decode cX6_opens 35 = .ok (.dup, 1) := by decide +kernel
theorem dX6_opens_36 : decode cX6_opens 36 = .ok (.getfield 18, 3) := by decide +kernel
theorem dX6_opens_39 : decode cX6_opens 39 = .ok (.iconst 1, 1) := by decide +kernel
theorem dX6_opens_40 : decode cX6_opens 40 = .ok (.iadd, 1) := by decide +kernel
theorem dX6_opens_41 : decode cX6_opens 41 = .ok (.putfield 18, 3) := by decide +kernel
theorem dX6_opens_44 : decode cX6_opens 44 = .ok (.aload_n 0, 1) := by decide +kernel
theorem dX6_opens_45 : decode cX6_opens 45 = .ok (.invokevirtual 37, 3) := by decide +kernel
theorem dX6_opens_48 : decode cX6_opens 48 = .ok (.iconst 1, 1) := by decide +kernel
theorem dX6_opens_49 : decode cX6_opens 49 = .ok (.ireturn, 1) := by decide +kernel
theorem dX6_opens_23 : decode cX6_opens 23 = .ok (.aload_n 0, 1) := by decide +kernel
theorem dX6_opens_24 : decode cX6_opens 24 = .ok (.iconst 4, 1) := by decide +kernel
theorem dX6_opens_25 : decode cX6_opens 25 = .ok (.aload_n 0, 1) := by decide +kernel
theorem dX6_opens_26 : decode cX6_opens 26 = .ok (.getfield 24, 3) := by decide +kernel
theorem dX6_opens_29 : decode cX6_opens 29 = .ok (.invokevirtual 40, 3) := by decide +kernel
theorem dX6_opens_32 : decode cX6_opens 32 = .ok (.iconst 0, 1) := by decide +kernel
theorem dX6_opens_33 : decode cX6_opens 33 = .ok (.ireturn, 1) := by decide +kernel
theorem dX6_opens_8 : decode cX6_opens 8 = .ok (.aload_n 0, 1) := by decide +kernel
theorem dX6_opens_9 : decode cX6_opens 9 = .ok (.invokevirtual 70, 3) := by decide +kernel
theorem dX6_opens_12 : decode cX6_opens 12 = .ok (.iconst 0, 1) := by decide +kernel
theorem dX6_opens_13 : decode cX6_opens 13 = .ok (.ireturn, 1) := by decide +kernel
theorem w_3_104 : (Cond.code yX6_opens cX6_opens 2 (some .boolean)) ∈ wsL_law := sk_mem (ck_3 _ (List.mem_of_getElem? (i := 104) rfl)) rfl
theorem dX6_shuts_0 : decode cX6_shuts 0 = .ok (.aload_n 0, 1) := by decide +kernel
theorem dX6_shuts_1 : decode cX6_shuts 1 = .ok (.dup, 1) := by decide +kernel
theorem dX6_shuts_2 : decode cX6_shuts 2 = .ok (.getfield 18, 3) := by decide +kernel
theorem dX6_shuts_5 : decode cX6_shuts 5 = .ok (.iconst 1, 1) := by decide +kernel
theorem dX6_shuts_6 : decode cX6_shuts 6 = .ok (.isub, 1) := by decide +kernel
theorem dX6_shuts_7 : decode cX6_shuts 7 = .ok (.putfield 18, 3) := by decide +kernel
theorem dX6_shuts_10 : decode cX6_shuts 10 = .ok (.return_, 1) := by decide +kernel
theorem w_3_108 : (Cond.code yX6_shuts cX6_shuts 1 none) ∈ wsL_law := sk_mem (ck_3 _ (List.mem_of_getElem? (i := 108) rfl)) rfl
theorem dX8_nameInLock_0 : decode cX8_nameInLock 0 = .ok (.iload_n 1, 1) := by decide +kernel
theorem dX8_nameInLock_1 : decode cX8_nameInLock 1 = .ok (.tableswitch 115 258 269 #[67, 71, 115, 115, 115, 115, 115, 63, 75, 79, 83, 99], 63) := by decide +kernel
theorem dX8_nameInLock_68 : decode cX8_nameInLock 68 = .ok (.sipush 10001, 3) := by decide +kernel
theorem dX8_nameInLock_71 : decode cX8_nameInLock 71 = .ok (.ireturn, 1) := by decide +kernel
theorem dX8_nameInLock_72 : decode cX8_nameInLock 72 = .ok (.sipush 10002, 3) := by decide +kernel
theorem dX8_nameInLock_75 : decode cX8_nameInLock 75 = .ok (.ireturn, 1) := by decide +kernel
theorem dX8_nameInLock_116 : decode cX8_nameInLock 116 = .ok (.iconst (-1), 1) := by decide +kernel
theorem dX8_nameInLock_117 : decode cX8_nameInLock 117 = .ok (.ireturn, 1) := by decide +kernel
theorem dX8_nameInLock_64 : decode cX8_nameInLock 64 = .ok (.sipush 10000, 3) := by decide +kernel
theorem dX8_nameInLock_67 : decode cX8_nameInLock 67 = .ok (.ireturn, 1) := by decide +kernel
theorem dX8_nameInLock_76 : decode cX8_nameInLock 76 = .ok (.sipush 10003, 3) := by decide +kernel
theorem dX8_nameInLock_79 : decode cX8_nameInLock 79 = .ok (.ireturn, 1) := by decide +kernel
theorem dX8_nameInLock_80 : decode cX8_nameInLock 80 = .ok (.sipush 10004, 3) := by decide +kernel
theorem dX8_nameInLock_83 : decode cX8_nameInLock 83 = .ok (.ireturn, 1) := by decide +kernel
theorem dX8_nameInLock_84 : decode cX8_nameInLock 84 = .ok (.aload_n 0, 1) := by decide +kernel
theorem dX8_nameInLock_85 : decode cX8_nameInLock 85 = .ok (.getfield 15, 3) := by decide +kernel
theorem dX8_nameInLock_88 : decode cX8_nameInLock 88 = .ok (.iconst 1, 1) := by decide +kernel
theorem dX8_nameInLock_89 : decode cX8_nameInLock 89 = .ok (.if_icmp .ne 9, 3) := by decide +kernel
theorem dX8_nameInLock_98 : decode cX8_nameInLock 98 = .ok (.iconst (-1), 1) := by decide +kernel
theorem dX8_nameInLock_99 : decode cX8_nameInLock 99 = .ok (.ireturn, 1) := by decide +kernel
theorem dX8_nameInLock_92 : decode cX8_nameInLock 92 = .ok (.sipush 10005, 3) := by decide +kernel
theorem dX8_nameInLock_95 : decode cX8_nameInLock 95 = .ok (.goto 4, 3) := by decide +kernel
theorem dX8_nameInLock_100 : decode cX8_nameInLock 100 = .ok (.aload_n 0, 1) := by decide +kernel
theorem dX8_nameInLock_101 : decode cX8_nameInLock 101 = .ok (.getfield 15, 3) := by decide +kernel
theorem dX8_nameInLock_104 : decode cX8_nameInLock 104 = .ok (.iconst 1, 1) := by decide +kernel
theorem dX8_nameInLock_105 : decode cX8_nameInLock 105 = .ok (.if_icmp .ne 9, 3) := by decide +kernel
theorem dX8_nameInLock_114 : decode cX8_nameInLock 114 = .ok (.iconst (-1), 1) := by decide +kernel
theorem dX8_nameInLock_115 : decode cX8_nameInLock 115 = .ok (.ireturn, 1) := by decide +kernel
theorem dX8_nameInLock_108 : decode cX8_nameInLock 108 = .ok (.sipush 10006, 3) := by decide +kernel
theorem dX8_nameInLock_111 : decode cX8_nameInLock 111 = .ok (.goto 4, 3) := by decide +kernel
theorem w_1_101 : (Cond.fieldLink RX8 15 "SameKeeper$Sums" "kind" "I") ∈ wsL_law := sk_mem (ck_1 _ (List.mem_of_getElem? (i := 101) rfl)) rfl
theorem w_3_121 : (Cond.code yX8_nameInLock cX8_nameInLock 2 (some .int)) ∈ wsL_law := sk_mem (ck_3 _ (List.mem_of_getElem? (i := 121) rfl)) rfl
theorem dX8_nameInQuestion_0 : decode cX8_nameInQuestion 0 = .ok (.iload_n 0, 1) := by decide +kernel
theorem dX8_nameInQuestion_1 : decode cX8_nameInQuestion 1 = .ok (.tableswitch 95 258 271 #[75, 79, 83, 95, 95, 95, 95, 95, 95, 91, 95, 95, 71, 87], 71) := by decide +kernel
theorem dX8_nameInQuestion_76 : decode cX8_nameInQuestion 76 = .ok (.sipush 10001, 3) := by decide +kernel
theorem dX8_nameInQuestion_79 : decode cX8_nameInQuestion 79 = .ok (.ireturn, 1) := by decide +kernel
theorem dX8_nameInQuestion_80 : decode cX8_nameInQuestion 80 = .ok (.sipush 10002, 3) := by decide +kernel
theorem dX8_nameInQuestion_83 : decode cX8_nameInQuestion 83 = .ok (.ireturn, 1) := by decide +kernel
theorem dX8_nameInQuestion_84 : decode cX8_nameInQuestion 84 = .ok (.sipush 10007, 3) := by decide +kernel
theorem dX8_nameInQuestion_87 : decode cX8_nameInQuestion 87 = .ok (.ireturn, 1) := by decide +kernel
theorem dX8_nameInQuestion_96 : decode cX8_nameInQuestion 96 = .ok (.iconst (-1), 1) := by decide +kernel
theorem dX8_nameInQuestion_97 : decode cX8_nameInQuestion 97 = .ok (.ireturn, 1) := by decide +kernel
theorem dX8_nameInQuestion_92 : decode cX8_nameInQuestion 92 = .ok (.sipush 10004, 3) := by decide +kernel
theorem dX8_nameInQuestion_95 : decode cX8_nameInQuestion 95 = .ok (.ireturn, 1) := by decide +kernel
theorem dX8_nameInQuestion_72 : decode cX8_nameInQuestion 72 = .ok (.sipush 10003, 3) := by decide +kernel
theorem dX8_nameInQuestion_75 : decode cX8_nameInQuestion 75 = .ok (.ireturn, 1) := by decide +kernel
theorem dX8_nameInQuestion_88 : decode cX8_nameInQuestion 88 = .ok (.sipush 10008, 3) := by decide +kernel
theorem dX8_nameInQuestion_91 : decode cX8_nameInQuestion 91 = .ok (.ireturn, 1) := by decide +kernel
theorem w_3_117 : (Cond.code yX8_nameInQuestion cX8_nameInQuestion 1 (some .int)) ∈ wsL_law := sk_mem (ck_3 _ (List.mem_of_getElem? (i := 117) rfl)) rfl
theorem dX8_readPair_0 : decode cX8_readPair 0 = .ok (.aload_n 0, 1) := by decide +kernel
theorem dX8_readPair_1 : decode cX8_readPair 1 = .ok (.getfield 9, 3) := by decide +kernel
theorem dX8_readPair_4 : decode cX8_readPair 4 = .ok (.bipush 40, 2) := by decide +kernel
theorem dX8_readPair_6 : decode cX8_readPair 6 = .ok (.invokevirtual 49, 3) := by decide +kernel
theorem dX8_readPair_9 : decode cX8_readPair 9 = .ok (.ifCond .eq 43, 3) := by decide +kernel
theorem dX8_readPair_52 : decode cX8_readPair 52 = .ok (.return_, 1) := by decide +kernel
theorem dX8_readPair_12 : decode cX8_readPair 12 = .ok (.aload_n 0, 1) := by decide +kernel
theorem dX8_readPair_13 : decode cX8_readPair 13 = .ok (.aload_n 1, 1) := by decide +kernel
theorem dX8_readPair_14 : decode cX8_readPair 14 = .ok (.invokevirtual 19, 3) := by decide +kernel
theorem dX8_readPair_17 : decode cX8_readPair 17 = .ok (.aload_n 0, 1) := by decide +kernel
theorem dX8_readPair_18 : decode cX8_readPair 18 = .ok (.getfield 9, 3) := by decide +kernel
theorem dX8_readPair_21 : decode cX8_readPair 21 = .ok (.bipush 44, 2) := by decide +kernel
theorem dX8_readPair_23 : decode cX8_readPair 23 = .ok (.invokevirtual 56, 3) := by decide +kernel
theorem dX8_readPair_26 : decode cX8_readPair 26 = .ok (.aload_n 0, 1) := by decide +kernel
theorem dX8_readPair_27 : decode cX8_readPair 27 = .ok (.aload_n 1, 1) := by decide +kernel
theorem dX8_readPair_28 : decode cX8_readPair 28 = .ok (.invokevirtual 19, 3) := by decide +kernel
theorem dX8_readPair_31 : decode cX8_readPair 31 = .ok (.aload_n 0, 1) := by decide +kernel
theorem dX8_readPair_32 : decode cX8_readPair 32 = .ok (.getfield 9, 3) := by decide +kernel
theorem dX8_readPair_35 : decode cX8_readPair 35 = .ok (.invokevirtual 53, 3) := by decide +kernel
theorem dX8_readPair_38 : decode cX8_readPair 38 = .ok (.aload_n 0, 1) := by decide +kernel
theorem dX8_readPair_39 : decode cX8_readPair 39 = .ok (.getfield 9, 3) := by decide +kernel
theorem dX8_readPair_42 : decode cX8_readPair 42 = .ok (.bipush 41, 2) := by decide +kernel
theorem dX8_readPair_44 : decode cX8_readPair 44 = .ok (.invokevirtual 56, 3) := by decide +kernel
theorem dX8_readPair_47 : decode cX8_readPair 47 = .ok (.aload_n 1, 1) := by decide +kernel
theorem dX8_readPair_48 : decode cX8_readPair 48 = .ok (.iload_n 2, 1) := by decide +kernel
theorem dX8_readPair_49 : decode cX8_readPair 49 = .ok (.invokevirtual 38, 3) := by decide +kernel
theorem w_1_100 : (Cond.fieldLink RX8 9 "SameKeeper$Sums" "reader" "LSameKeeper$Reader;") ∈ wsL_law := sk_mem (ck_1 _ (List.mem_of_getElem? (i := 100) rfl)) rfl
theorem w_3_101 : (Cond.methodLink RX8 49 yX6_opens) ∈ wsL_law := sk_mem (ck_3 _ (List.mem_of_getElem? (i := 101) rfl)) rfl
theorem w_3_102 : (Cond.instanceMethod yX6_opens) ∈ wsL_law := sk_mem (ck_3 _ (List.mem_of_getElem? (i := 102) rfl)) rfl
theorem w_3_103 : (Cond.selects RX6 yX6_opens yX6_opens) ∈ wsL_law := sk_mem (ck_3 _ (List.mem_of_getElem? (i := 103) rfl)) rfl
theorem w_3_84 : (Cond.methodLink RX8 19 yX8_readSum) ∈ wsL_law := sk_mem (ck_3 _ (List.mem_of_getElem? (i := 84) rfl)) rfl
theorem w_3_86 : (Cond.instanceMethod yX8_readSum) ∈ wsL_law := sk_mem (ck_3 _ (List.mem_of_getElem? (i := 86) rfl)) rfl
theorem w_0_6 : (Cond.selects RX8 yX8_readSum yX8_readSum) ∈ wsL_law := sk_mem (ck_0 _ (List.mem_of_getElem? (i := 6) rfl)) rfl
theorem w_1_6 : (Cond.initialized RX8) ∈ wsL_law := sk_mem (ck_1 _ (List.mem_of_getElem? (i := 6) rfl)) rfl
theorem w_3_87 : (Cond.code yX8_readSum cX8_readSum 4 none) ∈ wsL_law := sk_mem (ck_3 _ (List.mem_of_getElem? (i := 87) rfl)) rfl
theorem w_3_109 : (Cond.methodLink RX8 56 yX6_needs) ∈ wsL_law := sk_mem (ck_3 _ (List.mem_of_getElem? (i := 109) rfl)) rfl
theorem w_3_51 : (Cond.instanceMethod yX6_needs) ∈ wsL_law := sk_mem (ck_3 _ (List.mem_of_getElem? (i := 51) rfl)) rfl
theorem w_3_52 : (Cond.selects RX6 yX6_needs yX6_needs) ∈ wsL_law := sk_mem (ck_3 _ (List.mem_of_getElem? (i := 52) rfl)) rfl
theorem w_3_105 : (Cond.methodLink RX8 53 yX6_shuts) ∈ wsL_law := sk_mem (ck_3 _ (List.mem_of_getElem? (i := 105) rfl)) rfl
theorem w_3_106 : (Cond.instanceMethod yX6_shuts) ∈ wsL_law := sk_mem (ck_3 _ (List.mem_of_getElem? (i := 106) rfl)) rfl
theorem w_3_107 : (Cond.selects RX6 yX6_shuts yX6_shuts) ∈ wsL_law := sk_mem (ck_3 _ (List.mem_of_getElem? (i := 107) rfl)) rfl
theorem w_3_97 : (Cond.methodLink RX8 38 yX0_add) ∈ wsL_law := sk_mem (ck_3 _ (List.mem_of_getElem? (i := 97) rfl)) rfl
theorem w_3_98 : (Cond.instanceMethod yX0_add) ∈ wsL_law := sk_mem (ck_3 _ (List.mem_of_getElem? (i := 98) rfl)) rfl
theorem w_3_99 : (Cond.selects RX0 yX0_add yX0_add) ∈ wsL_law := sk_mem (ck_3 _ (List.mem_of_getElem? (i := 99) rfl)) rfl
theorem w_3_114 : (Cond.code yX8_readPair cX8_readPair 3 none) ∈ wsL_law := sk_mem (ck_3 _ (List.mem_of_getElem? (i := 114) rfl)) rfl
theorem dX8_readPart_0 : decode cX8_readPart 0 = .ok (.aload_n 0, 1) := by decide +kernel
theorem dX8_readPart_1 : decode cX8_readPart 1 = .ok (.getfield 9, 3) := by decide +kernel
theorem dX8_readPart_4 : decode cX8_readPart 4 = .ok (.getfield 28, 3) := by decide +kernel
theorem dX8_readPart_7 : decode cX8_readPart 7 = .ok (.istore_n 2, 1) := by decide +kernel
theorem dX8_readPart_8 : decode cX8_readPart 8 = .ok (.iload_n 2, 1) := by decide +kernel
theorem dX8_readPart_9 : decode cX8_readPart 9 = .ok (.bipush (-3), 2) := by decide +kernel
theorem dX8_readPart_11 : decode cX8_readPart 11 = .ok (.if_icmp .ne 21, 3) := by decide +kernel
theorem dX8_readPart_32 : decode cX8_readPart 32 = .ok (.iload_n 2, 1) := by decide +kernel
theorem dX8_readPart_33 : decode cX8_readPart 33 = .ok (.bipush 40, 2) := by decide +kernel
theorem dX8_readPart_35 : decode cX8_readPart 35 = .ok (.if_icmp .ne 39, 3) := by decide +kernel
theorem dX8_readPart_74 : decode cX8_readPart 74 = .ok (.iload_n 2, 1) := by decide +kernel
theorem dX8_readPart_75 : decode cX8_readPart 75 = .ok (.sipush 277, 3) := by decide +kernel
theorem dX8_readPart_78 : decode cX8_readPart 78 = .ok (.if_icmp .eq 10, 3) := by decide +kernel
theorem dX8_readPart_88 : decode cX8_readPart 88 = .ok (.aload_n 0, 1) := by decide +kernel
theorem dX8_readPart_89 : decode cX8_readPart 89 = .ok (.getfield 9, 3) := by decide +kernel
theorem dX8_readPart_92 : decode cX8_readPart 92 = .ok (.invokevirtual 35, 3) := by decide +kernel
theorem dX8_readPart_95 : decode cX8_readPart 95 = .ok (.aload_n 0, 1) := by decide +kernel
theorem dX8_readPart_96 : decode cX8_readPart 96 = .ok (.aload_n 1, 1) := by decide +kernel
theorem dX8_readPart_97 : decode cX8_readPart 97 = .ok (.iload_n 2, 1) := by decide +kernel
theorem dX8_readPart_98 : decode cX8_readPart 98 = .ok (.sipush 277, 3) := by decide +kernel
theorem dX8_readPart_101 : decode cX8_readPart 101 = .ok (.if_icmp .ne 9, 3) := by decide +kernel
theorem dX8_readPart_110 : decode cX8_readPart 110 = .ok (.sipush 30005, 3) := by decide +kernel
theorem dX8_readPart_113 : decode cX8_readPart 113 = .ok (.invokevirtual 59, 3) := by decide +kernel
theorem dX8_readPart_116 : decode cX8_readPart 116 = .ok (.goto 101, 3) := by decide +kernel
theorem dX8_readPart_217 : decode cX8_readPart 217 = .ok (.return_, 1) := by decide +kernel
theorem dX8_readPart_104 : decode cX8_readPart 104 = .ok (.sipush 30004, 3) := by decide +kernel
theorem dX8_readPart_107 : decode cX8_readPart 107 = .ok (.goto 6, 3) := by decide +kernel
theorem dX8_readPart_81 : decode cX8_readPart 81 = .ok (.iload_n 2, 1) := by decide +kernel
theorem dX8_readPart_82 : decode cX8_readPart 82 = .ok (.sipush 278, 3) := by decide +kernel
theorem dX8_readPart_85 : decode cX8_readPart 85 = .ok (.if_icmp .ne 34, 3) := by decide +kernel
theorem dX8_readPart_119 : decode cX8_readPart 119 = .ok (.iload_n 2, 1) := by decide +kernel
theorem dX8_readPart_120 : decode cX8_readPart 120 = .ok (.sipush 272, 3) := by decide +kernel
theorem dX8_readPart_123 : decode cX8_readPart 123 = .ok (.if_icmp .ne 46, 3) := by decide +kernel
theorem dX8_readPart_169 : decode cX8_readPart 169 = .ok (.aload_n 0, 1) := by decide +kernel
theorem dX8_readPart_170 : decode cX8_readPart 170 = .ok (.getfield 15, 3) := by decide +kernel
theorem dX8_readPart_173 : decode cX8_readPart 173 = .ok (.iconst 2, 1) := by decide +kernel
theorem dX8_readPart_174 : decode cX8_readPart 174 = .ok (.if_icmp .ne 10, 3) := by decide +kernel
theorem dX8_readPart_184 : decode cX8_readPart 184 = .ok (.aload_n 0, 1) := by decide +kernel
theorem dX8_readPart_185 : decode cX8_readPart 185 = .ok (.iload_n 2, 1) := by decide +kernel
theorem dX8_readPart_186 : decode cX8_readPart 186 = .ok (.invokevirtual 67, 3) := by decide +kernel
theorem dX8_readPart_189 : decode cX8_readPart 189 = .ok (.istore_n 3, 1) := by decide +kernel
theorem dX8_readPart_190 : decode cX8_readPart 190 = .ok (.iload_n 3, 1) := by decide +kernel
theorem dX8_readPart_191 : decode cX8_readPart 191 = .ok (.iconst (-1), 1) := by decide +kernel
theorem dX8_readPart_192 : decode cX8_readPart 192 = .ok (.if_icmp .ne 13, 3) := by decide +kernel
theorem dX8_readPart_205 : decode cX8_readPart 205 = .ok (.aload_n 1, 1) := by decide +kernel
theorem dX8_readPart_206 : decode cX8_readPart 206 = .ok (.iload_n 3, 1) := by decide +kernel
theorem dX8_readPart_207 : decode cX8_readPart 207 = .ok (.invokevirtual 38, 3) := by decide +kernel
theorem dX8_readPart_210 : decode cX8_readPart 210 = .ok (.aload_n 0, 1) := by decide +kernel
theorem dX8_readPart_211 : decode cX8_readPart 211 = .ok (.getfield 9, 3) := by decide +kernel
theorem dX8_readPart_214 : decode cX8_readPart 214 = .ok (.invokevirtual 35, 3) := by decide +kernel
theorem dX8_readPart_195 : decode cX8_readPart 195 = .ok (.aload_n 0, 1) := by decide +kernel
theorem dX8_readPart_196 : decode cX8_readPart 196 = .ok (.getfield 9, 3) := by decide +kernel
theorem dX8_readPart_199 : decode cX8_readPart 199 = .ok (.invokevirtual 70, 3) := by decide +kernel
theorem dX8_readPart_202 : decode cX8_readPart 202 = .ok (.goto 15, 3) := by decide +kernel
theorem dX8_readPart_177 : decode cX8_readPart 177 = .ok (.iload_n 2, 1) := by decide +kernel
theorem dX8_readPart_178 : decode cX8_readPart 178 = .ok (.invokestatic 63, 3) := by decide +kernel
theorem dX8_readPart_181 : decode cX8_readPart 181 = .ok (.goto 8, 3) := by decide +kernel
theorem dX8_readPart_126 : decode cX8_readPart 126 = .ok (.aload_n 0, 1) := by decide +kernel
theorem dX8_readPart_127 : decode cX8_readPart 127 = .ok (.getfield 15, 3) := by decide +kernel
theorem dX8_readPart_130 : decode cX8_readPart 130 = .ok (.iconst 2, 1) := by decide +kernel
theorem dX8_readPart_131 : decode cX8_readPart 131 = .ok (.if_icmp .ne 38, 3) := by decide +kernel
theorem dX8_readPart_134 : decode cX8_readPart 134 = .ok (.aload_n 0, 1) := by decide +kernel
theorem dX8_readPart_135 : decode cX8_readPart 135 = .ok (.getfield 9, 3) := by decide +kernel
theorem dX8_readPart_138 : decode cX8_readPart 138 = .ok (.sipush 272, 3) := by decide +kernel
theorem dX8_readPart_141 : decode cX8_readPart 141 = .ok (.invokevirtual 49, 3) := by decide +kernel
theorem dX8_readPart_144 : decode cX8_readPart 144 = .ok (.ifCond .eq 73, 3) := by decide +kernel
theorem dX8_readPart_147 : decode cX8_readPart 147 = .ok (.aload_n 0, 1) := by decide +kernel
theorem dX8_readPart_148 : decode cX8_readPart 148 = .ok (.aload_n 1, 1) := by decide +kernel
theorem dX8_readPart_149 : decode cX8_readPart 149 = .ok (.invokevirtual 42, 3) := by decide +kernel
theorem dX8_readPart_152 : decode cX8_readPart 152 = .ok (.aload_n 1, 1) := by decide +kernel
theorem dX8_readPart_153 : decode cX8_readPart 153 = .ok (.sipush 20000, 3) := by decide +kernel
theorem dX8_readPart_156 : decode cX8_readPart 156 = .ok (.invokevirtual 38, 3) := by decide +kernel
theorem dX8_readPart_159 : decode cX8_readPart 159 = .ok (.aload_n 0, 1) := by decide +kernel
theorem dX8_readPart_160 : decode cX8_readPart 160 = .ok (.getfield 9, 3) := by decide +kernel
theorem dX8_readPart_163 : decode cX8_readPart 163 = .ok (.invokevirtual 53, 3) := by decide +kernel
theorem dX8_readPart_166 : decode cX8_readPart 166 = .ok (.goto 51, 3) := by decide +kernel
theorem dX8_readPart_38 : decode cX8_readPart 38 = .ok (.aload_n 0, 1) := by decide +kernel
theorem dX8_readPart_39 : decode cX8_readPart 39 = .ok (.getfield 9, 3) := by decide +kernel
theorem dX8_readPart_42 : decode cX8_readPart 42 = .ok (.bipush 40, 2) := by decide +kernel
theorem dX8_readPart_44 : decode cX8_readPart 44 = .ok (.invokevirtual 49, 3) := by decide +kernel
theorem dX8_readPart_47 : decode cX8_readPart 47 = .ok (.ifCond .eq 170, 3) := by decide +kernel
theorem dX8_readPart_50 : decode cX8_readPart 50 = .ok (.aload_n 0, 1) := by decide +kernel
theorem dX8_readPart_51 : decode cX8_readPart 51 = .ok (.aload_n 1, 1) := by decide +kernel
theorem dX8_readPart_52 : decode cX8_readPart 52 = .ok (.invokevirtual 19, 3) := by decide +kernel
theorem dX8_readPart_55 : decode cX8_readPart 55 = .ok (.aload_n 0, 1) := by decide +kernel
theorem dX8_readPart_56 : decode cX8_readPart 56 = .ok (.getfield 9, 3) := by decide +kernel
theorem dX8_readPart_59 : decode cX8_readPart 59 = .ok (.invokevirtual 53, 3) := by decide +kernel
theorem dX8_readPart_62 : decode cX8_readPart 62 = .ok (.aload_n 0, 1) := by decide +kernel
theorem dX8_readPart_63 : decode cX8_readPart 63 = .ok (.getfield 9, 3) := by decide +kernel
theorem dX8_readPart_66 : decode cX8_readPart 66 = .ok (.bipush 41, 2) := by decide +kernel
theorem dX8_readPart_68 : decode cX8_readPart 68 = .ok (.invokevirtual 56, 3) := by decide +kernel
theorem dX8_readPart_71 : decode cX8_readPart 71 = .ok (.goto 146, 3) := by decide +kernel
theorem dX8_readPart_14 : decode cX8_readPart 14 = .ok (.aload_n 1, 1) := by decide +kernel
theorem dX8_readPart_15 : decode cX8_readPart 15 = .ok (.aload_n 0, 1) := by decide +kernel
theorem dX8_readPart_16 : decode cX8_readPart 16 = .ok (.getfield 9, 3) := by decide +kernel
theorem dX8_readPart_19 : decode cX8_readPart 19 = .ok (.iconst 0, 1) := by decide +kernel
theorem dX8_readPart_20 : decode cX8_readPart 20 = .ok (.sipush 9999, 3) := by decide +kernel
theorem dX8_readPart_23 : decode cX8_readPart 23 = .ok (.invokevirtual 45, 3) := by decide +kernel
theorem dX8_readPart_26 : decode cX8_readPart 26 = .ok (.invokevirtual 38, 3) := by decide +kernel
theorem dX8_readPart_29 : decode cX8_readPart 29 = .ok (.goto 188, 3) := by decide +kernel
theorem w_1_63 : (Cond.fieldLink RX8 28 "SameKeeper$Reader" "token" "I") ∈ wsL_law := sk_mem (ck_1 _ (List.mem_of_getElem? (i := 63) rfl)) rfl
theorem w_3_110 : (Cond.methodLink RX8 35 yX6_step) ∈ wsL_law := sk_mem (ck_3 _ (List.mem_of_getElem? (i := 110) rfl)) rfl
theorem w_3_111 : (Cond.methodLink RX8 59 yX8_readPair) ∈ wsL_law := sk_mem (ck_3 _ (List.mem_of_getElem? (i := 111) rfl)) rfl
theorem w_3_113 : (Cond.instanceMethod yX8_readPair) ∈ wsL_law := sk_mem (ck_3 _ (List.mem_of_getElem? (i := 113) rfl)) rfl
theorem w_0_9 : (Cond.selects RX8 yX8_readPair yX8_readPair) ∈ wsL_law := sk_mem (ck_0 _ (List.mem_of_getElem? (i := 9) rfl)) rfl
theorem w_3_118 : (Cond.methodLink RX8 67 yX8_nameInLock) ∈ wsL_law := sk_mem (ck_3 _ (List.mem_of_getElem? (i := 118) rfl)) rfl
theorem w_3_120 : (Cond.instanceMethod yX8_nameInLock) ∈ wsL_law := sk_mem (ck_3 _ (List.mem_of_getElem? (i := 120) rfl)) rfl
theorem w_0_10 : (Cond.selects RX8 yX8_nameInLock yX8_nameInLock) ∈ wsL_law := sk_mem (ck_0 _ (List.mem_of_getElem? (i := 10) rfl)) rfl
theorem w_3_122 : (Cond.methodLink RX8 70 yX6_failHere) ∈ wsL_law := sk_mem (ck_3 _ (List.mem_of_getElem? (i := 122) rfl)) rfl
theorem w_3_115 : (Cond.methodLink RX8 63 yX8_nameInQuestion) ∈ wsL_law := sk_mem (ck_3 _ (List.mem_of_getElem? (i := 115) rfl)) rfl
theorem w_3_116 : (Cond.static yX8_nameInQuestion) ∈ wsL_law := sk_mem (ck_3 _ (List.mem_of_getElem? (i := 116) rfl)) rfl
theorem w_3_92 : (Cond.methodLink RX8 42 yX8_readPart) ∈ wsL_law := sk_mem (ck_3 _ (List.mem_of_getElem? (i := 92) rfl)) rfl
theorem w_3_94 : (Cond.instanceMethod yX8_readPart) ∈ wsL_law := sk_mem (ck_3 _ (List.mem_of_getElem? (i := 94) rfl)) rfl
theorem w_0_8 : (Cond.selects RX8 yX8_readPart yX8_readPart) ∈ wsL_law := sk_mem (ck_0 _ (List.mem_of_getElem? (i := 8) rfl)) rfl
theorem w_3_95 : (Cond.code yX8_readPart cX8_readPart 4 none) ∈ wsL_law := sk_mem (ck_3 _ (List.mem_of_getElem? (i := 95) rfl)) rfl
theorem w_3_96 : (Cond.methodLink RX8 45 yX6_takeNumber) ∈ wsL_law := sk_mem (ck_3 _ (List.mem_of_getElem? (i := 96) rfl)) rfl
theorem w_3_63 : (Cond.instanceMethod yX6_takeNumber) ∈ wsL_law := sk_mem (ck_3 _ (List.mem_of_getElem? (i := 63) rfl)) rfl
theorem w_3_64 : (Cond.selects RX6 yX6_takeNumber yX6_takeNumber) ∈ wsL_law := sk_mem (ck_3 _ (List.mem_of_getElem? (i := 64) rfl)) rfl
theorem dX8_readProduct_0 : decode cX8_readProduct 0 = .ok (.aload_n 0, 1) := by decide +kernel
theorem dX8_readProduct_1 : decode cX8_readProduct 1 = .ok (.aload_n 1, 1) := by decide +kernel
theorem dX8_readProduct_2 : decode cX8_readProduct 2 = .ok (.invokevirtual 42, 3) := by decide +kernel
theorem dX8_readProduct_5 : decode cX8_readProduct 5 = .ok (.iconst 0, 1) := by decide +kernel
theorem dX8_readProduct_6 : decode cX8_readProduct 6 = .ok (.istore_n 2, 1) := by decide +kernel
theorem dX8_readProduct_7 : decode cX8_readProduct 7 = .ok (.iload_n 2, 1) := by decide +kernel
theorem dX8_readProduct_8 : decode cX8_readProduct 8 = .ok (.sipush 1600, 3) := by decide +kernel
theorem dX8_readProduct_11 : decode cX8_readProduct 11 = .ok (.if_icmp .ge 72, 3) := by decide +kernel
theorem dX8_readProduct_83 : decode cX8_readProduct 83 = .ok (.return_, 1) := by decide +kernel
theorem dX8_readProduct_14 : decode cX8_readProduct 14 = .ok (.aload_n 0, 1) := by decide +kernel
theorem dX8_readProduct_15 : decode cX8_readProduct 15 = .ok (.getfield 9, 3) := by decide +kernel
theorem dX8_readProduct_18 : decode cX8_readProduct 18 = .ok (.getfield 28, 3) := by decide +kernel
theorem dX8_readProduct_21 : decode cX8_readProduct 21 = .ok (.bipush 42, 2) := by decide +kernel
theorem dX8_readProduct_23 : decode cX8_readProduct 23 = .ok (.if_icmp .eq 15, 3) := by decide +kernel
theorem dX8_readProduct_59 : decode cX8_readProduct 59 = .ok (.istore_n 3, 1) := by decide +kernel
theorem dX8_readProduct_60 : decode cX8_readProduct 60 = .ok (.aload_n 0, 1) := by decide +kernel
theorem dX8_readProduct_61 : decode cX8_readProduct 61 = .ok (.getfield 9, 3) := by decide +kernel
theorem dX8_readProduct_64 : decode cX8_readProduct 64 = .ok (.invokevirtual 35, 3) := by decide +kernel
theorem dX8_readProduct_67 : decode cX8_readProduct 67 = .ok (.aload_n 0, 1) := by decide +kernel
theorem dX8_readProduct_68 : decode cX8_readProduct 68 = .ok (.aload_n 1, 1) := by decide +kernel
theorem dX8_readProduct_69 : decode cX8_readProduct 69 = .ok (.invokevirtual 42, 3) := by decide +kernel
theorem dX8_readProduct_72 : decode cX8_readProduct 72 = .ok (.aload_n 1, 1) := by decide +kernel
theorem dX8_readProduct_73 : decode cX8_readProduct 73 = .ok (.iload_n 3, 1) := by decide +kernel
theorem dX8_readProduct_74 : decode cX8_readProduct 74 = .ok (.invokevirtual 38, 3) := by decide +kernel
theorem dX8_readProduct_77 : decode cX8_readProduct 77 = .ok (.iinc 2 1, 3) := by decide +kernel
theorem dX8_readProduct_80 : decode cX8_readProduct 80 = .ok (.goto (-73), 3) := by decide +kernel
theorem dX8_readProduct_38 : decode cX8_readProduct 38 = .ok (.aload_n 0, 1) := by decide +kernel
theorem dX8_readProduct_39 : decode cX8_readProduct 39 = .ok (.getfield 9, 3) := by decide +kernel
theorem dX8_readProduct_42 : decode cX8_readProduct 42 = .ok (.getfield 28, 3) := by decide +kernel
theorem dX8_readProduct_45 : decode cX8_readProduct 45 = .ok (.bipush 42, 2) := by decide +kernel
theorem dX8_readProduct_47 : decode cX8_readProduct 47 = .ok (.if_icmp .ne 9, 3) := by decide +kernel
theorem dX8_readProduct_56 : decode cX8_readProduct 56 = .ok (.sipush 30003, 3) := by decide +kernel
theorem dX8_readProduct_50 : decode cX8_readProduct 50 = .ok (.sipush 30002, 3) := by decide +kernel
theorem dX8_readProduct_53 : decode cX8_readProduct 53 = .ok (.goto 6, 3) := by decide +kernel
theorem dX8_readProduct_26 : decode cX8_readProduct 26 = .ok (.aload_n 0, 1) := by decide +kernel
theorem dX8_readProduct_27 : decode cX8_readProduct 27 = .ok (.getfield 9, 3) := by decide +kernel
theorem dX8_readProduct_30 : decode cX8_readProduct 30 = .ok (.getfield 28, 3) := by decide +kernel
theorem dX8_readProduct_33 : decode cX8_readProduct 33 = .ok (.bipush 47, 2) := by decide +kernel
theorem dX8_readProduct_35 : decode cX8_readProduct 35 = .ok (.if_icmp .ne 48, 3) := by decide +kernel
theorem w_3_91 : (Cond.code yX8_readProduct cX8_readProduct 4 none) ∈ wsL_law := sk_mem (ck_3 _ (List.mem_of_getElem? (i := 91) rfl)) rfl
theorem dX8_readSum_0 : decode cX8_readSum 0 = .ok (.aload_n 0, 1) := by decide +kernel
theorem dX8_readSum_1 : decode cX8_readSum 1 = .ok (.aload_n 1, 1) := by decide +kernel
theorem dX8_readSum_2 : decode cX8_readSum 2 = .ok (.invokevirtual 23, 3) := by decide +kernel
theorem dX8_readSum_5 : decode cX8_readSum 5 = .ok (.iconst 0, 1) := by decide +kernel
theorem dX8_readSum_6 : decode cX8_readSum 6 = .ok (.istore_n 2, 1) := by decide +kernel
theorem dX8_readSum_7 : decode cX8_readSum 7 = .ok (.iload_n 2, 1) := by decide +kernel
theorem dX8_readSum_8 : decode cX8_readSum 8 = .ok (.sipush 1600, 3) := by decide +kernel
theorem dX8_readSum_11 : decode cX8_readSum 11 = .ok (.if_icmp .ge 72, 3) := by decide +kernel
theorem dX8_readSum_83 : decode cX8_readSum 83 = .ok (.return_, 1) := by decide +kernel
theorem dX8_readSum_14 : decode cX8_readSum 14 = .ok (.aload_n 0, 1) := by decide +kernel
theorem dX8_readSum_15 : decode cX8_readSum 15 = .ok (.getfield 9, 3) := by decide +kernel
theorem dX8_readSum_18 : decode cX8_readSum 18 = .ok (.getfield 28, 3) := by decide +kernel
theorem dX8_readSum_21 : decode cX8_readSum 21 = .ok (.bipush 43, 2) := by decide +kernel
theorem dX8_readSum_23 : decode cX8_readSum 23 = .ok (.if_icmp .eq 15, 3) := by decide +kernel
theorem dX8_readSum_59 : decode cX8_readSum 59 = .ok (.istore_n 3, 1) := by decide +kernel
theorem dX8_readSum_60 : decode cX8_readSum 60 = .ok (.aload_n 0, 1) := by decide +kernel
theorem dX8_readSum_61 : decode cX8_readSum 61 = .ok (.getfield 9, 3) := by decide +kernel
theorem dX8_readSum_64 : decode cX8_readSum 64 = .ok (.invokevirtual 35, 3) := by decide +kernel
theorem dX8_readSum_67 : decode cX8_readSum 67 = .ok (.aload_n 0, 1) := by decide +kernel
theorem dX8_readSum_68 : decode cX8_readSum 68 = .ok (.aload_n 1, 1) := by decide +kernel
theorem dX8_readSum_69 : decode cX8_readSum 69 = .ok (.invokevirtual 23, 3) := by decide +kernel
theorem dX8_readSum_72 : decode cX8_readSum 72 = .ok (.aload_n 1, 1) := by decide +kernel
theorem dX8_readSum_73 : decode cX8_readSum 73 = .ok (.iload_n 3, 1) := by decide +kernel
theorem dX8_readSum_74 : decode cX8_readSum 74 = .ok (.invokevirtual 38, 3) := by decide +kernel
theorem dX8_readSum_77 : decode cX8_readSum 77 = .ok (.iinc 2 1, 3) := by decide +kernel
theorem dX8_readSum_80 : decode cX8_readSum 80 = .ok (.goto (-73), 3) := by decide +kernel
theorem dX8_readSum_38 : decode cX8_readSum 38 = .ok (.aload_n 0, 1) := by decide +kernel
theorem dX8_readSum_39 : decode cX8_readSum 39 = .ok (.getfield 9, 3) := by decide +kernel
theorem dX8_readSum_42 : decode cX8_readSum 42 = .ok (.getfield 28, 3) := by decide +kernel
theorem dX8_readSum_45 : decode cX8_readSum 45 = .ok (.bipush 43, 2) := by decide +kernel
theorem dX8_readSum_47 : decode cX8_readSum 47 = .ok (.if_icmp .ne 9, 3) := by decide +kernel
theorem dX8_readSum_56 : decode cX8_readSum 56 = .ok (.sipush 30001, 3) := by decide +kernel
theorem dX8_readSum_50 : decode cX8_readSum 50 = .ok (.sipush 30000, 3) := by decide +kernel
theorem dX8_readSum_53 : decode cX8_readSum 53 = .ok (.goto 6, 3) := by decide +kernel
theorem dX8_readSum_26 : decode cX8_readSum 26 = .ok (.aload_n 0, 1) := by decide +kernel
theorem dX8_readSum_27 : decode cX8_readSum 27 = .ok (.getfield 9, 3) := by decide +kernel
theorem dX8_readSum_30 : decode cX8_readSum 30 = .ok (.getfield 28, 3) := by decide +kernel
theorem dX8_readSum_33 : decode cX8_readSum 33 = .ok (.bipush 45, 2) := by decide +kernel
theorem dX8_readSum_35 : decode cX8_readSum 35 = .ok (.if_icmp .ne 48, 3) := by decide +kernel
theorem w_3_88 : (Cond.methodLink RX8 23 yX8_readProduct) ∈ wsL_law := sk_mem (ck_3 _ (List.mem_of_getElem? (i := 88) rfl)) rfl
theorem w_3_90 : (Cond.instanceMethod yX8_readProduct) ∈ wsL_law := sk_mem (ck_3 _ (List.mem_of_getElem? (i := 90) rfl)) rfl
theorem w_0_7 : (Cond.selects RX8 yX8_readProduct yX8_readProduct) ∈ wsL_law := sk_mem (ck_0 _ (List.mem_of_getElem? (i := 7) rfl)) rfl
theorem dX8_read_0 : decode cX8_read 0 = .ok (.aload_n 0, 1) := by decide +kernel
theorem dX8_read_1 : decode cX8_read 1 = .ok (.aload_n 1, 1) := by decide +kernel
theorem dX8_read_2 : decode cX8_read 2 = .ok (.invokevirtual 19, 3) := by decide +kernel
theorem dX8_read_5 : decode cX8_read 5 = .ok (.return_, 1) := by decide +kernel
theorem w_3_83 : (Cond.code yX8_read cX8_read 2 none) ∈ wsL_law := sk_mem (ck_3 _ (List.mem_of_getElem? (i := 83) rfl)) rfl
theorem dX2_clear_0 : decode cX2_clear 0 = .ok (.aload_n 0, 1) := by decide +kernel
theorem dX2_clear_1 : decode cX2_clear 1 = .ok (.getfield 12, 3) := by decide +kernel
theorem dX2_clear_4 : decode cX2_clear 4 = .ok (.invokevirtual 47, 3) := by decide +kernel
theorem dX2_clear_7 : decode cX2_clear 7 = .ok (.aload_n 0, 1) := by decide +kernel
theorem dX2_clear_8 : decode cX2_clear 8 = .ok (.getfield 18, 3) := by decide +kernel
theorem dX2_clear_11 : decode cX2_clear 11 = .ok (.iconst 0, 1) := by decide +kernel
theorem dX2_clear_12 : decode cX2_clear 12 = .ok (.invokestatic 50, 3) := by decide +kernel
theorem dX2_clear_15 : decode cX2_clear 15 = .ok (.aload_n 0, 1) := by decide +kernel
theorem dX2_clear_16 : decode cX2_clear 16 = .ok (.getfield 22, 3) := by decide +kernel
theorem dX2_clear_19 : decode cX2_clear 19 = .ok (.iconst 0, 1) := by decide +kernel
theorem dX2_clear_20 : decode cX2_clear 20 = .ok (.invokestatic 50, 3) := by decide +kernel
theorem dX2_clear_23 : decode cX2_clear 23 = .ok (.aload_n 0, 1) := by decide +kernel
theorem dX2_clear_24 : decode cX2_clear 24 = .ok (.getfield 25, 3) := by decide +kernel
theorem dX2_clear_27 : decode cX2_clear 27 = .ok (.iconst 0, 1) := by decide +kernel
theorem dX2_clear_28 : decode cX2_clear 28 = .ok (.invokestatic 50, 3) := by decide +kernel
theorem dX2_clear_31 : decode cX2_clear 31 = .ok (.aload_n 0, 1) := by decide +kernel
theorem dX2_clear_32 : decode cX2_clear 32 = .ok (.getfield 28, 3) := by decide +kernel
theorem dX2_clear_35 : decode cX2_clear 35 = .ok (.iconst 0, 1) := by decide +kernel
theorem dX2_clear_36 : decode cX2_clear 36 = .ok (.invokestatic 50, 3) := by decide +kernel
theorem dX2_clear_39 : decode cX2_clear 39 = .ok (.aload_n 0, 1) := by decide +kernel
theorem dX2_clear_40 : decode cX2_clear 40 = .ok (.iconst 0, 1) := by decide +kernel
theorem dX2_clear_41 : decode cX2_clear 41 = .ok (.putfield 38, 3) := by decide +kernel
theorem dX2_clear_44 : decode cX2_clear 44 = .ok (.aload_n 0, 1) := by decide +kernel
theorem dX2_clear_45 : decode cX2_clear 45 = .ok (.iconst 0, 1) := by decide +kernel
theorem dX2_clear_46 : decode cX2_clear 46 = .ok (.putfield 41, 3) := by decide +kernel
theorem dX2_clear_49 : decode cX2_clear 49 = .ok (.aload_n 0, 1) := by decide +kernel
theorem dX2_clear_50 : decode cX2_clear 50 = .ok (.iconst 0, 1) := by decide +kernel
theorem dX2_clear_51 : decode cX2_clear 51 = .ok (.putfield 44, 3) := by decide +kernel
theorem dX2_clear_54 : decode cX2_clear 54 = .ok (.return_, 1) := by decide +kernel
theorem w_1_175 : (Cond.fieldLink RX2 12 "SameKeeper$Lock" "code" "LSameKeeper$Code;") ∈ wsL_law := sk_mem (ck_1 _ (List.mem_of_getElem? (i := 175) rfl)) rfl
theorem w_2_214 : (Cond.methodLink RX2 47 yX0_clear) ∈ wsL_law := sk_mem (ck_2 _ (List.mem_of_getElem? (i := 214) rfl)) rfl
theorem w_2_215 : (Cond.instanceMethod yX0_clear) ∈ wsL_law := sk_mem (ck_2 _ (List.mem_of_getElem? (i := 215) rfl)) rfl
theorem w_2_216 : (Cond.selects RX0 yX0_clear yX0_clear) ∈ wsL_law := sk_mem (ck_2 _ (List.mem_of_getElem? (i := 216) rfl)) rfl
theorem w_1_178 : (Cond.fieldLink RX2 18 "SameKeeper$Lock" "barge" "[I") ∈ wsL_law := sk_mem (ck_1 _ (List.mem_of_getElem? (i := 178) rfl)) rfl
theorem w_2_218 : (Cond.methodLink RX2 50 yJ7_fill_53178) ∈ wsL_law := sk_mem (ck_2 _ (List.mem_of_getElem? (i := 218) rfl)) rfl
theorem w_1_181 : (Cond.fieldLink RX2 22 "SameKeeper$Lock" "wet" "[I") ∈ wsL_law := sk_mem (ck_1 _ (List.mem_of_getElem? (i := 181) rfl)) rfl
theorem w_1_184 : (Cond.fieldLink RX2 25 "SameKeeper$Lock" "from" "[I") ∈ wsL_law := sk_mem (ck_1 _ (List.mem_of_getElem? (i := 184) rfl)) rfl
theorem w_1_186 : (Cond.fieldLink RX2 28 "SameKeeper$Lock" "to" "[I") ∈ wsL_law := sk_mem (ck_1 _ (List.mem_of_getElem? (i := 186) rfl)) rfl
theorem w_1_194 : (Cond.fieldLink RX2 38 "SameKeeper$Lock" "mute" "I") ∈ wsL_law := sk_mem (ck_1 _ (List.mem_of_getElem? (i := 194) rfl)) rfl
theorem w_1_197 : (Cond.fieldLink RX2 41 "SameKeeper$Lock" "rain" "I") ∈ wsL_law := sk_mem (ck_1 _ (List.mem_of_getElem? (i := 197) rfl)) rfl
theorem w_1_200 : (Cond.fieldLink RX2 44 "SameKeeper$Lock" "statements" "I") ∈ wsL_law := sk_mem (ck_1 _ (List.mem_of_getElem? (i := 200) rfl)) rfl
theorem w_2_213 : (Cond.code yX2_clear cX2_clear 1 none) ∈ wsL_law := sk_mem (ck_2 _ (List.mem_of_getElem? (i := 213) rfl)) rfl
theorem dX2_hasSum_0 : decode cX2_hasSum 0 = .ok (.aload_n 0, 1) := by decide +kernel
theorem dX2_hasSum_1 : decode cX2_hasSum 1 = .ok (.getfield 28, 3) := by decide +kernel
theorem dX2_hasSum_4 : decode cX2_hasSum 4 = .ok (.iload_n 1, 1) := by decide +kernel
theorem dX2_hasSum_5 : decode cX2_hasSum 5 = .ok (.iaload, 1) := by decide +kernel
theorem dX2_hasSum_6 : decode cX2_hasSum 6 = .ok (.aload_n 0, 1) := by decide +kernel
theorem dX2_hasSum_7 : decode cX2_hasSum 7 = .ok (.getfield 25, 3) := by decide +kernel
theorem dX2_hasSum_10 : decode cX2_hasSum 10 = .ok (.iload_n 1, 1) := by decide +kernel
theorem dX2_hasSum_11 : decode cX2_hasSum 11 = .ok (.iaload, 1) := by decide +kernel
theorem dX2_hasSum_12 : decode cX2_hasSum 12 = .ok (.if_icmp .le 7, 3) := by decide +kernel
theorem dX2_hasSum_19 : decode cX2_hasSum 19 = .ok (.iconst 0, 1) := by decide +kernel
theorem dX2_hasSum_20 : decode cX2_hasSum 20 = .ok (.ireturn, 1) := by decide +kernel
theorem dX2_hasSum_15 : decode cX2_hasSum 15 = .ok (.iconst 1, 1) := by decide +kernel
theorem dX2_hasSum_16 : decode cX2_hasSum 16 = .ok (.goto 4, 3) := by decide +kernel
theorem w_3_73 : (Cond.code yX2_hasSum cX2_hasSum 2 (some .boolean)) ∈ wsL_law := sk_mem (ck_3 _ (List.mem_of_getElem? (i := 73) rfl)) rfl
theorem dX2_beginSum_0 : decode cX2_beginSum 0 = .ok (.aload_n 0, 1) := by decide +kernel
theorem dX2_beginSum_1 : decode cX2_beginSum 1 = .ok (.getfield 25, 3) := by decide +kernel
theorem dX2_beginSum_4 : decode cX2_beginSum 4 = .ok (.iload_n 1, 1) := by decide +kernel
theorem dX2_beginSum_5 : decode cX2_beginSum 5 = .ok (.aload_n 0, 1) := by decide +kernel
theorem dX2_beginSum_6 : decode cX2_beginSum 6 = .ok (.getfield 12, 3) := by decide +kernel
theorem dX2_beginSum_9 : decode cX2_beginSum 9 = .ok (.getfield 56, 3) := by decide +kernel
theorem dX2_beginSum_12 : decode cX2_beginSum 12 = .ok (.iastore, 1) := by decide +kernel
theorem dX2_beginSum_13 : decode cX2_beginSum 13 = .ok (.return_, 1) := by decide +kernel
theorem w_1_134 : (Cond.fieldLink RX2 56 "SameKeeper$Code" "length" "I") ∈ wsL_law := sk_mem (ck_1 _ (List.mem_of_getElem? (i := 134) rfl)) rfl
theorem w_3_79 : (Cond.code yX2_beginSum cX2_beginSum 2 none) ∈ wsL_law := sk_mem (ck_3 _ (List.mem_of_getElem? (i := 79) rfl)) rfl
theorem dX2_endSum_0 : decode cX2_endSum 0 = .ok (.aload_n 0, 1) := by decide +kernel
theorem dX2_endSum_1 : decode cX2_endSum 1 = .ok (.getfield 28, 3) := by decide +kernel
theorem dX2_endSum_4 : decode cX2_endSum 4 = .ok (.iload_n 1, 1) := by decide +kernel
theorem dX2_endSum_5 : decode cX2_endSum 5 = .ok (.aload_n 0, 1) := by decide +kernel
theorem dX2_endSum_6 : decode cX2_endSum 6 = .ok (.getfield 12, 3) := by decide +kernel
theorem dX2_endSum_9 : decode cX2_endSum 9 = .ok (.getfield 56, 3) := by decide +kernel
theorem dX2_endSum_12 : decode cX2_endSum 12 = .ok (.iastore, 1) := by decide +kernel
theorem dX2_endSum_13 : decode cX2_endSum 13 = .ok (.return_, 1) := by decide +kernel
theorem w_3_126 : (Cond.code yX2_endSum cX2_endSum 2 none) ∈ wsL_law := sk_mem (ck_3 _ (List.mem_of_getElem? (i := 126) rfl)) rfl
theorem dX2_addUntold_0 : decode cX2_addUntold 0 = .ok (.iconst 0, 1) := by decide +kernel
theorem dX2_addUntold_1 : decode cX2_addUntold 1 = .ok (.istore_n 1, 1) := by decide +kernel
theorem dX2_addUntold_2 : decode cX2_addUntold 2 = .ok (.iload_n 1, 1) := by decide +kernel
theorem dX2_addUntold_3 : decode cX2_addUntold 3 = .ok (.iconst 2, 1) := by decide +kernel
theorem dX2_addUntold_4 : decode cX2_addUntold 4 = .ok (.if_icmp .gt 48, 3) := by decide +kernel
theorem dX2_addUntold_52 : decode cX2_addUntold 52 = .ok (.return_, 1) := by decide +kernel
theorem dX2_addUntold_7 : decode cX2_addUntold 7 = .ok (.aload_n 0, 1) := by decide +kernel
theorem dX2_addUntold_8 : decode cX2_addUntold 8 = .ok (.iload_n 1, 1) := by decide +kernel
theorem dX2_addUntold_9 : decode cX2_addUntold 9 = .ok (.invokevirtual 59, 3) := by decide +kernel
theorem dX2_addUntold_12 : decode cX2_addUntold 12 = .ok (.ifCond .ne 34, 3) := by decide +kernel
theorem dX2_addUntold_46 : decode cX2_addUntold 46 = .ok (.iinc 1 1, 3) := by decide +kernel
theorem dX2_addUntold_49 : decode cX2_addUntold 49 = .ok (.goto (-47), 3) := by decide +kernel
theorem dX2_addUntold_15 : decode cX2_addUntold 15 = .ok (.aload_n 0, 1) := by decide +kernel
theorem dX2_addUntold_16 : decode cX2_addUntold 16 = .ok (.iload_n 1, 1) := by decide +kernel
theorem dX2_addUntold_17 : decode cX2_addUntold 17 = .ok (.invokevirtual 63, 3) := by decide +kernel
theorem dX2_addUntold_38 : decode cX2_addUntold 38 = .ok (.invokevirtual 67, 3) := by decide +kernel
theorem dX2_addUntold_41 : decode cX2_addUntold 41 = .ok (.aload_n 0, 1) := by decide +kernel
theorem dX2_addUntold_42 : decode cX2_addUntold 42 = .ok (.iload_n 1, 1) := by decide +kernel
theorem dX2_addUntold_43 : decode cX2_addUntold 43 = .ok (.invokevirtual 70, 3) := by decide +kernel
theorem dX2_addUntold_20 : decode cX2_addUntold 20 = .ok (.aload_n 0, 1) := by decide +kernel
theorem dX2_addUntold_21 : decode cX2_addUntold 21 = .ok (.getfield 12, 3) := by decide +kernel
theorem dX2_addUntold_24 : decode cX2_addUntold 24 = .ok (.iload_n 1, 1) := by decide +kernel
theorem dX2_addUntold_25 : decode cX2_addUntold 25 = .ok (.iconst 1, 1) := by decide +kernel
theorem dX2_addUntold_26 : decode cX2_addUntold 26 = .ok (.if_icmp .ne 9, 3) := by decide +kernel
theorem dX2_addUntold_35 : decode cX2_addUntold 35 = .ok (.sipush 10000, 3) := by decide +kernel
theorem dX2_addUntold_29 : decode cX2_addUntold 29 = .ok (.sipush 10005, 3) := by decide +kernel
theorem dX2_addUntold_32 : decode cX2_addUntold 32 = .ok (.goto 6, 3) := by decide +kernel
theorem w_3_144 : (Cond.methodLink RX2 59 yX2_hasSum) ∈ wsL_law := sk_mem (ck_3 _ (List.mem_of_getElem? (i := 144) rfl)) rfl
theorem w_3_71 : (Cond.instanceMethod yX2_hasSum) ∈ wsL_law := sk_mem (ck_3 _ (List.mem_of_getElem? (i := 71) rfl)) rfl
theorem w_3_72 : (Cond.selects RX2 yX2_hasSum yX2_hasSum) ∈ wsL_law := sk_mem (ck_3 _ (List.mem_of_getElem? (i := 72) rfl)) rfl
theorem w_1_9 : (Cond.initialized RX2) ∈ wsL_law := sk_mem (ck_1 _ (List.mem_of_getElem? (i := 9) rfl)) rfl
theorem w_3_145 : (Cond.methodLink RX2 63 yX2_beginSum) ∈ wsL_law := sk_mem (ck_3 _ (List.mem_of_getElem? (i := 145) rfl)) rfl
theorem w_3_77 : (Cond.instanceMethod yX2_beginSum) ∈ wsL_law := sk_mem (ck_3 _ (List.mem_of_getElem? (i := 77) rfl)) rfl
theorem w_3_78 : (Cond.selects RX2 yX2_beginSum yX2_beginSum) ∈ wsL_law := sk_mem (ck_3 _ (List.mem_of_getElem? (i := 78) rfl)) rfl
theorem w_3_146 : (Cond.methodLink RX2 67 yX0_add) ∈ wsL_law := sk_mem (ck_3 _ (List.mem_of_getElem? (i := 146) rfl)) rfl
theorem w_3_147 : (Cond.methodLink RX2 70 yX2_endSum) ∈ wsL_law := sk_mem (ck_3 _ (List.mem_of_getElem? (i := 147) rfl)) rfl
theorem w_3_124 : (Cond.instanceMethod yX2_endSum) ∈ wsL_law := sk_mem (ck_3 _ (List.mem_of_getElem? (i := 124) rfl)) rfl
theorem w_3_125 : (Cond.selects RX2 yX2_endSum yX2_endSum) ∈ wsL_law := sk_mem (ck_3 _ (List.mem_of_getElem? (i := 125) rfl)) rfl
theorem w_3_143 : (Cond.code yX2_addUntold cX2_addUntold 2 none) ∈ wsL_law := sk_mem (ck_3 _ (List.mem_of_getElem? (i := 143) rfl)) rfl
theorem dX3_readOpening_0 : decode cX3_readOpening 0 = .ok (.aload_n 0, 1) := by decide +kernel
theorem dX3_readOpening_1 : decode cX3_readOpening 1 = .ok (.getfield 9, 3) := by decide +kernel
theorem dX3_readOpening_4 : decode cX3_readOpening 4 = .ok (.sipush 256, 3) := by decide +kernel
theorem dX3_readOpening_7 : decode cX3_readOpening 7 = .ok (.invokevirtual 58, 3) := by decide +kernel
theorem dX3_readOpening_10 : decode cX3_readOpening 10 = .ok (.aload_n 1, 1) := by decide +kernel
theorem dX3_readOpening_11 : decode cX3_readOpening 11 = .ok (.aload_n 0, 1) := by decide +kernel
theorem dX3_readOpening_12 : decode cX3_readOpening 12 = .ok (.getfield 9, 3) := by decide +kernel
theorem dX3_readOpening_15 : decode cX3_readOpening 15 = .ok (.iconst 2, 1) := by decide +kernel
theorem dX3_readOpening_16 : decode cX3_readOpening 16 = .ok (.bipush 9, 2) := by decide +kernel
theorem dX3_readOpening_18 : decode cX3_readOpening 18 = .ok (.invokevirtual 72, 3) := by decide +kernel
theorem dX3_readOpening_21 : decode cX3_readOpening 21 = .ok (.putfield 76, 3) := by decide +kernel
theorem dX3_readOpening_24 : decode cX3_readOpening 24 = .ok (.aload_n 0, 1) := by decide +kernel
theorem dX3_readOpening_25 : decode cX3_readOpening 25 = .ok (.getfield 9, 3) := by decide +kernel
theorem dX3_readOpening_28 : decode cX3_readOpening 28 = .ok (.sipush 257, 3) := by decide +kernel
theorem dX3_readOpening_31 : decode cX3_readOpening 31 = .ok (.invokevirtual 58, 3) := by decide +kernel
theorem dX3_readOpening_34 : decode cX3_readOpening 34 = .ok (.aload_n 1, 1) := by decide +kernel
theorem dX3_readOpening_35 : decode cX3_readOpening 35 = .ok (.aload_n 0, 1) := by decide +kernel
theorem dX3_readOpening_36 : decode cX3_readOpening 36 = .ok (.getfield 9, 3) := by decide +kernel
theorem dX3_readOpening_39 : decode cX3_readOpening 39 = .ok (.iconst 0, 1) := by decide +kernel
theorem dX3_readOpening_40 : decode cX3_readOpening 40 = .ok (.bipush 9, 2) := by decide +kernel
theorem dX3_readOpening_42 : decode cX3_readOpening 42 = .ok (.invokevirtual 72, 3) := by decide +kernel
theorem dX3_readOpening_45 : decode cX3_readOpening 45 = .ok (.putfield 79, 3) := by decide +kernel
theorem dX3_readOpening_48 : decode cX3_readOpening 48 = .ok (.aload_n 0, 1) := by decide +kernel
theorem dX3_readOpening_49 : decode cX3_readOpening 49 = .ok (.getfield 9, 3) := by decide +kernel
theorem dX3_readOpening_52 : decode cX3_readOpening 52 = .ok (.bipush 59, 2) := by decide +kernel
theorem dX3_readOpening_54 : decode cX3_readOpening 54 = .ok (.invokevirtual 58, 3) := by decide +kernel
theorem dX3_readOpening_57 : decode cX3_readOpening 57 = .ok (.aload_n 1, 1) := by decide +kernel
theorem dX3_readOpening_58 : decode cX3_readOpening 58 = .ok (.iconst 1, 1) := by decide +kernel
theorem dX3_readOpening_59 : decode cX3_readOpening 59 = .ok (.putfield 41, 3) := by decide +kernel
theorem dX3_readOpening_62 : decode cX3_readOpening 62 = .ok (.return_, 1) := by decide +kernel
theorem w_1_107 : (Cond.fieldLink RX3 9 "SameKeeper$LockText" "reader" "LSameKeeper$Reader;") ∈ wsL_law := sk_mem (ck_1 _ (List.mem_of_getElem? (i := 107) rfl)) rfl
theorem w_3_50 : (Cond.methodLink RX3 58 yX6_needs) ∈ wsL_law := sk_mem (ck_3 _ (List.mem_of_getElem? (i := 50) rfl)) rfl
theorem w_3_62 : (Cond.methodLink RX3 72 yX6_takeNumber) ∈ wsL_law := sk_mem (ck_3 _ (List.mem_of_getElem? (i := 62) rfl)) rfl
theorem w_1_190 : (Cond.fieldLink RX3 76 "SameKeeper$Lock" "days" "I") ∈ wsL_law := sk_mem (ck_1 _ (List.mem_of_getElem? (i := 190) rfl)) rfl
theorem w_1_193 : (Cond.fieldLink RX3 79 "SameKeeper$Lock" "mood" "I") ∈ wsL_law := sk_mem (ck_1 _ (List.mem_of_getElem? (i := 193) rfl)) rfl
theorem w_1_201 : (Cond.fieldLink RX3 41 "SameKeeper$Lock" "statements" "I") ∈ wsL_law := sk_mem (ck_1 _ (List.mem_of_getElem? (i := 201) rfl)) rfl
theorem w_3_49 : (Cond.code yX3_readOpening cX3_readOpening 2 none) ∈ wsL_law := sk_mem (ck_3 _ (List.mem_of_getElem? (i := 49) rfl)) rfl
theorem dX3_readAmount_0 : decode cX3_readAmount 0 = .ok (.aload_n 0, 1) := by decide +kernel
theorem dX3_readAmount_1 : decode cX3_readAmount 1 = .ok (.getfield 9, 3) := by decide +kernel
theorem dX3_readAmount_4 : decode cX3_readAmount 4 = .ok (.invokevirtual 96, 3) := by decide +kernel
theorem dX3_readAmount_7 : decode cX3_readAmount 7 = .ok (.aload_n 0, 1) := by decide +kernel
theorem dX3_readAmount_8 : decode cX3_readAmount 8 = .ok (.getfield 9, 3) := by decide +kernel
theorem dX3_readAmount_11 : decode cX3_readAmount 11 = .ok (.iconst 0, 1) := by decide +kernel
theorem dX3_readAmount_12 : decode cX3_readAmount 12 = .ok (.aload_n 1, 1) := by decide +kernel
theorem dX3_readAmount_13 : decode cX3_readAmount 13 = .ok (.getfield 76, 3) := by decide +kernel
theorem dX3_readAmount_16 : decode cX3_readAmount 16 = .ok (.iconst 1, 1) := by decide +kernel
theorem dX3_readAmount_17 : decode cX3_readAmount 17 = .ok (.isub, 1) := by decide +kernel
theorem dX3_readAmount_18 : decode cX3_readAmount 18 = .ok (.invokevirtual 72, 3) := by decide +kernel
theorem dX3_readAmount_21 : decode cX3_readAmount 21 = .ok (.istore_n 3, 1) := by decide +kernel
theorem dX3_readAmount_22 : decode cX3_readAmount 22 = .ok (.aload_n 0, 1) := by decide +kernel
theorem dX3_readAmount_23 : decode cX3_readAmount 23 = .ok (.getfield 9, 3) := by decide +kernel
theorem dX3_readAmount_26 : decode cX3_readAmount 26 = .ok (.iconst 0, 1) := by decide +kernel
theorem dX3_readAmount_27 : decode cX3_readAmount 27 = .ok (.bipush 9, 2) := by decide +kernel
theorem dX3_readAmount_29 : decode cX3_readAmount 29 = .ok (.invokevirtual 72, 3) := by decide +kernel
theorem dX3_readAmount_32 : decode cX3_readAmount 32 = .ok (.istore 4, 2) := by decide +kernel
theorem dX3_readAmount_34 : decode cX3_readAmount 34 = .ok (.iload_n 3, 1) := by decide +kernel
theorem dX3_readAmount_35 : decode cX3_readAmount 35 = .ok (.aload_n 2, 1) := by decide +kernel
theorem dX3_readAmount_36 : decode cX3_readAmount 36 = .ok (.arraylength, 1) := by decide +kernel
theorem dX3_readAmount_37 : decode cX3_readAmount 37 = .ok (.if_icmp .ge 8, 3) := by decide +kernel
theorem dX3_readAmount_45 : decode cX3_readAmount 45 = .ok (.return_, 1) := by decide +kernel
theorem dX3_readAmount_40 : decode cX3_readAmount 40 = .ok (.aload_n 2, 1) := by decide +kernel
theorem dX3_readAmount_41 : decode cX3_readAmount 41 = .ok (.iload_n 3, 1) := by decide +kernel
theorem dX3_readAmount_42 : decode cX3_readAmount 42 = .ok (.iload 4, 2) := by decide +kernel
theorem dX3_readAmount_44 : decode cX3_readAmount 44 = .ok (.iastore, 1) := by decide +kernel
theorem w_3_75 : (Cond.methodLink RX3 96 yX6_step) ∈ wsL_law := sk_mem (ck_3 _ (List.mem_of_getElem? (i := 75) rfl)) rfl
theorem w_3_134 : (Cond.code yX3_readAmount cX3_readAmount 5 none) ∈ wsL_law := sk_mem (ck_3 _ (List.mem_of_getElem? (i := 134) rfl)) rfl
theorem dX3_readMute_0 : decode cX3_readMute 0 = .ok (.aload_n 0, 1) := by decide +kernel
theorem dX3_readMute_1 : decode cX3_readMute 1 = .ok (.getfield 9, 3) := by decide +kernel
theorem dX3_readMute_4 : decode cX3_readMute 4 = .ok (.invokevirtual 96, 3) := by decide +kernel
theorem dX3_readMute_7 : decode cX3_readMute 7 = .ok (.aload_n 0, 1) := by decide +kernel
theorem dX3_readMute_8 : decode cX3_readMute 8 = .ok (.getfield 9, 3) := by decide +kernel
theorem dX3_readMute_11 : decode cX3_readMute 11 = .ok (.getfield 62, 3) := by decide +kernel
theorem dX3_readMute_14 : decode cX3_readMute 14 = .ok (.istore_n 2, 1) := by decide +kernel
theorem dX3_readMute_15 : decode cX3_readMute 15 = .ok (.aload_n 0, 1) := by decide +kernel
theorem dX3_readMute_16 : decode cX3_readMute 16 = .ok (.getfield 9, 3) := by decide +kernel
theorem dX3_readMute_19 : decode cX3_readMute 19 = .ok (.iconst 0, 1) := by decide +kernel
theorem dX3_readMute_20 : decode cX3_readMute 20 = .ok (.aload_n 1, 1) := by decide +kernel
theorem dX3_readMute_21 : decode cX3_readMute 21 = .ok (.getfield 76, 3) := by decide +kernel
theorem dX3_readMute_24 : decode cX3_readMute 24 = .ok (.iconst 1, 1) := by decide +kernel
theorem dX3_readMute_25 : decode cX3_readMute 25 = .ok (.isub, 1) := by decide +kernel
theorem dX3_readMute_26 : decode cX3_readMute 26 = .ok (.invokevirtual 72, 3) := by decide +kernel
theorem dX3_readMute_29 : decode cX3_readMute 29 = .ok (.istore_n 3, 1) := by decide +kernel
theorem dX3_readMute_30 : decode cX3_readMute 30 = .ok (.aload_n 0, 1) := by decide +kernel
theorem dX3_readMute_31 : decode cX3_readMute 31 = .ok (.getfield 9, 3) := by decide +kernel
theorem dX3_readMute_34 : decode cX3_readMute 34 = .ok (.getfield 45, 3) := by decide +kernel
theorem dX3_readMute_37 : decode cX3_readMute 37 = .ok (.ifCond .ne 24, 3) := by decide +kernel
theorem dX3_readMute_61 : decode cX3_readMute 61 = .ok (.aload_n 1, 1) := by decide +kernel
theorem dX3_readMute_62 : decode cX3_readMute 62 = .ok (.dup, 1) := by decide +kernel
theorem dX3_readMute_63 : decode cX3_readMute 63 = .ok (.getfield 123, 3) := by decide +kernel
theorem dX3_readMute_66 : decode cX3_readMute 66 = .ok (.iconst 1, 1) := by decide +kernel
theorem dX3_readMute_67 : decode cX3_readMute 67 = .ok (.iload_n 3, 1) := by decide +kernel
theorem dX3_readMute_68 : decode cX3_readMute 68 = .ok (.ishl, 1) := by decide +kernel
theorem dX3_readMute_69 : decode cX3_readMute 69 = .ok (.ior, 1) := by decide +kernel
theorem dX3_readMute_70 : decode cX3_readMute 70 = .ok (.putfield 123, 3) := by decide +kernel
theorem dX3_readMute_73 : decode cX3_readMute 73 = .ok (.return_, 1) := by decide +kernel
theorem dX3_readMute_40 : decode cX3_readMute 40 = .ok (.aload_n 1, 1) := by decide +kernel
theorem dX3_readMute_41 : decode cX3_readMute 41 = .ok (.getfield 123, 3) := by decide +kernel
theorem dX3_readMute_44 : decode cX3_readMute 44 = .ok (.iload_n 3, 1) := by decide +kernel
theorem dX3_readMute_45 : decode cX3_readMute 45 = .ok (.ishr, 1) := by decide +kernel
theorem dX3_readMute_46 : decode cX3_readMute 46 = .ok (.iconst 1, 1) := by decide +kernel
theorem dX3_readMute_47 : decode cX3_readMute 47 = .ok (.iand, 1) := by decide +kernel
theorem dX3_readMute_48 : decode cX3_readMute 48 = .ok (.iconst 1, 1) := by decide +kernel
theorem dX3_readMute_49 : decode cX3_readMute 49 = .ok (.if_icmp .ne 12, 3) := by decide +kernel
theorem dX3_readMute_52 : decode cX3_readMute 52 = .ok (.aload_n 0, 1) := by decide +kernel
theorem dX3_readMute_53 : decode cX3_readMute 53 = .ok (.getfield 9, 3) := by decide +kernel
theorem dX3_readMute_56 : decode cX3_readMute 56 = .ok (.iconst 2, 1) := by decide +kernel
theorem dX3_readMute_57 : decode cX3_readMute 57 = .ok (.iload_n 2, 1) := by decide +kernel
theorem dX3_readMute_58 : decode cX3_readMute 58 = .ok (.invokevirtual 65, 3) := by decide +kernel
theorem w_1_65 : (Cond.fieldLink RX3 62 "SameKeeper$Reader" "start" "I") ∈ wsL_law := sk_mem (ck_1 _ (List.mem_of_getElem? (i := 65) rfl)) rfl
theorem w_1_67 : (Cond.fieldLink RX3 45 "SameKeeper$Reader" "fault" "I") ∈ wsL_law := sk_mem (ck_1 _ (List.mem_of_getElem? (i := 67) rfl)) rfl
theorem w_1_196 : (Cond.fieldLink RX3 123 "SameKeeper$Lock" "mute" "I") ∈ wsL_law := sk_mem (ck_1 _ (List.mem_of_getElem? (i := 196) rfl)) rfl
theorem w_3_74 : (Cond.methodLink RX3 65 yX6_fail) ∈ wsL_law := sk_mem (ck_3 _ (List.mem_of_getElem? (i := 74) rfl)) rfl
theorem w_3_138 : (Cond.code yX3_readMute cX3_readMute 4 none) ∈ wsL_law := sk_mem (ck_3 _ (List.mem_of_getElem? (i := 138) rfl)) rfl
theorem dX3_readNumbers_0 : decode cX3_readNumbers 0 = .ok (.aload_n 0, 1) := by decide +kernel
theorem dX3_readNumbers_1 : decode cX3_readNumbers 1 = .ok (.getfield 9, 3) := by decide +kernel
theorem dX3_readNumbers_4 : decode cX3_readNumbers 4 = .ok (.getfield 48, 3) := by decide +kernel
theorem dX3_readNumbers_7 : decode cX3_readNumbers 7 = .ok (.tableswitch 97 258 264 #[41, 53, 65, 97, 97, 97, 73], 41) := by decide +kernel
theorem dX3_readNumbers_48 : decode cX3_readNumbers 48 = .ok (.aload_n 0, 1) := by decide +kernel
theorem dX3_readNumbers_49 : decode cX3_readNumbers 49 = .ok (.aload_n 1, 1) := by decide +kernel
theorem dX3_readNumbers_50 : decode cX3_readNumbers 50 = .ok (.aload_n 1, 1) := by decide +kernel
theorem dX3_readNumbers_51 : decode cX3_readNumbers 51 = .ok (.getfield 82, 3) := by decide +kernel
theorem dX3_readNumbers_54 : decode cX3_readNumbers 54 = .ok (.invokevirtual 86, 3) := by decide +kernel
theorem dX3_readNumbers_57 : decode cX3_readNumbers 57 = .ok (.goto 54, 3) := by decide +kernel
theorem dX3_readNumbers_111 : decode cX3_readNumbers 111 = .ok (.return_, 1) := by decide +kernel
theorem dX3_readNumbers_60 : decode cX3_readNumbers 60 = .ok (.aload_n 0, 1) := by decide +kernel
theorem dX3_readNumbers_61 : decode cX3_readNumbers 61 = .ok (.aload_n 1, 1) := by decide +kernel
theorem dX3_readNumbers_62 : decode cX3_readNumbers 62 = .ok (.aload_n 1, 1) := by decide +kernel
theorem dX3_readNumbers_63 : decode cX3_readNumbers 63 = .ok (.getfield 90, 3) := by decide +kernel
theorem dX3_readNumbers_66 : decode cX3_readNumbers 66 = .ok (.invokevirtual 86, 3) := by decide +kernel
theorem dX3_readNumbers_69 : decode cX3_readNumbers 69 = .ok (.goto 42, 3) := by decide +kernel
theorem dX3_readNumbers_72 : decode cX3_readNumbers 72 = .ok (.aload_n 0, 1) := by decide +kernel
theorem dX3_readNumbers_73 : decode cX3_readNumbers 73 = .ok (.aload_n 1, 1) := by decide +kernel
theorem dX3_readNumbers_74 : decode cX3_readNumbers 74 = .ok (.invokevirtual 93, 3) := by decide +kernel
theorem dX3_readNumbers_77 : decode cX3_readNumbers 77 = .ok (.goto 34, 3) := by decide +kernel
theorem dX3_readNumbers_104 : decode cX3_readNumbers 104 = .ok (.aload_n 0, 1) := by decide +kernel
theorem dX3_readNumbers_105 : decode cX3_readNumbers 105 = .ok (.getfield 9, 3) := by decide +kernel
theorem dX3_readNumbers_108 : decode cX3_readNumbers 108 = .ok (.invokevirtual 102, 3) := by decide +kernel
theorem dX3_readNumbers_80 : decode cX3_readNumbers 80 = .ok (.aload_n 0, 1) := by decide +kernel
theorem dX3_readNumbers_81 : decode cX3_readNumbers 81 = .ok (.getfield 9, 3) := by decide +kernel
theorem dX3_readNumbers_84 : decode cX3_readNumbers 84 = .ok (.invokevirtual 96, 3) := by decide +kernel
theorem dX3_readNumbers_87 : decode cX3_readNumbers 87 = .ok (.aload_n 1, 1) := by decide +kernel
theorem dX3_readNumbers_88 : decode cX3_readNumbers 88 = .ok (.aload_n 0, 1) := by decide +kernel
theorem dX3_readNumbers_89 : decode cX3_readNumbers 89 = .ok (.getfield 9, 3) := by decide +kernel
theorem dX3_readNumbers_92 : decode cX3_readNumbers 92 = .ok (.iconst 0, 1) := by decide +kernel
theorem dX3_readNumbers_93 : decode cX3_readNumbers 93 = .ok (.bipush 100, 2) := by decide +kernel
theorem dX3_readNumbers_95 : decode cX3_readNumbers 95 = .ok (.invokevirtual 72, 3) := by decide +kernel
theorem dX3_readNumbers_98 : decode cX3_readNumbers 98 = .ok (.putfield 99, 3) := by decide +kernel
theorem dX3_readNumbers_101 : decode cX3_readNumbers 101 = .ok (.goto 10, 3) := by decide +kernel
theorem w_1_62 : (Cond.fieldLink RX3 48 "SameKeeper$Reader" "token" "I") ∈ wsL_law := sk_mem (ck_1 _ (List.mem_of_getElem? (i := 62) rfl)) rfl
theorem w_1_180 : (Cond.fieldLink RX3 82 "SameKeeper$Lock" "barge" "[I") ∈ wsL_law := sk_mem (ck_1 _ (List.mem_of_getElem? (i := 180) rfl)) rfl
theorem w_3_131 : (Cond.methodLink RX3 86 yX3_readAmount) ∈ wsL_law := sk_mem (ck_3 _ (List.mem_of_getElem? (i := 131) rfl)) rfl
theorem w_3_133 : (Cond.instanceMethod yX3_readAmount) ∈ wsL_law := sk_mem (ck_3 _ (List.mem_of_getElem? (i := 133) rfl)) rfl
theorem w_0_12 : (Cond.selects RX3 yX3_readAmount yX3_readAmount) ∈ wsL_law := sk_mem (ck_0 _ (List.mem_of_getElem? (i := 12) rfl)) rfl
theorem w_1_5 : (Cond.initialized RX3) ∈ wsL_law := sk_mem (ck_1 _ (List.mem_of_getElem? (i := 5) rfl)) rfl
theorem w_1_183 : (Cond.fieldLink RX3 90 "SameKeeper$Lock" "wet" "[I") ∈ wsL_law := sk_mem (ck_1 _ (List.mem_of_getElem? (i := 183) rfl)) rfl
theorem w_3_135 : (Cond.methodLink RX3 93 yX3_readMute) ∈ wsL_law := sk_mem (ck_3 _ (List.mem_of_getElem? (i := 135) rfl)) rfl
theorem w_3_137 : (Cond.instanceMethod yX3_readMute) ∈ wsL_law := sk_mem (ck_3 _ (List.mem_of_getElem? (i := 137) rfl)) rfl
theorem w_0_13 : (Cond.selects RX3 yX3_readMute yX3_readMute) ∈ wsL_law := sk_mem (ck_0 _ (List.mem_of_getElem? (i := 13) rfl)) rfl
theorem w_3_139 : (Cond.methodLink RX3 102 yX6_failHere) ∈ wsL_law := sk_mem (ck_3 _ (List.mem_of_getElem? (i := 139) rfl)) rfl
theorem w_1_198 : (Cond.fieldLink RX3 99 "SameKeeper$Lock" "rain" "I") ∈ wsL_law := sk_mem (ck_1 _ (List.mem_of_getElem? (i := 198) rfl)) rfl
theorem w_3_130 : (Cond.code yX3_readNumbers cX3_readNumbers 2 none) ∈ wsL_law := sk_mem (ck_3 _ (List.mem_of_getElem? (i := 130) rfl)) rfl
theorem dX3_readSumOf_0 : decode cX3_readSumOf 0 = .ok (.aload_n 1, 1) := by decide +kernel
theorem dX3_readSumOf_1 : decode cX3_readSumOf 1 = .ok (.iload_n 2, 1) := by decide +kernel
theorem dX3_readSumOf_2 : decode cX3_readSumOf 2 = .ok (.invokevirtual 105, 3) := by decide +kernel
theorem dX3_readSumOf_5 : decode cX3_readSumOf 5 = .ok (.ifCond .eq 19, 3) := by decide +kernel
theorem dX3_readSumOf_24 : decode cX3_readSumOf 24 = .ok (.aload_n 0, 1) := by decide +kernel
theorem dX3_readSumOf_25 : decode cX3_readSumOf 25 = .ok (.getfield 9, 3) := by decide +kernel
theorem dX3_readSumOf_28 : decode cX3_readSumOf 28 = .ok (.invokevirtual 96, 3) := by decide +kernel
theorem dX3_readSumOf_31 : decode cX3_readSumOf 31 = .ok (.aload_n 1, 1) := by decide +kernel
theorem dX3_readSumOf_32 : decode cX3_readSumOf 32 = .ok (.iload_n 2, 1) := by decide +kernel
theorem dX3_readSumOf_33 : decode cX3_readSumOf 33 = .ok (.invokevirtual 109, 3) := by decide +kernel
theorem dX3_readSumOf_36 : decode cX3_readSumOf 36 = .ok (.aload_n 3, 1) := by decide +kernel
theorem dX3_readSumOf_37 : decode cX3_readSumOf 37 = .ok (.aload_n 1, 1) := by decide +kernel
theorem dX3_readSumOf_38 : decode cX3_readSumOf 38 = .ok (.getfield 112, 3) := by decide +kernel
theorem dX3_readSumOf_41 : decode cX3_readSumOf 41 = .ok (.invokevirtual 116, 3) := by decide +kernel
theorem dX3_readSumOf_44 : decode cX3_readSumOf 44 = .ok (.aload_n 1, 1) := by decide +kernel
theorem dX3_readSumOf_45 : decode cX3_readSumOf 45 = .ok (.iload_n 2, 1) := by decide +kernel
theorem dX3_readSumOf_46 : decode cX3_readSumOf 46 = .ok (.invokevirtual 120, 3) := by decide +kernel
theorem dX3_readSumOf_49 : decode cX3_readSumOf 49 = .ok (.return_, 1) := by decide +kernel
theorem dX3_readSumOf_8 : decode cX3_readSumOf 8 = .ok (.aload_n 0, 1) := by decide +kernel
theorem dX3_readSumOf_9 : decode cX3_readSumOf 9 = .ok (.getfield 9, 3) := by decide +kernel
theorem dX3_readSumOf_12 : decode cX3_readSumOf 12 = .ok (.iconst 5, 1) := by decide +kernel
theorem dX3_readSumOf_13 : decode cX3_readSumOf 13 = .ok (.aload_n 0, 1) := by decide +kernel
theorem dX3_readSumOf_14 : decode cX3_readSumOf 14 = .ok (.getfield 9, 3) := by decide +kernel
theorem dX3_readSumOf_17 : decode cX3_readSumOf 17 = .ok (.getfield 62, 3) := by decide +kernel
theorem dX3_readSumOf_20 : decode cX3_readSumOf 20 = .ok (.invokevirtual 65, 3) := by decide +kernel
theorem dX3_readSumOf_23 : decode cX3_readSumOf 23 = .ok (.return_, 1) := by decide +kernel
theorem w_3_70 : (Cond.methodLink RX3 105 yX2_hasSum) ∈ wsL_law := sk_mem (ck_3 _ (List.mem_of_getElem? (i := 70) rfl)) rfl
theorem w_3_76 : (Cond.methodLink RX3 109 yX2_beginSum) ∈ wsL_law := sk_mem (ck_3 _ (List.mem_of_getElem? (i := 76) rfl)) rfl
theorem w_1_177 : (Cond.fieldLink RX3 112 "SameKeeper$Lock" "code" "LSameKeeper$Code;") ∈ wsL_law := sk_mem (ck_1 _ (List.mem_of_getElem? (i := 177) rfl)) rfl
theorem w_3_80 : (Cond.methodLink RX3 116 yX8_read) ∈ wsL_law := sk_mem (ck_3 _ (List.mem_of_getElem? (i := 80) rfl)) rfl
theorem w_3_81 : (Cond.instanceMethod yX8_read) ∈ wsL_law := sk_mem (ck_3 _ (List.mem_of_getElem? (i := 81) rfl)) rfl
theorem w_3_82 : (Cond.selects RX8 yX8_read yX8_read) ∈ wsL_law := sk_mem (ck_3 _ (List.mem_of_getElem? (i := 82) rfl)) rfl
theorem w_3_123 : (Cond.methodLink RX3 120 yX2_endSum) ∈ wsL_law := sk_mem (ck_3 _ (List.mem_of_getElem? (i := 123) rfl)) rfl
theorem w_3_69 : (Cond.code yX3_readSumOf cX3_readSumOf 4 none) ∈ wsL_law := sk_mem (ck_3 _ (List.mem_of_getElem? (i := 69) rfl)) rfl
theorem dX3_read_0 : decode cX3_read 0 = .ok (.aload_n 1, 1) := by decide +kernel
theorem dX3_read_1 : decode cX3_read 1 = .ok (.invokevirtual 27, 3) := by decide +kernel
theorem dX3_read_4 : decode cX3_read 4 = .ok (.aload_n 0, 1) := by decide +kernel
theorem dX3_read_5 : decode cX3_read 5 = .ok (.getfield 9, 3) := by decide +kernel
theorem dX3_read_8 : decode cX3_read 8 = .ok (.invokevirtual 32, 3) := by decide +kernel
theorem dX3_read_11 : decode cX3_read 11 = .ok (.aload_n 0, 1) := by decide +kernel
theorem dX3_read_12 : decode cX3_read 12 = .ok (.aload_n 1, 1) := by decide +kernel
theorem dX3_read_13 : decode cX3_read 13 = .ok (.invokevirtual 37, 3) := by decide +kernel
theorem dX3_read_16 : decode cX3_read 16 = .ok (.aload_n 1, 1) := by decide +kernel
theorem dX3_read_17 : decode cX3_read 17 = .ok (.getfield 41, 3) := by decide +kernel
theorem dX3_read_20 : decode cX3_read 20 = .ok (.bipush 60, 2) := by decide +kernel
theorem dX3_read_22 : decode cX3_read 22 = .ok (.if_icmp .ge 124, 3) := by decide +kernel
theorem dX3_read_182 : decode cX3_read 182 = .ok (.aload_n 1, 1) := by decide +kernel
theorem dX3_read_183 : decode cX3_read 183 = .ok (.invokevirtual 69, 3) := by decide +kernel
theorem dX3_read_186 : decode cX3_read 186 = .ok (.return_, 1) := by decide +kernel
theorem dX3_read_146 : decode cX3_read 146 = .ok (.aload_n 0, 1) := by decide +kernel
theorem dX3_read_147 : decode cX3_read 147 = .ok (.getfield 9, 3) := by decide +kernel
theorem dX3_read_150 : decode cX3_read 150 = .ok (.getfield 45, 3) := by decide +kernel
theorem dX3_read_153 : decode cX3_read 153 = .ok (.ifCond .ne 29, 3) := by decide +kernel
theorem dX3_read_156 : decode cX3_read 156 = .ok (.aload_n 0, 1) := by decide +kernel
theorem dX3_read_157 : decode cX3_read 157 = .ok (.getfield 9, 3) := by decide +kernel
theorem dX3_read_160 : decode cX3_read 160 = .ok (.getfield 48, 3) := by decide +kernel
theorem dX3_read_163 : decode cX3_read 163 = .ok (.iconst (-1), 1) := by decide +kernel
theorem dX3_read_164 : decode cX3_read 164 = .ok (.if_icmp .eq 18, 3) := by decide +kernel
theorem dX3_read_167 : decode cX3_read 167 = .ok (.aload_n 0, 1) := by decide +kernel
theorem dX3_read_168 : decode cX3_read 168 = .ok (.getfield 9, 3) := by decide +kernel
theorem dX3_read_171 : decode cX3_read 171 = .ok (.iconst 5, 1) := by decide +kernel
theorem dX3_read_172 : decode cX3_read 172 = .ok (.aload_n 0, 1) := by decide +kernel
theorem dX3_read_173 : decode cX3_read 173 = .ok (.getfield 9, 3) := by decide +kernel
theorem dX3_read_176 : decode cX3_read 176 = .ok (.getfield 62, 3) := by decide +kernel
theorem dX3_read_179 : decode cX3_read 179 = .ok (.invokevirtual 65, 3) := by decide +kernel
theorem dX3_read_25 : decode cX3_read 25 = .ok (.aload_n 0, 1) := by decide +kernel
theorem dX3_read_26 : decode cX3_read 26 = .ok (.getfield 9, 3) := by decide +kernel
theorem dX3_read_29 : decode cX3_read 29 = .ok (.getfield 45, 3) := by decide +kernel
theorem dX3_read_32 : decode cX3_read 32 = .ok (.ifCond .ne 114, 3) := by decide +kernel
theorem dX3_read_35 : decode cX3_read 35 = .ok (.aload_n 0, 1) := by decide +kernel
theorem dX3_read_36 : decode cX3_read 36 = .ok (.getfield 9, 3) := by decide +kernel
theorem dX3_read_39 : decode cX3_read 39 = .ok (.getfield 48, 3) := by decide +kernel
theorem dX3_read_42 : decode cX3_read 42 = .ok (.iconst (-1), 1) := by decide +kernel
theorem dX3_read_43 : decode cX3_read 43 = .ok (.if_icmp .eq 103, 3) := by decide +kernel
theorem dX3_read_124 : decode cX3_read 124 = .ok (.aload_n 0, 1) := by decide +kernel
theorem dX3_read_125 : decode cX3_read 125 = .ok (.getfield 9, 3) := by decide +kernel
theorem dX3_read_128 : decode cX3_read 128 = .ok (.bipush 59, 2) := by decide +kernel
theorem dX3_read_130 : decode cX3_read 130 = .ok (.invokevirtual 58, 3) := by decide +kernel
theorem dX3_read_133 : decode cX3_read 133 = .ok (.aload_n 1, 1) := by decide +kernel
theorem dX3_read_134 : decode cX3_read 134 = .ok (.dup, 1) := by decide +kernel
theorem dX3_read_135 : decode cX3_read 135 = .ok (.getfield 41, 3) := by decide +kernel
theorem dX3_read_138 : decode cX3_read 138 = .ok (.iconst 1, 1) := by decide +kernel
theorem dX3_read_139 : decode cX3_read 139 = .ok (.iadd, 1) := by decide +kernel
theorem dX3_read_140 : decode cX3_read 140 = .ok (.putfield 41, 3) := by decide +kernel
theorem dX3_read_143 : decode cX3_read 143 = .ok (.goto (-127), 3) := by decide +kernel
theorem dX3_read_46 : decode cX3_read 46 = .ok (.aload_n 0, 1) := by decide +kernel
theorem dX3_read_47 : decode cX3_read 47 = .ok (.getfield 9, 3) := by decide +kernel
theorem dX3_read_50 : decode cX3_read 50 = .ok (.getfield 48, 3) := by decide +kernel
theorem dX3_read_53 : decode cX3_read 53 = .ok (.tableswitch 66 261 263 #[27, 40, 53], 27) := by decide +kernel
theorem dX3_read_80 : decode cX3_read 80 = .ok (.aload_n 0, 1) := by decide +kernel
theorem dX3_read_81 : decode cX3_read 81 = .ok (.aload_n 1, 1) := by decide +kernel
theorem dX3_read_82 : decode cX3_read 82 = .ok (.iconst 0, 1) := by decide +kernel
theorem dX3_read_83 : decode cX3_read 83 = .ok (.aload_n 0, 1) := by decide +kernel
theorem dX3_read_84 : decode cX3_read 84 = .ok (.getfield 20, 3) := by decide +kernel
theorem dX3_read_87 : decode cX3_read 87 = .ok (.invokevirtual 51, 3) := by decide +kernel
theorem dX3_read_90 : decode cX3_read 90 = .ok (.goto 34, 3) := by decide +kernel
theorem dX3_read_93 : decode cX3_read 93 = .ok (.aload_n 0, 1) := by decide +kernel
theorem dX3_read_94 : decode cX3_read 94 = .ok (.aload_n 1, 1) := by decide +kernel
theorem dX3_read_95 : decode cX3_read 95 = .ok (.iconst 1, 1) := by decide +kernel
theorem dX3_read_96 : decode cX3_read 96 = .ok (.aload_n 0, 1) := by decide +kernel
theorem dX3_read_97 : decode cX3_read 97 = .ok (.getfield 24, 3) := by decide +kernel
theorem dX3_read_100 : decode cX3_read 100 = .ok (.invokevirtual 51, 3) := by decide +kernel
theorem dX3_read_103 : decode cX3_read 103 = .ok (.goto 21, 3) := by decide +kernel
theorem dX3_read_106 : decode cX3_read 106 = .ok (.aload_n 0, 1) := by decide +kernel
theorem dX3_read_107 : decode cX3_read 107 = .ok (.aload_n 1, 1) := by decide +kernel
theorem dX3_read_108 : decode cX3_read 108 = .ok (.iconst 2, 1) := by decide +kernel
theorem dX3_read_109 : decode cX3_read 109 = .ok (.aload_n 0, 1) := by decide +kernel
theorem dX3_read_110 : decode cX3_read 110 = .ok (.getfield 20, 3) := by decide +kernel
theorem dX3_read_113 : decode cX3_read 113 = .ok (.invokevirtual 51, 3) := by decide +kernel
theorem dX3_read_116 : decode cX3_read 116 = .ok (.goto 8, 3) := by decide +kernel
theorem dX3_read_119 : decode cX3_read 119 = .ok (.aload_n 0, 1) := by decide +kernel
theorem dX3_read_120 : decode cX3_read 120 = .ok (.aload_n 1, 1) := by decide +kernel
theorem dX3_read_121 : decode cX3_read 121 = .ok (.invokevirtual 55, 3) := by decide +kernel
theorem w_2_210 : (Cond.methodLink RX3 27 yX2_clear) ∈ wsL_law := sk_mem (ck_2 _ (List.mem_of_getElem? (i := 210) rfl)) rfl
theorem w_2_211 : (Cond.instanceMethod yX2_clear) ∈ wsL_law := sk_mem (ck_2 _ (List.mem_of_getElem? (i := 211) rfl)) rfl
theorem w_2_212 : (Cond.selects RX2 yX2_clear yX2_clear) ∈ wsL_law := sk_mem (ck_2 _ (List.mem_of_getElem? (i := 212) rfl)) rfl
theorem w_2_221 : (Cond.methodLink RX3 32 yX6_begin) ∈ wsL_law := sk_mem (ck_2 _ (List.mem_of_getElem? (i := 221) rfl)) rfl
theorem w_2_222 : (Cond.instanceMethod yX6_begin) ∈ wsL_law := sk_mem (ck_2 _ (List.mem_of_getElem? (i := 222) rfl)) rfl
theorem w_2_223 : (Cond.selects RX6 yX6_begin yX6_begin) ∈ wsL_law := sk_mem (ck_2 _ (List.mem_of_getElem? (i := 223) rfl)) rfl
theorem w_3_46 : (Cond.methodLink RX3 37 yX3_readOpening) ∈ wsL_law := sk_mem (ck_3 _ (List.mem_of_getElem? (i := 46) rfl)) rfl
theorem w_3_48 : (Cond.instanceMethod yX3_readOpening) ∈ wsL_law := sk_mem (ck_3 _ (List.mem_of_getElem? (i := 48) rfl)) rfl
theorem w_0_4 : (Cond.selects RX3 yX3_readOpening yX3_readOpening) ∈ wsL_law := sk_mem (ck_0 _ (List.mem_of_getElem? (i := 4) rfl)) rfl
theorem w_3_140 : (Cond.methodLink RX3 69 yX2_addUntold) ∈ wsL_law := sk_mem (ck_3 _ (List.mem_of_getElem? (i := 140) rfl)) rfl
theorem w_3_141 : (Cond.instanceMethod yX2_addUntold) ∈ wsL_law := sk_mem (ck_3 _ (List.mem_of_getElem? (i := 141) rfl)) rfl
theorem w_3_142 : (Cond.selects RX2 yX2_addUntold yX2_addUntold) ∈ wsL_law := sk_mem (ck_3 _ (List.mem_of_getElem? (i := 142) rfl)) rfl
theorem w_1_108 : (Cond.fieldLink RX3 20 "SameKeeper$LockText" "ofMood" "LSameKeeper$Sums;") ∈ wsL_law := sk_mem (ck_1 _ (List.mem_of_getElem? (i := 108) rfl)) rfl
theorem w_3_66 : (Cond.methodLink RX3 51 yX3_readSumOf) ∈ wsL_law := sk_mem (ck_3 _ (List.mem_of_getElem? (i := 66) rfl)) rfl
theorem w_3_68 : (Cond.instanceMethod yX3_readSumOf) ∈ wsL_law := sk_mem (ck_3 _ (List.mem_of_getElem? (i := 68) rfl)) rfl
theorem w_0_5 : (Cond.selects RX3 yX3_readSumOf yX3_readSumOf) ∈ wsL_law := sk_mem (ck_0 _ (List.mem_of_getElem? (i := 5) rfl)) rfl
theorem w_1_109 : (Cond.fieldLink RX3 24 "SameKeeper$LockText" "ofDeed" "LSameKeeper$Sums;") ∈ wsL_law := sk_mem (ck_1 _ (List.mem_of_getElem? (i := 109) rfl)) rfl
theorem w_3_127 : (Cond.methodLink RX3 55 yX3_readNumbers) ∈ wsL_law := sk_mem (ck_3 _ (List.mem_of_getElem? (i := 127) rfl)) rfl
theorem w_3_129 : (Cond.instanceMethod yX3_readNumbers) ∈ wsL_law := sk_mem (ck_3 _ (List.mem_of_getElem? (i := 129) rfl)) rfl
theorem w_0_11 : (Cond.selects RX3 yX3_readNumbers yX3_readNumbers) ∈ wsL_law := sk_mem (ck_0 _ (List.mem_of_getElem? (i := 11) rfl)) rfl
theorem w_2_209 : (Cond.code yX3_read cX3_read 2 none) ∈ wsL_law := sk_mem (ck_2 _ (List.mem_of_getElem? (i := 209) rfl)) rfl
theorem dX5_stepOf_0 : decode cX5_stepOf 0 = .ok (.iload_n 0, 1) := by decide +kernel
theorem dX5_stepOf_1 : decode cX5_stepOf 1 = .ok (.tableswitch 39 60 62 #[27, 35, 31], 27) := by decide +kernel
theorem dX5_stepOf_28 : decode cX5_stepOf 28 = .ok (.sipush 30006, 3) := by decide +kernel
theorem dX5_stepOf_31 : decode cX5_stepOf 31 = .ok (.ireturn, 1) := by decide +kernel
theorem dX5_stepOf_36 : decode cX5_stepOf 36 = .ok (.sipush 30008, 3) := by decide +kernel
theorem dX5_stepOf_39 : decode cX5_stepOf 39 = .ok (.ireturn, 1) := by decide +kernel
theorem dX5_stepOf_32 : decode cX5_stepOf 32 = .ok (.sipush 30007, 3) := by decide +kernel
theorem dX5_stepOf_35 : decode cX5_stepOf 35 = .ok (.ireturn, 1) := by decide +kernel
theorem dX5_stepOf_40 : decode cX5_stepOf 40 = .ok (.iconst (-1), 1) := by decide +kernel
theorem dX5_stepOf_41 : decode cX5_stepOf 41 = .ok (.ireturn, 1) := by decide +kernel
theorem w_5_93 : (Cond.code yX5_stepOf cX5_stepOf 1 (some .int)) ∈ wsL_law := sk_mem (ck_5 _ (List.mem_of_getElem? (i := 93) rfl)) rfl
theorem dX5_readFact_0 : decode cX5_readFact 0 = .ok (.aload_n 0, 1) := by decide +kernel
theorem dX5_readFact_1 : decode cX5_readFact 1 = .ok (.getfield 24, 3) := by decide +kernel
theorem dX5_readFact_4 : decode cX5_readFact 4 = .ok (.getfield 43, 3) := by decide +kernel
theorem dX5_readFact_7 : decode cX5_readFact 7 = .ok (.sipush 275, 3) := by decide +kernel
theorem dX5_readFact_10 : decode cX5_readFact 10 = .ok (.if_icmp .ne 40, 3) := by decide +kernel
theorem dX5_readFact_50 : decode cX5_readFact 50 = .ok (.aload_n 0, 1) := by decide +kernel
theorem dX5_readFact_51 : decode cX5_readFact 51 = .ok (.getfield 24, 3) := by decide +kernel
theorem dX5_readFact_54 : decode cX5_readFact 54 = .ok (.getfield 43, 3) := by decide +kernel
theorem dX5_readFact_57 : decode cX5_readFact 57 = .ok (.bipush 91, 2) := by decide +kernel
theorem dX5_readFact_59 : decode cX5_readFact 59 = .ok (.if_icmp .ne 38, 3) := by decide +kernel
theorem dX5_readFact_97 : decode cX5_readFact 97 = .ok (.aload_n 0, 1) := by decide +kernel
theorem dX5_readFact_98 : decode cX5_readFact 98 = .ok (.getfield 24, 3) := by decide +kernel
theorem dX5_readFact_101 : decode cX5_readFact 101 = .ok (.sipush 276, 3) := by decide +kernel
theorem dX5_readFact_104 : decode cX5_readFact 104 = .ok (.invokevirtual 64, 3) := by decide +kernel
theorem dX5_readFact_107 : decode cX5_readFact 107 = .ok (.ifCond .eq 14, 3) := by decide +kernel
theorem dX5_readFact_121 : decode cX5_readFact 121 = .ok (.aload_n 0, 1) := by decide +kernel
theorem dX5_readFact_122 : decode cX5_readFact 122 = .ok (.getfield 33, 3) := by decide +kernel
theorem dX5_readFact_125 : decode cX5_readFact 125 = .ok (.aload_n 0, 1) := by decide +kernel
theorem dX5_readFact_126 : decode cX5_readFact 126 = .ok (.getfield 12, 3) := by decide +kernel
theorem dX5_readFact_129 : decode cX5_readFact 129 = .ok (.invokevirtual 52, 3) := by decide +kernel
theorem dX5_readFact_132 : decode cX5_readFact 132 = .ok (.aload_n 0, 1) := by decide +kernel
theorem dX5_readFact_133 : decode cX5_readFact 133 = .ok (.getfield 24, 3) := by decide +kernel
theorem dX5_readFact_136 : decode cX5_readFact 136 = .ok (.getfield 43, 3) := by decide +kernel
theorem dX5_readFact_139 : decode cX5_readFact 139 = .ok (.invokestatic 84, 3) := by decide +kernel
theorem dX5_readFact_142 : decode cX5_readFact 142 = .ok (.istore_n 1, 1) := by decide +kernel
theorem dX5_readFact_143 : decode cX5_readFact 143 = .ok (.iload_n 1, 1) := by decide +kernel
theorem dX5_readFact_144 : decode cX5_readFact 144 = .ok (.iconst (-1), 1) := by decide +kernel
theorem dX5_readFact_145 : decode cX5_readFact 145 = .ok (.if_icmp .ne 13, 3) := by decide +kernel
theorem dX5_readFact_158 : decode cX5_readFact 158 = .ok (.aload_n 0, 1) := by decide +kernel
theorem dX5_readFact_159 : decode cX5_readFact 159 = .ok (.getfield 24, 3) := by decide +kernel
theorem dX5_readFact_162 : decode cX5_readFact 162 = .ok (.invokevirtual 46, 3) := by decide +kernel
theorem dX5_readFact_165 : decode cX5_readFact 165 = .ok (.aload_n 0, 1) := by decide +kernel
theorem dX5_readFact_166 : decode cX5_readFact 166 = .ok (.getfield 33, 3) := by decide +kernel
theorem dX5_readFact_169 : decode cX5_readFact 169 = .ok (.aload_n 0, 1) := by decide +kernel
theorem dX5_readFact_170 : decode cX5_readFact 170 = .ok (.getfield 12, 3) := by decide +kernel
theorem dX5_readFact_173 : decode cX5_readFact 173 = .ok (.invokevirtual 52, 3) := by decide +kernel
theorem dX5_readFact_176 : decode cX5_readFact 176 = .ok (.aload_n 0, 1) := by decide +kernel
theorem dX5_readFact_177 : decode cX5_readFact 177 = .ok (.getfield 12, 3) := by decide +kernel
theorem dX5_readFact_180 : decode cX5_readFact 180 = .ok (.iload_n 1, 1) := by decide +kernel
theorem dX5_readFact_181 : decode cX5_readFact 181 = .ok (.invokevirtual 68, 3) := by decide +kernel
theorem dX5_readFact_184 : decode cX5_readFact 184 = .ok (.return_, 1) := by decide +kernel
theorem dX5_readFact_148 : decode cX5_readFact 148 = .ok (.aload_n 0, 1) := by decide +kernel
theorem dX5_readFact_149 : decode cX5_readFact 149 = .ok (.getfield 24, 3) := by decide +kernel
theorem dX5_readFact_152 : decode cX5_readFact 152 = .ok (.invokevirtual 56, 3) := by decide +kernel
theorem dX5_readFact_155 : decode cX5_readFact 155 = .ok (.goto 29, 3) := by decide +kernel
theorem dX5_readFact_110 : decode cX5_readFact 110 = .ok (.aload_n 0, 1) := by decide +kernel
theorem dX5_readFact_111 : decode cX5_readFact 111 = .ok (.getfield 12, 3) := by decide +kernel
theorem dX5_readFact_114 : decode cX5_readFact 114 = .ok (.iconst 1, 1) := by decide +kernel
theorem dX5_readFact_115 : decode cX5_readFact 115 = .ok (.invokevirtual 68, 3) := by decide +kernel
theorem dX5_readFact_118 : decode cX5_readFact 118 = .ok (.goto 66, 3) := by decide +kernel
theorem dX5_readFact_62 : decode cX5_readFact 62 = .ok (.aload_n 0, 1) := by decide +kernel
theorem dX5_readFact_63 : decode cX5_readFact 63 = .ok (.getfield 24, 3) := by decide +kernel
theorem dX5_readFact_66 : decode cX5_readFact 66 = .ok (.bipush 91, 2) := by decide +kernel
theorem dX5_readFact_68 : decode cX5_readFact 68 = .ok (.invokevirtual 75, 3) := by decide +kernel
theorem dX5_readFact_71 : decode cX5_readFact 71 = .ok (.ifCond .eq 113, 3) := by decide +kernel
theorem dX5_readFact_74 : decode cX5_readFact 74 = .ok (.aload_n 0, 1) := by decide +kernel
theorem dX5_readFact_75 : decode cX5_readFact 75 = .ok (.invokevirtual 49, 3) := by decide +kernel
theorem dX5_readFact_78 : decode cX5_readFact 78 = .ok (.aload_n 0, 1) := by decide +kernel
theorem dX5_readFact_79 : decode cX5_readFact 79 = .ok (.getfield 24, 3) := by decide +kernel
theorem dX5_readFact_82 : decode cX5_readFact 82 = .ok (.invokevirtual 78, 3) := by decide +kernel
theorem dX5_readFact_85 : decode cX5_readFact 85 = .ok (.aload_n 0, 1) := by decide +kernel
theorem dX5_readFact_86 : decode cX5_readFact 86 = .ok (.getfield 24, 3) := by decide +kernel
theorem dX5_readFact_89 : decode cX5_readFact 89 = .ok (.bipush 93, 2) := by decide +kernel
theorem dX5_readFact_91 : decode cX5_readFact 91 = .ok (.invokevirtual 81, 3) := by decide +kernel
theorem dX5_readFact_94 : decode cX5_readFact 94 = .ok (.goto 90, 3) := by decide +kernel
theorem dX5_readFact_13 : decode cX5_readFact 13 = .ok (.aload_n 0, 1) := by decide +kernel
theorem dX5_readFact_14 : decode cX5_readFact 14 = .ok (.getfield 24, 3) := by decide +kernel
theorem dX5_readFact_17 : decode cX5_readFact 17 = .ok (.sipush 275, 3) := by decide +kernel
theorem dX5_readFact_20 : decode cX5_readFact 20 = .ok (.invokevirtual 75, 3) := by decide +kernel
theorem dX5_readFact_23 : decode cX5_readFact 23 = .ok (.ifCond .eq 161, 3) := by decide +kernel
theorem dX5_readFact_26 : decode cX5_readFact 26 = .ok (.aload_n 0, 1) := by decide +kernel
theorem dX5_readFact_27 : decode cX5_readFact 27 = .ok (.invokevirtual 72, 3) := by decide +kernel
theorem dX5_readFact_30 : decode cX5_readFact 30 = .ok (.aload_n 0, 1) := by decide +kernel
theorem dX5_readFact_31 : decode cX5_readFact 31 = .ok (.getfield 12, 3) := by decide +kernel
theorem dX5_readFact_34 : decode cX5_readFact 34 = .ok (.sipush 20001, 3) := by decide +kernel
theorem dX5_readFact_37 : decode cX5_readFact 37 = .ok (.invokevirtual 68, 3) := by decide +kernel
theorem dX5_readFact_40 : decode cX5_readFact 40 = .ok (.aload_n 0, 1) := by decide +kernel
theorem dX5_readFact_41 : decode cX5_readFact 41 = .ok (.getfield 24, 3) := by decide +kernel
theorem dX5_readFact_44 : decode cX5_readFact 44 = .ok (.invokevirtual 78, 3) := by decide +kernel
theorem dX5_readFact_47 : decode cX5_readFact 47 = .ok (.goto 137, 3) := by decide +kernel
theorem w_1_154 : (Cond.fieldLink RX5 24 "SameKeeper$Question" "reader" "LSameKeeper$Reader;") ∈ wsL_law := sk_mem (ck_1 _ (List.mem_of_getElem? (i := 154) rfl)) rfl
theorem w_1_61 : (Cond.fieldLink RX5 43 "SameKeeper$Reader" "token" "I") ∈ wsL_law := sk_mem (ck_1 _ (List.mem_of_getElem? (i := 61) rfl)) rfl
theorem w_5_86 : (Cond.methodLink RX5 64 yX6_takes) ∈ wsL_law := sk_mem (ck_5 _ (List.mem_of_getElem? (i := 86) rfl)) rfl
theorem w_5_87 : (Cond.instanceMethod yX6_takes) ∈ wsL_law := sk_mem (ck_5 _ (List.mem_of_getElem? (i := 87) rfl)) rfl
theorem w_5_88 : (Cond.selects RX6 yX6_takes yX6_takes) ∈ wsL_law := sk_mem (ck_5 _ (List.mem_of_getElem? (i := 88) rfl)) rfl
theorem w_1_155 : (Cond.fieldLink RX5 33 "SameKeeper$Question" "sums" "LSameKeeper$Sums;") ∈ wsL_law := sk_mem (ck_1 _ (List.mem_of_getElem? (i := 155) rfl)) rfl
theorem w_1_156 : (Cond.fieldLink RX5 12 "SameKeeper$Question" "code" "LSameKeeper$Code;") ∈ wsL_law := sk_mem (ck_1 _ (List.mem_of_getElem? (i := 156) rfl)) rfl
theorem w_5_90 : (Cond.methodLink RX5 52 yX8_read) ∈ wsL_law := sk_mem (ck_5 _ (List.mem_of_getElem? (i := 90) rfl)) rfl
theorem w_5_91 : (Cond.methodLink RX5 84 yX5_stepOf) ∈ wsL_law := sk_mem (ck_5 _ (List.mem_of_getElem? (i := 91) rfl)) rfl
theorem w_5_92 : (Cond.static yX5_stepOf) ∈ wsL_law := sk_mem (ck_5 _ (List.mem_of_getElem? (i := 92) rfl)) rfl
theorem w_1_7 : (Cond.initialized RX5) ∈ wsL_law := sk_mem (ck_1 _ (List.mem_of_getElem? (i := 7) rfl)) rfl
theorem w_5_69 : (Cond.methodLink RX5 46 yX6_step) ∈ wsL_law := sk_mem (ck_5 _ (List.mem_of_getElem? (i := 69) rfl)) rfl
theorem w_5_83 : (Cond.methodLink RX5 68 yX0_add) ∈ wsL_law := sk_mem (ck_5 _ (List.mem_of_getElem? (i := 83) rfl)) rfl
theorem w_5_94 : (Cond.methodLink RX5 56 yX6_failHere) ∈ wsL_law := sk_mem (ck_5 _ (List.mem_of_getElem? (i := 94) rfl)) rfl
theorem w_5_82 : (Cond.methodLink RX5 75 yX6_opens) ∈ wsL_law := sk_mem (ck_5 _ (List.mem_of_getElem? (i := 82) rfl)) rfl
theorem w_5_70 : (Cond.methodLink RX5 49 yX5_readTest) ∈ wsL_law := sk_mem (ck_5 _ (List.mem_of_getElem? (i := 70) rfl)) rfl
theorem w_5_72 : (Cond.instanceMethod yX5_readTest) ∈ wsL_law := sk_mem (ck_5 _ (List.mem_of_getElem? (i := 72) rfl)) rfl
theorem w_0_34 : (Cond.selects RX5 yX5_readTest yX5_readTest) ∈ wsL_law := sk_mem (ck_0 _ (List.mem_of_getElem? (i := 34) rfl)) rfl
theorem w_5_73 : (Cond.code yX5_readTest cX5_readTest 2 none) ∈ wsL_law := sk_mem (ck_5 _ (List.mem_of_getElem? (i := 73) rfl)) rfl
theorem w_5_84 : (Cond.methodLink RX5 78 yX6_shuts) ∈ wsL_law := sk_mem (ck_5 _ (List.mem_of_getElem? (i := 84) rfl)) rfl
theorem w_5_85 : (Cond.methodLink RX5 81 yX6_needs) ∈ wsL_law := sk_mem (ck_5 _ (List.mem_of_getElem? (i := 85) rfl)) rfl
theorem w_5_78 : (Cond.methodLink RX5 72 yX5_readFact) ∈ wsL_law := sk_mem (ck_5 _ (List.mem_of_getElem? (i := 78) rfl)) rfl
theorem w_5_80 : (Cond.instanceMethod yX5_readFact) ∈ wsL_law := sk_mem (ck_5 _ (List.mem_of_getElem? (i := 80) rfl)) rfl
theorem w_0_36 : (Cond.selects RX5 yX5_readFact yX5_readFact) ∈ wsL_law := sk_mem (ck_0 _ (List.mem_of_getElem? (i := 36) rfl)) rfl
theorem w_5_81 : (Cond.code yX5_readFact cX5_readFact 2 none) ∈ wsL_law := sk_mem (ck_5 _ (List.mem_of_getElem? (i := 81) rfl)) rfl
theorem dX5_readBoth_0 : decode cX5_readBoth 0 = .ok (.aload_n 0, 1) := by decide +kernel
theorem dX5_readBoth_1 : decode cX5_readBoth 1 = .ok (.invokevirtual 72, 3) := by decide +kernel
theorem dX5_readBoth_4 : decode cX5_readBoth 4 = .ok (.iconst 0, 1) := by decide +kernel
theorem dX5_readBoth_5 : decode cX5_readBoth 5 = .ok (.istore_n 1, 1) := by decide +kernel
theorem dX5_readBoth_6 : decode cX5_readBoth 6 = .ok (.iload_n 1, 1) := by decide +kernel
theorem dX5_readBoth_7 : decode cX5_readBoth 7 = .ok (.sipush 1600, 3) := by decide +kernel
theorem dX5_readBoth_10 : decode cX5_readBoth 10 = .ok (.if_icmp .ge 36, 3) := by decide +kernel
theorem dX5_readBoth_46 : decode cX5_readBoth 46 = .ok (.return_, 1) := by decide +kernel
theorem dX5_readBoth_13 : decode cX5_readBoth 13 = .ok (.aload_n 0, 1) := by decide +kernel
theorem dX5_readBoth_14 : decode cX5_readBoth 14 = .ok (.getfield 24, 3) := by decide +kernel
theorem dX5_readBoth_17 : decode cX5_readBoth 17 = .ok (.sipush 274, 3) := by decide +kernel
theorem dX5_readBoth_20 : decode cX5_readBoth 20 = .ok (.invokevirtual 64, 3) := by decide +kernel
theorem dX5_readBoth_23 : decode cX5_readBoth 23 = .ok (.ifCond .eq 23, 3) := by decide +kernel
theorem dX5_readBoth_26 : decode cX5_readBoth 26 = .ok (.aload_n 0, 1) := by decide +kernel
theorem dX5_readBoth_27 : decode cX5_readBoth 27 = .ok (.invokevirtual 72, 3) := by decide +kernel
theorem dX5_readBoth_30 : decode cX5_readBoth 30 = .ok (.aload_n 0, 1) := by decide +kernel
theorem dX5_readBoth_31 : decode cX5_readBoth 31 = .ok (.getfield 12, 3) := by decide +kernel
theorem dX5_readBoth_34 : decode cX5_readBoth 34 = .ok (.sipush 30009, 3) := by decide +kernel
theorem dX5_readBoth_37 : decode cX5_readBoth 37 = .ok (.invokevirtual 68, 3) := by decide +kernel
theorem dX5_readBoth_40 : decode cX5_readBoth 40 = .ok (.iinc 1 1, 3) := by decide +kernel
theorem dX5_readBoth_43 : decode cX5_readBoth 43 = .ok (.goto (-37), 3) := by decide +kernel
theorem w_5_77 : (Cond.code yX5_readBoth cX5_readBoth 2 none) ∈ wsL_law := sk_mem (ck_5 _ (List.mem_of_getElem? (i := 77) rfl)) rfl
theorem dX5_readTest_0 : decode cX5_readTest 0 = .ok (.aload_n 0, 1) := by decide +kernel
theorem dX5_readTest_1 : decode cX5_readTest 1 = .ok (.invokevirtual 59, 3) := by decide +kernel
theorem dX5_readTest_4 : decode cX5_readTest 4 = .ok (.iconst 0, 1) := by decide +kernel
theorem dX5_readTest_5 : decode cX5_readTest 5 = .ok (.istore_n 1, 1) := by decide +kernel
theorem dX5_readTest_6 : decode cX5_readTest 6 = .ok (.iload_n 1, 1) := by decide +kernel
theorem dX5_readTest_7 : decode cX5_readTest 7 = .ok (.sipush 1600, 3) := by decide +kernel
theorem dX5_readTest_10 : decode cX5_readTest 10 = .ok (.if_icmp .ge 36, 3) := by decide +kernel
theorem dX5_readTest_46 : decode cX5_readTest 46 = .ok (.return_, 1) := by decide +kernel
theorem dX5_readTest_13 : decode cX5_readTest 13 = .ok (.aload_n 0, 1) := by decide +kernel
theorem dX5_readTest_14 : decode cX5_readTest 14 = .ok (.getfield 24, 3) := by decide +kernel
theorem dX5_readTest_17 : decode cX5_readTest 17 = .ok (.sipush 273, 3) := by decide +kernel
theorem dX5_readTest_20 : decode cX5_readTest 20 = .ok (.invokevirtual 64, 3) := by decide +kernel
theorem dX5_readTest_23 : decode cX5_readTest 23 = .ok (.ifCond .eq 23, 3) := by decide +kernel
theorem dX5_readTest_26 : decode cX5_readTest 26 = .ok (.aload_n 0, 1) := by decide +kernel
theorem dX5_readTest_27 : decode cX5_readTest 27 = .ok (.invokevirtual 59, 3) := by decide +kernel
theorem dX5_readTest_30 : decode cX5_readTest 30 = .ok (.aload_n 0, 1) := by decide +kernel
theorem dX5_readTest_31 : decode cX5_readTest 31 = .ok (.getfield 12, 3) := by decide +kernel
theorem dX5_readTest_34 : decode cX5_readTest 34 = .ok (.sipush 30010, 3) := by decide +kernel
theorem dX5_readTest_37 : decode cX5_readTest 37 = .ok (.invokevirtual 68, 3) := by decide +kernel
theorem dX5_readTest_40 : decode cX5_readTest 40 = .ok (.iinc 1 1, 3) := by decide +kernel
theorem dX5_readTest_43 : decode cX5_readTest 43 = .ok (.goto (-37), 3) := by decide +kernel
theorem w_5_74 : (Cond.methodLink RX5 59 yX5_readBoth) ∈ wsL_law := sk_mem (ck_5 _ (List.mem_of_getElem? (i := 74) rfl)) rfl
theorem w_5_76 : (Cond.instanceMethod yX5_readBoth) ∈ wsL_law := sk_mem (ck_5 _ (List.mem_of_getElem? (i := 76) rfl)) rfl
theorem w_0_35 : (Cond.selects RX5 yX5_readBoth yX5_readBoth) ∈ wsL_law := sk_mem (ck_0 _ (List.mem_of_getElem? (i := 35) rfl)) rfl
