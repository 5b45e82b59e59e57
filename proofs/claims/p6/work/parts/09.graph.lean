theorem dX1_next_0 : decode cX1_next 0 = .ok (.aload_n 0, 1) := by decide +kernel
theorem dX1_next_1 : decode cX1_next 1 = .ok (.getfield 9, 3) := by decide +kernel
theorem dX1_next_4 : decode cX1_next 4 = .ok (.iload_n 1, 1) := by decide +kernel
theorem dX1_next_5 : decode cX1_next 5 = .ok (.bipush 10, 2) := by decide +kernel
theorem dX1_next_7 : decode cX1_next 7 = .ok (.imul, 1) := by decide +kernel
theorem dX1_next_8 : decode cX1_next 8 = .ok (.iload_n 2, 1) := by decide +kernel
theorem dX1_next_9 : decode cX1_next 9 = .ok (.iadd, 1) := by decide +kernel
theorem dX1_next_10 : decode cX1_next 10 = .ok (.iaload, 1) := by decide +kernel
theorem dX1_next_11 : decode cX1_next 11 = .ok (.aload_n 0, 1) := by decide +kernel
theorem dX1_next_12 : decode cX1_next 12 = .ok (.getfield 15, 3) := by decide +kernel
theorem dX1_next_15 : decode cX1_next 15 = .ok (.iload_n 1, 1) := by decide +kernel
theorem dX1_next_16 : decode cX1_next 16 = .ok (.iaload, 1) := by decide +kernel
theorem dX1_next_17 : decode cX1_next 17 = .ok (.iand, 1) := by decide +kernel
theorem dX1_next_18 : decode cX1_next 18 = .ok (.aload_n 0, 1) := by decide +kernel
theorem dX1_next_19 : decode cX1_next 19 = .ok (.getfield 18, 3) := by decide +kernel
theorem dX1_next_22 : decode cX1_next 22 = .ok (.iload_n 1, 1) := by decide +kernel
theorem dX1_next_23 : decode cX1_next 23 = .ok (.iconst 1, 1) := by decide +kernel
theorem dX1_next_24 : decode cX1_next 24 = .ok (.iadd, 1) := by decide +kernel
theorem dX1_next_25 : decode cX1_next 25 = .ok (.iaload, 1) := by decide +kernel
theorem dX1_next_26 : decode cX1_next 26 = .ok (.iand, 1) := by decide +kernel
theorem dX1_next_27 : decode cX1_next 27 = .ok (.ireturn, 1) := by decide +kernel
theorem w_2_96 : (Cond.fieldLink RX1 9 "SameKeeper$Graph" "leads" "[I") ∈ wsL_law := sk_mem (ck_2 _ (List.mem_of_getElem? (i := 96) rfl)) rfl
theorem w_2_97 : (Cond.fieldLink RX1 15 "SameKeeper$Graph" "allowed" "[I") ∈ wsL_law := sk_mem (ck_2 _ (List.mem_of_getElem? (i := 97) rfl)) rfl
theorem w_2_98 : (Cond.fieldLink RX1 18 "SameKeeper$Graph" "live" "[I") ∈ wsL_law := sk_mem (ck_2 _ (List.mem_of_getElem? (i := 98) rfl)) rfl
theorem w_4_60 : (Cond.code yX1_next cX1_next 3 (some .int)) ∈ wsL_law := sk_mem (ck_4 _ (List.mem_of_getElem? (i := 60) rfl)) rfl
set_option maxHeartbeats 4000000 in
set_option maxRecDepth 100000 in
theorem c_next (l : Launch) (D : va_G) (cI cJ cC cZ cS : ClassId) (q : Nat → Nat) (gd : Nat) (gs : Nat) (e1 : Nat → Int32) (e2 : Nat → Int32) (e3 : Nat → Int32) (d : Nat) (ah : Nat) (hd : d < 9) (hah : ah < 10) : skM l yX1_next cX1_next 3 (some .int) 0 0 0 0 D (skT cI cJ cC cZ cS) [.ref (q 11), .int (nI d), .int (nI ah)] [(q 11, .inr (1, [.ref (q 10), .ref (q 67), .ref (q 68), .ref (q 69), .ref (q 70), .ref (q 71), .ref (q 72), .int (nI gd), .int (nI gs)])), (q 67, .inl (cI, 90, .inl e1)), (q 68, .inl (cI, 9, .inl e2)), (q 69, .inl (cI, 10, .inl e3))] (skI D (skT cI cJ cC cZ cS) (fun (r : Int32) (u : va_W) => u = [(q 11, .inr (1, [.ref (q 10), .ref (q 67), .ref (q 68), .ref (q 69), .ref (q 70), .ref (q 71), .ref (q 72), .int (nI gd), .int (nI gs)])), (q 67, .inl (cI, 90, .inl e1)), (q 68, .inl (cI, 9, .inl e2)), (q 69, .inl (cI, 10, .inl e3))])) := by
  refine skM_of (by decide +kernel) (Nat.le_of_ble_eq_true rfl) ?_
  intro p e s m below meth c A ls E hP hD hl
  obtain ⟨hx, hb, hr, hml, hlocks, hin, hown, hts, hK, hA⟩ := E
  have hown : s.vm.findClass RX1 = some m.cls := hown
  have hS : va_S A s.heap s.heap [] := va_S.rf
  have hl : lv_has ls 3 [(0, .ref (q 11)), (1, .int (nI d)), (2, .int (nI ah))] := hl
  refine lv_aload_n hx hb dX1_next_0 rfl (lv_at hl 0 rfl) ?_
  refine sk_get (v := .ref (q 67)) (C := RX1) (T := TX1) (N := 9) hx hb hts inlX1 hown hK hP 0 rfl rfl 1 (by decide) w_2_96 rfl dX1_next_1 ?_
  refine lv_iload_n hx hb dX1_next_4 rfl (lv_at hl 1 rfl) ?_
  refine lv_bipush (v := 10) hx hb dX1_next_5 (by decide) ?_
  refine lv_imul hx hb dX1_next_7 ?_
  refine sk_top (nI (d * 10)) (nmul d 10) ?_
  refine lv_iload_n hx hb dX1_next_8 rfl (lv_at hl 2 rfl) ?_
  refine lv_iadd hx hb dX1_next_9 ?_
  refine sk_top (nI (d * 10 + ah)) (nI_add (d * 10) ah) ?_
  refine va_iald hx hb hK.1 hP 1 0 rfl rfl (vin (d * 10 + ah) 90 (by omega) (by omega)) dX1_next_10 ?_
  refine lv_topi (fun v_1 ev_1 => ?_)
  refine lv_aload_n hx hb dX1_next_11 rfl (lv_at hl 0 rfl) ?_
  refine sk_get (v := .ref (q 68)) (C := RX1) (T := TX1) (N := 9) hx hb hts inlX1 hown hK hP 0 rfl rfl 2 (by decide) w_2_97 rfl dX1_next_12 ?_
  refine lv_iload_n hx hb dX1_next_15 rfl (lv_at hl 1 rfl) ?_
  refine va_iald hx hb hK.1 hP 2 0 rfl rfl (vin d 9 (by omega) (by omega)) dX1_next_16 ?_
  refine lv_topi (fun v_2 ev_2 => ?_)
  refine lv_iand hx hb dX1_next_17 ?_
  refine lv_topi (fun v_3 ev_3 => ?_)
  refine lv_aload_n hx hb dX1_next_18 rfl (lv_at hl 0 rfl) ?_
  refine sk_get (v := .ref (q 69)) (C := RX1) (T := TX1) (N := 9) hx hb hts inlX1 hown hK hP 0 rfl rfl 3 (by decide) w_2_98 rfl dX1_next_19 ?_
  refine lv_iload_n hx hb dX1_next_22 rfl (lv_at hl 1 rfl) ?_
  refine lv_iconst (v := 1) hx hb dX1_next_23 (by decide) ?_
  refine lv_iadd hx hb dX1_next_24 ?_
  refine sk_top (nI (d + 1)) (nI_add d 1) ?_
  refine va_iald hx hb hK.1 hP 3 0 rfl rfl (vin (d + 1) 10 (by omega) (by omega)) dX1_next_25 ?_
  refine lv_topi (fun v_4 ev_4 => ?_)
  refine lv_iand hx hb dX1_next_26 ?_
  refine lv_topi (fun v_5 ev_5 => ?_)
  exact sk_iret hx hb hr rfl hlocks hK hP hD hS rfl (Nat.le_of_ble_eq_true rfl) (Nat.le_of_ble_eq_true rfl) dX1_next_27
theorem dX1_allowOnly_0 : decode cX1_allowOnly 0 = .ok (.aload_n 0, 1) := by decide +kernel
theorem dX1_allowOnly_1 : decode cX1_allowOnly 1 = .ok (.getfield 15, 3) := by decide +kernel
theorem dX1_allowOnly_4 : decode cX1_allowOnly 4 = .ok (.iload_n 1, 1) := by decide +kernel
theorem dX1_allowOnly_5 : decode cX1_allowOnly 5 = .ok (.dup2, 1) := by decide +kernel
theorem dX1_allowOnly_6 : decode cX1_allowOnly 6 = .ok (.iaload, 1) := by decide +kernel
theorem dX1_allowOnly_7 : decode cX1_allowOnly 7 = .ok (.iload_n 2, 1) := by decide +kernel
theorem dX1_allowOnly_8 : decode cX1_allowOnly 8 = .ok (.iand, 1) := by decide +kernel
theorem dX1_allowOnly_9 : decode cX1_allowOnly 9 = .ok (.iastore, 1) := by decide +kernel
theorem dX1_allowOnly_10 : decode cX1_allowOnly 10 = .ok (.return_, 1) := by decide +kernel
theorem w_4_201 : (Cond.code yX1_allowOnly cX1_allowOnly 3 none) ∈ wsL_law := sk_mem (ck_4 _ (List.mem_of_getElem? (i := 201) rfl)) rfl
set_option maxHeartbeats 4000000 in
set_option maxRecDepth 100000 in
theorem c_allowOnly (l : Launch) (D : va_G) (cI cJ cC cZ cS : ClassId) (q : Nat → Nat) (gd : Nat) (gs : Nat) (e2 : Nat → Int32) (d : Nat) (o : Int32) (hd : d < 9) : skM l yX1_allowOnly cX1_allowOnly 3 none 0 0 0 0 D (skT cI cJ cC cZ cS) [.ref (q 11), .int (nI d), .int o] [(q 11, .inr (1, [.ref (q 10), .ref (q 67), .ref (q 68), .ref (q 69), .ref (q 70), .ref (q 71), .ref (q 72), .int (nI gd), .int (nI gs)])), (q 68, .inl (cI, 9, .inl e2))] (skV D (skT cI cJ cC cZ cS) (fun (u : va_W) => ∃ (g2 : Nat → Int32), u = [(q 11, .inr (1, [.ref (q 10), .ref (q 67), .ref (q 68), .ref (q 69), .ref (q 70), .ref (q 71), .ref (q 72), .int (nI gd), .int (nI gs)])), (q 68, .inl (cI, 9, .inl g2))])) := by
  refine skM_of (by decide +kernel) (Nat.le_of_ble_eq_true rfl) ?_
  intro p e s m below meth c A ls E hP hD hl
  obtain ⟨hx, hb, hr, hml, hlocks, hin, hown, hts, hK, hA⟩ := E
  have hown : s.vm.findClass RX1 = some m.cls := hown
  have hS : va_S A s.heap s.heap [] := va_S.rf
  have hl : lv_has ls 3 [(0, .ref (q 11)), (1, .int (nI d)), (2, .int o)] := hl
  refine lv_aload_n hx hb dX1_allowOnly_0 rfl (lv_at hl 0 rfl) ?_
  refine sk_get (v := .ref (q 68)) (C := RX1) (T := TX1) (N := 9) hx hb hts inlX1 hown hK hP 0 rfl rfl 2 (by decide) w_2_97 rfl dX1_allowOnly_1 ?_
  refine lv_iload_n hx hb dX1_allowOnly_4 rfl (lv_at hl 1 rfl) ?_
  refine lv_dup2_11 hx hb dX1_allowOnly_5 rfl rfl ?_
  refine va_iald hx hb hK.1 hP 1 0 rfl rfl (vin d 9 (by omega) (by omega)) dX1_allowOnly_6 ?_
  refine lv_topi (fun v_1 ev_1 => ?_)
  refine lv_iload_n hx hb dX1_allowOnly_7 rfl (lv_at hl 2 rfl) ?_
  refine lv_iand hx hb dX1_allowOnly_8 ?_
  refine lv_topi (fun v_2 ev_2 => ?_)
  refine sk_iastO (ws' := fun f_3 => [(q 11, .inr (1, [.ref (q 10), .ref (q 67), .ref (q 68), .ref (q 69), .ref (q 70), .ref (q 71), .ref (q 72), .int (nI gd), .int (nI gs)])), (q 68, .inl (cI, 9, .inl f_3))]) hx hb hK hP hD hS 1 0 rfl rfl (vin d 9 (by omega) (by omega)) (fun _ => rfl) dX1_allowOnly_9 (fun f_3 H locs hP hD hS => ?_)
  exact sk_vret hx hb hr hlocks hK hP hD hS (⟨f_3, rfl⟩) (Nat.le_of_ble_eq_true rfl) (Nat.le_of_ble_eq_true rfl) dX1_allowOnly_10
theorem dX1_lay_0 : decode cX1_lay 0 = .ok (.aload_n 0, 1) := by decide +kernel
theorem dX1_lay_1 : decode cX1_lay 1 = .ok (.aload_n 1, 1) := by decide +kernel
theorem dX1_lay_2 : decode cX1_lay 2 = .ok (.getfield 42, 3) := by decide +kernel
theorem dX1_lay_5 : decode cX1_lay 5 = .ok (.putfield 31, 3) := by decide +kernel
theorem dX1_lay_8 : decode cX1_lay 8 = .ok (.aload_n 0, 1) := by decide +kernel
theorem dX1_lay_9 : decode cX1_lay 9 = .ok (.aload_n 1, 1) := by decide +kernel
theorem dX1_lay_10 : decode cX1_lay 10 = .ok (.getfield 45, 3) := by decide +kernel
theorem dX1_lay_13 : decode cX1_lay 13 = .ok (.putfield 35, 3) := by decide +kernel
theorem dX1_lay_16 : decode cX1_lay 16 = .ok (.aload_n 0, 1) := by decide +kernel
theorem dX1_lay_17 : decode cX1_lay 17 = .ok (.getfield 15, 3) := by decide +kernel
theorem dX1_lay_20 : decode cX1_lay 20 = .ok (.sipush 1023, 3) := by decide +kernel
theorem dX1_lay_23 : decode cX1_lay 23 = .ok (.invokestatic 48, 3) := by decide +kernel
theorem dX1_lay_26 : decode cX1_lay 26 = .ok (.iconst 0, 1) := by decide +kernel
theorem dX1_lay_27 : decode cX1_lay 27 = .ok (.istore 4, 2) := by decide +kernel
theorem dX1_lay_29 : decode cX1_lay 29 = .ok (.iload 4, 2) := by decide +kernel
theorem dX1_lay_31 : decode cX1_lay 31 = .ok (.aload_n 0, 1) := by decide +kernel
theorem dX1_lay_32 : decode cX1_lay 32 = .ok (.getfield 31, 3) := by decide +kernel
theorem dX1_lay_35 : decode cX1_lay 35 = .ok (.if_icmp .ge 115, 3) := by decide +kernel
theorem dX1_lay_150 : decode cX1_lay 150 = .ok (.return_, 1) := by decide +kernel
theorem dX1_lay_53 : decode cX1_lay 53 = .ok (.istore 5, 2) := by decide +kernel
theorem dX1_lay_55 : decode cX1_lay 55 = .ok (.iconst 0, 1) := by decide +kernel
theorem dX1_lay_56 : decode cX1_lay 56 = .ok (.istore 6, 2) := by decide +kernel
theorem dX1_lay_58 : decode cX1_lay 58 = .ok (.iload 6, 2) := by decide +kernel
theorem dX1_lay_60 : decode cX1_lay 60 = .ok (.bipush 10, 2) := by decide +kernel
theorem dX1_lay_62 : decode cX1_lay 62 = .ok (.if_icmp .ge 82, 3) := by decide +kernel
theorem dX1_lay_144 : decode cX1_lay 144 = .ok (.iinc 4 1, 3) := by decide +kernel
theorem dX1_lay_147 : decode cX1_lay 147 = .ok (.goto (-118), 3) := by decide +kernel
theorem dX1_lay_65 : decode cX1_lay 65 = .ok (.iload 4, 2) := by decide +kernel
theorem dX1_lay_67 : decode cX1_lay 67 = .ok (.bipush 10, 2) := by decide +kernel
theorem dX1_lay_69 : decode cX1_lay 69 = .ok (.imul, 1) := by decide +kernel
theorem dX1_lay_70 : decode cX1_lay 70 = .ok (.iload 6, 2) := by decide +kernel
theorem dX1_lay_72 : decode cX1_lay 72 = .ok (.iadd, 1) := by decide +kernel
theorem dX1_lay_73 : decode cX1_lay 73 = .ok (.istore 7, 2) := by decide +kernel
theorem dX1_lay_75 : decode cX1_lay 75 = .ok (.iload 5, 2) := by decide +kernel
theorem dX1_lay_77 : decode cX1_lay 77 = .ok (.ifCond .eq 25, 3) := by decide +kernel
theorem dX1_lay_102 : decode cX1_lay 102 = .ok (.aload_n 0, 1) := by decide +kernel
theorem dX1_lay_103 : decode cX1_lay 103 = .ok (.getfield 9, 3) := by decide +kernel
theorem dX1_lay_106 : decode cX1_lay 106 = .ok (.iload 7, 2) := by decide +kernel
theorem dX1_lay_108 : decode cX1_lay 108 = .ok (.iload_n 3, 1) := by decide +kernel
theorem dX1_lay_109 : decode cX1_lay 109 = .ok (.ifCond .ne 16, 3) := by decide +kernel
theorem dX1_lay_125 : decode cX1_lay 125 = .ok (.aload_n 0, 1) := by decide +kernel
theorem dX1_lay_126 : decode cX1_lay 126 = .ok (.getfield 38, 3) := by decide +kernel
theorem dX1_lay_129 : decode cX1_lay 129 = .ok (.iload 4, 2) := by decide +kernel
theorem dX1_lay_131 : decode cX1_lay 131 = .ok (.iload 6, 2) := by decide +kernel
theorem dX1_lay_133 : decode cX1_lay 133 = .ok (.iload_n 3, 1) := by decide +kernel
theorem dX1_lay_134 : decode cX1_lay 134 = .ok (.invokevirtual 62, 3) := by decide +kernel
theorem dX1_lay_137 : decode cX1_lay 137 = .ok (.iastore, 1) := by decide +kernel
theorem dX1_lay_138 : decode cX1_lay 138 = .ok (.iinc 6 1, 3) := by decide +kernel
theorem dX1_lay_141 : decode cX1_lay 141 = .ok (.goto (-83), 3) := by decide +kernel
theorem dX1_lay_112 : decode cX1_lay 112 = .ok (.aload_n 0, 1) := by decide +kernel
theorem dX1_lay_113 : decode cX1_lay 113 = .ok (.getfield 38, 3) := by decide +kernel
theorem dX1_lay_116 : decode cX1_lay 116 = .ok (.getfield 59, 3) := by decide +kernel
theorem dX1_lay_119 : decode cX1_lay 119 = .ok (.iload 7, 2) := by decide +kernel
theorem dX1_lay_121 : decode cX1_lay 121 = .ok (.iaload, 1) := by decide +kernel
theorem dX1_lay_122 : decode cX1_lay 122 = .ok (.goto 15, 3) := by decide +kernel
theorem dX1_lay_80 : decode cX1_lay 80 = .ok (.aload_n 0, 1) := by decide +kernel
theorem dX1_lay_81 : decode cX1_lay 81 = .ok (.getfield 9, 3) := by decide +kernel
theorem dX1_lay_84 : decode cX1_lay 84 = .ok (.iload 7, 2) := by decide +kernel
theorem dX1_lay_86 : decode cX1_lay 86 = .ok (.iconst 1, 1) := by decide +kernel
theorem dX1_lay_87 : decode cX1_lay 87 = .ok (.aload_n 0, 1) := by decide +kernel
theorem dX1_lay_88 : decode cX1_lay 88 = .ok (.getfield 38, 3) := by decide +kernel
theorem dX1_lay_91 : decode cX1_lay 91 = .ok (.getfield 54, 3) := by decide +kernel
theorem dX1_lay_94 : decode cX1_lay 94 = .ok (.iload 7, 2) := by decide +kernel
theorem dX1_lay_96 : decode cX1_lay 96 = .ok (.iaload, 1) := by decide +kernel
theorem dX1_lay_97 : decode cX1_lay 97 = .ok (.ishl, 1) := by decide +kernel
theorem dX1_lay_98 : decode cX1_lay 98 = .ok (.iastore, 1) := by decide +kernel
theorem dX1_lay_99 : decode cX1_lay 99 = .ok (.goto 39, 3) := by decide +kernel
theorem dX1_lay_38 : decode cX1_lay 38 = .ok (.iload_n 2, 1) := by decide +kernel
theorem dX1_lay_39 : decode cX1_lay 39 = .ok (.iload 4, 2) := by decide +kernel
theorem dX1_lay_41 : decode cX1_lay 41 = .ok (.ishr, 1) := by decide +kernel
theorem dX1_lay_42 : decode cX1_lay 42 = .ok (.iconst 1, 1) := by decide +kernel
theorem dX1_lay_43 : decode cX1_lay 43 = .ok (.iand, 1) := by decide +kernel
theorem dX1_lay_44 : decode cX1_lay 44 = .ok (.iconst 1, 1) := by decide +kernel
theorem dX1_lay_45 : decode cX1_lay 45 = .ok (.if_icmp .ne 7, 3) := by decide +kernel
theorem dX1_lay_52 : decode cX1_lay 52 = .ok (.iconst 0, 1) := by decide +kernel
theorem dX1_lay_48 : decode cX1_lay 48 = .ok (.iconst 1, 1) := by decide +kernel
theorem dX1_lay_49 : decode cX1_lay 49 = .ok (.goto 4, 3) := by decide +kernel
theorem w_1_239 : (Cond.fieldLink RX1 42 "SameKeeper$State" "days" "I") ∈ wsL_law := sk_mem (ck_1 _ (List.mem_of_getElem? (i := 239) rfl)) rfl
theorem w_2_102 : (Cond.fieldLink RX1 31 "SameKeeper$Graph" "days" "I") ∈ wsL_law := sk_mem (ck_2 _ (List.mem_of_getElem? (i := 102) rfl)) rfl
theorem w_2_9 : (Cond.fieldLink RX1 45 "SameKeeper$State" "mood" "I") ∈ wsL_law := sk_mem (ck_2 _ (List.mem_of_getElem? (i := 9) rfl)) rfl
theorem w_2_103 : (Cond.fieldLink RX1 35 "SameKeeper$Graph" "start" "I") ∈ wsL_law := sk_mem (ck_2 _ (List.mem_of_getElem? (i := 103) rfl)) rfl
theorem w_4_51 : (Cond.methodLink RX1 48 yJ7_fill_53178) ∈ wsL_law := sk_mem (ck_4 _ (List.mem_of_getElem? (i := 51) rfl)) rfl
theorem w_2_95 : (Cond.fieldLink RX1 38 "SameKeeper$Graph" "table" "LSameKeeper$Table;") ∈ wsL_law := sk_mem (ck_2 _ (List.mem_of_getElem? (i := 95) rfl)) rfl
theorem w_4_52 : (Cond.methodLink RX1 62 yX9_moodsBehind) ∈ wsL_law := sk_mem (ck_4 _ (List.mem_of_getElem? (i := 52) rfl)) rfl
theorem w_2_71 : (Cond.fieldLink RX1 59 "SameKeeper$Table" "open" "[I") ∈ wsL_law := sk_mem (ck_2 _ (List.mem_of_getElem? (i := 71) rfl)) rfl
theorem w_2_68 : (Cond.fieldLink RX1 54 "SameKeeper$Table" "alone" "[I") ∈ wsL_law := sk_mem (ck_2 _ (List.mem_of_getElem? (i := 68) rfl)) rfl
theorem w_4_50 : (Cond.code yX1_lay cX1_lay 8 none) ∈ wsL_law := sk_mem (ck_4 _ (List.mem_of_getElem? (i := 50) rfl)) rfl
set_option maxHeartbeats 4000000 in
set_option maxRecDepth 100000 in
theorem c_lay (l : Launch) (D : va_G) (cI cJ cC cZ cS : ClassId) (q : Nat → Nat) (gd : Nat) (gs : Nat) (e1 : Nat → Int32) (e2 : Nat → Int32) (sa : Nat → Nat) (ft : Nat → Int32) (fa : Nat → Int32) (fo : Nat → Int32) (o0 : Nat) (o1 : Nat) (o2 : Nat) (dy : Nat) (mo : Nat) (wk : Int32) (mu : Int32) (ke : Int32) (fb : Nat → Int32) (fw : Nat → Int32) (li : Nat) (o : Int32) (hsa : ∀ j, sa j ≤ 9) (hdy : dy ≤ 9) (hmo : mo ≤ 9) (hli : li < 10) : skM l yX1_lay cX1_lay 8 none 1 26 0 0 D (skT cI cJ cC cZ cS) [.ref (q 11), .ref o0, .int o, .int (nI li)] [(q 11, .inr (1, [.ref (q 10), .ref (q 67), .ref (q 68), .ref (q 69), .ref (q 70), .ref (q 71), .ref (q 72), .int (nI gd), .int (nI gs)])), (q 67, .inl (cI, 90, .inl e1)), (q 68, .inl (cI, 9, .inl e2)), (q 10, .inr (9, [.ref (q 61), .ref (q 62), .ref (q 63), .ref (q 64), .ref (q 65), .ref (q 66)])), (q 61, .inl (cI, 90, .inl (fun j => nI (sa j)))), (q 62, .inl (cI, 900, .inl ft)), (q 63, .inl (cI, 90, .inl fa)), (q 64, .inl (cI, 90, .inl fo)), (o0, .inr (7, [.ref o1, .ref o2, .int (nI dy), .int wk, .int (nI mo), .int mu, .int ke]))] (skV D (skT cI cJ cC cZ cS) (fun (u : va_W) => ∃ (g1 : Nat → Int32), ∃ (g2 : Nat → Int32), u = [(q 11, .inr (1, [.ref (q 10), .ref (q 67), .ref (q 68), .ref (q 69), .ref (q 70), .ref (q 71), .ref (q 72), .int (nI dy), .int (nI mo)])), (q 67, .inl (cI, 90, .inl g1)), (q 68, .inl (cI, 9, .inl g2)), (q 10, .inr (9, [.ref (q 61), .ref (q 62), .ref (q 63), .ref (q 64), .ref (q 65), .ref (q 66)])), (q 61, .inl (cI, 90, .inl (fun j => nI (sa j)))), (q 62, .inl (cI, 900, .inl ft)), (q 63, .inl (cI, 90, .inl fa)), (q 64, .inl (cI, 90, .inl fo)), (o0, .inr (7, [.ref o1, .ref o2, .int (nI dy), .int wk, .int (nI mo), .int mu, .int ke]))])) := by
  refine skM_of (by decide +kernel) (Nat.le_of_ble_eq_true rfl) ?_
  intro p e s m below meth c A ls E hP hD hl
  obtain ⟨hx, hb, hr, hml, hlocks, hin, hown, hts, hK, hA⟩ := E
  have hown : s.vm.findClass RX1 = some m.cls := hown
  have hS : va_S A s.heap s.heap [] := va_S.rf
  have hl : lv_has ls 8 [(0, .ref (q 11)), (1, .ref o0), (2, .int o), (3, .int (nI li))] := hl
  refine lv_aload_n hx hb dX1_lay_0 rfl (lv_at hl 0 rfl) ?_
  refine lv_aload_n hx hb dX1_lay_1 rfl (lv_at hl 1 rfl) ?_
  refine sk_get (v := .int (nI dy)) (C := RX7) (T := TX7) (N := 7) hx hb hts inlX7 hown hK hP 8 rfl rfl 2 (by decide) w_1_239 rfl dX1_lay_2 ?_
  refine sk_put (ws' := [(q 11, .inr (1, [.ref (q 10), .ref (q 67), .ref (q 68), .ref (q 69), .ref (q 70), .ref (q 71), .ref (q 72), .int (nI dy), .int (nI gs)])), (q 67, .inl (cI, 90, .inl e1)), (q 68, .inl (cI, 9, .inl e2)), (q 10, .inr (9, [.ref (q 61), .ref (q 62), .ref (q 63), .ref (q 64), .ref (q 65), .ref (q 66)])), (q 61, .inl (cI, 90, .inl (fun j => nI (sa j)))), (q 62, .inl (cI, 900, .inl ft)), (q 63, .inl (cI, 90, .inl fa)), (q 64, .inl (cI, 90, .inl fo)), (o0, .inr (7, [.ref o1, .ref o2, .int (nI dy), .int wk, .int (nI mo), .int mu, .int ke]))]) (C := RX1) (T := TX1) (N := 9) (v := .int (nI dy)) hx hb hts inlX1 tyX1 tyX1_ok nmX1 hown hK hP hD hS 0 rfl rfl 7 (by decide) w_2_102 rfl rfl rfl (Nat.le_of_ble_eq_true rfl) rfl dX1_lay_5 (fun H locs hP hD hS => ?_)
  refine lv_aload_n hx hb dX1_lay_8 rfl (lv_at hl 0 rfl) ?_
  refine lv_aload_n hx hb dX1_lay_9 rfl (lv_at hl 1 rfl) ?_
  refine sk_get (v := .int (nI mo)) (C := RX7) (T := TX7) (N := 7) hx hb hts inlX7 hown hK hP 8 rfl rfl 4 (by decide) w_2_9 rfl dX1_lay_10 ?_
  refine sk_put (ws' := [(q 11, .inr (1, [.ref (q 10), .ref (q 67), .ref (q 68), .ref (q 69), .ref (q 70), .ref (q 71), .ref (q 72), .int (nI dy), .int (nI mo)])), (q 67, .inl (cI, 90, .inl e1)), (q 68, .inl (cI, 9, .inl e2)), (q 10, .inr (9, [.ref (q 61), .ref (q 62), .ref (q 63), .ref (q 64), .ref (q 65), .ref (q 66)])), (q 61, .inl (cI, 90, .inl (fun j => nI (sa j)))), (q 62, .inl (cI, 900, .inl ft)), (q 63, .inl (cI, 90, .inl fa)), (q 64, .inl (cI, 90, .inl fo)), (o0, .inr (7, [.ref o1, .ref o2, .int (nI dy), .int wk, .int (nI mo), .int mu, .int ke]))]) (C := RX1) (T := TX1) (N := 9) (v := .int (nI mo)) hx hb hts inlX1 tyX1 tyX1_ok nmX1 hown hK hP hD hS 0 rfl rfl 8 (by decide) w_2_103 rfl rfl rfl (Nat.le_of_ble_eq_true rfl) rfl dX1_lay_13 (fun H locs hP hD hS => ?_)
  refine lv_aload_n hx hb dX1_lay_16 rfl (lv_at hl 0 rfl) ?_
  refine sk_get (v := .ref (q 68)) (C := RX1) (T := TX1) (N := 9) hx hb hts inlX1 hown hK hP 0 rfl rfl 2 (by decide) w_2_97 rfl dX1_lay_17 ?_
  refine lv_sipush (v := 1023) hx hb dX1_lay_20 (by decide) ?_
  refine sk_Sv (n := 2) (rest := []) (wr := [(q 11, .inr (1, [.ref (q 10), .ref (q 67), .ref (q 68), .ref (q 69), .ref (q 70), .ref (q 71), .ref (q 72), .int (nI dy), .int (nI mo)])), (q 67, .inl (cI, 90, .inl e1)), (q 10, .inr (9, [.ref (q 61), .ref (q 62), .ref (q 63), .ref (q 64), .ref (q 65), .ref (q 66)])), (q 61, .inl (cI, 90, .inl (fun j => nI (sa j)))), (q 62, .inl (cI, 900, .inl ft)), (q 63, .inl (cI, 90, .inl fa)), (q 64, .inl (cI, 90, .inl fo)), (o0, .inr (7, [.ref o1, .ref o2, .int (nI dy), .int wk, .int (nI mo), .int mu, .int ke]))]) ⟨hx, hb, hml, hown, hts⟩ hl.1 (c_fill l D cI cJ cC cZ cS (q 68) 9 e2 1023 (by omega)) w_4_51 w_2_219 w_1_15 w_2_220 (by decide +kernel) ⟨⟨(Nat.le_of_ble_eq_true rfl), (Nat.le_of_ble_eq_true rfl)⟩, (Nat.le_of_ble_eq_true rfl), (Nat.le_of_ble_eq_true rfl)⟩ hK hP hD hS hA [2] [0, 1, 3, 4, 5, 6, 7, 8] rfl rfl (by decide +kernel) (by decide +kernel) (by decide +kernel) rfl rfl (Nat.le_of_ble_eq_true rfl) dX1_lay_23 (fun u H locs hw hP hD hS => ?_)
  obtain ⟨g_1, rfl⟩ := hw
  have hP : va_P D vwCl [(q 11, .inr (1, [.ref (q 10), .ref (q 67), .ref (q 68), .ref (q 69), .ref (q 70), .ref (q 71), .ref (q 72), .int (nI dy), .int (nI mo)])), (q 67, .inl (cI, 90, .inl e1)), (q 10, .inr (9, [.ref (q 61), .ref (q 62), .ref (q 63), .ref (q 64), .ref (q 65), .ref (q 66)])), (q 61, .inl (cI, 90, .inl (fun j => nI (sa j)))), (q 62, .inl (cI, 900, .inl ft)), (q 63, .inl (cI, 90, .inl fa)), (q 64, .inl (cI, 90, .inl fo)), (o0, .inr (7, [.ref o1, .ref o2, .int (nI dy), .int wk, .int (nI mo), .int mu, .int ke])), (q 68, .inl (cI, 9, .inl g_1))] H := hP
  have hD : va_D A [(q 11, .inr (1, [.ref (q 10), .ref (q 67), .ref (q 68), .ref (q 69), .ref (q 70), .ref (q 71), .ref (q 72), .int (nI dy), .int (nI mo)])), (q 67, .inl (cI, 90, .inl e1)), (q 10, .inr (9, [.ref (q 61), .ref (q 62), .ref (q 63), .ref (q 64), .ref (q 65), .ref (q 66)])), (q 61, .inl (cI, 90, .inl (fun j => nI (sa j)))), (q 62, .inl (cI, 900, .inl ft)), (q 63, .inl (cI, 90, .inl fa)), (q 64, .inl (cI, 90, .inl fo)), (o0, .inr (7, [.ref o1, .ref o2, .int (nI dy), .int wk, .int (nI mo), .int mu, .int ke])), (q 68, .inl (cI, 9, .inl g_1))] := hD
  refine lv_iconst (v := 0) hx hb dX1_lay_26 (by decide) ?_
  refine lv_istore (lv' := [(4, .int 0), (0, .ref (q 11)), (1, .ref o0), (2, .int o), (3, .int (nI li))]) hx hb dX1_lay_27 hl (by decide) rfl (fun ls hl => ?_)
  have lp_2 : ∀ (n_3 : Nat) (i : Nat) (a1 : Nat → Int32) (H : Heap) (locs : List Loc) (ls : Array Slot), dy - i < n_3 → (i ≤ dy) → va_P D vwCl [(q 11, .inr (1, [.ref (q 10), .ref (q 67), .ref (q 68), .ref (q 69), .ref (q 70), .ref (q 71), .ref (q 72), .int (nI dy), .int (nI mo)])), (q 67, .inl (cI, 90, .inl a1)), (q 10, .inr (9, [.ref (q 61), .ref (q 62), .ref (q 63), .ref (q 64), .ref (q 65), .ref (q 66)])), (q 61, .inl (cI, 90, .inl (fun j => nI (sa j)))), (q 62, .inl (cI, 900, .inl ft)), (q 63, .inl (cI, 90, .inl fa)), (q 64, .inl (cI, 90, .inl fo)), (o0, .inr (7, [.ref o1, .ref o2, .int (nI dy), .int wk, .int (nI mo), .int mu, .int ke])), (q 68, .inl (cI, 9, .inl g_1))] H → va_D A [(q 11, .inr (1, [.ref (q 10), .ref (q 67), .ref (q 68), .ref (q 69), .ref (q 70), .ref (q 71), .ref (q 72), .int (nI dy), .int (nI mo)])), (q 67, .inl (cI, 90, .inl a1)), (q 10, .inr (9, [.ref (q 61), .ref (q 62), .ref (q 63), .ref (q 64), .ref (q 65), .ref (q 66)])), (q 61, .inl (cI, 90, .inl (fun j => nI (sa j)))), (q 62, .inl (cI, 900, .inl ft)), (q 63, .inl (cI, 90, .inl fa)), (q 64, .inl (cI, 90, .inl fo)), (o0, .inr (7, [.ref o1, .ref o2, .int (nI dy), .int wk, .int (nI mo), .int mu, .int ke])), (q 68, .inl (cI, 9, .inl g_1))] → va_S A s.heap H locs → lv_has ls 8 [(4, .int (nI i)), (0, .ref (q 11)), (1, .ref o0), (2, .int o), (3, .int (nI li))] → W p l e { frames := 1, cells := 0, slots := 0, locals := 26 } s m ([.ref (q 11), .ref o0, .int o, .int (nI li)] : List Value).toArray below meth c H locs 0 0 (MQ below (skV D (skT cI cJ cC cZ cS) (fun (u : va_W) => ∃ (g1 : Nat → Int32), ∃ (g2 : Nat → Int32), u = [(q 11, .inr (1, [.ref (q 10), .ref (q 67), .ref (q 68), .ref (q 69), .ref (q 70), .ref (q 71), .ref (q 72), .int (nI dy), .int (nI mo)])), (q 67, .inl (cI, 90, .inl g1)), (q 68, .inl (cI, 9, .inl g2)), (q 10, .inr (9, [.ref (q 61), .ref (q 62), .ref (q 63), .ref (q 64), .ref (q 65), .ref (q 66)])), (q 61, .inl (cI, 90, .inl (fun j => nI (sa j)))), (q 62, .inl (cI, 900, .inl ft)), (q 63, .inl (cI, 90, .inl fa)), (q 64, .inl (cI, 90, .inl fo)), (o0, .inr (7, [.ref o1, .ref o2, .int (nI dy), .int wk, .int (nI mo), .int mu, .int ke]))]) A) ([.ref (q 11), .ref o0, .int o, .int (nI li)] : List Value).toArray s 0 0 A) (F0 m 29 ls []) := by
    intro n_3
    induction n_3 with
    | zero => intro i a1 H locs ls hm; exact absurd hm (Nat.not_lt_zero _)
    | succ n_3 ih_lp_2 =>
      intro i a1 H locs ls hm hi hP hD hS hl
      refine lv_iload hx hb dX1_lay_29 (lv_at hl 0 rfl) ?_
      refine lv_aload_n hx hb dX1_lay_31 rfl (lv_at hl 1 rfl) ?_
      refine sk_get (v := .int (nI dy)) (C := RX1) (T := TX1) (N := 9) hx hb hts inlX1 hown hK hP 0 rfl rfl 7 (by decide) w_2_102 rfl dX1_lay_32 ?_
      refine lv_icmp_ge (tgt := 150) hx hb dX1_lay_35 (by decide) (fun c_4 => ?_) (fun c_4 => ?_)
      · have c_4 : dy ≤ i := (nle dy i (by omega) (by omega)).mp c_4
        have hP := hP.sub (ws' := [(q 11, .inr (1, [.ref (q 10), .ref (q 67), .ref (q 68), .ref (q 69), .ref (q 70), .ref (q 71), .ref (q 72), .int (nI dy), .int (nI mo)])), (q 67, .inl (cI, 90, .inl a1)), (q 68, .inl (cI, 9, .inl g_1)), (q 10, .inr (9, [.ref (q 61), .ref (q 62), .ref (q 63), .ref (q 64), .ref (q 65), .ref (q 66)])), (q 61, .inl (cI, 90, .inl (fun j => nI (sa j)))), (q 62, .inl (cI, 900, .inl ft)), (q 63, .inl (cI, 90, .inl fa)), (q 64, .inl (cI, 90, .inl fo)), (o0, .inr (7, [.ref o1, .ref o2, .int (nI dy), .int wk, .int (nI mo), .int mu, .int ke]))]) [0, 1, 8, 2, 3, 4, 5, 6, 7] rfl
        have hD := hD.sub (ws' := [(q 11, .inr (1, [.ref (q 10), .ref (q 67), .ref (q 68), .ref (q 69), .ref (q 70), .ref (q 71), .ref (q 72), .int (nI dy), .int (nI mo)])), (q 67, .inl (cI, 90, .inl a1)), (q 68, .inl (cI, 9, .inl g_1)), (q 10, .inr (9, [.ref (q 61), .ref (q 62), .ref (q 63), .ref (q 64), .ref (q 65), .ref (q 66)])), (q 61, .inl (cI, 90, .inl (fun j => nI (sa j)))), (q 62, .inl (cI, 900, .inl ft)), (q 63, .inl (cI, 90, .inl fa)), (q 64, .inl (cI, 90, .inl fo)), (o0, .inr (7, [.ref o1, .ref o2, .int (nI dy), .int wk, .int (nI mo), .int mu, .int ke]))]) [0, 1, 8, 2, 3, 4, 5, 6, 7] (by decide +kernel) rfl
        exact sk_vret hx hb hr hlocks hK hP hD hS (⟨a1, g_1, rfl⟩) (Nat.le_of_ble_eq_true rfl) (Nat.le_of_ble_eq_true rfl) dX1_lay_150
      · have c_4 : ¬ (dy ≤ i) := fun h => c_4 ((nle dy i (by omega) (by omega)).mpr h)
        have jn_5 : ∀ (bq : Int32) (H : Heap) (locs : List Loc) (ls : Array Slot), va_P D vwCl [(q 11, .inr (1, [.ref (q 10), .ref (q 67), .ref (q 68), .ref (q 69), .ref (q 70), .ref (q 71), .ref (q 72), .int (nI dy), .int (nI mo)])), (q 67, .inl (cI, 90, .inl a1)), (q 10, .inr (9, [.ref (q 61), .ref (q 62), .ref (q 63), .ref (q 64), .ref (q 65), .ref (q 66)])), (q 61, .inl (cI, 90, .inl (fun j => nI (sa j)))), (q 62, .inl (cI, 900, .inl ft)), (q 63, .inl (cI, 90, .inl fa)), (q 64, .inl (cI, 90, .inl fo)), (o0, .inr (7, [.ref o1, .ref o2, .int (nI dy), .int wk, .int (nI mo), .int mu, .int ke])), (q 68, .inl (cI, 9, .inl g_1))] H → va_D A [(q 11, .inr (1, [.ref (q 10), .ref (q 67), .ref (q 68), .ref (q 69), .ref (q 70), .ref (q 71), .ref (q 72), .int (nI dy), .int (nI mo)])), (q 67, .inl (cI, 90, .inl a1)), (q 10, .inr (9, [.ref (q 61), .ref (q 62), .ref (q 63), .ref (q 64), .ref (q 65), .ref (q 66)])), (q 61, .inl (cI, 90, .inl (fun j => nI (sa j)))), (q 62, .inl (cI, 900, .inl ft)), (q 63, .inl (cI, 90, .inl fa)), (q 64, .inl (cI, 90, .inl fo)), (o0, .inr (7, [.ref o1, .ref o2, .int (nI dy), .int wk, .int (nI mo), .int mu, .int ke])), (q 68, .inl (cI, 9, .inl g_1))] → va_S A s.heap H locs → lv_has ls 8 [(4, .int (nI i)), (0, .ref (q 11)), (1, .ref o0), (2, .int o), (3, .int (nI li))] → W p l e { frames := 1, cells := 0, slots := 0, locals := 26 } s m ([.ref (q 11), .ref o0, .int o, .int (nI li)] : List Value).toArray below meth c H locs 0 0 (MQ below (skV D (skT cI cJ cC cZ cS) (fun (u : va_W) => ∃ (g1 : Nat → Int32), ∃ (g2 : Nat → Int32), u = [(q 11, .inr (1, [.ref (q 10), .ref (q 67), .ref (q 68), .ref (q 69), .ref (q 70), .ref (q 71), .ref (q 72), .int (nI dy), .int (nI mo)])), (q 67, .inl (cI, 90, .inl g1)), (q 68, .inl (cI, 9, .inl g2)), (q 10, .inr (9, [.ref (q 61), .ref (q 62), .ref (q 63), .ref (q 64), .ref (q 65), .ref (q 66)])), (q 61, .inl (cI, 90, .inl (fun j => nI (sa j)))), (q 62, .inl (cI, 900, .inl ft)), (q 63, .inl (cI, 90, .inl fa)), (q 64, .inl (cI, 90, .inl fo)), (o0, .inr (7, [.ref o1, .ref o2, .int (nI dy), .int wk, .int (nI mo), .int mu, .int ke]))]) A) ([.ref (q 11), .ref o0, .int o, .int (nI li)] : List Value).toArray s 0 0 A) (F0 m 53 ls [.int bq]) := by
          intro bq H locs ls  hP hD hS hl
          refine lv_istore (lv' := [(5, .int bq), (4, .int (nI i)), (0, .ref (q 11)), (1, .ref o0), (2, .int o), (3, .int (nI li))]) hx hb dX1_lay_53 hl (by decide) rfl (fun ls hl => ?_)
          refine lv_iconst (v := 0) hx hb dX1_lay_55 (by decide) ?_
          refine lv_istore (lv' := [(6, .int 0), (5, .int bq), (4, .int (nI i)), (0, .ref (q 11)), (1, .ref o0), (2, .int o), (3, .int (nI li))]) hx hb dX1_lay_56 hl (by decide) rfl (fun ls hl => ?_)
          have lp_6 : ∀ (n_7 : Nat) (jj : Nat) (a2 : Nat → Int32) (H : Heap) (locs : List Loc) (ls : Array Slot), 10 - jj < n_7 → (jj ≤ 10) → va_P D vwCl [(q 11, .inr (1, [.ref (q 10), .ref (q 67), .ref (q 68), .ref (q 69), .ref (q 70), .ref (q 71), .ref (q 72), .int (nI dy), .int (nI mo)])), (q 67, .inl (cI, 90, .inl a2)), (q 10, .inr (9, [.ref (q 61), .ref (q 62), .ref (q 63), .ref (q 64), .ref (q 65), .ref (q 66)])), (q 61, .inl (cI, 90, .inl (fun j => nI (sa j)))), (q 62, .inl (cI, 900, .inl ft)), (q 63, .inl (cI, 90, .inl fa)), (q 64, .inl (cI, 90, .inl fo)), (o0, .inr (7, [.ref o1, .ref o2, .int (nI dy), .int wk, .int (nI mo), .int mu, .int ke])), (q 68, .inl (cI, 9, .inl g_1))] H → va_D A [(q 11, .inr (1, [.ref (q 10), .ref (q 67), .ref (q 68), .ref (q 69), .ref (q 70), .ref (q 71), .ref (q 72), .int (nI dy), .int (nI mo)])), (q 67, .inl (cI, 90, .inl a2)), (q 10, .inr (9, [.ref (q 61), .ref (q 62), .ref (q 63), .ref (q 64), .ref (q 65), .ref (q 66)])), (q 61, .inl (cI, 90, .inl (fun j => nI (sa j)))), (q 62, .inl (cI, 900, .inl ft)), (q 63, .inl (cI, 90, .inl fa)), (q 64, .inl (cI, 90, .inl fo)), (o0, .inr (7, [.ref o1, .ref o2, .int (nI dy), .int wk, .int (nI mo), .int mu, .int ke])), (q 68, .inl (cI, 9, .inl g_1))] → va_S A s.heap H locs → lv_has ls 8 [(6, .int (nI jj)), (5, .int bq), (4, .int (nI i)), (0, .ref (q 11)), (1, .ref o0), (2, .int o), (3, .int (nI li))] → W p l e { frames := 1, cells := 0, slots := 0, locals := 26 } s m ([.ref (q 11), .ref o0, .int o, .int (nI li)] : List Value).toArray below meth c H locs 0 0 (MQ below (skV D (skT cI cJ cC cZ cS) (fun (u : va_W) => ∃ (g1 : Nat → Int32), ∃ (g2 : Nat → Int32), u = [(q 11, .inr (1, [.ref (q 10), .ref (q 67), .ref (q 68), .ref (q 69), .ref (q 70), .ref (q 71), .ref (q 72), .int (nI dy), .int (nI mo)])), (q 67, .inl (cI, 90, .inl g1)), (q 68, .inl (cI, 9, .inl g2)), (q 10, .inr (9, [.ref (q 61), .ref (q 62), .ref (q 63), .ref (q 64), .ref (q 65), .ref (q 66)])), (q 61, .inl (cI, 90, .inl (fun j => nI (sa j)))), (q 62, .inl (cI, 900, .inl ft)), (q 63, .inl (cI, 90, .inl fa)), (q 64, .inl (cI, 90, .inl fo)), (o0, .inr (7, [.ref o1, .ref o2, .int (nI dy), .int wk, .int (nI mo), .int mu, .int ke]))]) A) ([.ref (q 11), .ref o0, .int o, .int (nI li)] : List Value).toArray s 0 0 A) (F0 m 58 ls []) := by
            intro n_7
            induction n_7 with
            | zero => intro jj a2 H locs ls hm; exact absurd hm (Nat.not_lt_zero _)
            | succ n_7 ih_lp_6 =>
              intro jj a2 H locs ls hm hjj hP hD hS hl
              refine lv_iload hx hb dX1_lay_58 (lv_at hl 0 rfl) ?_
              refine lv_bipush (v := 10) hx hb dX1_lay_60 (by decide) ?_
              refine lv_icmp_ge (tgt := 144) hx hb dX1_lay_62 (by decide) (fun c_8 => ?_) (fun c_8 => ?_)
              · have c_8 : 10 ≤ jj := (nle 10 jj (by omega) (by omega)).mp c_8
                refine lv_iinc (v := nI (i + 1)) (lv' := [(4, .int (nI (i + 1))), (6, .int (nI jj)), (5, .int bq), (0, .ref (q 11)), (1, .ref o0), (2, .int o), (3, .int (nI li))]) hx hb dX1_lay_144 hl (k := 2) rfl (ninc i 1 (by decide)) (by decide) rfl (fun ls hl => ?_)
                refine lv_goto (tgt := 29) hx hb dX1_lay_147 (by decide) ?_
                exact ih_lp_2 (i + 1) a2 _ _ _ (by omega) (by omega) hP hD hS (lv_sub hl [0, 3, 4, 5, 6] rfl)
              · have c_8 : ¬ (10 ≤ jj) := fun h => c_8 ((nle 10 jj (by omega) (by omega)).mpr h)
                refine lv_iload hx hb dX1_lay_65 (lv_at hl 2 rfl) ?_
                refine lv_bipush (v := 10) hx hb dX1_lay_67 (by decide) ?_
                refine lv_imul hx hb dX1_lay_69 ?_
                refine sk_top (nI (i * 10)) (nmul i 10) ?_
                refine lv_iload hx hb dX1_lay_70 (lv_at hl 0 rfl) ?_
                refine lv_iadd hx hb dX1_lay_72 ?_
                refine sk_top (nI (i * 10 + jj)) (nI_add (i * 10) jj) ?_
                refine lv_istore (lv' := [(7, .int (nI (i * 10 + jj))), (6, .int (nI jj)), (5, .int bq), (4, .int (nI i)), (0, .ref (q 11)), (1, .ref o0), (2, .int o), (3, .int (nI li))]) hx hb dX1_lay_73 hl (by decide) rfl (fun ls hl => ?_)
                refine lv_iload hx hb dX1_lay_75 (lv_at hl 2 rfl) ?_
                refine lv_if_eq (tgt := 102) hx hb dX1_lay_77 (by decide) (fun c_9 => ?_) (fun c_9 => ?_)
                · skip
                  refine lv_aload_n hx hb dX1_lay_102 rfl (lv_at hl 4 rfl) ?_
                  refine sk_get (v := .ref (q 67)) (C := RX1) (T := TX1) (N := 9) hx hb hts inlX1 hown hK hP 0 rfl rfl 1 (by decide) w_2_96 rfl dX1_lay_103 ?_
                  refine lv_iload hx hb dX1_lay_106 (lv_at hl 0 rfl) ?_
                  refine lv_iload_n hx hb dX1_lay_108 rfl (lv_at hl 7 rfl) ?_
                  refine lv_if_ne (tgt := 125) hx hb dX1_lay_109 (by decide) (fun c_10 => ?_) (fun c_10 => ?_)
                  · have c_10 : ¬ (li = 0) := fun h => c_10 ((neq li 0 (by omega) (by omega)).mpr h)
                    refine lv_aload_n hx hb dX1_lay_125 rfl (lv_at hl 4 rfl) ?_
                    refine sk_get (v := .ref (q 10)) (C := RX1) (T := TX1) (N := 9) hx hb hts inlX1 hown hK hP 0 rfl rfl 0 (by decide) w_2_95 rfl dX1_lay_126 ?_
                    refine lv_iload hx hb dX1_lay_129 (lv_at hl 3 rfl) ?_
                    refine lv_iload hx hb dX1_lay_131 (lv_at hl 1 rfl) ?_
                    refine lv_iload_n hx hb dX1_lay_133 rfl (lv_at hl 7 rfl) ?_
                    refine sk_Vi (q0 := 0) (n := 3) (rest := [.int (nI (i * 10 + jj)), .ref (q 67)]) (wr := [(q 11, .inr (1, [.ref (q 10), .ref (q 67), .ref (q 68), .ref (q 69), .ref (q 70), .ref (q 71), .ref (q 72), .int (nI dy), .int (nI mo)])), (q 67, .inl (cI, 90, .inl a2)), (q 63, .inl (cI, 90, .inl fa)), (q 64, .inl (cI, 90, .inl fo)), (o0, .inr (7, [.ref o1, .ref o2, .int (nI dy), .int wk, .int (nI mo), .int mu, .int ke])), (q 68, .inl (cI, 9, .inl g_1))]) ⟨hx, hb, hml, hown, hts⟩ hl.1 (c_moodsBehind l D cI cJ cC cZ cS q sa ft i jj li hsa (by omega) (by omega) (by omega)) w_4_52 w_4_18 w_4_19 w_1_12 w_4_20 (by decide +kernel) ⟨⟨(Nat.le_of_ble_eq_true rfl), (Nat.le_of_ble_eq_true rfl)⟩, (Nat.le_of_ble_eq_true rfl), (Nat.le_of_ble_eq_true rfl)⟩ hK hP hD hS hA [2, 3, 4] [0, 1, 5, 6, 7, 8] rfl rfl (by decide +kernel) (by decide +kernel) (by decide +kernel) rfl rfl rfl rfl (Nat.le_of_ble_eq_true rfl) dX1_lay_134 (fun r_11 u H locs hw hP hD hS => ?_)
                    obtain rfl := hw
                    have hP : va_P D vwCl [(q 11, .inr (1, [.ref (q 10), .ref (q 67), .ref (q 68), .ref (q 69), .ref (q 70), .ref (q 71), .ref (q 72), .int (nI dy), .int (nI mo)])), (q 67, .inl (cI, 90, .inl a2)), (q 63, .inl (cI, 90, .inl fa)), (q 64, .inl (cI, 90, .inl fo)), (o0, .inr (7, [.ref o1, .ref o2, .int (nI dy), .int wk, .int (nI mo), .int mu, .int ke])), (q 68, .inl (cI, 9, .inl g_1)), (q 10, .inr (9, [.ref (q 61), .ref (q 62), .ref (q 63), .ref (q 64), .ref (q 65), .ref (q 66)])), (q 61, .inl (cI, 90, .inl (fun j => nI (sa j)))), (q 62, .inl (cI, 900, .inl ft))] H := hP
                    have hD : va_D A [(q 11, .inr (1, [.ref (q 10), .ref (q 67), .ref (q 68), .ref (q 69), .ref (q 70), .ref (q 71), .ref (q 72), .int (nI dy), .int (nI mo)])), (q 67, .inl (cI, 90, .inl a2)), (q 63, .inl (cI, 90, .inl fa)), (q 64, .inl (cI, 90, .inl fo)), (o0, .inr (7, [.ref o1, .ref o2, .int (nI dy), .int wk, .int (nI mo), .int mu, .int ke])), (q 68, .inl (cI, 9, .inl g_1)), (q 10, .inr (9, [.ref (q 61), .ref (q 62), .ref (q 63), .ref (q 64), .ref (q 65), .ref (q 66)])), (q 61, .inl (cI, 90, .inl (fun j => nI (sa j)))), (q 62, .inl (cI, 900, .inl ft))] := hD
                    refine sk_iastO (ws' := fun f_12 => [(q 11, .inr (1, [.ref (q 10), .ref (q 67), .ref (q 68), .ref (q 69), .ref (q 70), .ref (q 71), .ref (q 72), .int (nI dy), .int (nI mo)])), (q 67, .inl (cI, 90, .inl f_12)), (q 63, .inl (cI, 90, .inl fa)), (q 64, .inl (cI, 90, .inl fo)), (o0, .inr (7, [.ref o1, .ref o2, .int (nI dy), .int wk, .int (nI mo), .int mu, .int ke])), (q 68, .inl (cI, 9, .inl g_1)), (q 10, .inr (9, [.ref (q 61), .ref (q 62), .ref (q 63), .ref (q 64), .ref (q 65), .ref (q 66)])), (q 61, .inl (cI, 90, .inl (fun j => nI (sa j)))), (q 62, .inl (cI, 900, .inl ft))]) hx hb hK hP hD hS 1 0 rfl rfl (vin (i * 10 + jj) 90 (by omega) (by omega)) (fun _ => rfl) dX1_lay_137 (fun f_12 H locs hP hD hS => ?_)
                    refine lv_iinc (v := nI (jj + 1)) (lv' := [(6, .int (nI (jj + 1))), (7, .int (nI (i * 10 + jj))), (5, .int bq), (4, .int (nI i)), (0, .ref (q 11)), (1, .ref o0), (2, .int o), (3, .int (nI li))]) hx hb dX1_lay_138 hl (k := 1) rfl (ninc jj 1 (by decide)) (by decide) rfl (fun ls hl => ?_)
                    refine lv_goto (tgt := 58) hx hb dX1_lay_141 (by decide) ?_
                    have hP := hP.sub (ws' := [(q 11, .inr (1, [.ref (q 10), .ref (q 67), .ref (q 68), .ref (q 69), .ref (q 70), .ref (q 71), .ref (q 72), .int (nI dy), .int (nI mo)])), (q 67, .inl (cI, 90, .inl f_12)), (q 10, .inr (9, [.ref (q 61), .ref (q 62), .ref (q 63), .ref (q 64), .ref (q 65), .ref (q 66)])), (q 61, .inl (cI, 90, .inl (fun j => nI (sa j)))), (q 62, .inl (cI, 900, .inl ft)), (q 63, .inl (cI, 90, .inl fa)), (q 64, .inl (cI, 90, .inl fo)), (o0, .inr (7, [.ref o1, .ref o2, .int (nI dy), .int wk, .int (nI mo), .int mu, .int ke])), (q 68, .inl (cI, 9, .inl g_1))]) [0, 1, 6, 7, 8, 2, 3, 4, 5] rfl
                    have hD := hD.sub (ws' := [(q 11, .inr (1, [.ref (q 10), .ref (q 67), .ref (q 68), .ref (q 69), .ref (q 70), .ref (q 71), .ref (q 72), .int (nI dy), .int (nI mo)])), (q 67, .inl (cI, 90, .inl f_12)), (q 10, .inr (9, [.ref (q 61), .ref (q 62), .ref (q 63), .ref (q 64), .ref (q 65), .ref (q 66)])), (q 61, .inl (cI, 90, .inl (fun j => nI (sa j)))), (q 62, .inl (cI, 900, .inl ft)), (q 63, .inl (cI, 90, .inl fa)), (q 64, .inl (cI, 90, .inl fo)), (o0, .inr (7, [.ref o1, .ref o2, .int (nI dy), .int wk, .int (nI mo), .int mu, .int ke])), (q 68, .inl (cI, 9, .inl g_1))]) [0, 1, 6, 7, 8, 2, 3, 4, 5] (by decide +kernel) rfl
                    exact ih_lp_6 (jj + 1) f_12 _ _ _ (by omega) (by omega) hP hD hS (lv_sub hl [0, 2, 3, 4, 5, 6, 7] rfl)
                  · have c_10 : li = 0 := (neq li 0 (by omega) (by omega)).mp c_10
                    refine lv_aload_n hx hb dX1_lay_112 rfl (lv_at hl 4 rfl) ?_
                    refine sk_get (v := .ref (q 10)) (C := RX1) (T := TX1) (N := 9) hx hb hts inlX1 hown hK hP 0 rfl rfl 0 (by decide) w_2_95 rfl dX1_lay_113 ?_
                    refine sk_get (v := .ref (q 64)) (C := RX9) (T := TX9) (N := 6) hx hb hts inlX9 hown hK hP 2 rfl rfl 3 (by decide) w_2_71 rfl dX1_lay_116 ?_
                    refine lv_iload hx hb dX1_lay_119 (lv_at hl 0 rfl) ?_
                    refine va_iald hx hb hK.1 hP 6 0 rfl rfl (vin (i * 10 + jj) 90 (by omega) (by omega)) dX1_lay_121 ?_
                    refine lv_topi (fun v_13 ev_13 => ?_)
                    refine lv_goto (tgt := 137) hx hb dX1_lay_122 (by decide) ?_
                    refine sk_iastO (ws' := fun f_14 => [(q 11, .inr (1, [.ref (q 10), .ref (q 67), .ref (q 68), .ref (q 69), .ref (q 70), .ref (q 71), .ref (q 72), .int (nI dy), .int (nI mo)])), (q 67, .inl (cI, 90, .inl f_14)), (q 10, .inr (9, [.ref (q 61), .ref (q 62), .ref (q 63), .ref (q 64), .ref (q 65), .ref (q 66)])), (q 61, .inl (cI, 90, .inl (fun j => nI (sa j)))), (q 62, .inl (cI, 900, .inl ft)), (q 63, .inl (cI, 90, .inl fa)), (q 64, .inl (cI, 90, .inl fo)), (o0, .inr (7, [.ref o1, .ref o2, .int (nI dy), .int wk, .int (nI mo), .int mu, .int ke])), (q 68, .inl (cI, 9, .inl g_1))]) hx hb hK hP hD hS 1 0 rfl rfl (vin (i * 10 + jj) 90 (by omega) (by omega)) (fun _ => rfl) dX1_lay_137 (fun f_14 H locs hP hD hS => ?_)
                    refine lv_iinc (v := nI (jj + 1)) (lv' := [(6, .int (nI (jj + 1))), (7, .int (nI (i * 10 + jj))), (5, .int bq), (4, .int (nI i)), (0, .ref (q 11)), (1, .ref o0), (2, .int o), (3, .int (nI li))]) hx hb dX1_lay_138 hl (k := 1) rfl (ninc jj 1 (by decide)) (by decide) rfl (fun ls hl => ?_)
                    refine lv_goto (tgt := 58) hx hb dX1_lay_141 (by decide) ?_
                    exact ih_lp_6 (jj + 1) f_14 _ _ _ (by omega) (by omega) hP hD hS (lv_sub hl [0, 2, 3, 4, 5, 6, 7] rfl)
                · skip
                  refine lv_aload_n hx hb dX1_lay_80 rfl (lv_at hl 4 rfl) ?_
                  refine sk_get (v := .ref (q 67)) (C := RX1) (T := TX1) (N := 9) hx hb hts inlX1 hown hK hP 0 rfl rfl 1 (by decide) w_2_96 rfl dX1_lay_81 ?_
                  refine lv_iload hx hb dX1_lay_84 (lv_at hl 0 rfl) ?_
                  refine lv_iconst (v := 1) hx hb dX1_lay_86 (by decide) ?_
                  refine lv_aload_n hx hb dX1_lay_87 rfl (lv_at hl 4 rfl) ?_
                  refine sk_get (v := .ref (q 10)) (C := RX1) (T := TX1) (N := 9) hx hb hts inlX1 hown hK hP 0 rfl rfl 0 (by decide) w_2_95 rfl dX1_lay_88 ?_
                  refine sk_get (v := .ref (q 63)) (C := RX9) (T := TX9) (N := 6) hx hb hts inlX9 hown hK hP 2 rfl rfl 2 (by decide) w_2_68 rfl dX1_lay_91 ?_
                  refine lv_iload hx hb dX1_lay_94 (lv_at hl 0 rfl) ?_
                  refine va_iald hx hb hK.1 hP 5 0 rfl rfl (vin (i * 10 + jj) 90 (by omega) (by omega)) dX1_lay_96 ?_
                  refine lv_topi (fun v_15 ev_15 => ?_)
                  refine lv_ishl hx hb dX1_lay_97 ?_
                  refine lv_topi (fun v_16 ev_16 => ?_)
                  refine sk_iastO (ws' := fun f_17 => [(q 11, .inr (1, [.ref (q 10), .ref (q 67), .ref (q 68), .ref (q 69), .ref (q 70), .ref (q 71), .ref (q 72), .int (nI dy), .int (nI mo)])), (q 67, .inl (cI, 90, .inl f_17)), (q 10, .inr (9, [.ref (q 61), .ref (q 62), .ref (q 63), .ref (q 64), .ref (q 65), .ref (q 66)])), (q 61, .inl (cI, 90, .inl (fun j => nI (sa j)))), (q 62, .inl (cI, 900, .inl ft)), (q 63, .inl (cI, 90, .inl fa)), (q 64, .inl (cI, 90, .inl fo)), (o0, .inr (7, [.ref o1, .ref o2, .int (nI dy), .int wk, .int (nI mo), .int mu, .int ke])), (q 68, .inl (cI, 9, .inl g_1))]) hx hb hK hP hD hS 1 0 rfl rfl (vin (i * 10 + jj) 90 (by omega) (by omega)) (fun _ => rfl) dX1_lay_98 (fun f_17 H locs hP hD hS => ?_)
                  refine lv_goto (tgt := 138) hx hb dX1_lay_99 (by decide) ?_
                  refine lv_iinc (v := nI (jj + 1)) (lv' := [(6, .int (nI (jj + 1))), (7, .int (nI (i * 10 + jj))), (5, .int bq), (4, .int (nI i)), (0, .ref (q 11)), (1, .ref o0), (2, .int o), (3, .int (nI li))]) hx hb dX1_lay_138 hl (k := 1) rfl (ninc jj 1 (by decide)) (by decide) rfl (fun ls hl => ?_)
                  refine lv_goto (tgt := 58) hx hb dX1_lay_141 (by decide) ?_
                  exact ih_lp_6 (jj + 1) f_17 _ _ _ (by omega) (by omega) hP hD hS (lv_sub hl [0, 2, 3, 4, 5, 6, 7] rfl)
          exact lp_6 (10 - 0 + 1) 0 a1 _ _ _ (Nat.lt_succ_self _) (by omega) hP hD hS (lv_sub hl [0, 1, 2, 3, 4, 5, 6] rfl)
        refine lv_iload_n hx hb dX1_lay_38 rfl (lv_at hl 3 rfl) ?_
        refine lv_iload hx hb dX1_lay_39 (lv_at hl 0 rfl) ?_
        refine lv_ishr hx hb dX1_lay_41 ?_
        refine lv_topi (fun v_18 ev_18 => ?_)
        refine lv_iconst (v := 1) hx hb dX1_lay_42 (by decide) ?_
        refine lv_iand hx hb dX1_lay_43 ?_
        refine lv_topi (fun v_19 ev_19 => ?_)
        refine lv_iconst (v := 1) hx hb dX1_lay_44 (by decide) ?_
        refine lv_icmp_ne (tgt := 52) hx hb dX1_lay_45 (by decide) (fun c_20 => ?_) (fun c_20 => ?_)
        · skip
          refine lv_iconst (v := 0) hx hb dX1_lay_52 (by decide) ?_
          exact jn_5 0 _ _ _  hP hD hS (lv_sub hl [0, 1, 2, 3, 4] rfl)
        · skip
          refine lv_iconst (v := 1) hx hb dX1_lay_48 (by decide) ?_
          refine lv_goto (tgt := 53) hx hb dX1_lay_49 (by decide) ?_
          exact jn_5 1 _ _ _  hP hD hS (lv_sub hl [0, 1, 2, 3, 4] rfl)
  exact lp_2 (dy - 0 + 1) 0 e1 _ _ _ (Nat.lt_succ_self _) (by omega) hP hD hS (lv_sub hl [0, 1, 2, 3, 4] rfl)
theorem dX1_settle_0 : decode cX1_settle 0 = .ok (.aload_n 0, 1) := by decide +kernel
theorem dX1_settle_1 : decode cX1_settle 1 = .ok (.getfield 18, 3) := by decide +kernel
theorem dX1_settle_4 : decode cX1_settle 4 = .ok (.aload_n 0, 1) := by decide +kernel
theorem dX1_settle_5 : decode cX1_settle 5 = .ok (.getfield 31, 3) := by decide +kernel
theorem dX1_settle_8 : decode cX1_settle 8 = .ok (.sipush 1023, 3) := by decide +kernel
theorem dX1_settle_11 : decode cX1_settle 11 = .ok (.iastore, 1) := by decide +kernel
theorem dX1_settle_12 : decode cX1_settle 12 = .ok (.aload_n 0, 1) := by decide +kernel
theorem dX1_settle_13 : decode cX1_settle 13 = .ok (.getfield 31, 3) := by decide +kernel
theorem dX1_settle_16 : decode cX1_settle 16 = .ok (.iconst 1, 1) := by decide +kernel
theorem dX1_settle_17 : decode cX1_settle 17 = .ok (.isub, 1) := by decide +kernel
theorem dX1_settle_18 : decode cX1_settle 18 = .ok (.istore_n 1, 1) := by decide +kernel
theorem dX1_settle_19 : decode cX1_settle 19 = .ok (.iload_n 1, 1) := by decide +kernel
theorem dX1_settle_20 : decode cX1_settle 20 = .ok (.ifCond .lt 47, 3) := by decide +kernel
theorem dX1_settle_67 : decode cX1_settle 67 = .ok (.aload_n 0, 1) := by decide +kernel
theorem dX1_settle_68 : decode cX1_settle 68 = .ok (.getfield 18, 3) := by decide +kernel
theorem dX1_settle_71 : decode cX1_settle 71 = .ok (.iconst 0, 1) := by decide +kernel
theorem dX1_settle_72 : decode cX1_settle 72 = .ok (.iaload, 1) := by decide +kernel
theorem dX1_settle_73 : decode cX1_settle 73 = .ok (.aload_n 0, 1) := by decide +kernel
theorem dX1_settle_74 : decode cX1_settle 74 = .ok (.getfield 35, 3) := by decide +kernel
theorem dX1_settle_77 : decode cX1_settle 77 = .ok (.ishr, 1) := by decide +kernel
theorem dX1_settle_78 : decode cX1_settle 78 = .ok (.iconst 1, 1) := by decide +kernel
theorem dX1_settle_79 : decode cX1_settle 79 = .ok (.iand, 1) := by decide +kernel
theorem dX1_settle_80 : decode cX1_settle 80 = .ok (.iconst 1, 1) := by decide +kernel
theorem dX1_settle_81 : decode cX1_settle 81 = .ok (.if_icmp .ne 7, 3) := by decide +kernel
theorem dX1_settle_88 : decode cX1_settle 88 = .ok (.iconst 0, 1) := by decide +kernel
theorem dX1_settle_89 : decode cX1_settle 89 = .ok (.ireturn, 1) := by decide +kernel
theorem dX1_settle_84 : decode cX1_settle 84 = .ok (.iconst 1, 1) := by decide +kernel
theorem dX1_settle_85 : decode cX1_settle 85 = .ok (.goto 4, 3) := by decide +kernel
theorem dX1_settle_23 : decode cX1_settle 23 = .ok (.iconst 0, 1) := by decide +kernel
theorem dX1_settle_24 : decode cX1_settle 24 = .ok (.istore_n 2, 1) := by decide +kernel
theorem dX1_settle_25 : decode cX1_settle 25 = .ok (.iconst 0, 1) := by decide +kernel
theorem dX1_settle_26 : decode cX1_settle 26 = .ok (.istore_n 3, 1) := by decide +kernel
theorem dX1_settle_27 : decode cX1_settle 27 = .ok (.iload_n 3, 1) := by decide +kernel
theorem dX1_settle_28 : decode cX1_settle 28 = .ok (.bipush 10, 2) := by decide +kernel
theorem dX1_settle_30 : decode cX1_settle 30 = .ok (.if_icmp .ge 24, 3) := by decide +kernel
theorem dX1_settle_54 : decode cX1_settle 54 = .ok (.aload_n 0, 1) := by decide +kernel
theorem dX1_settle_55 : decode cX1_settle 55 = .ok (.getfield 18, 3) := by decide +kernel
theorem dX1_settle_58 : decode cX1_settle 58 = .ok (.iload_n 1, 1) := by decide +kernel
theorem dX1_settle_59 : decode cX1_settle 59 = .ok (.iload_n 2, 1) := by decide +kernel
theorem dX1_settle_60 : decode cX1_settle 60 = .ok (.iastore, 1) := by decide +kernel
theorem dX1_settle_61 : decode cX1_settle 61 = .ok (.iinc 1 (-1), 3) := by decide +kernel
theorem dX1_settle_64 : decode cX1_settle 64 = .ok (.goto (-45), 3) := by decide +kernel
theorem dX1_settle_33 : decode cX1_settle 33 = .ok (.aload_n 0, 1) := by decide +kernel
theorem dX1_settle_34 : decode cX1_settle 34 = .ok (.iload_n 1, 1) := by decide +kernel
theorem dX1_settle_35 : decode cX1_settle 35 = .ok (.iload_n 3, 1) := by decide +kernel
theorem dX1_settle_36 : decode cX1_settle 36 = .ok (.invokevirtual 66, 3) := by decide +kernel
theorem dX1_settle_39 : decode cX1_settle 39 = .ok (.ifCond .eq 9, 3) := by decide +kernel
theorem dX1_settle_48 : decode cX1_settle 48 = .ok (.iinc 3 1, 3) := by decide +kernel
theorem dX1_settle_51 : decode cX1_settle 51 = .ok (.goto (-24), 3) := by decide +kernel
theorem dX1_settle_42 : decode cX1_settle 42 = .ok (.iload_n 2, 1) := by decide +kernel
theorem dX1_settle_43 : decode cX1_settle 43 = .ok (.iconst 1, 1) := by decide +kernel
theorem dX1_settle_44 : decode cX1_settle 44 = .ok (.iload_n 3, 1) := by decide +kernel
theorem dX1_settle_45 : decode cX1_settle 45 = .ok (.ishl, 1) := by decide +kernel
theorem dX1_settle_46 : decode cX1_settle 46 = .ok (.ior, 1) := by decide +kernel
theorem dX1_settle_47 : decode cX1_settle 47 = .ok (.istore_n 2, 1) := by decide +kernel
theorem w_4_57 : (Cond.methodLink RX1 66 yX1_next) ∈ wsL_law := sk_mem (ck_4 _ (List.mem_of_getElem? (i := 57) rfl)) rfl
theorem w_4_59 : (Cond.instanceMethod yX1_next) ∈ wsL_law := sk_mem (ck_4 _ (List.mem_of_getElem? (i := 59) rfl)) rfl
theorem w_0_20 : (Cond.selects RX1 yX1_next yX1_next) ∈ wsL_law := sk_mem (ck_0 _ (List.mem_of_getElem? (i := 20) rfl)) rfl
theorem w_1_13 : (Cond.initialized RX1) ∈ wsL_law := sk_mem (ck_1 _ (List.mem_of_getElem? (i := 13) rfl)) rfl
theorem w_4_56 : (Cond.code yX1_settle cX1_settle 4 (some .boolean)) ∈ wsL_law := sk_mem (ck_4 _ (List.mem_of_getElem? (i := 56) rfl)) rfl
set_option maxHeartbeats 4000000 in
set_option maxRecDepth 100000 in
theorem c_settle (l : Launch) (D : va_G) (cI cJ cC cZ cS : ClassId) (q : Nat → Nat) (gd : Nat) (gs : Nat) (e1 : Nat → Int32) (e2 : Nat → Int32) (e3 : Nat → Int32) (hgd : gd ≤ 9) (hgs : gs ≤ 9) : skM l yX1_settle cX1_settle 4 (some .boolean) 1 22 0 0 D (skT cI cJ cC cZ cS) [.ref (q 11)] [(q 11, .inr (1, [.ref (q 10), .ref (q 67), .ref (q 68), .ref (q 69), .ref (q 70), .ref (q 71), .ref (q 72), .int (nI gd), .int (nI gs)])), (q 67, .inl (cI, 90, .inl e1)), (q 68, .inl (cI, 9, .inl e2)), (q 69, .inl (cI, 10, .inl e3))] (skI D (skT cI cJ cC cZ cS) (fun (r : Int32) (u : va_W) => ∃ (b : Nat), ∃ (g3 : Nat → Int32), b ≤ 1 ∧ r = nI b ∧ u = [(q 11, .inr (1, [.ref (q 10), .ref (q 67), .ref (q 68), .ref (q 69), .ref (q 70), .ref (q 71), .ref (q 72), .int (nI gd), .int (nI gs)])), (q 67, .inl (cI, 90, .inl e1)), (q 68, .inl (cI, 9, .inl e2)), (q 69, .inl (cI, 10, .inl g3))])) := by
  refine skM_of (by decide +kernel) (Nat.le_of_ble_eq_true rfl) ?_
  intro p e s m below meth c A ls E hP hD hl
  obtain ⟨hx, hb, hr, hml, hlocks, hin, hown, hts, hK, hA⟩ := E
  have hown : s.vm.findClass RX1 = some m.cls := hown
  have hS : va_S A s.heap s.heap [] := va_S.rf
  have hl : lv_has ls 4 [(0, .ref (q 11))] := hl
  refine lv_aload_n hx hb dX1_settle_0 rfl (lv_at hl 0 rfl) ?_
  refine sk_get (v := .ref (q 69)) (C := RX1) (T := TX1) (N := 9) hx hb hts inlX1 hown hK hP 0 rfl rfl 3 (by decide) w_2_98 rfl dX1_settle_1 ?_
  refine lv_aload_n hx hb dX1_settle_4 rfl (lv_at hl 0 rfl) ?_
  refine sk_get (v := .int (nI gd)) (C := RX1) (T := TX1) (N := 9) hx hb hts inlX1 hown hK hP 0 rfl rfl 7 (by decide) w_2_102 rfl dX1_settle_5 ?_
  refine lv_sipush (v := 1023) hx hb dX1_settle_8 (by decide) ?_
  refine sk_iastO (ws' := fun f_1 => [(q 11, .inr (1, [.ref (q 10), .ref (q 67), .ref (q 68), .ref (q 69), .ref (q 70), .ref (q 71), .ref (q 72), .int (nI gd), .int (nI gs)])), (q 67, .inl (cI, 90, .inl e1)), (q 68, .inl (cI, 9, .inl e2)), (q 69, .inl (cI, 10, .inl f_1))]) hx hb hK hP hD hS 3 0 rfl rfl (vin gd 10 (by omega) (by omega)) (fun _ => rfl) dX1_settle_11 (fun f_1 H locs hP hD hS => ?_)
  refine lv_aload_n hx hb dX1_settle_12 rfl (lv_at hl 0 rfl) ?_
  refine sk_get (v := .int (nI gd)) (C := RX1) (T := TX1) (N := 9) hx hb hts inlX1 hown hK hP 0 rfl rfl 7 (by decide) w_2_102 rfl dX1_settle_13 ?_
  refine lv_iconst (v := 1) hx hb dX1_settle_16 (by decide) ?_
  refine lv_isub hx hb dX1_settle_17 ?_
  refine lv_istore_n (lv' := [(1, .int (nI gd - 1)), (0, .ref (q 11))]) hx hb dX1_settle_18 rfl hl (by decide) rfl (fun ls hl => ?_)
  have lp_2 : ∀ (n_3 : Nat) (dd : Nat) (a3 : Nat → Int32) (H : Heap) (locs : List Loc) (ls : Array Slot), dd < n_3 → (dd ≤ 9) → va_P D vwCl [(q 11, .inr (1, [.ref (q 10), .ref (q 67), .ref (q 68), .ref (q 69), .ref (q 70), .ref (q 71), .ref (q 72), .int (nI gd), .int (nI gs)])), (q 67, .inl (cI, 90, .inl e1)), (q 68, .inl (cI, 9, .inl e2)), (q 69, .inl (cI, 10, .inl a3))] H → va_D A [(q 11, .inr (1, [.ref (q 10), .ref (q 67), .ref (q 68), .ref (q 69), .ref (q 70), .ref (q 71), .ref (q 72), .int (nI gd), .int (nI gs)])), (q 67, .inl (cI, 90, .inl e1)), (q 68, .inl (cI, 9, .inl e2)), (q 69, .inl (cI, 10, .inl a3))] → va_S A s.heap H locs → lv_has ls 4 [(1, .int (nI dd - 1)), (0, .ref (q 11))] → W p l e { frames := 1, cells := 0, slots := 0, locals := 22 } s m ([.ref (q 11)] : List Value).toArray below meth c H locs 0 0 (MQ below (skI D (skT cI cJ cC cZ cS) (fun (r : Int32) (u : va_W) => ∃ (b : Nat), ∃ (g3 : Nat → Int32), b ≤ 1 ∧ r = nI b ∧ u = [(q 11, .inr (1, [.ref (q 10), .ref (q 67), .ref (q 68), .ref (q 69), .ref (q 70), .ref (q 71), .ref (q 72), .int (nI gd), .int (nI gs)])), (q 67, .inl (cI, 90, .inl e1)), (q 68, .inl (cI, 9, .inl e2)), (q 69, .inl (cI, 10, .inl g3))]) A) ([.ref (q 11)] : List Value).toArray s 0 0 A) (F0 m 19 ls []) := by
    intro n_3
    induction n_3 with
    | zero => intro dd a3 H locs ls hm; exact absurd hm (Nat.not_lt_zero _)
    | succ n_3 ih_lp_2 =>
      intro dd a3 H locs ls hm hdd hP hD hS hl
      refine lv_iload_n hx hb dX1_settle_19 rfl (lv_at hl 0 rfl) ?_
      refine lv_if_lt (tgt := 67) hx hb dX1_settle_20 (by decide) (fun c_4 => ?_) (fun c_4 => ?_)
      · have c_4 : dd = 0 := npm0 dd (by omega) c_4
        refine lv_aload_n hx hb dX1_settle_67 rfl (lv_at hl 1 rfl) ?_
        refine sk_get (v := .ref (q 69)) (C := RX1) (T := TX1) (N := 9) hx hb hts inlX1 hown hK hP 0 rfl rfl 3 (by decide) w_2_98 rfl dX1_settle_68 ?_
        refine lv_iconst (v := 0) hx hb dX1_settle_71 (by decide) ?_
        refine va_iald hx hb hK.1 hP 3 0 rfl rfl (by unfold vp_in; decide) dX1_settle_72 ?_
        refine lv_topi (fun v_5 ev_5 => ?_)
        refine lv_aload_n hx hb dX1_settle_73 rfl (lv_at hl 1 rfl) ?_
        refine sk_get (v := .int (nI gs)) (C := RX1) (T := TX1) (N := 9) hx hb hts inlX1 hown hK hP 0 rfl rfl 8 (by decide) w_2_103 rfl dX1_settle_74 ?_
        refine lv_ishr hx hb dX1_settle_77 ?_
        refine lv_topi (fun v_6 ev_6 => ?_)
        refine lv_iconst (v := 1) hx hb dX1_settle_78 (by decide) ?_
        refine lv_iand hx hb dX1_settle_79 ?_
        refine lv_topi (fun v_7 ev_7 => ?_)
        refine lv_iconst (v := 1) hx hb dX1_settle_80 (by decide) ?_
        refine lv_icmp_ne (tgt := 88) hx hb dX1_settle_81 (by decide) (fun c_8 => ?_) (fun c_8 => ?_)
        · skip
          refine lv_iconst (v := 0) hx hb dX1_settle_88 (by decide) ?_
          exact sk_iret hx hb hr rfl hlocks hK hP hD hS (⟨0, a3, by omega, rfl, rfl⟩) (Nat.le_of_ble_eq_true rfl) (Nat.le_of_ble_eq_true rfl) dX1_settle_89
        · skip
          refine lv_iconst (v := 1) hx hb dX1_settle_84 (by decide) ?_
          refine lv_goto (tgt := 89) hx hb dX1_settle_85 (by decide) ?_
          exact sk_iret hx hb hr rfl hlocks hK hP hD hS (⟨1, a3, by omega, rfl, rfl⟩) (Nat.le_of_ble_eq_true rfl) (Nat.le_of_ble_eq_true rfl) dX1_settle_89
      · have c_4 : 1 ≤ dd := npm1 dd c_4
        rw [npred dd (by omega)] at hl
        refine lv_iconst (v := 0) hx hb dX1_settle_23 (by decide) ?_
        refine lv_istore_n (lv' := [(2, .int 0), (1, .int (nI (dd - 1))), (0, .ref (q 11))]) hx hb dX1_settle_24 rfl hl (by decide) rfl (fun ls hl => ?_)
        refine lv_iconst (v := 0) hx hb dX1_settle_25 (by decide) ?_
        refine lv_istore_n (lv' := [(3, .int 0), (2, .int 0), (1, .int (nI (dd - 1))), (0, .ref (q 11))]) hx hb dX1_settle_26 rfl hl (by decide) rfl (fun ls hl => ?_)
        have lp_9 : ∀ (n_10 : Nat) (i : Nat) (al : Int32) (H : Heap) (locs : List Loc) (ls : Array Slot), 10 - i < n_10 → (i ≤ 10) → va_P D vwCl [(q 11, .inr (1, [.ref (q 10), .ref (q 67), .ref (q 68), .ref (q 69), .ref (q 70), .ref (q 71), .ref (q 72), .int (nI gd), .int (nI gs)])), (q 67, .inl (cI, 90, .inl e1)), (q 68, .inl (cI, 9, .inl e2)), (q 69, .inl (cI, 10, .inl a3))] H → va_D A [(q 11, .inr (1, [.ref (q 10), .ref (q 67), .ref (q 68), .ref (q 69), .ref (q 70), .ref (q 71), .ref (q 72), .int (nI gd), .int (nI gs)])), (q 67, .inl (cI, 90, .inl e1)), (q 68, .inl (cI, 9, .inl e2)), (q 69, .inl (cI, 10, .inl a3))] → va_S A s.heap H locs → lv_has ls 4 [(3, .int (nI i)), (2, .int al), (1, .int (nI (dd - 1))), (0, .ref (q 11))] → W p l e { frames := 1, cells := 0, slots := 0, locals := 22 } s m ([.ref (q 11)] : List Value).toArray below meth c H locs 0 0 (MQ below (skI D (skT cI cJ cC cZ cS) (fun (r : Int32) (u : va_W) => ∃ (b : Nat), ∃ (g3 : Nat → Int32), b ≤ 1 ∧ r = nI b ∧ u = [(q 11, .inr (1, [.ref (q 10), .ref (q 67), .ref (q 68), .ref (q 69), .ref (q 70), .ref (q 71), .ref (q 72), .int (nI gd), .int (nI gs)])), (q 67, .inl (cI, 90, .inl e1)), (q 68, .inl (cI, 9, .inl e2)), (q 69, .inl (cI, 10, .inl g3))]) A) ([.ref (q 11)] : List Value).toArray s 0 0 A) (F0 m 27 ls []) := by
          intro n_10
          induction n_10 with
          | zero => intro i al H locs ls hm; exact absurd hm (Nat.not_lt_zero _)
          | succ n_10 ih_lp_9 =>
            intro i al H locs ls hm hi hP hD hS hl
            refine lv_iload_n hx hb dX1_settle_27 rfl (lv_at hl 0 rfl) ?_
            refine lv_bipush (v := 10) hx hb dX1_settle_28 (by decide) ?_
            refine lv_icmp_ge (tgt := 54) hx hb dX1_settle_30 (by decide) (fun c_11 => ?_) (fun c_11 => ?_)
            · have c_11 : 10 ≤ i := (nle 10 i (by omega) (by omega)).mp c_11
              refine lv_aload_n hx hb dX1_settle_54 rfl (lv_at hl 3 rfl) ?_
              refine sk_get (v := .ref (q 69)) (C := RX1) (T := TX1) (N := 9) hx hb hts inlX1 hown hK hP 0 rfl rfl 3 (by decide) w_2_98 rfl dX1_settle_55 ?_
              refine lv_iload_n hx hb dX1_settle_58 rfl (lv_at hl 2 rfl) ?_
              refine lv_iload_n hx hb dX1_settle_59 rfl (lv_at hl 1 rfl) ?_
              refine sk_iastO (ws' := fun f_12 => [(q 11, .inr (1, [.ref (q 10), .ref (q 67), .ref (q 68), .ref (q 69), .ref (q 70), .ref (q 71), .ref (q 72), .int (nI gd), .int (nI gs)])), (q 67, .inl (cI, 90, .inl e1)), (q 68, .inl (cI, 9, .inl e2)), (q 69, .inl (cI, 10, .inl f_12))]) hx hb hK hP hD hS 3 0 rfl rfl (vin (dd - 1) 10 (by omega) (by omega)) (fun _ => rfl) dX1_settle_60 (fun f_12 H locs hP hD hS => ?_)
              refine lv_iinc (v := nI (dd - 1) - 1) (lv' := [(1, .int (nI (dd - 1) - 1)), (3, .int (nI i)), (2, .int al), (0, .ref (q 11))]) hx hb dX1_settle_61 hl (k := 2) rfl (ndn _) (by decide) rfl (fun ls hl => ?_)
              refine lv_goto (tgt := 19) hx hb dX1_settle_64 (by decide) ?_
              exact ih_lp_2 (dd - 1) f_12 _ _ _ (by omega) (by omega) hP hD hS (lv_sub hl [0, 3] rfl)
            · have c_11 : ¬ (10 ≤ i) := fun h => c_11 ((nle 10 i (by omega) (by omega)).mpr h)
              refine lv_aload_n hx hb dX1_settle_33 rfl (lv_at hl 3 rfl) ?_
              refine lv_iload_n hx hb dX1_settle_34 rfl (lv_at hl 2 rfl) ?_
              refine lv_iload_n hx hb dX1_settle_35 rfl (lv_at hl 0 rfl) ?_
              refine sk_Vi (q0 := 0) (n := 2) (rest := []) (wr := []) ⟨hx, hb, hml, hown, hts⟩ hl.1 (c_next l D cI cJ cC cZ cS q gd gs e1 e2 a3 (dd - 1) i (by omega) (by omega)) w_4_57 w_4_59 w_0_20 w_1_13 w_4_60 (by decide +kernel) ⟨⟨(Nat.le_of_ble_eq_true rfl), (Nat.le_of_ble_eq_true rfl)⟩, (Nat.le_of_ble_eq_true rfl), (Nat.le_of_ble_eq_true rfl)⟩ hK hP hD hS hA [0, 1, 2, 3] [] rfl rfl (by decide +kernel) (by decide +kernel) (by decide +kernel) rfl rfl rfl rfl (Nat.le_of_ble_eq_true rfl) dX1_settle_36 (fun r_13 u H locs hw hP hD hS => ?_)
              obtain rfl := hw
              have hP : va_P D vwCl [(q 11, .inr (1, [.ref (q 10), .ref (q 67), .ref (q 68), .ref (q 69), .ref (q 70), .ref (q 71), .ref (q 72), .int (nI gd), .int (nI gs)])), (q 67, .inl (cI, 90, .inl e1)), (q 68, .inl (cI, 9, .inl e2)), (q 69, .inl (cI, 10, .inl a3))] H := hP
              have hD : va_D A [(q 11, .inr (1, [.ref (q 10), .ref (q 67), .ref (q 68), .ref (q 69), .ref (q 70), .ref (q 71), .ref (q 72), .int (nI gd), .int (nI gs)])), (q 67, .inl (cI, 90, .inl e1)), (q 68, .inl (cI, 9, .inl e2)), (q 69, .inl (cI, 10, .inl a3))] := hD
              refine lv_if_eq (tgt := 48) hx hb dX1_settle_39 (by decide) (fun c_14 => ?_) (fun c_14 => ?_)
              · skip
                refine lv_iinc (v := nI (i + 1)) (lv' := [(3, .int (nI (i + 1))), (2, .int al), (1, .int (nI (dd - 1))), (0, .ref (q 11))]) hx hb dX1_settle_48 hl (k := 0) rfl (ninc i 1 (by decide)) (by decide) rfl (fun ls hl => ?_)
                refine lv_goto (tgt := 27) hx hb dX1_settle_51 (by decide) ?_
                exact ih_lp_9 (i + 1) al _ _ _ (by omega) (by omega) hP hD hS (lv_sub hl [0, 1, 2, 3] rfl)
              · skip
                refine lv_iload_n hx hb dX1_settle_42 rfl (lv_at hl 1 rfl) ?_
                refine lv_iconst (v := 1) hx hb dX1_settle_43 (by decide) ?_
                refine lv_iload_n hx hb dX1_settle_44 rfl (lv_at hl 0 rfl) ?_
                refine lv_ishl hx hb dX1_settle_45 ?_
                refine lv_topi (fun v_15 ev_15 => ?_)
                refine lv_ior hx hb dX1_settle_46 ?_
                refine lv_topi (fun v_16 ev_16 => ?_)
                refine lv_istore_n (lv' := [(2, .int v_16), (3, .int (nI i)), (1, .int (nI (dd - 1))), (0, .ref (q 11))]) hx hb dX1_settle_47 rfl hl (by decide) rfl (fun ls hl => ?_)
                refine lv_iinc (v := nI (i + 1)) (lv' := [(3, .int (nI (i + 1))), (2, .int v_16), (1, .int (nI (dd - 1))), (0, .ref (q 11))]) hx hb dX1_settle_48 hl (k := 1) rfl (ninc i 1 (by decide)) (by decide) rfl (fun ls hl => ?_)
                refine lv_goto (tgt := 27) hx hb dX1_settle_51 (by decide) ?_
                exact ih_lp_9 (i + 1) v_16 _ _ _ (by omega) (by omega) hP hD hS (lv_sub hl [0, 1, 2, 3] rfl)
        exact lp_9 (10 - 0 + 1) 0 0 _ _ _ (Nat.lt_succ_self _) (by omega) hP hD hS (lv_sub hl [0, 1, 2, 3] rfl)
  exact lp_2 (gd + 1) gd f_1 _ _ _ (Nat.lt_succ_self _) (by omega) hP hD hS (lv_sub hl [0, 1] rfl)
theorem dX1_moodsOf_0 : decode cX1_moodsOf 0 = .ok (.iconst 1, 1) := by decide +kernel
theorem dX1_moodsOf_1 : decode cX1_moodsOf 1 = .ok (.aload_n 0, 1) := by decide +kernel
theorem dX1_moodsOf_2 : decode cX1_moodsOf 2 = .ok (.getfield 35, 3) := by decide +kernel
theorem dX1_moodsOf_5 : decode cX1_moodsOf 5 = .ok (.ishl, 1) := by decide +kernel
theorem dX1_moodsOf_6 : decode cX1_moodsOf 6 = .ok (.istore_n 2, 1) := by decide +kernel
theorem dX1_moodsOf_7 : decode cX1_moodsOf 7 = .ok (.iconst 0, 1) := by decide +kernel
theorem dX1_moodsOf_8 : decode cX1_moodsOf 8 = .ok (.istore_n 3, 1) := by decide +kernel
theorem dX1_moodsOf_9 : decode cX1_moodsOf 9 = .ok (.iload_n 3, 1) := by decide +kernel
theorem dX1_moodsOf_10 : decode cX1_moodsOf 10 = .ok (.iload_n 1, 1) := by decide +kernel
theorem dX1_moodsOf_11 : decode cX1_moodsOf 11 = .ok (.if_icmp .gt 53, 3) := by decide +kernel
theorem dX1_moodsOf_64 : decode cX1_moodsOf 64 = .ok (.iload_n 2, 1) := by decide +kernel
theorem dX1_moodsOf_65 : decode cX1_moodsOf 65 = .ok (.ireturn, 1) := by decide +kernel
theorem dX1_moodsOf_14 : decode cX1_moodsOf 14 = .ok (.iconst 0, 1) := by decide +kernel
theorem dX1_moodsOf_15 : decode cX1_moodsOf 15 = .ok (.istore 4, 2) := by decide +kernel
theorem dX1_moodsOf_17 : decode cX1_moodsOf 17 = .ok (.iconst 0, 1) := by decide +kernel
theorem dX1_moodsOf_18 : decode cX1_moodsOf 18 = .ok (.istore 5, 2) := by decide +kernel
theorem dX1_moodsOf_20 : decode cX1_moodsOf 20 = .ok (.iload 5, 2) := by decide +kernel
theorem dX1_moodsOf_22 : decode cX1_moodsOf 22 = .ok (.bipush 10, 2) := by decide +kernel
theorem dX1_moodsOf_24 : decode cX1_moodsOf 24 = .ok (.if_icmp .ge 31, 3) := by decide +kernel
theorem dX1_moodsOf_55 : decode cX1_moodsOf 55 = .ok (.iload 4, 2) := by decide +kernel
theorem dX1_moodsOf_57 : decode cX1_moodsOf 57 = .ok (.istore_n 2, 1) := by decide +kernel
theorem dX1_moodsOf_58 : decode cX1_moodsOf 58 = .ok (.iinc 3 1, 3) := by decide +kernel
theorem dX1_moodsOf_61 : decode cX1_moodsOf 61 = .ok (.goto (-52), 3) := by decide +kernel
theorem dX1_moodsOf_27 : decode cX1_moodsOf 27 = .ok (.iload_n 2, 1) := by decide +kernel
theorem dX1_moodsOf_28 : decode cX1_moodsOf 28 = .ok (.iload 5, 2) := by decide +kernel
theorem dX1_moodsOf_30 : decode cX1_moodsOf 30 = .ok (.ishr, 1) := by decide +kernel
theorem dX1_moodsOf_31 : decode cX1_moodsOf 31 = .ok (.iconst 1, 1) := by decide +kernel
theorem dX1_moodsOf_32 : decode cX1_moodsOf 32 = .ok (.iand, 1) := by decide +kernel
theorem dX1_moodsOf_33 : decode cX1_moodsOf 33 = .ok (.iconst 1, 1) := by decide +kernel
theorem dX1_moodsOf_34 : decode cX1_moodsOf 34 = .ok (.if_icmp .ne 15, 3) := by decide +kernel
theorem dX1_moodsOf_49 : decode cX1_moodsOf 49 = .ok (.iinc 5 1, 3) := by decide +kernel
theorem dX1_moodsOf_52 : decode cX1_moodsOf 52 = .ok (.goto (-32), 3) := by decide +kernel
theorem dX1_moodsOf_37 : decode cX1_moodsOf 37 = .ok (.iload 4, 2) := by decide +kernel
theorem dX1_moodsOf_39 : decode cX1_moodsOf 39 = .ok (.aload_n 0, 1) := by decide +kernel
theorem dX1_moodsOf_40 : decode cX1_moodsOf 40 = .ok (.iload_n 3, 1) := by decide +kernel
theorem dX1_moodsOf_41 : decode cX1_moodsOf 41 = .ok (.iload 5, 2) := by decide +kernel
theorem dX1_moodsOf_43 : decode cX1_moodsOf 43 = .ok (.invokevirtual 66, 3) := by decide +kernel
theorem dX1_moodsOf_46 : decode cX1_moodsOf 46 = .ok (.ior, 1) := by decide +kernel
theorem dX1_moodsOf_47 : decode cX1_moodsOf 47 = .ok (.istore 4, 2) := by decide +kernel
theorem w_4_107 : (Cond.code yX1_moodsOf cX1_moodsOf 6 (some .int)) ∈ wsL_law := sk_mem (ck_4 _ (List.mem_of_getElem? (i := 107) rfl)) rfl
set_option maxHeartbeats 4000000 in
set_option maxRecDepth 100000 in
theorem c_moodsOf (l : Launch) (D : va_G) (cI cJ cC cZ cS : ClassId) (q : Nat → Nat) (gd : Nat) (gs : Nat) (e1 : Nat → Int32) (e2 : Nat → Int32) (e3 : Nat → Int32) (d : Nat) (hgd : gd ≤ 9) (hgs : gs ≤ 9) (hd : d < 9) : skM l yX1_moodsOf cX1_moodsOf 6 (some .int) 1 22 0 0 D (skT cI cJ cC cZ cS) [.ref (q 11), .int (nI d)] [(q 11, .inr (1, [.ref (q 10), .ref (q 67), .ref (q 68), .ref (q 69), .ref (q 70), .ref (q 71), .ref (q 72), .int (nI gd), .int (nI gs)])), (q 67, .inl (cI, 90, .inl e1)), (q 68, .inl (cI, 9, .inl e2)), (q 69, .inl (cI, 10, .inl e3))] (skI D (skT cI cJ cC cZ cS) (fun (r : Int32) (u : va_W) => u = [(q 11, .inr (1, [.ref (q 10), .ref (q 67), .ref (q 68), .ref (q 69), .ref (q 70), .ref (q 71), .ref (q 72), .int (nI gd), .int (nI gs)])), (q 67, .inl (cI, 90, .inl e1)), (q 68, .inl (cI, 9, .inl e2)), (q 69, .inl (cI, 10, .inl e3))])) := by
  refine skM_of (by decide +kernel) (Nat.le_of_ble_eq_true rfl) ?_
  intro p e s m below meth c A ls E hP hD hl
  obtain ⟨hx, hb, hr, hml, hlocks, hin, hown, hts, hK, hA⟩ := E
  have hown : s.vm.findClass RX1 = some m.cls := hown
  have hS : va_S A s.heap s.heap [] := va_S.rf
  have hl : lv_has ls 6 [(0, .ref (q 11)), (1, .int (nI d))] := hl
  refine lv_iconst (v := 1) hx hb dX1_moodsOf_0 (by decide) ?_
  refine lv_aload_n hx hb dX1_moodsOf_1 rfl (lv_at hl 0 rfl) ?_
  refine sk_get (v := .int (nI gs)) (C := RX1) (T := TX1) (N := 9) hx hb hts inlX1 hown hK hP 0 rfl rfl 8 (by decide) w_2_103 rfl dX1_moodsOf_2 ?_
  refine lv_ishl hx hb dX1_moodsOf_5 ?_
  refine lv_topi (fun v_1 ev_1 => ?_)
  refine lv_istore_n (lv' := [(2, .int v_1), (0, .ref (q 11)), (1, .int (nI d))]) hx hb dX1_moodsOf_6 rfl hl (by decide) rfl (fun ls hl => ?_)
  refine lv_iconst (v := 0) hx hb dX1_moodsOf_7 (by decide) ?_
  refine lv_istore_n (lv' := [(3, .int 0), (2, .int v_1), (0, .ref (q 11)), (1, .int (nI d))]) hx hb dX1_moodsOf_8 rfl hl (by decide) rfl (fun ls hl => ?_)
  have lp_2 : ∀ (n_3 : Nat) (i : Nat) (ms : Int32) (H : Heap) (locs : List Loc) (ls : Array Slot), d + 1 - i < n_3 → (i ≤ d + 1) → va_P D vwCl [(q 11, .inr (1, [.ref (q 10), .ref (q 67), .ref (q 68), .ref (q 69), .ref (q 70), .ref (q 71), .ref (q 72), .int (nI gd), .int (nI gs)])), (q 67, .inl (cI, 90, .inl e1)), (q 68, .inl (cI, 9, .inl e2)), (q 69, .inl (cI, 10, .inl e3))] H → va_D A [(q 11, .inr (1, [.ref (q 10), .ref (q 67), .ref (q 68), .ref (q 69), .ref (q 70), .ref (q 71), .ref (q 72), .int (nI gd), .int (nI gs)])), (q 67, .inl (cI, 90, .inl e1)), (q 68, .inl (cI, 9, .inl e2)), (q 69, .inl (cI, 10, .inl e3))] → va_S A s.heap H locs → lv_has ls 6 [(3, .int (nI i)), (2, .int ms), (0, .ref (q 11)), (1, .int (nI d))] → W p l e { frames := 1, cells := 0, slots := 0, locals := 22 } s m ([.ref (q 11), .int (nI d)] : List Value).toArray below meth c H locs 0 0 (MQ below (skI D (skT cI cJ cC cZ cS) (fun (r : Int32) (u : va_W) => u = [(q 11, .inr (1, [.ref (q 10), .ref (q 67), .ref (q 68), .ref (q 69), .ref (q 70), .ref (q 71), .ref (q 72), .int (nI gd), .int (nI gs)])), (q 67, .inl (cI, 90, .inl e1)), (q 68, .inl (cI, 9, .inl e2)), (q 69, .inl (cI, 10, .inl e3))]) A) ([.ref (q 11), .int (nI d)] : List Value).toArray s 0 0 A) (F0 m 9 ls []) := by
    intro n_3
    induction n_3 with
    | zero => intro i ms H locs ls hm; exact absurd hm (Nat.not_lt_zero _)
    | succ n_3 ih_lp_2 =>
      intro i ms H locs ls hm hi hP hD hS hl
      refine lv_iload_n hx hb dX1_moodsOf_9 rfl (lv_at hl 0 rfl) ?_
      refine lv_iload_n hx hb dX1_moodsOf_10 rfl (lv_at hl 3 rfl) ?_
      refine lv_icmp_gt (tgt := 64) hx hb dX1_moodsOf_11 (by decide) (fun c_4 => ?_) (fun c_4 => ?_)
      · have c_4 : d < i := (nlt d i (by omega) (by omega)).mp c_4
        refine lv_iload_n hx hb dX1_moodsOf_64 rfl (lv_at hl 1 rfl) ?_
        exact sk_iret hx hb hr rfl hlocks hK hP hD hS rfl (Nat.le_of_ble_eq_true rfl) (Nat.le_of_ble_eq_true rfl) dX1_moodsOf_65
      · have c_4 : ¬ (d < i) := fun h => c_4 ((nlt d i (by omega) (by omega)).mpr h)
        refine lv_iconst (v := 0) hx hb dX1_moodsOf_14 (by decide) ?_
        refine lv_istore (lv' := [(4, .int 0), (3, .int (nI i)), (2, .int ms), (0, .ref (q 11)), (1, .int (nI d))]) hx hb dX1_moodsOf_15 hl (by decide) rfl (fun ls hl => ?_)
        refine lv_iconst (v := 0) hx hb dX1_moodsOf_17 (by decide) ?_
        refine lv_istore (lv' := [(5, .int 0), (4, .int 0), (3, .int (nI i)), (2, .int ms), (0, .ref (q 11)), (1, .int (nI d))]) hx hb dX1_moodsOf_18 hl (by decide) rfl (fun ls hl => ?_)
        have lp_5 : ∀ (n_6 : Nat) (jj : Nat) (rc : Int32) (H : Heap) (locs : List Loc) (ls : Array Slot), 10 - jj < n_6 → (jj ≤ 10) → va_P D vwCl [(q 11, .inr (1, [.ref (q 10), .ref (q 67), .ref (q 68), .ref (q 69), .ref (q 70), .ref (q 71), .ref (q 72), .int (nI gd), .int (nI gs)])), (q 67, .inl (cI, 90, .inl e1)), (q 68, .inl (cI, 9, .inl e2)), (q 69, .inl (cI, 10, .inl e3))] H → va_D A [(q 11, .inr (1, [.ref (q 10), .ref (q 67), .ref (q 68), .ref (q 69), .ref (q 70), .ref (q 71), .ref (q 72), .int (nI gd), .int (nI gs)])), (q 67, .inl (cI, 90, .inl e1)), (q 68, .inl (cI, 9, .inl e2)), (q 69, .inl (cI, 10, .inl e3))] → va_S A s.heap H locs → lv_has ls 6 [(5, .int (nI jj)), (4, .int rc), (3, .int (nI i)), (2, .int ms), (0, .ref (q 11)), (1, .int (nI d))] → W p l e { frames := 1, cells := 0, slots := 0, locals := 22 } s m ([.ref (q 11), .int (nI d)] : List Value).toArray below meth c H locs 0 0 (MQ below (skI D (skT cI cJ cC cZ cS) (fun (r : Int32) (u : va_W) => u = [(q 11, .inr (1, [.ref (q 10), .ref (q 67), .ref (q 68), .ref (q 69), .ref (q 70), .ref (q 71), .ref (q 72), .int (nI gd), .int (nI gs)])), (q 67, .inl (cI, 90, .inl e1)), (q 68, .inl (cI, 9, .inl e2)), (q 69, .inl (cI, 10, .inl e3))]) A) ([.ref (q 11), .int (nI d)] : List Value).toArray s 0 0 A) (F0 m 20 ls []) := by
          intro n_6
          induction n_6 with
          | zero => intro jj rc H locs ls hm; exact absurd hm (Nat.not_lt_zero _)
          | succ n_6 ih_lp_5 =>
            intro jj rc H locs ls hm hjj hP hD hS hl
            refine lv_iload hx hb dX1_moodsOf_20 (lv_at hl 0 rfl) ?_
            refine lv_bipush (v := 10) hx hb dX1_moodsOf_22 (by decide) ?_
            refine lv_icmp_ge (tgt := 55) hx hb dX1_moodsOf_24 (by decide) (fun c_7 => ?_) (fun c_7 => ?_)
            · have c_7 : 10 ≤ jj := (nle 10 jj (by omega) (by omega)).mp c_7
              refine lv_iload hx hb dX1_moodsOf_55 (lv_at hl 1 rfl) ?_
              refine lv_istore_n (lv' := [(2, .int rc), (5, .int (nI jj)), (4, .int rc), (3, .int (nI i)), (0, .ref (q 11)), (1, .int (nI d))]) hx hb dX1_moodsOf_57 rfl hl (by decide) rfl (fun ls hl => ?_)
              refine lv_iinc (v := nI (i + 1)) (lv' := [(3, .int (nI (i + 1))), (2, .int rc), (5, .int (nI jj)), (4, .int rc), (0, .ref (q 11)), (1, .int (nI d))]) hx hb dX1_moodsOf_58 hl (k := 3) rfl (ninc i 1 (by decide)) (by decide) rfl (fun ls hl => ?_)
              refine lv_goto (tgt := 9) hx hb dX1_moodsOf_61 (by decide) ?_
              exact ih_lp_2 (i + 1) rc _ _ _ (by omega) (by omega) hP hD hS (lv_sub hl [0, 1, 4, 5] rfl)
            · have c_7 : ¬ (10 ≤ jj) := fun h => c_7 ((nle 10 jj (by omega) (by omega)).mpr h)
              refine lv_iload_n hx hb dX1_moodsOf_27 rfl (lv_at hl 3 rfl) ?_
              refine lv_iload hx hb dX1_moodsOf_28 (lv_at hl 0 rfl) ?_
              refine lv_ishr hx hb dX1_moodsOf_30 ?_
              refine lv_topi (fun v_8 ev_8 => ?_)
              refine lv_iconst (v := 1) hx hb dX1_moodsOf_31 (by decide) ?_
              refine lv_iand hx hb dX1_moodsOf_32 ?_
              refine lv_topi (fun v_9 ev_9 => ?_)
              refine lv_iconst (v := 1) hx hb dX1_moodsOf_33 (by decide) ?_
              refine lv_icmp_ne (tgt := 49) hx hb dX1_moodsOf_34 (by decide) (fun c_10 => ?_) (fun c_10 => ?_)
              · skip
                refine lv_iinc (v := nI (jj + 1)) (lv' := [(5, .int (nI (jj + 1))), (4, .int rc), (3, .int (nI i)), (2, .int ms), (0, .ref (q 11)), (1, .int (nI d))]) hx hb dX1_moodsOf_49 hl (k := 0) rfl (ninc jj 1 (by decide)) (by decide) rfl (fun ls hl => ?_)
                refine lv_goto (tgt := 20) hx hb dX1_moodsOf_52 (by decide) ?_
                exact ih_lp_5 (jj + 1) rc _ _ _ (by omega) (by omega) hP hD hS (lv_sub hl [0, 1, 2, 3, 4, 5] rfl)
              · skip
                refine lv_iload hx hb dX1_moodsOf_37 (lv_at hl 1 rfl) ?_
                refine lv_aload_n hx hb dX1_moodsOf_39 rfl (lv_at hl 4 rfl) ?_
                refine lv_iload_n hx hb dX1_moodsOf_40 rfl (lv_at hl 2 rfl) ?_
                refine lv_iload hx hb dX1_moodsOf_41 (lv_at hl 0 rfl) ?_
                refine sk_Vi (q0 := 0) (n := 2) (rest := [.int rc]) (wr := []) ⟨hx, hb, hml, hown, hts⟩ hl.1 (c_next l D cI cJ cC cZ cS q gd gs e1 e2 e3 i jj (by omega) (by omega)) w_4_57 w_4_59 w_0_20 w_1_13 w_4_60 (by decide +kernel) ⟨⟨(Nat.le_of_ble_eq_true rfl), (Nat.le_of_ble_eq_true rfl)⟩, (Nat.le_of_ble_eq_true rfl), (Nat.le_of_ble_eq_true rfl)⟩ hK hP hD hS hA [0, 1, 2, 3] [] rfl rfl (by decide +kernel) (by decide +kernel) (by decide +kernel) rfl rfl rfl rfl (Nat.le_of_ble_eq_true rfl) dX1_moodsOf_43 (fun r_11 u H locs hw hP hD hS => ?_)
                obtain rfl := hw
                have hP : va_P D vwCl [(q 11, .inr (1, [.ref (q 10), .ref (q 67), .ref (q 68), .ref (q 69), .ref (q 70), .ref (q 71), .ref (q 72), .int (nI gd), .int (nI gs)])), (q 67, .inl (cI, 90, .inl e1)), (q 68, .inl (cI, 9, .inl e2)), (q 69, .inl (cI, 10, .inl e3))] H := hP
                have hD : va_D A [(q 11, .inr (1, [.ref (q 10), .ref (q 67), .ref (q 68), .ref (q 69), .ref (q 70), .ref (q 71), .ref (q 72), .int (nI gd), .int (nI gs)])), (q 67, .inl (cI, 90, .inl e1)), (q 68, .inl (cI, 9, .inl e2)), (q 69, .inl (cI, 10, .inl e3))] := hD
                refine lv_ior hx hb dX1_moodsOf_46 ?_
                refine lv_topi (fun v_12 ev_12 => ?_)
                refine lv_istore (lv' := [(4, .int v_12), (5, .int (nI jj)), (3, .int (nI i)), (2, .int ms), (0, .ref (q 11)), (1, .int (nI d))]) hx hb dX1_moodsOf_47 hl (by decide) rfl (fun ls hl => ?_)
                refine lv_iinc (v := nI (jj + 1)) (lv' := [(5, .int (nI (jj + 1))), (4, .int v_12), (3, .int (nI i)), (2, .int ms), (0, .ref (q 11)), (1, .int (nI d))]) hx hb dX1_moodsOf_49 hl (k := 1) rfl (ninc jj 1 (by decide)) (by decide) rfl (fun ls hl => ?_)
                refine lv_goto (tgt := 20) hx hb dX1_moodsOf_52 (by decide) ?_
                exact ih_lp_5 (jj + 1) v_12 _ _ _ (by omega) (by omega) hP hD hS (lv_sub hl [0, 1, 2, 3, 4, 5] rfl)
        exact lp_5 (10 - 0 + 1) 0 0 _ _ _ (Nat.lt_succ_self _) (by omega) hP hD hS (lv_sub hl [0, 1, 2, 3, 4, 5] rfl)
  exact lp_2 (d + 1 - 0 + 1) 0 v_1 _ _ _ (Nat.lt_succ_self _) (by omega) hP hD hS (lv_sub hl [0, 1, 2, 3] rfl)
theorem dX1_takeFirst_0 : decode cX1_takeFirst 0 = .ok (.aload_n 0, 1) := by decide +kernel
theorem dX1_takeFirst_1 : decode cX1_takeFirst 1 = .ok (.getfield 35, 3) := by decide +kernel
theorem dX1_takeFirst_4 : decode cX1_takeFirst 4 = .ok (.istore_n 2, 1) := by decide +kernel
theorem dX1_takeFirst_5 : decode cX1_takeFirst 5 = .ok (.iconst 0, 1) := by decide +kernel
theorem dX1_takeFirst_6 : decode cX1_takeFirst 6 = .ok (.istore_n 3, 1) := by decide +kernel
theorem dX1_takeFirst_7 : decode cX1_takeFirst 7 = .ok (.iload_n 3, 1) := by decide +kernel
theorem dX1_takeFirst_8 : decode cX1_takeFirst 8 = .ok (.aload_n 0, 1) := by decide +kernel
theorem dX1_takeFirst_9 : decode cX1_takeFirst 9 = .ok (.getfield 31, 3) := by decide +kernel
theorem dX1_takeFirst_12 : decode cX1_takeFirst 12 = .ok (.if_icmp .ge 26, 3) := by decide +kernel
theorem dX1_takeFirst_38 : decode cX1_takeFirst 38 = .ok (.return_, 1) := by decide +kernel
theorem dX1_takeFirst_15 : decode cX1_takeFirst 15 = .ok (.aload_n 0, 1) := by decide +kernel
theorem dX1_takeFirst_16 : decode cX1_takeFirst 16 = .ok (.iload_n 3, 1) := by decide +kernel
theorem dX1_takeFirst_17 : decode cX1_takeFirst 17 = .ok (.iload_n 2, 1) := by decide +kernel
theorem dX1_takeFirst_18 : decode cX1_takeFirst 18 = .ok (.invokevirtual 66, 3) := by decide +kernel
theorem dX1_takeFirst_21 : decode cX1_takeFirst 21 = .ok (.invokestatic 70, 3) := by decide +kernel
theorem dX1_takeFirst_24 : decode cX1_takeFirst 24 = .ok (.bipush 10, 2) := by decide +kernel
theorem dX1_takeFirst_26 : decode cX1_takeFirst 26 = .ok (.irem, 1) := by decide +kernel
theorem dX1_takeFirst_27 : decode cX1_takeFirst 27 = .ok (.istore_n 2, 1) := by decide +kernel
theorem dX1_takeFirst_28 : decode cX1_takeFirst 28 = .ok (.aload_n 1, 1) := by decide +kernel
theorem dX1_takeFirst_29 : decode cX1_takeFirst 29 = .ok (.iload_n 3, 1) := by decide +kernel
theorem dX1_takeFirst_30 : decode cX1_takeFirst 30 = .ok (.iload_n 2, 1) := by decide +kernel
theorem dX1_takeFirst_31 : decode cX1_takeFirst 31 = .ok (.iastore, 1) := by decide +kernel
theorem dX1_takeFirst_32 : decode cX1_takeFirst 32 = .ok (.iinc 3 1, 3) := by decide +kernel
theorem dX1_takeFirst_35 : decode cX1_takeFirst 35 = .ok (.goto (-28), 3) := by decide +kernel
theorem w_4_116 : (Cond.methodLink RX1 70 yJ6_numberOfTrailingZeros_0f7a4) ∈ wsL_law := sk_mem (ck_4 _ (List.mem_of_getElem? (i := 116) rfl)) rfl
theorem w_4_117 : (Cond.static yJ6_numberOfTrailingZeros_0f7a4) ∈ wsL_law := sk_mem (ck_4 _ (List.mem_of_getElem? (i := 117) rfl)) rfl
theorem w_1_21 : (Cond.initialized RJ6) ∈ wsL_law := sk_mem (ck_1 _ (List.mem_of_getElem? (i := 21) rfl)) rfl
theorem w_4_115 : (Cond.code yX1_takeFirst cX1_takeFirst 4 none) ∈ wsL_law := sk_mem (ck_4 _ (List.mem_of_getElem? (i := 115) rfl)) rfl
set_option maxHeartbeats 4000000 in
set_option maxRecDepth 100000 in
theorem c_takeFirst (l : Launch) (D : va_G) (cI cJ cC cZ cS : ClassId) (q : Nat → Nat) (gd : Nat) (gs : Nat) (e1 : Nat → Int32) (e2 : Nat → Int32) (e3 : Nat → Int32) (rw : Nat) (ra : Nat → Int32) (hgd : gd ≤ 9) (hgs : gs ≤ 9) : skM l yX1_takeFirst cX1_takeFirst 4 none 1 22 0 0 D (skT cI cJ cC cZ cS) [.ref (q 11), .ref rw] [(q 11, .inr (1, [.ref (q 10), .ref (q 67), .ref (q 68), .ref (q 69), .ref (q 70), .ref (q 71), .ref (q 72), .int (nI gd), .int (nI gs)])), (q 67, .inl (cI, 90, .inl e1)), (q 68, .inl (cI, 9, .inl e2)), (q 69, .inl (cI, 10, .inl e3)), (rw, .inl (cI, 9, .inl ra))] (skV D (skT cI cJ cC cZ cS) (fun (u : va_W) => ∃ (ra2 : Nat → Int32), rowOk ra2 gd ∧ u = [(q 11, .inr (1, [.ref (q 10), .ref (q 67), .ref (q 68), .ref (q 69), .ref (q 70), .ref (q 71), .ref (q 72), .int (nI gd), .int (nI gs)])), (q 67, .inl (cI, 90, .inl e1)), (q 68, .inl (cI, 9, .inl e2)), (q 69, .inl (cI, 10, .inl e3)), (rw, .inl (cI, 9, .inl ra2))])) := by
  refine skM_of (by decide +kernel) (Nat.le_of_ble_eq_true rfl) ?_
  intro p e s m below meth c A ls E hP hD hl
  obtain ⟨hx, hb, hr, hml, hlocks, hin, hown, hts, hK, hA⟩ := E
  have hown : s.vm.findClass RX1 = some m.cls := hown
  have hS : va_S A s.heap s.heap [] := va_S.rf
  have hl : lv_has ls 4 [(0, .ref (q 11)), (1, .ref rw)] := hl
  refine lv_aload_n hx hb dX1_takeFirst_0 rfl (lv_at hl 0 rfl) ?_
  refine sk_get (v := .int (nI gs)) (C := RX1) (T := TX1) (N := 9) hx hb hts inlX1 hown hK hP 0 rfl rfl 8 (by decide) w_2_103 rfl dX1_takeFirst_1 ?_
  refine lv_istore_n (lv' := [(2, .int (nI gs)), (0, .ref (q 11)), (1, .ref rw)]) hx hb dX1_takeFirst_4 rfl hl (by decide) rfl (fun ls hl => ?_)
  refine lv_iconst (v := 0) hx hb dX1_takeFirst_5 (by decide) ?_
  refine lv_istore_n (lv' := [(3, .int 0), (2, .int (nI gs)), (0, .ref (q 11)), (1, .ref rw)]) hx hb dX1_takeFirst_6 rfl hl (by decide) rfl (fun ls hl => ?_)
  have lp_1 : ∀ (n_2 : Nat) (i : Nat) (ah : Nat) (rb : Nat → Int32) (H : Heap) (locs : List Loc) (ls : Array Slot), gd - i < n_2 → (i ≤ gd) → (ah < 10) → (rowOk rb i) → va_P D vwCl [(q 11, .inr (1, [.ref (q 10), .ref (q 67), .ref (q 68), .ref (q 69), .ref (q 70), .ref (q 71), .ref (q 72), .int (nI gd), .int (nI gs)])), (q 67, .inl (cI, 90, .inl e1)), (q 68, .inl (cI, 9, .inl e2)), (q 69, .inl (cI, 10, .inl e3)), (rw, .inl (cI, 9, .inl rb))] H → va_D A [(q 11, .inr (1, [.ref (q 10), .ref (q 67), .ref (q 68), .ref (q 69), .ref (q 70), .ref (q 71), .ref (q 72), .int (nI gd), .int (nI gs)])), (q 67, .inl (cI, 90, .inl e1)), (q 68, .inl (cI, 9, .inl e2)), (q 69, .inl (cI, 10, .inl e3)), (rw, .inl (cI, 9, .inl rb))] → va_S A s.heap H locs → lv_has ls 4 [(3, .int (nI i)), (2, .int (nI ah)), (0, .ref (q 11)), (1, .ref rw)] → W p l e { frames := 1, cells := 0, slots := 0, locals := 22 } s m ([.ref (q 11), .ref rw] : List Value).toArray below meth c H locs 0 0 (MQ below (skV D (skT cI cJ cC cZ cS) (fun (u : va_W) => ∃ (ra2 : Nat → Int32), rowOk ra2 gd ∧ u = [(q 11, .inr (1, [.ref (q 10), .ref (q 67), .ref (q 68), .ref (q 69), .ref (q 70), .ref (q 71), .ref (q 72), .int (nI gd), .int (nI gs)])), (q 67, .inl (cI, 90, .inl e1)), (q 68, .inl (cI, 9, .inl e2)), (q 69, .inl (cI, 10, .inl e3)), (rw, .inl (cI, 9, .inl ra2))]) A) ([.ref (q 11), .ref rw] : List Value).toArray s 0 0 A) (F0 m 7 ls []) := by
    intro n_2
    induction n_2 with
    | zero => intro i ah rb H locs ls hm; exact absurd hm (Nat.not_lt_zero _)
    | succ n_2 ih_lp_1 =>
      intro i ah rb H locs ls hm hi hah hro hP hD hS hl
      refine lv_iload_n hx hb dX1_takeFirst_7 rfl (lv_at hl 0 rfl) ?_
      refine lv_aload_n hx hb dX1_takeFirst_8 rfl (lv_at hl 2 rfl) ?_
      refine sk_get (v := .int (nI gd)) (C := RX1) (T := TX1) (N := 9) hx hb hts inlX1 hown hK hP 0 rfl rfl 7 (by decide) w_2_102 rfl dX1_takeFirst_9 ?_
      refine lv_icmp_ge (tgt := 38) hx hb dX1_takeFirst_12 (by decide) (fun c_3 => ?_) (fun c_3 => ?_)
      · have c_3 : gd ≤ i := (nle gd i (by omega) (by omega)).mp c_3
        exact sk_vret hx hb hr hlocks hK hP hD hS (⟨rb, by rw [show gd = i by omega]; exact hro, rfl⟩) (Nat.le_of_ble_eq_true rfl) (Nat.le_of_ble_eq_true rfl) dX1_takeFirst_38
      · have c_3 : ¬ (gd ≤ i) := fun h => c_3 ((nle gd i (by omega) (by omega)).mpr h)
        refine lv_aload_n hx hb dX1_takeFirst_15 rfl (lv_at hl 2 rfl) ?_
        refine lv_iload_n hx hb dX1_takeFirst_16 rfl (lv_at hl 0 rfl) ?_
        refine lv_iload_n hx hb dX1_takeFirst_17 rfl (lv_at hl 1 rfl) ?_
        refine sk_Vi (q0 := 0) (n := 2) (rest := []) (wr := [(rw, .inl (cI, 9, .inl rb))]) ⟨hx, hb, hml, hown, hts⟩ hl.1 (c_next l D cI cJ cC cZ cS q gd gs e1 e2 e3 i ah (by omega) (by omega)) w_4_57 w_4_59 w_0_20 w_1_13 w_4_60 (by decide +kernel) ⟨⟨(Nat.le_of_ble_eq_true rfl), (Nat.le_of_ble_eq_true rfl)⟩, (Nat.le_of_ble_eq_true rfl), (Nat.le_of_ble_eq_true rfl)⟩ hK hP hD hS hA [0, 1, 2, 3] [4] rfl rfl (by decide +kernel) (by decide +kernel) (by decide +kernel) rfl rfl rfl rfl (Nat.le_of_ble_eq_true rfl) dX1_takeFirst_18 (fun r_4 u H locs hw hP hD hS => ?_)
        obtain rfl := hw
        have hP : va_P D vwCl [(rw, .inl (cI, 9, .inl rb)), (q 11, .inr (1, [.ref (q 10), .ref (q 67), .ref (q 68), .ref (q 69), .ref (q 70), .ref (q 71), .ref (q 72), .int (nI gd), .int (nI gs)])), (q 67, .inl (cI, 90, .inl e1)), (q 68, .inl (cI, 9, .inl e2)), (q 69, .inl (cI, 10, .inl e3))] H := hP
        have hD : va_D A [(rw, .inl (cI, 9, .inl rb)), (q 11, .inr (1, [.ref (q 10), .ref (q 67), .ref (q 68), .ref (q 69), .ref (q 70), .ref (q 71), .ref (q 72), .int (nI gd), .int (nI gs)])), (q 67, .inl (cI, 90, .inl e1)), (q 68, .inl (cI, 9, .inl e2)), (q 69, .inl (cI, 10, .inl e3))] := hD
        refine sk_Si (n := 1) (rest := []) (wr := [(rw, .inl (cI, 9, .inl rb)), (q 11, .inr (1, [.ref (q 10), .ref (q 67), .ref (q 68), .ref (q 69), .ref (q 70), .ref (q 71), .ref (q 72), .int (nI gd), .int (nI gs)])), (q 67, .inl (cI, 90, .inl e1)), (q 68, .inl (cI, 9, .inl e2)), (q 69, .inl (cI, 10, .inl e3))]) ⟨hx, hb, hml, hown, hts⟩ hl.1 (c_ntz l D cI cJ cC cZ cS r_4) w_4_116 w_4_117 w_1_21 w_4_118 (by decide +kernel) ⟨⟨(Nat.le_of_ble_eq_true rfl), (Nat.le_of_ble_eq_true rfl)⟩, (Nat.le_of_ble_eq_true rfl), (Nat.le_of_ble_eq_true rfl)⟩ hK hP hD hS hA [] [0, 1, 2, 3, 4] rfl rfl (by decide +kernel) (by decide +kernel) (by decide +kernel) rfl rfl (Nat.le_of_ble_eq_true rfl) dX1_takeFirst_21 (fun r_6 u H locs hw hP hD hS => ?_)
        obtain ⟨v_5, hv_7, rfl, rfl⟩ := hw
        have hP : va_P D vwCl [(rw, .inl (cI, 9, .inl rb)), (q 11, .inr (1, [.ref (q 10), .ref (q 67), .ref (q 68), .ref (q 69), .ref (q 70), .ref (q 71), .ref (q 72), .int (nI gd), .int (nI gs)])), (q 67, .inl (cI, 90, .inl e1)), (q 68, .inl (cI, 9, .inl e2)), (q 69, .inl (cI, 10, .inl e3))] H := hP
        have hD : va_D A [(rw, .inl (cI, 9, .inl rb)), (q 11, .inr (1, [.ref (q 10), .ref (q 67), .ref (q 68), .ref (q 69), .ref (q 70), .ref (q 71), .ref (q 72), .int (nI gd), .int (nI gs)])), (q 67, .inl (cI, 90, .inl e1)), (q 68, .inl (cI, 9, .inl e2)), (q 69, .inl (cI, 10, .inl e3))] := hD
        refine lv_bipush (v := 10) hx hb dX1_takeFirst_24 (by decide) ?_
        refine lv_irem hx hb dX1_takeFirst_26 (by decide) ?_
        refine sk_top (nI (v_5 % 10)) (nrem v_5 10 (by omega) (by omega) (by omega)) ?_
        refine lv_istore_n (lv' := [(2, .int (nI (v_5 % 10))), (3, .int (nI i)), (0, .ref (q 11)), (1, .ref rw)]) hx hb dX1_takeFirst_27 rfl hl (by decide) rfl (fun ls hl => ?_)
        refine lv_aload_n hx hb dX1_takeFirst_28 rfl (lv_at hl 3 rfl) ?_
        refine lv_iload_n hx hb dX1_takeFirst_29 rfl (lv_at hl 1 rfl) ?_
        refine lv_iload_n hx hb dX1_takeFirst_30 rfl (lv_at hl 0 rfl) ?_
        refine sk_iast (ws' := [(rw, .inl (cI, 9, .inl (upd rb (nI i).toNatClampNeg (nI (v_5 % 10))))), (q 11, .inr (1, [.ref (q 10), .ref (q 67), .ref (q 68), .ref (q 69), .ref (q 70), .ref (q 71), .ref (q 72), .int (nI gd), .int (nI gs)])), (q 67, .inl (cI, 90, .inl e1)), (q 68, .inl (cI, 9, .inl e2)), (q 69, .inl (cI, 10, .inl e3))]) hx hb hK hP hD hS 0 0 rfl rfl (vin i 9 (by omega) (by omega)) rfl dX1_takeFirst_31 (fun H locs hP hD hS => ?_)
        have ho_9 := rowOk_up (f := rb) (i := i) (v := (v_5 % 10)) hro (by omega) (by omega)
        generalize ef_10 : upd rb (nI i).toNatClampNeg (nI (v_5 % 10)) = f_8 at hP hD ho_9
        refine lv_iinc (v := nI (i + 1)) (lv' := [(3, .int (nI (i + 1))), (2, .int (nI (v_5 % 10))), (0, .ref (q 11)), (1, .ref rw)]) hx hb dX1_takeFirst_32 hl (k := 1) rfl (ninc i 1 (by decide)) (by decide) rfl (fun ls hl => ?_)
        refine lv_goto (tgt := 7) hx hb dX1_takeFirst_35 (by decide) ?_
        have hP := hP.sub (ws' := [(q 11, .inr (1, [.ref (q 10), .ref (q 67), .ref (q 68), .ref (q 69), .ref (q 70), .ref (q 71), .ref (q 72), .int (nI gd), .int (nI gs)])), (q 67, .inl (cI, 90, .inl e1)), (q 68, .inl (cI, 9, .inl e2)), (q 69, .inl (cI, 10, .inl e3)), (rw, .inl (cI, 9, .inl f_8))]) [1, 2, 3, 4, 0] rfl
        have hD := hD.sub (ws' := [(q 11, .inr (1, [.ref (q 10), .ref (q 67), .ref (q 68), .ref (q 69), .ref (q 70), .ref (q 71), .ref (q 72), .int (nI gd), .int (nI gs)])), (q 67, .inl (cI, 90, .inl e1)), (q 68, .inl (cI, 9, .inl e2)), (q 69, .inl (cI, 10, .inl e3)), (rw, .inl (cI, 9, .inl f_8))]) [1, 2, 3, 4, 0] (by decide +kernel) rfl
        exact ih_lp_1 (i + 1) (v_5 % 10) f_8 _ _ _ (by omega) (by omega) (by omega) ho_9 hP hD hS (lv_sub hl [0, 1, 2, 3] rfl)
  exact lp_1 (gd - 0 + 1) 0 gs ra _ _ _ (Nat.lt_succ_self _) (by omega) (by omega) (rowOk_0 _) hP hD hS (lv_sub hl [0, 1, 2, 3] rfl)
theorem dX1_countWays_0 : decode cX1_countWays 0 = .ok (.iconst 0, 1) := by decide +kernel
theorem dX1_countWays_1 : decode cX1_countWays 1 = .ok (.istore_n 1, 1) := by decide +kernel
theorem dX1_countWays_2 : decode cX1_countWays 2 = .ok (.iload_n 1, 1) := by decide +kernel
theorem dX1_countWays_3 : decode cX1_countWays 3 = .ok (.bipush 10, 2) := by decide +kernel
theorem dX1_countWays_5 : decode cX1_countWays 5 = .ok (.if_icmp .ge 24, 3) := by decide +kernel
theorem dX1_countWays_29 : decode cX1_countWays 29 = .ok (.aload_n 0, 1) := by decide +kernel
theorem dX1_countWays_30 : decode cX1_countWays 30 = .ok (.getfield 31, 3) := by decide +kernel
theorem dX1_countWays_33 : decode cX1_countWays 33 = .ok (.iconst 1, 1) := by decide +kernel
theorem dX1_countWays_34 : decode cX1_countWays 34 = .ok (.isub, 1) := by decide +kernel
theorem dX1_countWays_35 : decode cX1_countWays 35 = .ok (.istore_n 1, 1) := by decide +kernel
theorem dX1_countWays_36 : decode cX1_countWays 36 = .ok (.iload_n 1, 1) := by decide +kernel
theorem dX1_countWays_37 : decode cX1_countWays 37 = .ok (.ifCond .lt 95, 3) := by decide +kernel
theorem dX1_countWays_132 : decode cX1_countWays 132 = .ok (.aload_n 0, 1) := by decide +kernel
theorem dX1_countWays_133 : decode cX1_countWays 133 = .ok (.getfield 21, 3) := by decide +kernel
theorem dX1_countWays_136 : decode cX1_countWays 136 = .ok (.aload_n 0, 1) := by decide +kernel
theorem dX1_countWays_137 : decode cX1_countWays 137 = .ok (.getfield 35, 3) := by decide +kernel
theorem dX1_countWays_140 : decode cX1_countWays 140 = .ok (.laload, 1) := by decide +kernel
theorem dX1_countWays_141 : decode cX1_countWays 141 = .ok (.lreturn, 1) := by decide +kernel
theorem dX1_countWays_40 : decode cX1_countWays 40 = .ok (.iconst 0, 1) := by decide +kernel
theorem dX1_countWays_41 : decode cX1_countWays 41 = .ok (.istore_n 2, 1) := by decide +kernel
theorem dX1_countWays_42 : decode cX1_countWays 42 = .ok (.iload_n 2, 1) := by decide +kernel
theorem dX1_countWays_43 : decode cX1_countWays 43 = .ok (.bipush 10, 2) := by decide +kernel
theorem dX1_countWays_45 : decode cX1_countWays 45 = .ok (.if_icmp .ge 81, 3) := by decide +kernel
theorem dX1_countWays_126 : decode cX1_countWays 126 = .ok (.iinc 1 (-1), 3) := by decide +kernel
theorem dX1_countWays_129 : decode cX1_countWays 129 = .ok (.goto (-93), 3) := by decide +kernel
theorem dX1_countWays_48 : decode cX1_countWays 48 = .ok (.aload_n 0, 1) := by decide +kernel
theorem dX1_countWays_49 : decode cX1_countWays 49 = .ok (.iload_n 1, 1) := by decide +kernel
theorem dX1_countWays_50 : decode cX1_countWays 50 = .ok (.iload_n 2, 1) := by decide +kernel
theorem dX1_countWays_51 : decode cX1_countWays 51 = .ok (.invokevirtual 66, 3) := by decide +kernel
theorem dX1_countWays_54 : decode cX1_countWays 54 = .ok (.istore_n 3, 1) := by decide +kernel
theorem dX1_countWays_55 : decode cX1_countWays 55 = .ok (.lconst 0, 1) := by decide +kernel
theorem dX1_countWays_56 : decode cX1_countWays 56 = .ok (.lstore 4, 2) := by decide +kernel
theorem dX1_countWays_58 : decode cX1_countWays 58 = .ok (.iconst 0, 1) := by decide +kernel
theorem dX1_countWays_59 : decode cX1_countWays 59 = .ok (.istore 6, 2) := by decide +kernel
theorem dX1_countWays_61 : decode cX1_countWays 61 = .ok (.iload 6, 2) := by decide +kernel
theorem dX1_countWays_63 : decode cX1_countWays 63 = .ok (.bipush 10, 2) := by decide +kernel
theorem dX1_countWays_65 : decode cX1_countWays 65 = .ok (.if_icmp .ge 42, 3) := by decide +kernel
theorem dX1_countWays_107 : decode cX1_countWays 107 = .ok (.aload_n 0, 1) := by decide +kernel
theorem dX1_countWays_108 : decode cX1_countWays 108 = .ok (.getfield 21, 3) := by decide +kernel
theorem dX1_countWays_111 : decode cX1_countWays 111 = .ok (.iload_n 1, 1) := by decide +kernel
theorem dX1_countWays_112 : decode cX1_countWays 112 = .ok (.bipush 10, 2) := by decide +kernel
theorem dX1_countWays_114 : decode cX1_countWays 114 = .ok (.imul, 1) := by decide +kernel
theorem dX1_countWays_115 : decode cX1_countWays 115 = .ok (.iload_n 2, 1) := by decide +kernel
theorem dX1_countWays_116 : decode cX1_countWays 116 = .ok (.iadd, 1) := by decide +kernel
theorem dX1_countWays_117 : decode cX1_countWays 117 = .ok (.lload 4, 2) := by decide +kernel
theorem dX1_countWays_119 : decode cX1_countWays 119 = .ok (.lastore, 1) := by decide +kernel
theorem dX1_countWays_120 : decode cX1_countWays 120 = .ok (.iinc 2 1, 3) := by decide +kernel
theorem dX1_countWays_123 : decode cX1_countWays 123 = .ok (.goto (-81), 3) := by decide +kernel
theorem dX1_countWays_68 : decode cX1_countWays 68 = .ok (.lload 4, 2) := by decide +kernel
theorem dX1_countWays_70 : decode cX1_countWays 70 = .ok (.iload_n 3, 1) := by decide +kernel
theorem dX1_countWays_71 : decode cX1_countWays 71 = .ok (.iload 6, 2) := by decide +kernel
theorem dX1_countWays_73 : decode cX1_countWays 73 = .ok (.ishr, 1) := by decide +kernel
theorem dX1_countWays_74 : decode cX1_countWays 74 = .ok (.iconst 1, 1) := by decide +kernel
theorem dX1_countWays_75 : decode cX1_countWays 75 = .ok (.iand, 1) := by decide +kernel
theorem dX1_countWays_76 : decode cX1_countWays 76 = .ok (.iconst 1, 1) := by decide +kernel
theorem dX1_countWays_77 : decode cX1_countWays 77 = .ok (.if_icmp .ne 20, 3) := by decide +kernel
theorem dX1_countWays_97 : decode cX1_countWays 97 = .ok (.lconst 0, 1) := by decide +kernel
theorem dX1_countWays_98 : decode cX1_countWays 98 = .ok (.ladd, 1) := by decide +kernel
theorem dX1_countWays_99 : decode cX1_countWays 99 = .ok (.lstore 4, 2) := by decide +kernel
theorem dX1_countWays_101 : decode cX1_countWays 101 = .ok (.iinc 6 1, 3) := by decide +kernel
theorem dX1_countWays_104 : decode cX1_countWays 104 = .ok (.goto (-43), 3) := by decide +kernel
theorem dX1_countWays_80 : decode cX1_countWays 80 = .ok (.aload_n 0, 1) := by decide +kernel
theorem dX1_countWays_81 : decode cX1_countWays 81 = .ok (.getfield 21, 3) := by decide +kernel
theorem dX1_countWays_84 : decode cX1_countWays 84 = .ok (.iload_n 1, 1) := by decide +kernel
theorem dX1_countWays_85 : decode cX1_countWays 85 = .ok (.iconst 1, 1) := by decide +kernel
theorem dX1_countWays_86 : decode cX1_countWays 86 = .ok (.iadd, 1) := by decide +kernel
theorem dX1_countWays_87 : decode cX1_countWays 87 = .ok (.bipush 10, 2) := by decide +kernel
theorem dX1_countWays_89 : decode cX1_countWays 89 = .ok (.imul, 1) := by decide +kernel
theorem dX1_countWays_90 : decode cX1_countWays 90 = .ok (.iload 6, 2) := by decide +kernel
theorem dX1_countWays_92 : decode cX1_countWays 92 = .ok (.iadd, 1) := by decide +kernel
theorem dX1_countWays_93 : decode cX1_countWays 93 = .ok (.laload, 1) := by decide +kernel
theorem dX1_countWays_94 : decode cX1_countWays 94 = .ok (.goto 4, 3) := by decide +kernel
theorem dX1_countWays_8 : decode cX1_countWays 8 = .ok (.aload_n 0, 1) := by decide +kernel
theorem dX1_countWays_9 : decode cX1_countWays 9 = .ok (.getfield 21, 3) := by decide +kernel
theorem dX1_countWays_12 : decode cX1_countWays 12 = .ok (.aload_n 0, 1) := by decide +kernel
theorem dX1_countWays_13 : decode cX1_countWays 13 = .ok (.getfield 31, 3) := by decide +kernel
theorem dX1_countWays_16 : decode cX1_countWays 16 = .ok (.bipush 10, 2) := by decide +kernel
theorem dX1_countWays_18 : decode cX1_countWays 18 = .ok (.imul, 1) := by decide +kernel
theorem dX1_countWays_19 : decode cX1_countWays 19 = .ok (.iload_n 1, 1) := by decide +kernel
theorem dX1_countWays_20 : decode cX1_countWays 20 = .ok (.iadd, 1) := by decide +kernel
theorem dX1_countWays_21 : decode cX1_countWays 21 = .ok (.lconst 1, 1) := by decide +kernel
theorem dX1_countWays_22 : decode cX1_countWays 22 = .ok (.lastore, 1) := by decide +kernel
theorem dX1_countWays_23 : decode cX1_countWays 23 = .ok (.iinc 1 1, 3) := by decide +kernel
theorem dX1_countWays_26 : decode cX1_countWays 26 = .ok (.goto (-24), 3) := by decide +kernel
theorem w_2_99 : (Cond.fieldLink RX1 21 "SameKeeper$Graph" "ways" "[J") ∈ wsL_law := sk_mem (ck_2 _ (List.mem_of_getElem? (i := 99) rfl)) rfl
theorem w_4_64 : (Cond.code yX1_countWays cX1_countWays 7 (some .long)) ∈ wsL_law := sk_mem (ck_4 _ (List.mem_of_getElem? (i := 64) rfl)) rfl
set_option maxHeartbeats 4000000 in
set_option maxRecDepth 100000 in
theorem c_countWays (l : Launch) (D : va_G) (cI cJ cC cZ cS : ClassId) (q : Nat → Nat) (gd : Nat) (gs : Nat) (e1 : Nat → Int32) (e2 : Nat → Int32) (e3 : Nat → Int32) (e4 : Nat → Int64) (hgd : gd ≤ 9) (hgs : gs ≤ 9) : skM l yX1_countWays cX1_countWays 7 (some .long) 1 22 0 0 D (skT cI cJ cC cZ cS) [.ref (q 11)] [(q 11, .inr (1, [.ref (q 10), .ref (q 67), .ref (q 68), .ref (q 69), .ref (q 70), .ref (q 71), .ref (q 72), .int (nI gd), .int (nI gs)])), (q 67, .inl (cI, 90, .inl e1)), (q 68, .inl (cI, 9, .inl e2)), (q 69, .inl (cI, 10, .inl e3)), (q 70, .inl (cJ, 100, .inr (.inl e4)))] (skL D (skT cI cJ cC cZ cS) (fun (r : Int64) (u : va_W) => ∃ (g4 : Nat → Int64), u = [(q 11, .inr (1, [.ref (q 10), .ref (q 67), .ref (q 68), .ref (q 69), .ref (q 70), .ref (q 71), .ref (q 72), .int (nI gd), .int (nI gs)])), (q 67, .inl (cI, 90, .inl e1)), (q 68, .inl (cI, 9, .inl e2)), (q 69, .inl (cI, 10, .inl e3)), (q 70, .inl (cJ, 100, .inr (.inl g4)))])) := by
  refine skM_of (by decide +kernel) (Nat.le_of_ble_eq_true rfl) ?_
  intro p e s m below meth c A ls E hP hD hl
  obtain ⟨hx, hb, hr, hml, hlocks, hin, hown, hts, hK, hA⟩ := E
  have hown : s.vm.findClass RX1 = some m.cls := hown
  have hS : va_S A s.heap s.heap [] := va_S.rf
  have hl : lv_has ls 7 [(0, .ref (q 11))] := hl
  refine lv_iconst (v := 0) hx hb dX1_countWays_0 (by decide) ?_
  refine lv_istore_n (lv' := [(1, .int 0), (0, .ref (q 11))]) hx hb dX1_countWays_1 rfl hl (by decide) rfl (fun ls hl => ?_)
  have lp_1 : ∀ (n_2 : Nat) (i : Nat) (a4 : Nat → Int64) (H : Heap) (locs : List Loc) (ls : Array Slot), 10 - i < n_2 → (i ≤ 10) → va_P D vwCl [(q 11, .inr (1, [.ref (q 10), .ref (q 67), .ref (q 68), .ref (q 69), .ref (q 70), .ref (q 71), .ref (q 72), .int (nI gd), .int (nI gs)])), (q 67, .inl (cI, 90, .inl e1)), (q 68, .inl (cI, 9, .inl e2)), (q 69, .inl (cI, 10, .inl e3)), (q 70, .inl (cJ, 100, .inr (.inl a4)))] H → va_D A [(q 11, .inr (1, [.ref (q 10), .ref (q 67), .ref (q 68), .ref (q 69), .ref (q 70), .ref (q 71), .ref (q 72), .int (nI gd), .int (nI gs)])), (q 67, .inl (cI, 90, .inl e1)), (q 68, .inl (cI, 9, .inl e2)), (q 69, .inl (cI, 10, .inl e3)), (q 70, .inl (cJ, 100, .inr (.inl a4)))] → va_S A s.heap H locs → lv_has ls 7 [(1, .int (nI i)), (0, .ref (q 11))] → W p l e { frames := 1, cells := 0, slots := 0, locals := 22 } s m ([.ref (q 11)] : List Value).toArray below meth c H locs 0 0 (MQ below (skL D (skT cI cJ cC cZ cS) (fun (r : Int64) (u : va_W) => ∃ (g4 : Nat → Int64), u = [(q 11, .inr (1, [.ref (q 10), .ref (q 67), .ref (q 68), .ref (q 69), .ref (q 70), .ref (q 71), .ref (q 72), .int (nI gd), .int (nI gs)])), (q 67, .inl (cI, 90, .inl e1)), (q 68, .inl (cI, 9, .inl e2)), (q 69, .inl (cI, 10, .inl e3)), (q 70, .inl (cJ, 100, .inr (.inl g4)))]) A) ([.ref (q 11)] : List Value).toArray s 0 0 A) (F0 m 2 ls []) := by
    intro n_2
    induction n_2 with
    | zero => intro i a4 H locs ls hm; exact absurd hm (Nat.not_lt_zero _)
    | succ n_2 ih_lp_1 =>
      intro i a4 H locs ls hm hi hP hD hS hl
      refine lv_iload_n hx hb dX1_countWays_2 rfl (lv_at hl 0 rfl) ?_
      refine lv_bipush (v := 10) hx hb dX1_countWays_3 (by decide) ?_
      refine lv_icmp_ge (tgt := 29) hx hb dX1_countWays_5 (by decide) (fun c_3 => ?_) (fun c_3 => ?_)
      · have c_3 : 10 ≤ i := (nle 10 i (by omega) (by omega)).mp c_3
        refine lv_aload_n hx hb dX1_countWays_29 rfl (lv_at hl 1 rfl) ?_
        refine sk_get (v := .int (nI gd)) (C := RX1) (T := TX1) (N := 9) hx hb hts inlX1 hown hK hP 0 rfl rfl 7 (by decide) w_2_102 rfl dX1_countWays_30 ?_
        refine lv_iconst (v := 1) hx hb dX1_countWays_33 (by decide) ?_
        refine lv_isub hx hb dX1_countWays_34 ?_
        refine lv_istore_n (lv' := [(1, .int (nI gd - 1)), (0, .ref (q 11))]) hx hb dX1_countWays_35 rfl hl (by decide) rfl (fun ls hl => ?_)
        have lp_4 : ∀ (n_5 : Nat) (dd : Nat) (b4 : Nat → Int64) (H : Heap) (locs : List Loc) (ls : Array Slot), dd < n_5 → (dd ≤ 9) → va_P D vwCl [(q 11, .inr (1, [.ref (q 10), .ref (q 67), .ref (q 68), .ref (q 69), .ref (q 70), .ref (q 71), .ref (q 72), .int (nI gd), .int (nI gs)])), (q 67, .inl (cI, 90, .inl e1)), (q 68, .inl (cI, 9, .inl e2)), (q 69, .inl (cI, 10, .inl e3)), (q 70, .inl (cJ, 100, .inr (.inl b4)))] H → va_D A [(q 11, .inr (1, [.ref (q 10), .ref (q 67), .ref (q 68), .ref (q 69), .ref (q 70), .ref (q 71), .ref (q 72), .int (nI gd), .int (nI gs)])), (q 67, .inl (cI, 90, .inl e1)), (q 68, .inl (cI, 9, .inl e2)), (q 69, .inl (cI, 10, .inl e3)), (q 70, .inl (cJ, 100, .inr (.inl b4)))] → va_S A s.heap H locs → lv_has ls 7 [(1, .int (nI dd - 1)), (0, .ref (q 11))] → W p l e { frames := 1, cells := 0, slots := 0, locals := 22 } s m ([.ref (q 11)] : List Value).toArray below meth c H locs 0 0 (MQ below (skL D (skT cI cJ cC cZ cS) (fun (r : Int64) (u : va_W) => ∃ (g4 : Nat → Int64), u = [(q 11, .inr (1, [.ref (q 10), .ref (q 67), .ref (q 68), .ref (q 69), .ref (q 70), .ref (q 71), .ref (q 72), .int (nI gd), .int (nI gs)])), (q 67, .inl (cI, 90, .inl e1)), (q 68, .inl (cI, 9, .inl e2)), (q 69, .inl (cI, 10, .inl e3)), (q 70, .inl (cJ, 100, .inr (.inl g4)))]) A) ([.ref (q 11)] : List Value).toArray s 0 0 A) (F0 m 36 ls []) := by
          intro n_5
          induction n_5 with
          | zero => intro dd b4 H locs ls hm; exact absurd hm (Nat.not_lt_zero _)
          | succ n_5 ih_lp_4 =>
            intro dd b4 H locs ls hm hdd hP hD hS hl
            refine lv_iload_n hx hb dX1_countWays_36 rfl (lv_at hl 0 rfl) ?_
            refine lv_if_lt (tgt := 132) hx hb dX1_countWays_37 (by decide) (fun c_6 => ?_) (fun c_6 => ?_)
            · have c_6 : dd = 0 := npm0 dd (by omega) c_6
              refine lv_aload_n hx hb dX1_countWays_132 rfl (lv_at hl 1 rfl) ?_
              refine sk_get (v := .ref (q 70)) (C := RX1) (T := TX1) (N := 9) hx hb hts inlX1 hown hK hP 0 rfl rfl 4 (by decide) w_2_99 rfl dX1_countWays_133 ?_
              refine lv_aload_n hx hb dX1_countWays_136 rfl (lv_at hl 1 rfl) ?_
              refine sk_get (v := .int (nI gs)) (C := RX1) (T := TX1) (N := 9) hx hb hts inlX1 hown hK hP 0 rfl rfl 8 (by decide) w_2_103 rfl dX1_countWays_137 ?_
              refine va_lald hx hb hK.1 hP 4 1 rfl rfl (vin gs 100 (by omega) (by omega)) dX1_countWays_140 ?_
              refine lv_topl (fun v_7 ev_7 => ?_)
              exact sk_lret hx hb hr hlocks hK hP hD hS (⟨b4, rfl⟩) (Nat.le_of_ble_eq_true rfl) (Nat.le_of_ble_eq_true rfl) dX1_countWays_141
            · have c_6 : 1 ≤ dd := npm1 dd c_6
              rw [npred dd (by omega)] at hl
              refine lv_iconst (v := 0) hx hb dX1_countWays_40 (by decide) ?_
              refine lv_istore_n (lv' := [(2, .int 0), (1, .int (nI (dd - 1))), (0, .ref (q 11))]) hx hb dX1_countWays_41 rfl hl (by decide) rfl (fun ls hl => ?_)
              have lp_8 : ∀ (n_9 : Nat) (jj : Nat) (c4 : Nat → Int64) (H : Heap) (locs : List Loc) (ls : Array Slot), 10 - jj < n_9 → (jj ≤ 10) → va_P D vwCl [(q 11, .inr (1, [.ref (q 10), .ref (q 67), .ref (q 68), .ref (q 69), .ref (q 70), .ref (q 71), .ref (q 72), .int (nI gd), .int (nI gs)])), (q 67, .inl (cI, 90, .inl e1)), (q 68, .inl (cI, 9, .inl e2)), (q 69, .inl (cI, 10, .inl e3)), (q 70, .inl (cJ, 100, .inr (.inl c4)))] H → va_D A [(q 11, .inr (1, [.ref (q 10), .ref (q 67), .ref (q 68), .ref (q 69), .ref (q 70), .ref (q 71), .ref (q 72), .int (nI gd), .int (nI gs)])), (q 67, .inl (cI, 90, .inl e1)), (q 68, .inl (cI, 9, .inl e2)), (q 69, .inl (cI, 10, .inl e3)), (q 70, .inl (cJ, 100, .inr (.inl c4)))] → va_S A s.heap H locs → lv_has ls 7 [(2, .int (nI jj)), (1, .int (nI (dd - 1))), (0, .ref (q 11))] → W p l e { frames := 1, cells := 0, slots := 0, locals := 22 } s m ([.ref (q 11)] : List Value).toArray below meth c H locs 0 0 (MQ below (skL D (skT cI cJ cC cZ cS) (fun (r : Int64) (u : va_W) => ∃ (g4 : Nat → Int64), u = [(q 11, .inr (1, [.ref (q 10), .ref (q 67), .ref (q 68), .ref (q 69), .ref (q 70), .ref (q 71), .ref (q 72), .int (nI gd), .int (nI gs)])), (q 67, .inl (cI, 90, .inl e1)), (q 68, .inl (cI, 9, .inl e2)), (q 69, .inl (cI, 10, .inl e3)), (q 70, .inl (cJ, 100, .inr (.inl g4)))]) A) ([.ref (q 11)] : List Value).toArray s 0 0 A) (F0 m 42 ls []) := by
                intro n_9
                induction n_9 with
                | zero => intro jj c4 H locs ls hm; exact absurd hm (Nat.not_lt_zero _)
                | succ n_9 ih_lp_8 =>
                  intro jj c4 H locs ls hm hjj hP hD hS hl
                  refine lv_iload_n hx hb dX1_countWays_42 rfl (lv_at hl 0 rfl) ?_
                  refine lv_bipush (v := 10) hx hb dX1_countWays_43 (by decide) ?_
                  refine lv_icmp_ge (tgt := 126) hx hb dX1_countWays_45 (by decide) (fun c_10 => ?_) (fun c_10 => ?_)
                  · have c_10 : 10 ≤ jj := (nle 10 jj (by omega) (by omega)).mp c_10
                    refine lv_iinc (v := nI (dd - 1) - 1) (lv' := [(1, .int (nI (dd - 1) - 1)), (2, .int (nI jj)), (0, .ref (q 11))]) hx hb dX1_countWays_126 hl (k := 1) rfl (ndn _) (by decide) rfl (fun ls hl => ?_)
                    refine lv_goto (tgt := 36) hx hb dX1_countWays_129 (by decide) ?_
                    exact ih_lp_4 (dd - 1) c4 _ _ _ (by omega) (by omega) hP hD hS (lv_sub hl [0, 2] rfl)
                  · have c_10 : ¬ (10 ≤ jj) := fun h => c_10 ((nle 10 jj (by omega) (by omega)).mpr h)
                    refine lv_aload_n hx hb dX1_countWays_48 rfl (lv_at hl 2 rfl) ?_
                    refine lv_iload_n hx hb dX1_countWays_49 rfl (lv_at hl 1 rfl) ?_
                    refine lv_iload_n hx hb dX1_countWays_50 rfl (lv_at hl 0 rfl) ?_
                    refine sk_Vi (q0 := 0) (n := 2) (rest := []) (wr := [(q 70, .inl (cJ, 100, .inr (.inl c4)))]) ⟨hx, hb, hml, hown, hts⟩ hl.1 (c_next l D cI cJ cC cZ cS q gd gs e1 e2 e3 (dd - 1) jj (by omega) (by omega)) w_4_57 w_4_59 w_0_20 w_1_13 w_4_60 (by decide +kernel) ⟨⟨(Nat.le_of_ble_eq_true rfl), (Nat.le_of_ble_eq_true rfl)⟩, (Nat.le_of_ble_eq_true rfl), (Nat.le_of_ble_eq_true rfl)⟩ hK hP hD hS hA [0, 1, 2, 3] [4] rfl rfl (by decide +kernel) (by decide +kernel) (by decide +kernel) rfl rfl rfl rfl (Nat.le_of_ble_eq_true rfl) dX1_countWays_51 (fun r_11 u H locs hw hP hD hS => ?_)
                    obtain rfl := hw
                    have hP : va_P D vwCl [(q 70, .inl (cJ, 100, .inr (.inl c4))), (q 11, .inr (1, [.ref (q 10), .ref (q 67), .ref (q 68), .ref (q 69), .ref (q 70), .ref (q 71), .ref (q 72), .int (nI gd), .int (nI gs)])), (q 67, .inl (cI, 90, .inl e1)), (q 68, .inl (cI, 9, .inl e2)), (q 69, .inl (cI, 10, .inl e3))] H := hP
                    have hD : va_D A [(q 70, .inl (cJ, 100, .inr (.inl c4))), (q 11, .inr (1, [.ref (q 10), .ref (q 67), .ref (q 68), .ref (q 69), .ref (q 70), .ref (q 71), .ref (q 72), .int (nI gd), .int (nI gs)])), (q 67, .inl (cI, 90, .inl e1)), (q 68, .inl (cI, 9, .inl e2)), (q 69, .inl (cI, 10, .inl e3))] := hD
                    refine lv_istore_n (lv' := [(3, .int r_11), (2, .int (nI jj)), (1, .int (nI (dd - 1))), (0, .ref (q 11))]) hx hb dX1_countWays_54 rfl hl (by decide) rfl (fun ls hl => ?_)
                    refine lv_lconst (v := 0) hx hb dX1_countWays_55 (by decide) ?_
                    refine lv_lstore (lv' := [(4, .long 0), (3, .int r_11), (2, .int (nI jj)), (1, .int (nI (dd - 1))), (0, .ref (q 11))]) hx hb dX1_countWays_56 hl (by decide) rfl (fun ls hl => ?_)
                    refine lv_iconst (v := 0) hx hb dX1_countWays_58 (by decide) ?_
                    refine lv_istore (lv' := [(6, .int 0), (4, .long 0), (3, .int r_11), (2, .int (nI jj)), (1, .int (nI (dd - 1))), (0, .ref (q 11))]) hx hb dX1_countWays_59 hl (by decide) rfl (fun ls hl => ?_)
                    have lp_12 : ∀ (n_13 : Nat) (kk : Nat) (sm : Int64) (H : Heap) (locs : List Loc) (ls : Array Slot), 10 - kk < n_13 → (kk ≤ 10) → va_P D vwCl [(q 70, .inl (cJ, 100, .inr (.inl c4))), (q 11, .inr (1, [.ref (q 10), .ref (q 67), .ref (q 68), .ref (q 69), .ref (q 70), .ref (q 71), .ref (q 72), .int (nI gd), .int (nI gs)])), (q 67, .inl (cI, 90, .inl e1)), (q 68, .inl (cI, 9, .inl e2)), (q 69, .inl (cI, 10, .inl e3))] H → va_D A [(q 70, .inl (cJ, 100, .inr (.inl c4))), (q 11, .inr (1, [.ref (q 10), .ref (q 67), .ref (q 68), .ref (q 69), .ref (q 70), .ref (q 71), .ref (q 72), .int (nI gd), .int (nI gs)])), (q 67, .inl (cI, 90, .inl e1)), (q 68, .inl (cI, 9, .inl e2)), (q 69, .inl (cI, 10, .inl e3))] → va_S A s.heap H locs → lv_has ls 7 [(6, .int (nI kk)), (4, .long sm), (3, .int r_11), (2, .int (nI jj)), (1, .int (nI (dd - 1))), (0, .ref (q 11))] → W p l e { frames := 1, cells := 0, slots := 0, locals := 22 } s m ([.ref (q 11)] : List Value).toArray below meth c H locs 0 0 (MQ below (skL D (skT cI cJ cC cZ cS) (fun (r : Int64) (u : va_W) => ∃ (g4 : Nat → Int64), u = [(q 11, .inr (1, [.ref (q 10), .ref (q 67), .ref (q 68), .ref (q 69), .ref (q 70), .ref (q 71), .ref (q 72), .int (nI gd), .int (nI gs)])), (q 67, .inl (cI, 90, .inl e1)), (q 68, .inl (cI, 9, .inl e2)), (q 69, .inl (cI, 10, .inl e3)), (q 70, .inl (cJ, 100, .inr (.inl g4)))]) A) ([.ref (q 11)] : List Value).toArray s 0 0 A) (F0 m 61 ls []) := by
                      intro n_13
                      induction n_13 with
                      | zero => intro kk sm H locs ls hm; exact absurd hm (Nat.not_lt_zero _)
                      | succ n_13 ih_lp_12 =>
                        intro kk sm H locs ls hm hkk hP hD hS hl
                        refine lv_iload hx hb dX1_countWays_61 (lv_at hl 0 rfl) ?_
                        refine lv_bipush (v := 10) hx hb dX1_countWays_63 (by decide) ?_
                        refine lv_icmp_ge (tgt := 107) hx hb dX1_countWays_65 (by decide) (fun c_14 => ?_) (fun c_14 => ?_)
                        · have c_14 : 10 ≤ kk := (nle 10 kk (by omega) (by omega)).mp c_14
                          refine lv_aload_n hx hb dX1_countWays_107 rfl (lv_at hl 5 rfl) ?_
                          refine sk_get (v := .ref (q 70)) (C := RX1) (T := TX1) (N := 9) hx hb hts inlX1 hown hK hP 1 rfl rfl 4 (by decide) w_2_99 rfl dX1_countWays_108 ?_
                          refine lv_iload_n hx hb dX1_countWays_111 rfl (lv_at hl 4 rfl) ?_
                          refine lv_bipush (v := 10) hx hb dX1_countWays_112 (by decide) ?_
                          refine lv_imul hx hb dX1_countWays_114 ?_
                          refine sk_top (nI ((dd - 1) * 10)) (nmul (dd - 1) 10) ?_
                          refine lv_iload_n hx hb dX1_countWays_115 rfl (lv_at hl 3 rfl) ?_
                          refine lv_iadd hx hb dX1_countWays_116 ?_
                          refine sk_top (nI ((dd - 1) * 10 + jj)) (nI_add ((dd - 1) * 10) jj) ?_
                          refine lv_lload hx hb dX1_countWays_117 (lv_at hl 1 rfl) ?_
                          refine sk_lastO (ws' := fun f_15 => [(q 70, .inl (cJ, 100, .inr (.inl f_15))), (q 11, .inr (1, [.ref (q 10), .ref (q 67), .ref (q 68), .ref (q 69), .ref (q 70), .ref (q 71), .ref (q 72), .int (nI gd), .int (nI gs)])), (q 67, .inl (cI, 90, .inl e1)), (q 68, .inl (cI, 9, .inl e2)), (q 69, .inl (cI, 10, .inl e3))]) hx hb hK hP hD hS 0 1 rfl rfl (vin ((dd - 1) * 10 + jj) 100 (by omega) (by omega)) (fun _ => rfl) dX1_countWays_119 (fun f_15 H locs hP hD hS => ?_)
                          refine lv_iinc (v := nI (jj + 1)) (lv' := [(2, .int (nI (jj + 1))), (6, .int (nI kk)), (4, .long sm), (3, .int r_11), (1, .int (nI (dd - 1))), (0, .ref (q 11))]) hx hb dX1_countWays_120 hl (k := 3) rfl (ninc jj 1 (by decide)) (by decide) rfl (fun ls hl => ?_)
                          refine lv_goto (tgt := 42) hx hb dX1_countWays_123 (by decide) ?_
                          have hP := hP.sub (ws' := [(q 11, .inr (1, [.ref (q 10), .ref (q 67), .ref (q 68), .ref (q 69), .ref (q 70), .ref (q 71), .ref (q 72), .int (nI gd), .int (nI gs)])), (q 67, .inl (cI, 90, .inl e1)), (q 68, .inl (cI, 9, .inl e2)), (q 69, .inl (cI, 10, .inl e3)), (q 70, .inl (cJ, 100, .inr (.inl f_15)))]) [1, 2, 3, 4, 0] rfl
                          have hD := hD.sub (ws' := [(q 11, .inr (1, [.ref (q 10), .ref (q 67), .ref (q 68), .ref (q 69), .ref (q 70), .ref (q 71), .ref (q 72), .int (nI gd), .int (nI gs)])), (q 67, .inl (cI, 90, .inl e1)), (q 68, .inl (cI, 9, .inl e2)), (q 69, .inl (cI, 10, .inl e3)), (q 70, .inl (cJ, 100, .inr (.inl f_15)))]) [1, 2, 3, 4, 0] (by decide +kernel) rfl
                          exact ih_lp_8 (jj + 1) f_15 _ _ _ (by omega) (by omega) hP hD hS (lv_sub hl [0, 4, 5] rfl)
                        · have c_14 : ¬ (10 ≤ kk) := fun h => c_14 ((nle 10 kk (by omega) (by omega)).mpr h)
                          refine lv_lload hx hb dX1_countWays_68 (lv_at hl 1 rfl) ?_
                          refine lv_iload_n hx hb dX1_countWays_70 rfl (lv_at hl 2 rfl) ?_
                          refine lv_iload hx hb dX1_countWays_71 (lv_at hl 0 rfl) ?_
                          refine lv_ishr hx hb dX1_countWays_73 ?_
                          refine lv_topi (fun v_16 ev_16 => ?_)
                          refine lv_iconst (v := 1) hx hb dX1_countWays_74 (by decide) ?_
                          refine lv_iand hx hb dX1_countWays_75 ?_
                          refine lv_topi (fun v_17 ev_17 => ?_)
                          refine lv_iconst (v := 1) hx hb dX1_countWays_76 (by decide) ?_
                          refine lv_icmp_ne (tgt := 97) hx hb dX1_countWays_77 (by decide) (fun c_18 => ?_) (fun c_18 => ?_)
                          · skip
                            refine lv_lconst (v := 0) hx hb dX1_countWays_97 (by decide) ?_
                            refine lv_ladd hx hb dX1_countWays_98 ?_
                            refine lv_topl (fun v_19 ev_19 => ?_)
                            refine lv_lstore (lv' := [(4, .long v_19), (6, .int (nI kk)), (3, .int r_11), (2, .int (nI jj)), (1, .int (nI (dd - 1))), (0, .ref (q 11))]) hx hb dX1_countWays_99 hl (by decide) rfl (fun ls hl => ?_)
                            refine lv_iinc (v := nI (kk + 1)) (lv' := [(6, .int (nI (kk + 1))), (4, .long v_19), (3, .int r_11), (2, .int (nI jj)), (1, .int (nI (dd - 1))), (0, .ref (q 11))]) hx hb dX1_countWays_101 hl (k := 1) rfl (ninc kk 1 (by decide)) (by decide) rfl (fun ls hl => ?_)
                            refine lv_goto (tgt := 61) hx hb dX1_countWays_104 (by decide) ?_
                            exact ih_lp_12 (kk + 1) v_19 _ _ _ (by omega) (by omega) hP hD hS (lv_sub hl [0, 1, 2, 3, 4, 5] rfl)
                          · skip
                            refine lv_aload_n hx hb dX1_countWays_80 rfl (lv_at hl 5 rfl) ?_
                            refine sk_get (v := .ref (q 70)) (C := RX1) (T := TX1) (N := 9) hx hb hts inlX1 hown hK hP 1 rfl rfl 4 (by decide) w_2_99 rfl dX1_countWays_81 ?_
                            refine lv_iload_n hx hb dX1_countWays_84 rfl (lv_at hl 4 rfl) ?_
                            refine lv_iconst (v := 1) hx hb dX1_countWays_85 (by decide) ?_
                            refine lv_iadd hx hb dX1_countWays_86 ?_
                            refine sk_top (nI (dd - 1 + 1)) (nI_add (dd - 1) 1) ?_
                            refine lv_bipush (v := 10) hx hb dX1_countWays_87 (by decide) ?_
                            refine lv_imul hx hb dX1_countWays_89 ?_
                            refine sk_top (nI ((dd - 1 + 1) * 10)) (nmul (dd - 1 + 1) 10) ?_
                            refine lv_iload hx hb dX1_countWays_90 (lv_at hl 0 rfl) ?_
                            refine lv_iadd hx hb dX1_countWays_92 ?_
                            refine sk_top (nI ((dd - 1 + 1) * 10 + kk)) (nI_add ((dd - 1 + 1) * 10) kk) ?_
                            refine va_lald hx hb hK.1 hP 0 1 rfl rfl (vin ((dd - 1 + 1) * 10 + kk) 100 (by omega) (by omega)) dX1_countWays_93 ?_
                            refine lv_topl (fun v_20 ev_20 => ?_)
                            refine lv_goto (tgt := 98) hx hb dX1_countWays_94 (by decide) ?_
                            refine lv_ladd hx hb dX1_countWays_98 ?_
                            refine lv_topl (fun v_21 ev_21 => ?_)
                            refine lv_lstore (lv' := [(4, .long v_21), (6, .int (nI kk)), (3, .int r_11), (2, .int (nI jj)), (1, .int (nI (dd - 1))), (0, .ref (q 11))]) hx hb dX1_countWays_99 hl (by decide) rfl (fun ls hl => ?_)
                            refine lv_iinc (v := nI (kk + 1)) (lv' := [(6, .int (nI (kk + 1))), (4, .long v_21), (3, .int r_11), (2, .int (nI jj)), (1, .int (nI (dd - 1))), (0, .ref (q 11))]) hx hb dX1_countWays_101 hl (k := 1) rfl (ninc kk 1 (by decide)) (by decide) rfl (fun ls hl => ?_)
                            refine lv_goto (tgt := 61) hx hb dX1_countWays_104 (by decide) ?_
                            exact ih_lp_12 (kk + 1) v_21 _ _ _ (by omega) (by omega) hP hD hS (lv_sub hl [0, 1, 2, 3, 4, 5] rfl)
                    exact lp_12 (10 - 0 + 1) 0 0 _ _ _ (Nat.lt_succ_self _) (by omega) hP hD hS (lv_sub hl [0, 1, 2, 3, 4, 5] rfl)
              exact lp_8 (10 - 0 + 1) 0 b4 _ _ _ (Nat.lt_succ_self _) (by omega) hP hD hS (lv_sub hl [0, 1, 2] rfl)
        exact lp_4 (gd + 1) gd a4 _ _ _ (Nat.lt_succ_self _) (by omega) hP hD hS (lv_sub hl [0, 1] rfl)
      · have c_3 : ¬ (10 ≤ i) := fun h => c_3 ((nle 10 i (by omega) (by omega)).mpr h)
        refine lv_aload_n hx hb dX1_countWays_8 rfl (lv_at hl 1 rfl) ?_
        refine sk_get (v := .ref (q 70)) (C := RX1) (T := TX1) (N := 9) hx hb hts inlX1 hown hK hP 0 rfl rfl 4 (by decide) w_2_99 rfl dX1_countWays_9 ?_
        refine lv_aload_n hx hb dX1_countWays_12 rfl (lv_at hl 1 rfl) ?_
        refine sk_get (v := .int (nI gd)) (C := RX1) (T := TX1) (N := 9) hx hb hts inlX1 hown hK hP 0 rfl rfl 7 (by decide) w_2_102 rfl dX1_countWays_13 ?_
        refine lv_bipush (v := 10) hx hb dX1_countWays_16 (by decide) ?_
        refine lv_imul hx hb dX1_countWays_18 ?_
        refine sk_top (nI (gd * 10)) (nmul gd 10) ?_
        refine lv_iload_n hx hb dX1_countWays_19 rfl (lv_at hl 0 rfl) ?_
        refine lv_iadd hx hb dX1_countWays_20 ?_
        refine sk_top (nI (gd * 10 + i)) (nI_add (gd * 10) i) ?_
        refine lv_lconst (v := 1) hx hb dX1_countWays_21 (by decide) ?_
        refine sk_lastO (ws' := fun f_22 => [(q 11, .inr (1, [.ref (q 10), .ref (q 67), .ref (q 68), .ref (q 69), .ref (q 70), .ref (q 71), .ref (q 72), .int (nI gd), .int (nI gs)])), (q 67, .inl (cI, 90, .inl e1)), (q 68, .inl (cI, 9, .inl e2)), (q 69, .inl (cI, 10, .inl e3)), (q 70, .inl (cJ, 100, .inr (.inl f_22)))]) hx hb hK hP hD hS 4 1 rfl rfl (vin (gd * 10 + i) 100 (by omega) (by omega)) (fun _ => rfl) dX1_countWays_22 (fun f_22 H locs hP hD hS => ?_)
        refine lv_iinc (v := nI (i + 1)) (lv' := [(1, .int (nI (i + 1))), (0, .ref (q 11))]) hx hb dX1_countWays_23 hl (k := 0) rfl (ninc i 1 (by decide)) (by decide) rfl (fun ls hl => ?_)
        refine lv_goto (tgt := 2) hx hb dX1_countWays_26 (by decide) ?_
        exact ih_lp_1 (i + 1) f_22 _ _ _ (by omega) (by omega) hP hD hS (lv_sub hl [0, 1] rfl)
  exact lp_1 (10 - 0 + 1) 0 e4 _ _ _ (Nat.lt_succ_self _) (by omega) hP hD hS (lv_sub hl [0, 1] rfl)
theorem dX1_countComings_0 : decode cX1_countComings 0 = .ok (.aload_n 0, 1) := by decide +kernel
theorem dX1_countComings_1 : decode cX1_countComings 1 = .ok (.getfield 25, 3) := by decide +kernel
theorem dX1_countComings_4 : decode cX1_countComings 4 = .ok (.lconst 0, 1) := by decide +kernel
theorem dX1_countComings_5 : decode cX1_countComings 5 = .ok (.invokestatic 76, 3) := by decide +kernel
theorem dX1_countComings_8 : decode cX1_countComings 8 = .ok (.aload_n 0, 1) := by decide +kernel
theorem dX1_countComings_9 : decode cX1_countComings 9 = .ok (.getfield 25, 3) := by decide +kernel
theorem dX1_countComings_12 : decode cX1_countComings 12 = .ok (.aload_n 0, 1) := by decide +kernel
theorem dX1_countComings_13 : decode cX1_countComings 13 = .ok (.getfield 35, 3) := by decide +kernel
theorem dX1_countComings_16 : decode cX1_countComings 16 = .ok (.lconst 1, 1) := by decide +kernel
theorem dX1_countComings_17 : decode cX1_countComings 17 = .ok (.lastore, 1) := by decide +kernel
theorem dX1_countComings_18 : decode cX1_countComings 18 = .ok (.iconst 0, 1) := by decide +kernel
theorem dX1_countComings_19 : decode cX1_countComings 19 = .ok (.istore_n 1, 1) := by decide +kernel
theorem dX1_countComings_20 : decode cX1_countComings 20 = .ok (.iload_n 1, 1) := by decide +kernel
theorem dX1_countComings_21 : decode cX1_countComings 21 = .ok (.aload_n 0, 1) := by decide +kernel
theorem dX1_countComings_22 : decode cX1_countComings 22 = .ok (.getfield 31, 3) := by decide +kernel
theorem dX1_countComings_25 : decode cX1_countComings 25 = .ok (.if_icmp .ge 84, 3) := by decide +kernel
theorem dX1_countComings_109 : decode cX1_countComings 109 = .ok (.return_, 1) := by decide +kernel
theorem dX1_countComings_28 : decode cX1_countComings 28 = .ok (.iconst 0, 1) := by decide +kernel
theorem dX1_countComings_29 : decode cX1_countComings 29 = .ok (.istore_n 2, 1) := by decide +kernel
theorem dX1_countComings_30 : decode cX1_countComings 30 = .ok (.iload_n 2, 1) := by decide +kernel
theorem dX1_countComings_31 : decode cX1_countComings 31 = .ok (.bipush 10, 2) := by decide +kernel
theorem dX1_countComings_33 : decode cX1_countComings 33 = .ok (.if_icmp .ge 70, 3) := by decide +kernel
theorem dX1_countComings_103 : decode cX1_countComings 103 = .ok (.iinc 1 1, 3) := by decide +kernel
theorem dX1_countComings_106 : decode cX1_countComings 106 = .ok (.goto (-86), 3) := by decide +kernel
theorem dX1_countComings_36 : decode cX1_countComings 36 = .ok (.aload_n 0, 1) := by decide +kernel
theorem dX1_countComings_37 : decode cX1_countComings 37 = .ok (.iload_n 1, 1) := by decide +kernel
theorem dX1_countComings_38 : decode cX1_countComings 38 = .ok (.iload_n 2, 1) := by decide +kernel
theorem dX1_countComings_39 : decode cX1_countComings 39 = .ok (.invokevirtual 66, 3) := by decide +kernel
theorem dX1_countComings_42 : decode cX1_countComings 42 = .ok (.istore_n 3, 1) := by decide +kernel
theorem dX1_countComings_43 : decode cX1_countComings 43 = .ok (.iconst 0, 1) := by decide +kernel
theorem dX1_countComings_44 : decode cX1_countComings 44 = .ok (.istore 4, 2) := by decide +kernel
theorem dX1_countComings_46 : decode cX1_countComings 46 = .ok (.iload 4, 2) := by decide +kernel
theorem dX1_countComings_48 : decode cX1_countComings 48 = .ok (.bipush 10, 2) := by decide +kernel
theorem dX1_countComings_50 : decode cX1_countComings 50 = .ok (.if_icmp .ge 47, 3) := by decide +kernel
theorem dX1_countComings_97 : decode cX1_countComings 97 = .ok (.iinc 2 1, 3) := by decide +kernel
theorem dX1_countComings_100 : decode cX1_countComings 100 = .ok (.goto (-70), 3) := by decide +kernel
theorem dX1_countComings_53 : decode cX1_countComings 53 = .ok (.iload_n 3, 1) := by decide +kernel
theorem dX1_countComings_54 : decode cX1_countComings 54 = .ok (.iload 4, 2) := by decide +kernel
theorem dX1_countComings_56 : decode cX1_countComings 56 = .ok (.ishr, 1) := by decide +kernel
theorem dX1_countComings_57 : decode cX1_countComings 57 = .ok (.iconst 1, 1) := by decide +kernel
theorem dX1_countComings_58 : decode cX1_countComings 58 = .ok (.iand, 1) := by decide +kernel
theorem dX1_countComings_59 : decode cX1_countComings 59 = .ok (.iconst 1, 1) := by decide +kernel
theorem dX1_countComings_60 : decode cX1_countComings 60 = .ok (.if_icmp .ne 31, 3) := by decide +kernel
theorem dX1_countComings_91 : decode cX1_countComings 91 = .ok (.iinc 4 1, 3) := by decide +kernel
theorem dX1_countComings_94 : decode cX1_countComings 94 = .ok (.goto (-48), 3) := by decide +kernel
theorem dX1_countComings_63 : decode cX1_countComings 63 = .ok (.aload_n 0, 1) := by decide +kernel
theorem dX1_countComings_64 : decode cX1_countComings 64 = .ok (.getfield 25, 3) := by decide +kernel
theorem dX1_countComings_67 : decode cX1_countComings 67 = .ok (.iload_n 1, 1) := by decide +kernel
theorem dX1_countComings_68 : decode cX1_countComings 68 = .ok (.iconst 1, 1) := by decide +kernel
theorem dX1_countComings_69 : decode cX1_countComings 69 = .ok (.iadd, 1) := by decide +kernel
theorem dX1_countComings_70 : decode cX1_countComings 70 = .ok (.bipush 10, 2) := by decide +kernel
theorem dX1_countComings_72 : decode cX1_countComings 72 = .ok (.imul, 1) := by decide +kernel
theorem dX1_countComings_73 : decode cX1_countComings 73 = .ok (.iload 4, 2) := by decide +kernel
theorem dX1_countComings_75 : decode cX1_countComings 75 = .ok (.iadd, 1) := by decide +kernel
theorem dX1_countComings_76 : decode cX1_countComings 76 = .ok (.dup2, 1) := by decide +kernel
theorem dX1_countComings_77 : decode cX1_countComings 77 = .ok (.laload, 1) := by decide +kernel
theorem dX1_countComings_78 : decode cX1_countComings 78 = .ok (.aload_n 0, 1) := by decide +kernel
theorem dX1_countComings_79 : decode cX1_countComings 79 = .ok (.getfield 25, 3) := by decide +kernel
theorem dX1_countComings_82 : decode cX1_countComings 82 = .ok (.iload_n 1, 1) := by decide +kernel
theorem dX1_countComings_83 : decode cX1_countComings 83 = .ok (.bipush 10, 2) := by decide +kernel
theorem dX1_countComings_85 : decode cX1_countComings 85 = .ok (.imul, 1) := by decide +kernel
theorem dX1_countComings_86 : decode cX1_countComings 86 = .ok (.iload_n 2, 1) := by decide +kernel
theorem dX1_countComings_87 : decode cX1_countComings 87 = .ok (.iadd, 1) := by decide +kernel
theorem dX1_countComings_88 : decode cX1_countComings 88 = .ok (.laload, 1) := by decide +kernel
theorem dX1_countComings_89 : decode cX1_countComings 89 = .ok (.ladd, 1) := by decide +kernel
theorem dX1_countComings_90 : decode cX1_countComings 90 = .ok (.lastore, 1) := by decide +kernel
theorem w_2_100 : (Cond.fieldLink RX1 25 "SameKeeper$Graph" "comings" "[J") ∈ wsL_law := sk_mem (ck_2 _ (List.mem_of_getElem? (i := 100) rfl)) rfl
theorem w_4_85 : (Cond.methodLink RX1 76 yJ7_fill_d0a16) ∈ wsL_law := sk_mem (ck_4 _ (List.mem_of_getElem? (i := 85) rfl)) rfl
theorem w_4_86 : (Cond.static yJ7_fill_d0a16) ∈ wsL_law := sk_mem (ck_4 _ (List.mem_of_getElem? (i := 86) rfl)) rfl
theorem w_4_84 : (Cond.code yX1_countComings cX1_countComings 5 none) ∈ wsL_law := sk_mem (ck_4 _ (List.mem_of_getElem? (i := 84) rfl)) rfl
set_option maxHeartbeats 4000000 in
set_option maxRecDepth 100000 in
theorem c_countComings (l : Launch) (D : va_G) (cI cJ cC cZ cS : ClassId) (q : Nat → Nat) (gd : Nat) (gs : Nat) (e1 : Nat → Int32) (e2 : Nat → Int32) (e3 : Nat → Int32) (e5 : Nat → Int64) (hgd : gd ≤ 9) (hgs : gs ≤ 9) : skM l yX1_countComings cX1_countComings 5 none 1 24 0 0 D (skT cI cJ cC cZ cS) [.ref (q 11)] [(q 11, .inr (1, [.ref (q 10), .ref (q 67), .ref (q 68), .ref (q 69), .ref (q 70), .ref (q 71), .ref (q 72), .int (nI gd), .int (nI gs)])), (q 67, .inl (cI, 90, .inl e1)), (q 68, .inl (cI, 9, .inl e2)), (q 69, .inl (cI, 10, .inl e3)), (q 71, .inl (cJ, 100, .inr (.inl e5)))] (skV D (skT cI cJ cC cZ cS) (fun (u : va_W) => ∃ (g5 : Nat → Int64), u = [(q 11, .inr (1, [.ref (q 10), .ref (q 67), .ref (q 68), .ref (q 69), .ref (q 70), .ref (q 71), .ref (q 72), .int (nI gd), .int (nI gs)])), (q 67, .inl (cI, 90, .inl e1)), (q 68, .inl (cI, 9, .inl e2)), (q 69, .inl (cI, 10, .inl e3)), (q 71, .inl (cJ, 100, .inr (.inl g5)))])) := by
  refine skM_of (by decide +kernel) (Nat.le_of_ble_eq_true rfl) ?_
  intro p e s m below meth c A ls E hP hD hl
  obtain ⟨hx, hb, hr, hml, hlocks, hin, hown, hts, hK, hA⟩ := E
  have hown : s.vm.findClass RX1 = some m.cls := hown
  have hS : va_S A s.heap s.heap [] := va_S.rf
  have hl : lv_has ls 5 [(0, .ref (q 11))] := hl
  refine lv_aload_n hx hb dX1_countComings_0 rfl (lv_at hl 0 rfl) ?_
  refine sk_get (v := .ref (q 71)) (C := RX1) (T := TX1) (N := 9) hx hb hts inlX1 hown hK hP 0 rfl rfl 5 (by decide) w_2_100 rfl dX1_countComings_1 ?_
  refine lv_lconst (v := 0) hx hb dX1_countComings_4 (by decide) ?_
  refine sk_Sv (n := 2) (rest := []) (wr := [(q 11, .inr (1, [.ref (q 10), .ref (q 67), .ref (q 68), .ref (q 69), .ref (q 70), .ref (q 71), .ref (q 72), .int (nI gd), .int (nI gs)])), (q 67, .inl (cI, 90, .inl e1)), (q 68, .inl (cI, 9, .inl e2)), (q 69, .inl (cI, 10, .inl e3))]) ⟨hx, hb, hml, hown, hts⟩ hl.1 (c_fillL l D cI cJ cC cZ cS (q 71) 100 e5 0 (by omega)) w_4_85 w_4_86 w_1_15 w_4_87 (by decide +kernel) ⟨⟨(Nat.le_of_ble_eq_true rfl), (Nat.le_of_ble_eq_true rfl)⟩, (Nat.le_of_ble_eq_true rfl), (Nat.le_of_ble_eq_true rfl)⟩ hK hP hD hS hA [4] [0, 1, 2, 3] rfl rfl (by decide +kernel) (by decide +kernel) (by decide +kernel) rfl rfl (Nat.le_of_ble_eq_true rfl) dX1_countComings_5 (fun u H locs hw hP hD hS => ?_)
  obtain ⟨g_1, rfl⟩ := hw
  have hP : va_P D vwCl [(q 11, .inr (1, [.ref (q 10), .ref (q 67), .ref (q 68), .ref (q 69), .ref (q 70), .ref (q 71), .ref (q 72), .int (nI gd), .int (nI gs)])), (q 67, .inl (cI, 90, .inl e1)), (q 68, .inl (cI, 9, .inl e2)), (q 69, .inl (cI, 10, .inl e3)), (q 71, .inl (cJ, 100, .inr (.inl g_1)))] H := hP
  have hD : va_D A [(q 11, .inr (1, [.ref (q 10), .ref (q 67), .ref (q 68), .ref (q 69), .ref (q 70), .ref (q 71), .ref (q 72), .int (nI gd), .int (nI gs)])), (q 67, .inl (cI, 90, .inl e1)), (q 68, .inl (cI, 9, .inl e2)), (q 69, .inl (cI, 10, .inl e3)), (q 71, .inl (cJ, 100, .inr (.inl g_1)))] := hD
  refine lv_aload_n hx hb dX1_countComings_8 rfl (lv_at hl 0 rfl) ?_
  refine sk_get (v := .ref (q 71)) (C := RX1) (T := TX1) (N := 9) hx hb hts inlX1 hown hK hP 0 rfl rfl 5 (by decide) w_2_100 rfl dX1_countComings_9 ?_
  refine lv_aload_n hx hb dX1_countComings_12 rfl (lv_at hl 0 rfl) ?_
  refine sk_get (v := .int (nI gs)) (C := RX1) (T := TX1) (N := 9) hx hb hts inlX1 hown hK hP 0 rfl rfl 8 (by decide) w_2_103 rfl dX1_countComings_13 ?_
  refine lv_lconst (v := 1) hx hb dX1_countComings_16 (by decide) ?_
  refine sk_lastO (ws' := fun f_2 => [(q 11, .inr (1, [.ref (q 10), .ref (q 67), .ref (q 68), .ref (q 69), .ref (q 70), .ref (q 71), .ref (q 72), .int (nI gd), .int (nI gs)])), (q 67, .inl (cI, 90, .inl e1)), (q 68, .inl (cI, 9, .inl e2)), (q 69, .inl (cI, 10, .inl e3)), (q 71, .inl (cJ, 100, .inr (.inl f_2)))]) hx hb hK hP hD hS 4 1 rfl rfl (vin gs 100 (by omega) (by omega)) (fun _ => rfl) dX1_countComings_17 (fun f_2 H locs hP hD hS => ?_)
  refine lv_iconst (v := 0) hx hb dX1_countComings_18 (by decide) ?_
  refine lv_istore_n (lv' := [(1, .int 0), (0, .ref (q 11))]) hx hb dX1_countComings_19 rfl hl (by decide) rfl (fun ls hl => ?_)
  have lp_3 : ∀ (n_4 : Nat) (i : Nat) (a5 : Nat → Int64) (H : Heap) (locs : List Loc) (ls : Array Slot), gd - i < n_4 → (i ≤ gd) → va_P D vwCl [(q 11, .inr (1, [.ref (q 10), .ref (q 67), .ref (q 68), .ref (q 69), .ref (q 70), .ref (q 71), .ref (q 72), .int (nI gd), .int (nI gs)])), (q 67, .inl (cI, 90, .inl e1)), (q 68, .inl (cI, 9, .inl e2)), (q 69, .inl (cI, 10, .inl e3)), (q 71, .inl (cJ, 100, .inr (.inl a5)))] H → va_D A [(q 11, .inr (1, [.ref (q 10), .ref (q 67), .ref (q 68), .ref (q 69), .ref (q 70), .ref (q 71), .ref (q 72), .int (nI gd), .int (nI gs)])), (q 67, .inl (cI, 90, .inl e1)), (q 68, .inl (cI, 9, .inl e2)), (q 69, .inl (cI, 10, .inl e3)), (q 71, .inl (cJ, 100, .inr (.inl a5)))] → va_S A s.heap H locs → lv_has ls 5 [(1, .int (nI i)), (0, .ref (q 11))] → W p l e { frames := 1, cells := 0, slots := 0, locals := 24 } s m ([.ref (q 11)] : List Value).toArray below meth c H locs 0 0 (MQ below (skV D (skT cI cJ cC cZ cS) (fun (u : va_W) => ∃ (g5 : Nat → Int64), u = [(q 11, .inr (1, [.ref (q 10), .ref (q 67), .ref (q 68), .ref (q 69), .ref (q 70), .ref (q 71), .ref (q 72), .int (nI gd), .int (nI gs)])), (q 67, .inl (cI, 90, .inl e1)), (q 68, .inl (cI, 9, .inl e2)), (q 69, .inl (cI, 10, .inl e3)), (q 71, .inl (cJ, 100, .inr (.inl g5)))]) A) ([.ref (q 11)] : List Value).toArray s 0 0 A) (F0 m 20 ls []) := by
    intro n_4
    induction n_4 with
    | zero => intro i a5 H locs ls hm; exact absurd hm (Nat.not_lt_zero _)
    | succ n_4 ih_lp_3 =>
      intro i a5 H locs ls hm hi hP hD hS hl
      refine lv_iload_n hx hb dX1_countComings_20 rfl (lv_at hl 0 rfl) ?_
      refine lv_aload_n hx hb dX1_countComings_21 rfl (lv_at hl 1 rfl) ?_
      refine sk_get (v := .int (nI gd)) (C := RX1) (T := TX1) (N := 9) hx hb hts inlX1 hown hK hP 0 rfl rfl 7 (by decide) w_2_102 rfl dX1_countComings_22 ?_
      refine lv_icmp_ge (tgt := 109) hx hb dX1_countComings_25 (by decide) (fun c_5 => ?_) (fun c_5 => ?_)
      · have c_5 : gd ≤ i := (nle gd i (by omega) (by omega)).mp c_5
        exact sk_vret hx hb hr hlocks hK hP hD hS (⟨a5, rfl⟩) (Nat.le_of_ble_eq_true rfl) (Nat.le_of_ble_eq_true rfl) dX1_countComings_109
      · have c_5 : ¬ (gd ≤ i) := fun h => c_5 ((nle gd i (by omega) (by omega)).mpr h)
        refine lv_iconst (v := 0) hx hb dX1_countComings_28 (by decide) ?_
        refine lv_istore_n (lv' := [(2, .int 0), (1, .int (nI i)), (0, .ref (q 11))]) hx hb dX1_countComings_29 rfl hl (by decide) rfl (fun ls hl => ?_)
        have lp_6 : ∀ (n_7 : Nat) (jj : Nat) (b5 : Nat → Int64) (H : Heap) (locs : List Loc) (ls : Array Slot), 10 - jj < n_7 → (jj ≤ 10) → va_P D vwCl [(q 11, .inr (1, [.ref (q 10), .ref (q 67), .ref (q 68), .ref (q 69), .ref (q 70), .ref (q 71), .ref (q 72), .int (nI gd), .int (nI gs)])), (q 67, .inl (cI, 90, .inl e1)), (q 68, .inl (cI, 9, .inl e2)), (q 69, .inl (cI, 10, .inl e3)), (q 71, .inl (cJ, 100, .inr (.inl b5)))] H → va_D A [(q 11, .inr (1, [.ref (q 10), .ref (q 67), .ref (q 68), .ref (q 69), .ref (q 70), .ref (q 71), .ref (q 72), .int (nI gd), .int (nI gs)])), (q 67, .inl (cI, 90, .inl e1)), (q 68, .inl (cI, 9, .inl e2)), (q 69, .inl (cI, 10, .inl e3)), (q 71, .inl (cJ, 100, .inr (.inl b5)))] → va_S A s.heap H locs → lv_has ls 5 [(2, .int (nI jj)), (1, .int (nI i)), (0, .ref (q 11))] → W p l e { frames := 1, cells := 0, slots := 0, locals := 24 } s m ([.ref (q 11)] : List Value).toArray below meth c H locs 0 0 (MQ below (skV D (skT cI cJ cC cZ cS) (fun (u : va_W) => ∃ (g5 : Nat → Int64), u = [(q 11, .inr (1, [.ref (q 10), .ref (q 67), .ref (q 68), .ref (q 69), .ref (q 70), .ref (q 71), .ref (q 72), .int (nI gd), .int (nI gs)])), (q 67, .inl (cI, 90, .inl e1)), (q 68, .inl (cI, 9, .inl e2)), (q 69, .inl (cI, 10, .inl e3)), (q 71, .inl (cJ, 100, .inr (.inl g5)))]) A) ([.ref (q 11)] : List Value).toArray s 0 0 A) (F0 m 30 ls []) := by
          intro n_7
          induction n_7 with
          | zero => intro jj b5 H locs ls hm; exact absurd hm (Nat.not_lt_zero _)
          | succ n_7 ih_lp_6 =>
            intro jj b5 H locs ls hm hjj hP hD hS hl
            refine lv_iload_n hx hb dX1_countComings_30 rfl (lv_at hl 0 rfl) ?_
            refine lv_bipush (v := 10) hx hb dX1_countComings_31 (by decide) ?_
            refine lv_icmp_ge (tgt := 103) hx hb dX1_countComings_33 (by decide) (fun c_8 => ?_) (fun c_8 => ?_)
            · have c_8 : 10 ≤ jj := (nle 10 jj (by omega) (by omega)).mp c_8
              refine lv_iinc (v := nI (i + 1)) (lv' := [(1, .int (nI (i + 1))), (2, .int (nI jj)), (0, .ref (q 11))]) hx hb dX1_countComings_103 hl (k := 1) rfl (ninc i 1 (by decide)) (by decide) rfl (fun ls hl => ?_)
              refine lv_goto (tgt := 20) hx hb dX1_countComings_106 (by decide) ?_
              exact ih_lp_3 (i + 1) b5 _ _ _ (by omega) (by omega) hP hD hS (lv_sub hl [0, 2] rfl)
            · have c_8 : ¬ (10 ≤ jj) := fun h => c_8 ((nle 10 jj (by omega) (by omega)).mpr h)
              refine lv_aload_n hx hb dX1_countComings_36 rfl (lv_at hl 2 rfl) ?_
              refine lv_iload_n hx hb dX1_countComings_37 rfl (lv_at hl 1 rfl) ?_
              refine lv_iload_n hx hb dX1_countComings_38 rfl (lv_at hl 0 rfl) ?_
              refine sk_Vi (q0 := 0) (n := 2) (rest := []) (wr := [(q 71, .inl (cJ, 100, .inr (.inl b5)))]) ⟨hx, hb, hml, hown, hts⟩ hl.1 (c_next l D cI cJ cC cZ cS q gd gs e1 e2 e3 i jj (by omega) (by omega)) w_4_57 w_4_59 w_0_20 w_1_13 w_4_60 (by decide +kernel) ⟨⟨(Nat.le_of_ble_eq_true rfl), (Nat.le_of_ble_eq_true rfl)⟩, (Nat.le_of_ble_eq_true rfl), (Nat.le_of_ble_eq_true rfl)⟩ hK hP hD hS hA [0, 1, 2, 3] [4] rfl rfl (by decide +kernel) (by decide +kernel) (by decide +kernel) rfl rfl rfl rfl (Nat.le_of_ble_eq_true rfl) dX1_countComings_39 (fun r_9 u H locs hw hP hD hS => ?_)
              obtain rfl := hw
              have hP : va_P D vwCl [(q 71, .inl (cJ, 100, .inr (.inl b5))), (q 11, .inr (1, [.ref (q 10), .ref (q 67), .ref (q 68), .ref (q 69), .ref (q 70), .ref (q 71), .ref (q 72), .int (nI gd), .int (nI gs)])), (q 67, .inl (cI, 90, .inl e1)), (q 68, .inl (cI, 9, .inl e2)), (q 69, .inl (cI, 10, .inl e3))] H := hP
              have hD : va_D A [(q 71, .inl (cJ, 100, .inr (.inl b5))), (q 11, .inr (1, [.ref (q 10), .ref (q 67), .ref (q 68), .ref (q 69), .ref (q 70), .ref (q 71), .ref (q 72), .int (nI gd), .int (nI gs)])), (q 67, .inl (cI, 90, .inl e1)), (q 68, .inl (cI, 9, .inl e2)), (q 69, .inl (cI, 10, .inl e3))] := hD
              refine lv_istore_n (lv' := [(3, .int r_9), (2, .int (nI jj)), (1, .int (nI i)), (0, .ref (q 11))]) hx hb dX1_countComings_42 rfl hl (by decide) rfl (fun ls hl => ?_)
              refine lv_iconst (v := 0) hx hb dX1_countComings_43 (by decide) ?_
              refine lv_istore (lv' := [(4, .int 0), (3, .int r_9), (2, .int (nI jj)), (1, .int (nI i)), (0, .ref (q 11))]) hx hb dX1_countComings_44 hl (by decide) rfl (fun ls hl => ?_)
              have lp_10 : ∀ (n_11 : Nat) (kk : Nat) (c5 : Nat → Int64) (H : Heap) (locs : List Loc) (ls : Array Slot), 10 - kk < n_11 → (kk ≤ 10) → va_P D vwCl [(q 71, .inl (cJ, 100, .inr (.inl c5))), (q 11, .inr (1, [.ref (q 10), .ref (q 67), .ref (q 68), .ref (q 69), .ref (q 70), .ref (q 71), .ref (q 72), .int (nI gd), .int (nI gs)])), (q 67, .inl (cI, 90, .inl e1)), (q 68, .inl (cI, 9, .inl e2)), (q 69, .inl (cI, 10, .inl e3))] H → va_D A [(q 71, .inl (cJ, 100, .inr (.inl c5))), (q 11, .inr (1, [.ref (q 10), .ref (q 67), .ref (q 68), .ref (q 69), .ref (q 70), .ref (q 71), .ref (q 72), .int (nI gd), .int (nI gs)])), (q 67, .inl (cI, 90, .inl e1)), (q 68, .inl (cI, 9, .inl e2)), (q 69, .inl (cI, 10, .inl e3))] → va_S A s.heap H locs → lv_has ls 5 [(4, .int (nI kk)), (3, .int r_9), (2, .int (nI jj)), (1, .int (nI i)), (0, .ref (q 11))] → W p l e { frames := 1, cells := 0, slots := 0, locals := 24 } s m ([.ref (q 11)] : List Value).toArray below meth c H locs 0 0 (MQ below (skV D (skT cI cJ cC cZ cS) (fun (u : va_W) => ∃ (g5 : Nat → Int64), u = [(q 11, .inr (1, [.ref (q 10), .ref (q 67), .ref (q 68), .ref (q 69), .ref (q 70), .ref (q 71), .ref (q 72), .int (nI gd), .int (nI gs)])), (q 67, .inl (cI, 90, .inl e1)), (q 68, .inl (cI, 9, .inl e2)), (q 69, .inl (cI, 10, .inl e3)), (q 71, .inl (cJ, 100, .inr (.inl g5)))]) A) ([.ref (q 11)] : List Value).toArray s 0 0 A) (F0 m 46 ls []) := by
                intro n_11
                induction n_11 with
                | zero => intro kk c5 H locs ls hm; exact absurd hm (Nat.not_lt_zero _)
                | succ n_11 ih_lp_10 =>
                  intro kk c5 H locs ls hm hkk hP hD hS hl
                  refine lv_iload hx hb dX1_countComings_46 (lv_at hl 0 rfl) ?_
                  refine lv_bipush (v := 10) hx hb dX1_countComings_48 (by decide) ?_
                  refine lv_icmp_ge (tgt := 97) hx hb dX1_countComings_50 (by decide) (fun c_12 => ?_) (fun c_12 => ?_)
                  · have c_12 : 10 ≤ kk := (nle 10 kk (by omega) (by omega)).mp c_12
                    refine lv_iinc (v := nI (jj + 1)) (lv' := [(2, .int (nI (jj + 1))), (4, .int (nI kk)), (3, .int r_9), (1, .int (nI i)), (0, .ref (q 11))]) hx hb dX1_countComings_97 hl (k := 2) rfl (ninc jj 1 (by decide)) (by decide) rfl (fun ls hl => ?_)
                    refine lv_goto (tgt := 30) hx hb dX1_countComings_100 (by decide) ?_
                    have hP := hP.sub (ws' := [(q 11, .inr (1, [.ref (q 10), .ref (q 67), .ref (q 68), .ref (q 69), .ref (q 70), .ref (q 71), .ref (q 72), .int (nI gd), .int (nI gs)])), (q 67, .inl (cI, 90, .inl e1)), (q 68, .inl (cI, 9, .inl e2)), (q 69, .inl (cI, 10, .inl e3)), (q 71, .inl (cJ, 100, .inr (.inl c5)))]) [1, 2, 3, 4, 0] rfl
                    have hD := hD.sub (ws' := [(q 11, .inr (1, [.ref (q 10), .ref (q 67), .ref (q 68), .ref (q 69), .ref (q 70), .ref (q 71), .ref (q 72), .int (nI gd), .int (nI gs)])), (q 67, .inl (cI, 90, .inl e1)), (q 68, .inl (cI, 9, .inl e2)), (q 69, .inl (cI, 10, .inl e3)), (q 71, .inl (cJ, 100, .inr (.inl c5)))]) [1, 2, 3, 4, 0] (by decide +kernel) rfl
                    exact ih_lp_6 (jj + 1) c5 _ _ _ (by omega) (by omega) hP hD hS (lv_sub hl [0, 3, 4] rfl)
                  · have c_12 : ¬ (10 ≤ kk) := fun h => c_12 ((nle 10 kk (by omega) (by omega)).mpr h)
                    refine lv_iload_n hx hb dX1_countComings_53 rfl (lv_at hl 1 rfl) ?_
                    refine lv_iload hx hb dX1_countComings_54 (lv_at hl 0 rfl) ?_
                    refine lv_ishr hx hb dX1_countComings_56 ?_
                    refine lv_topi (fun v_13 ev_13 => ?_)
                    refine lv_iconst (v := 1) hx hb dX1_countComings_57 (by decide) ?_
                    refine lv_iand hx hb dX1_countComings_58 ?_
                    refine lv_topi (fun v_14 ev_14 => ?_)
                    refine lv_iconst (v := 1) hx hb dX1_countComings_59 (by decide) ?_
                    refine lv_icmp_ne (tgt := 91) hx hb dX1_countComings_60 (by decide) (fun c_15 => ?_) (fun c_15 => ?_)
                    · skip
                      refine lv_iinc (v := nI (kk + 1)) (lv' := [(4, .int (nI (kk + 1))), (3, .int r_9), (2, .int (nI jj)), (1, .int (nI i)), (0, .ref (q 11))]) hx hb dX1_countComings_91 hl (k := 0) rfl (ninc kk 1 (by decide)) (by decide) rfl (fun ls hl => ?_)
                      refine lv_goto (tgt := 46) hx hb dX1_countComings_94 (by decide) ?_
                      exact ih_lp_10 (kk + 1) c5 _ _ _ (by omega) (by omega) hP hD hS (lv_sub hl [0, 1, 2, 3, 4] rfl)
                    · skip
                      refine lv_aload_n hx hb dX1_countComings_63 rfl (lv_at hl 4 rfl) ?_
                      refine sk_get (v := .ref (q 71)) (C := RX1) (T := TX1) (N := 9) hx hb hts inlX1 hown hK hP 1 rfl rfl 5 (by decide) w_2_100 rfl dX1_countComings_64 ?_
                      refine lv_iload_n hx hb dX1_countComings_67 rfl (lv_at hl 3 rfl) ?_
                      refine lv_iconst (v := 1) hx hb dX1_countComings_68 (by decide) ?_
                      refine lv_iadd hx hb dX1_countComings_69 ?_
                      refine sk_top (nI (i + 1)) (nI_add i 1) ?_
                      refine lv_bipush (v := 10) hx hb dX1_countComings_70 (by decide) ?_
                      refine lv_imul hx hb dX1_countComings_72 ?_
                      refine sk_top (nI ((i + 1) * 10)) (nmul (i + 1) 10) ?_
                      refine lv_iload hx hb dX1_countComings_73 (lv_at hl 0 rfl) ?_
                      refine lv_iadd hx hb dX1_countComings_75 ?_
                      refine sk_top (nI ((i + 1) * 10 + kk)) (nI_add ((i + 1) * 10) kk) ?_
                      refine lv_dup2_11 hx hb dX1_countComings_76 rfl rfl ?_
                      refine va_lald hx hb hK.1 hP 0 1 rfl rfl (vin ((i + 1) * 10 + kk) 100 (by omega) (by omega)) dX1_countComings_77 ?_
                      refine lv_topl (fun v_16 ev_16 => ?_)
                      refine lv_aload_n hx hb dX1_countComings_78 rfl (lv_at hl 4 rfl) ?_
                      refine sk_get (v := .ref (q 71)) (C := RX1) (T := TX1) (N := 9) hx hb hts inlX1 hown hK hP 1 rfl rfl 5 (by decide) w_2_100 rfl dX1_countComings_79 ?_
                      refine lv_iload_n hx hb dX1_countComings_82 rfl (lv_at hl 3 rfl) ?_
                      refine lv_bipush (v := 10) hx hb dX1_countComings_83 (by decide) ?_
                      refine lv_imul hx hb dX1_countComings_85 ?_
                      refine sk_top (nI (i * 10)) (nmul i 10) ?_
                      refine lv_iload_n hx hb dX1_countComings_86 rfl (lv_at hl 2 rfl) ?_
                      refine lv_iadd hx hb dX1_countComings_87 ?_
                      refine sk_top (nI (i * 10 + jj)) (nI_add (i * 10) jj) ?_
                      refine va_lald hx hb hK.1 hP 0 1 rfl rfl (vin (i * 10 + jj) 100 (by omega) (by omega)) dX1_countComings_88 ?_
                      refine lv_topl (fun v_17 ev_17 => ?_)
                      refine lv_ladd hx hb dX1_countComings_89 ?_
                      refine lv_topl (fun v_18 ev_18 => ?_)
                      refine sk_lastO (ws' := fun f_19 => [(q 71, .inl (cJ, 100, .inr (.inl f_19))), (q 11, .inr (1, [.ref (q 10), .ref (q 67), .ref (q 68), .ref (q 69), .ref (q 70), .ref (q 71), .ref (q 72), .int (nI gd), .int (nI gs)])), (q 67, .inl (cI, 90, .inl e1)), (q 68, .inl (cI, 9, .inl e2)), (q 69, .inl (cI, 10, .inl e3))]) hx hb hK hP hD hS 0 1 rfl rfl (vin ((i + 1) * 10 + kk) 100 (by omega) (by omega)) (fun _ => rfl) dX1_countComings_90 (fun f_19 H locs hP hD hS => ?_)
                      refine lv_iinc (v := nI (kk + 1)) (lv' := [(4, .int (nI (kk + 1))), (3, .int r_9), (2, .int (nI jj)), (1, .int (nI i)), (0, .ref (q 11))]) hx hb dX1_countComings_91 hl (k := 0) rfl (ninc kk 1 (by decide)) (by decide) rfl (fun ls hl => ?_)
                      refine lv_goto (tgt := 46) hx hb dX1_countComings_94 (by decide) ?_
                      exact ih_lp_10 (kk + 1) f_19 _ _ _ (by omega) (by omega) hP hD hS (lv_sub hl [0, 1, 2, 3, 4] rfl)
              exact lp_10 (10 - 0 + 1) 0 b5 _ _ _ (Nat.lt_succ_self _) (by omega) hP hD hS (lv_sub hl [0, 1, 2, 3, 4] rfl)
        exact lp_6 (10 - 0 + 1) 0 a5 _ _ _ (Nat.lt_succ_self _) (by omega) hP hD hS (lv_sub hl [0, 1, 2] rfl)
  exact lp_3 (gd - 0 + 1) 0 f_2 _ _ _ (Nat.lt_succ_self _) (by omega) hP hD hS (lv_sub hl [0, 1] rfl)
theorem dX1_timesOf_0 : decode cX1_timesOf 0 = .ok (.iload_n 1, 1) := by decide +kernel
theorem dX1_timesOf_1 : decode cX1_timesOf 1 = .ok (.iconst 1, 1) := by decide +kernel
theorem dX1_timesOf_2 : decode cX1_timesOf 2 = .ok (.iadd, 1) := by decide +kernel
theorem dX1_timesOf_3 : decode cX1_timesOf 3 = .ok (.bipush 10, 2) := by decide +kernel
theorem dX1_timesOf_5 : decode cX1_timesOf 5 = .ok (.imul, 1) := by decide +kernel
theorem dX1_timesOf_6 : decode cX1_timesOf 6 = .ok (.iload_n 2, 1) := by decide +kernel
theorem dX1_timesOf_7 : decode cX1_timesOf 7 = .ok (.iadd, 1) := by decide +kernel
theorem dX1_timesOf_8 : decode cX1_timesOf 8 = .ok (.istore_n 3, 1) := by decide +kernel
theorem dX1_timesOf_9 : decode cX1_timesOf 9 = .ok (.aload_n 0, 1) := by decide +kernel
theorem dX1_timesOf_10 : decode cX1_timesOf 10 = .ok (.getfield 25, 3) := by decide +kernel
theorem dX1_timesOf_13 : decode cX1_timesOf 13 = .ok (.iload_n 3, 1) := by decide +kernel
theorem dX1_timesOf_14 : decode cX1_timesOf 14 = .ok (.laload, 1) := by decide +kernel
theorem dX1_timesOf_15 : decode cX1_timesOf 15 = .ok (.aload_n 0, 1) := by decide +kernel
theorem dX1_timesOf_16 : decode cX1_timesOf 16 = .ok (.getfield 21, 3) := by decide +kernel
theorem dX1_timesOf_19 : decode cX1_timesOf 19 = .ok (.iload_n 3, 1) := by decide +kernel
theorem dX1_timesOf_20 : decode cX1_timesOf 20 = .ok (.laload, 1) := by decide +kernel
theorem dX1_timesOf_21 : decode cX1_timesOf 21 = .ok (.lmul, 1) := by decide +kernel
theorem dX1_timesOf_22 : decode cX1_timesOf 22 = .ok (.lreturn, 1) := by decide +kernel
theorem w_4_91 : (Cond.code yX1_timesOf cX1_timesOf 4 (some .long)) ∈ wsL_law := sk_mem (ck_4 _ (List.mem_of_getElem? (i := 91) rfl)) rfl
set_option maxHeartbeats 4000000 in
set_option maxRecDepth 100000 in
theorem c_timesOf (l : Launch) (D : va_G) (cI cJ cC cZ cS : ClassId) (q : Nat → Nat) (gd : Nat) (gs : Nat) (e4 : Nat → Int64) (e5 : Nat → Int64) (d : Nat) (ah : Nat) (hd : d < 9) (hah : ah < 10) : skM l yX1_timesOf cX1_timesOf 4 (some .long) 0 0 0 0 D (skT cI cJ cC cZ cS) [.ref (q 11), .int (nI d), .int (nI ah)] [(q 11, .inr (1, [.ref (q 10), .ref (q 67), .ref (q 68), .ref (q 69), .ref (q 70), .ref (q 71), .ref (q 72), .int (nI gd), .int (nI gs)])), (q 70, .inl (cJ, 100, .inr (.inl e4))), (q 71, .inl (cJ, 100, .inr (.inl e5)))] (skL D (skT cI cJ cC cZ cS) (fun (r : Int64) (u : va_W) => u = [(q 11, .inr (1, [.ref (q 10), .ref (q 67), .ref (q 68), .ref (q 69), .ref (q 70), .ref (q 71), .ref (q 72), .int (nI gd), .int (nI gs)])), (q 70, .inl (cJ, 100, .inr (.inl e4))), (q 71, .inl (cJ, 100, .inr (.inl e5)))])) := by
  refine skM_of (by decide +kernel) (Nat.le_of_ble_eq_true rfl) ?_
  intro p e s m below meth c A ls E hP hD hl
  obtain ⟨hx, hb, hr, hml, hlocks, hin, hown, hts, hK, hA⟩ := E
  have hown : s.vm.findClass RX1 = some m.cls := hown
  have hS : va_S A s.heap s.heap [] := va_S.rf
  have hl : lv_has ls 4 [(0, .ref (q 11)), (1, .int (nI d)), (2, .int (nI ah))] := hl
  refine lv_iload_n hx hb dX1_timesOf_0 rfl (lv_at hl 1 rfl) ?_
  refine lv_iconst (v := 1) hx hb dX1_timesOf_1 (by decide) ?_
  refine lv_iadd hx hb dX1_timesOf_2 ?_
  refine sk_top (nI (d + 1)) (nI_add d 1) ?_
  refine lv_bipush (v := 10) hx hb dX1_timesOf_3 (by decide) ?_
  refine lv_imul hx hb dX1_timesOf_5 ?_
  refine sk_top (nI ((d + 1) * 10)) (nmul (d + 1) 10) ?_
  refine lv_iload_n hx hb dX1_timesOf_6 rfl (lv_at hl 2 rfl) ?_
  refine lv_iadd hx hb dX1_timesOf_7 ?_
  refine sk_top (nI ((d + 1) * 10 + ah)) (nI_add ((d + 1) * 10) ah) ?_
  refine lv_istore_n (lv' := [(3, .int (nI ((d + 1) * 10 + ah))), (0, .ref (q 11)), (1, .int (nI d)), (2, .int (nI ah))]) hx hb dX1_timesOf_8 rfl hl (by decide) rfl (fun ls hl => ?_)
  refine lv_aload_n hx hb dX1_timesOf_9 rfl (lv_at hl 1 rfl) ?_
  refine sk_get (v := .ref (q 71)) (C := RX1) (T := TX1) (N := 9) hx hb hts inlX1 hown hK hP 0 rfl rfl 5 (by decide) w_2_100 rfl dX1_timesOf_10 ?_
  refine lv_iload_n hx hb dX1_timesOf_13 rfl (lv_at hl 0 rfl) ?_
  refine va_lald hx hb hK.1 hP 2 1 rfl rfl (vin ((d + 1) * 10 + ah) 100 (by omega) (by omega)) dX1_timesOf_14 ?_
  refine lv_topl (fun v_1 ev_1 => ?_)
  refine lv_aload_n hx hb dX1_timesOf_15 rfl (lv_at hl 1 rfl) ?_
  refine sk_get (v := .ref (q 70)) (C := RX1) (T := TX1) (N := 9) hx hb hts inlX1 hown hK hP 0 rfl rfl 4 (by decide) w_2_99 rfl dX1_timesOf_16 ?_
  refine lv_iload_n hx hb dX1_timesOf_19 rfl (lv_at hl 0 rfl) ?_
  refine va_lald hx hb hK.1 hP 1 1 rfl rfl (vin ((d + 1) * 10 + ah) 100 (by omega) (by omega)) dX1_timesOf_20 ?_
  refine lv_topl (fun v_2 ev_2 => ?_)
  refine lv_lmul hx hb dX1_timesOf_21 ?_
  refine lv_topl (fun v_3 ev_3 => ?_)
  exact sk_lret hx hb hr hlocks hK hP hD hS rfl (Nat.le_of_ble_eq_true rfl) (Nat.le_of_ble_eq_true rfl) dX1_timesOf_22
theorem dX1_mostLeft_0 : decode cX1_mostLeft 0 = .ok (.lconst 0, 1) := by decide +kernel
theorem dX1_mostLeft_1 : decode cX1_mostLeft 1 = .ok (.lstore_n 2, 1) := by decide +kernel
theorem dX1_mostLeft_2 : decode cX1_mostLeft 2 = .ok (.iconst 0, 1) := by decide +kernel
theorem dX1_mostLeft_3 : decode cX1_mostLeft 3 = .ok (.istore 4, 2) := by decide +kernel
theorem dX1_mostLeft_5 : decode cX1_mostLeft 5 = .ok (.iload 4, 2) := by decide +kernel
theorem dX1_mostLeft_7 : decode cX1_mostLeft 7 = .ok (.bipush 10, 2) := by decide +kernel
theorem dX1_mostLeft_9 : decode cX1_mostLeft 9 = .ok (.if_icmp .ge 21, 3) := by decide +kernel
theorem dX1_mostLeft_30 : decode cX1_mostLeft 30 = .ok (.lload_n 2, 1) := by decide +kernel
theorem dX1_mostLeft_31 : decode cX1_mostLeft 31 = .ok (.lreturn, 1) := by decide +kernel
theorem dX1_mostLeft_12 : decode cX1_mostLeft 12 = .ok (.lload_n 2, 1) := by decide +kernel
theorem dX1_mostLeft_13 : decode cX1_mostLeft 13 = .ok (.aload_n 0, 1) := by decide +kernel
theorem dX1_mostLeft_14 : decode cX1_mostLeft 14 = .ok (.iload_n 1, 1) := by decide +kernel
theorem dX1_mostLeft_15 : decode cX1_mostLeft 15 = .ok (.iload 4, 2) := by decide +kernel
theorem dX1_mostLeft_17 : decode cX1_mostLeft 17 = .ok (.invokevirtual 79, 3) := by decide +kernel
theorem dX1_mostLeft_20 : decode cX1_mostLeft 20 = .ok (.invokestatic 83, 3) := by decide +kernel
theorem dX1_mostLeft_23 : decode cX1_mostLeft 23 = .ok (.lstore_n 2, 1) := by decide +kernel
theorem dX1_mostLeft_24 : decode cX1_mostLeft 24 = .ok (.iinc 4 1, 3) := by decide +kernel
theorem dX1_mostLeft_27 : decode cX1_mostLeft 27 = .ok (.goto (-22), 3) := by decide +kernel
theorem w_4_234 : (Cond.methodLink RX1 79 yX1_timesOf) ∈ wsL_law := sk_mem (ck_4 _ (List.mem_of_getElem? (i := 234) rfl)) rfl
theorem w_4_89 : (Cond.instanceMethod yX1_timesOf) ∈ wsL_law := sk_mem (ck_4 _ (List.mem_of_getElem? (i := 89) rfl)) rfl
theorem w_4_90 : (Cond.selects RX1 yX1_timesOf yX1_timesOf) ∈ wsL_law := sk_mem (ck_4 _ (List.mem_of_getElem? (i := 90) rfl)) rfl
theorem w_4_165 : (Cond.methodLink RX1 83 Lib.MathLoose.max_long.x) ∈ wsL_law := sk_mem (ck_4 _ (List.mem_of_getElem? (i := 165) rfl)) rfl
theorem w_4_233 : (Cond.code yX1_mostLeft cX1_mostLeft 5 (some .long)) ∈ wsL_law := sk_mem (ck_4 _ (List.mem_of_getElem? (i := 233) rfl)) rfl
set_option maxHeartbeats 4000000 in
set_option maxRecDepth 100000 in
theorem c_mostLeft (l : Launch) (D : va_G) (cI cJ cC cZ cS : ClassId) (q : Nat → Nat) (gd : Nat) (gs : Nat) (e4 : Nat → Int64) (e5 : Nat → Int64) (d : Nat) (hd : d < 9) : skM l yX1_mostLeft cX1_mostLeft 5 (some .long) 1 23 0 0 D (skT cI cJ cC cZ cS) [.ref (q 11), .int (nI d)] [(q 11, .inr (1, [.ref (q 10), .ref (q 67), .ref (q 68), .ref (q 69), .ref (q 70), .ref (q 71), .ref (q 72), .int (nI gd), .int (nI gs)])), (q 70, .inl (cJ, 100, .inr (.inl e4))), (q 71, .inl (cJ, 100, .inr (.inl e5)))] (skL D (skT cI cJ cC cZ cS) (fun (r : Int64) (u : va_W) => u = [(q 11, .inr (1, [.ref (q 10), .ref (q 67), .ref (q 68), .ref (q 69), .ref (q 70), .ref (q 71), .ref (q 72), .int (nI gd), .int (nI gs)])), (q 70, .inl (cJ, 100, .inr (.inl e4))), (q 71, .inl (cJ, 100, .inr (.inl e5)))])) := by
  refine skM_of (by decide +kernel) (Nat.le_of_ble_eq_true rfl) ?_
  intro p e s m below meth c A ls E hP hD hl
  obtain ⟨hx, hb, hr, hml, hlocks, hin, hown, hts, hK, hA⟩ := E
  have hown : s.vm.findClass RX1 = some m.cls := hown
  have hS : va_S A s.heap s.heap [] := va_S.rf
  have hl : lv_has ls 5 [(0, .ref (q 11)), (1, .int (nI d))] := hl
  refine lv_lconst (v := 0) hx hb dX1_mostLeft_0 (by decide) ?_
  refine lv_lstore_n (lv' := [(2, .long 0), (0, .ref (q 11)), (1, .int (nI d))]) hx hb dX1_mostLeft_1 rfl hl (by decide) rfl (fun ls hl => ?_)
  refine lv_iconst (v := 0) hx hb dX1_mostLeft_2 (by decide) ?_
  refine lv_istore (lv' := [(4, .int 0), (2, .long 0), (0, .ref (q 11)), (1, .int (nI d))]) hx hb dX1_mostLeft_3 hl (by decide) rfl (fun ls hl => ?_)
  have lp_1 : ∀ (n_2 : Nat) (i : Nat) (ml : Int64) (H : Heap) (locs : List Loc) (ls : Array Slot), 10 - i < n_2 → (i ≤ 10) → va_P D vwCl [(q 11, .inr (1, [.ref (q 10), .ref (q 67), .ref (q 68), .ref (q 69), .ref (q 70), .ref (q 71), .ref (q 72), .int (nI gd), .int (nI gs)])), (q 70, .inl (cJ, 100, .inr (.inl e4))), (q 71, .inl (cJ, 100, .inr (.inl e5)))] H → va_D A [(q 11, .inr (1, [.ref (q 10), .ref (q 67), .ref (q 68), .ref (q 69), .ref (q 70), .ref (q 71), .ref (q 72), .int (nI gd), .int (nI gs)])), (q 70, .inl (cJ, 100, .inr (.inl e4))), (q 71, .inl (cJ, 100, .inr (.inl e5)))] → va_S A s.heap H locs → lv_has ls 5 [(4, .int (nI i)), (2, .long ml), (0, .ref (q 11)), (1, .int (nI d))] → W p l e { frames := 1, cells := 0, slots := 0, locals := 23 } s m ([.ref (q 11), .int (nI d)] : List Value).toArray below meth c H locs 0 0 (MQ below (skL D (skT cI cJ cC cZ cS) (fun (r : Int64) (u : va_W) => u = [(q 11, .inr (1, [.ref (q 10), .ref (q 67), .ref (q 68), .ref (q 69), .ref (q 70), .ref (q 71), .ref (q 72), .int (nI gd), .int (nI gs)])), (q 70, .inl (cJ, 100, .inr (.inl e4))), (q 71, .inl (cJ, 100, .inr (.inl e5)))]) A) ([.ref (q 11), .int (nI d)] : List Value).toArray s 0 0 A) (F0 m 5 ls []) := by
    intro n_2
    induction n_2 with
    | zero => intro i ml H locs ls hm; exact absurd hm (Nat.not_lt_zero _)
    | succ n_2 ih_lp_1 =>
      intro i ml H locs ls hm hi hP hD hS hl
      refine lv_iload hx hb dX1_mostLeft_5 (lv_at hl 0 rfl) ?_
      refine lv_bipush (v := 10) hx hb dX1_mostLeft_7 (by decide) ?_
      refine lv_icmp_ge (tgt := 30) hx hb dX1_mostLeft_9 (by decide) (fun c_3 => ?_) (fun c_3 => ?_)
      · have c_3 : 10 ≤ i := (nle 10 i (by omega) (by omega)).mp c_3
        refine lv_lload_n hx hb dX1_mostLeft_30 rfl (lv_at hl 1 rfl) ?_
        exact sk_lret hx hb hr hlocks hK hP hD hS rfl (Nat.le_of_ble_eq_true rfl) (Nat.le_of_ble_eq_true rfl) dX1_mostLeft_31
      · have c_3 : ¬ (10 ≤ i) := fun h => c_3 ((nle 10 i (by omega) (by omega)).mpr h)
        refine lv_lload_n hx hb dX1_mostLeft_12 rfl (lv_at hl 1 rfl) ?_
        refine lv_aload_n hx hb dX1_mostLeft_13 rfl (lv_at hl 2 rfl) ?_
        refine lv_iload_n hx hb dX1_mostLeft_14 rfl (lv_at hl 3 rfl) ?_
        refine lv_iload hx hb dX1_mostLeft_15 (lv_at hl 0 rfl) ?_
        refine sk_Vl (q0 := 0) (n := 2) (rest := [.long ml]) (wr := []) ⟨hx, hb, hml, hown, hts⟩ hl.1 (c_timesOf l D cI cJ cC cZ cS q gd gs e4 e5 d i (by omega) (by omega)) w_4_234 w_4_89 w_4_90 w_1_13 w_4_91 (by decide +kernel) ⟨⟨(Nat.le_of_ble_eq_true rfl), (Nat.le_of_ble_eq_true rfl)⟩, (Nat.le_of_ble_eq_true rfl), (Nat.le_of_ble_eq_true rfl)⟩ hK hP hD hS hA [0, 1, 2] [] rfl rfl (by decide +kernel) (by decide +kernel) (by decide +kernel) rfl rfl rfl rfl (Nat.le_of_ble_eq_true rfl) dX1_mostLeft_17 (fun r_4 u H locs hw hP hD hS => ?_)
        obtain rfl := hw
        have hP : va_P D vwCl [(q 11, .inr (1, [.ref (q 10), .ref (q 67), .ref (q 68), .ref (q 69), .ref (q 70), .ref (q 71), .ref (q 72), .int (nI gd), .int (nI gs)])), (q 70, .inl (cJ, 100, .inr (.inl e4))), (q 71, .inl (cJ, 100, .inr (.inl e5)))] H := hP
        have hD : va_D A [(q 11, .inr (1, [.ref (q 10), .ref (q 67), .ref (q 68), .ref (q 69), .ref (q 70), .ref (q 71), .ref (q 72), .int (nI gd), .int (nI gs)])), (q 70, .inl (cJ, 100, .inr (.inl e4))), (q 71, .inl (cJ, 100, .inr (.inl e5)))] := hD
        refine va_mmax_long hx hb (by rw [hml]; exact hl.1.symm) hown (hts _ w_4_165) (hts _ w_4_0) (hts _ w_1_3) (hts _ w_4_1) (Nat.le_of_ble_eq_true rfl) (Nat.le_of_ble_eq_true rfl) (Nat.le_of_ble_eq_true rfl) (Nat.le_of_ble_eq_true rfl) dX1_mostLeft_20 ?_
        refine lv_topl (fun v_5 ev_5 => ?_)
        refine lv_lstore_n (lv' := [(2, .long v_5), (4, .int (nI i)), (0, .ref (q 11)), (1, .int (nI d))]) hx hb dX1_mostLeft_23 rfl hl (by decide) rfl (fun ls hl => ?_)
        refine lv_iinc (v := nI (i + 1)) (lv' := [(4, .int (nI (i + 1))), (2, .long v_5), (0, .ref (q 11)), (1, .int (nI d))]) hx hb dX1_mostLeft_24 hl (k := 1) rfl (ninc i 1 (by decide)) (by decide) rfl (fun ls hl => ?_)
        refine lv_goto (tgt := 5) hx hb dX1_mostLeft_27 (by decide) ?_
        exact ih_lp_1 (i + 1) v_5 _ _ _ (by omega) (by omega) hP hD hS (lv_sub hl [0, 1, 2, 3] rfl)
  exact lp_1 (10 - 0 + 1) 0 0 _ _ _ (Nat.lt_succ_self _) (by omega) hP hD hS (lv_sub hl [0, 1, 2, 3] rfl)
theorem dX1_takeNumbered_0 : decode cX1_takeNumbered 0 = .ok (.lload_n 1, 1) := by decide +kernel
theorem dX1_takeNumbered_1 : decode cX1_takeNumbered 1 = .ok (.lstore 4, 2) := by decide +kernel
theorem dX1_takeNumbered_3 : decode cX1_takeNumbered 3 = .ok (.aload_n 0, 1) := by decide +kernel
theorem dX1_takeNumbered_4 : decode cX1_takeNumbered 4 = .ok (.getfield 35, 3) := by decide +kernel
theorem dX1_takeNumbered_7 : decode cX1_takeNumbered 7 = .ok (.istore 6, 2) := by decide +kernel
theorem dX1_takeNumbered_9 : decode cX1_takeNumbered 9 = .ok (.iconst 0, 1) := by decide +kernel
theorem dX1_takeNumbered_10 : decode cX1_takeNumbered 10 = .ok (.istore 7, 2) := by decide +kernel
theorem dX1_takeNumbered_12 : decode cX1_takeNumbered 12 = .ok (.iload 7, 2) := by decide +kernel
theorem dX1_takeNumbered_14 : decode cX1_takeNumbered 14 = .ok (.aload_n 0, 1) := by decide +kernel
theorem dX1_takeNumbered_15 : decode cX1_takeNumbered 15 = .ok (.getfield 31, 3) := by decide +kernel
theorem dX1_takeNumbered_18 : decode cX1_takeNumbered 18 = .ok (.if_icmp .ge 102, 3) := by decide +kernel
theorem dX1_takeNumbered_120 : decode cX1_takeNumbered 120 = .ok (.return_, 1) := by decide +kernel
theorem dX1_takeNumbered_21 : decode cX1_takeNumbered 21 = .ok (.aload_n 0, 1) := by decide +kernel
theorem dX1_takeNumbered_22 : decode cX1_takeNumbered 22 = .ok (.iload 7, 2) := by decide +kernel
theorem dX1_takeNumbered_24 : decode cX1_takeNumbered 24 = .ok (.iload 6, 2) := by decide +kernel
theorem dX1_takeNumbered_26 : decode cX1_takeNumbered 26 = .ok (.invokevirtual 66, 3) := by decide +kernel
theorem dX1_takeNumbered_29 : decode cX1_takeNumbered 29 = .ok (.istore 8, 2) := by decide +kernel
theorem dX1_takeNumbered_31 : decode cX1_takeNumbered 31 = .ok (.iconst 0, 1) := by decide +kernel
theorem dX1_takeNumbered_32 : decode cX1_takeNumbered 32 = .ok (.istore 9, 2) := by decide +kernel
theorem dX1_takeNumbered_34 : decode cX1_takeNumbered 34 = .ok (.iconst 0, 1) := by decide +kernel
theorem dX1_takeNumbered_35 : decode cX1_takeNumbered 35 = .ok (.istore 10, 2) := by decide +kernel
theorem dX1_takeNumbered_37 : decode cX1_takeNumbered 37 = .ok (.iload 10, 2) := by decide +kernel
theorem dX1_takeNumbered_39 : decode cX1_takeNumbered 39 = .ok (.bipush 10, 2) := by decide +kernel
theorem dX1_takeNumbered_41 : decode cX1_takeNumbered 41 = .ok (.if_icmp .ge 63, 3) := by decide +kernel
theorem dX1_takeNumbered_104 : decode cX1_takeNumbered 104 = .ok (.aload_n 3, 1) := by decide +kernel
theorem dX1_takeNumbered_105 : decode cX1_takeNumbered 105 = .ok (.iload 7, 2) := by decide +kernel
theorem dX1_takeNumbered_107 : decode cX1_takeNumbered 107 = .ok (.iload 9, 2) := by decide +kernel
theorem dX1_takeNumbered_109 : decode cX1_takeNumbered 109 = .ok (.iastore, 1) := by decide +kernel
theorem dX1_takeNumbered_110 : decode cX1_takeNumbered 110 = .ok (.iload 9, 2) := by decide +kernel
theorem dX1_takeNumbered_112 : decode cX1_takeNumbered 112 = .ok (.istore 6, 2) := by decide +kernel
theorem dX1_takeNumbered_114 : decode cX1_takeNumbered 114 = .ok (.iinc 7 1, 3) := by decide +kernel
theorem dX1_takeNumbered_117 : decode cX1_takeNumbered 117 = .ok (.goto (-105), 3) := by decide +kernel
theorem dX1_takeNumbered_44 : decode cX1_takeNumbered 44 = .ok (.iload 8, 2) := by decide +kernel
theorem dX1_takeNumbered_46 : decode cX1_takeNumbered 46 = .ok (.iload 10, 2) := by decide +kernel
theorem dX1_takeNumbered_48 : decode cX1_takeNumbered 48 = .ok (.ishr, 1) := by decide +kernel
theorem dX1_takeNumbered_49 : decode cX1_takeNumbered 49 = .ok (.iconst 1, 1) := by decide +kernel
theorem dX1_takeNumbered_50 : decode cX1_takeNumbered 50 = .ok (.iand, 1) := by decide +kernel
theorem dX1_takeNumbered_51 : decode cX1_takeNumbered 51 = .ok (.iconst 1, 1) := by decide +kernel
theorem dX1_takeNumbered_52 : decode cX1_takeNumbered 52 = .ok (.if_icmp .ne 21, 3) := by decide +kernel
theorem dX1_takeNumbered_73 : decode cX1_takeNumbered 73 = .ok (.lconst 0, 1) := by decide +kernel
theorem dX1_takeNumbered_74 : decode cX1_takeNumbered 74 = .ok (.lstore 11, 2) := by decide +kernel
theorem dX1_takeNumbered_76 : decode cX1_takeNumbered 76 = .ok (.lload 4, 2) := by decide +kernel
theorem dX1_takeNumbered_78 : decode cX1_takeNumbered 78 = .ok (.lload 11, 2) := by decide +kernel
theorem dX1_takeNumbered_80 : decode cX1_takeNumbered 80 = .ok (.lcmp, 1) := by decide +kernel
theorem dX1_takeNumbered_81 : decode cX1_takeNumbered 81 = .ok (.ifCond .ge 10, 3) := by decide +kernel
theorem dX1_takeNumbered_91 : decode cX1_takeNumbered 91 = .ok (.lload 4, 2) := by decide +kernel
theorem dX1_takeNumbered_93 : decode cX1_takeNumbered 93 = .ok (.lload 11, 2) := by decide +kernel
theorem dX1_takeNumbered_95 : decode cX1_takeNumbered 95 = .ok (.lsub, 1) := by decide +kernel
theorem dX1_takeNumbered_96 : decode cX1_takeNumbered 96 = .ok (.lstore 4, 2) := by decide +kernel
theorem dX1_takeNumbered_98 : decode cX1_takeNumbered 98 = .ok (.iinc 10 1, 3) := by decide +kernel
theorem dX1_takeNumbered_101 : decode cX1_takeNumbered 101 = .ok (.goto (-64), 3) := by decide +kernel
theorem dX1_takeNumbered_84 : decode cX1_takeNumbered 84 = .ok (.iload 10, 2) := by decide +kernel
theorem dX1_takeNumbered_86 : decode cX1_takeNumbered 86 = .ok (.istore 9, 2) := by decide +kernel
theorem dX1_takeNumbered_88 : decode cX1_takeNumbered 88 = .ok (.goto 16, 3) := by decide +kernel
theorem dX1_takeNumbered_55 : decode cX1_takeNumbered 55 = .ok (.aload_n 0, 1) := by decide +kernel
theorem dX1_takeNumbered_56 : decode cX1_takeNumbered 56 = .ok (.getfield 21, 3) := by decide +kernel
theorem dX1_takeNumbered_59 : decode cX1_takeNumbered 59 = .ok (.iload 7, 2) := by decide +kernel
theorem dX1_takeNumbered_61 : decode cX1_takeNumbered 61 = .ok (.iconst 1, 1) := by decide +kernel
theorem dX1_takeNumbered_62 : decode cX1_takeNumbered 62 = .ok (.iadd, 1) := by decide +kernel
theorem dX1_takeNumbered_63 : decode cX1_takeNumbered 63 = .ok (.bipush 10, 2) := by decide +kernel
theorem dX1_takeNumbered_65 : decode cX1_takeNumbered 65 = .ok (.imul, 1) := by decide +kernel
theorem dX1_takeNumbered_66 : decode cX1_takeNumbered 66 = .ok (.iload 10, 2) := by decide +kernel
theorem dX1_takeNumbered_68 : decode cX1_takeNumbered 68 = .ok (.iadd, 1) := by decide +kernel
theorem dX1_takeNumbered_69 : decode cX1_takeNumbered 69 = .ok (.laload, 1) := by decide +kernel
theorem dX1_takeNumbered_70 : decode cX1_takeNumbered 70 = .ok (.goto 4, 3) := by decide +kernel
theorem w_4_76 : (Cond.code yX1_takeNumbered cX1_takeNumbered 13 none) ∈ wsL_law := sk_mem (ck_4 _ (List.mem_of_getElem? (i := 76) rfl)) rfl
set_option maxHeartbeats 4000000 in
set_option maxRecDepth 100000 in
theorem c_takeNumbered (l : Launch) (D : va_G) (cI cJ cC cZ cS : ClassId) (q : Nat → Nat) (gd : Nat) (gs : Nat) (e1 : Nat → Int32) (e2 : Nat → Int32) (e3 : Nat → Int32) (e4 : Nat → Int64) (rw : Nat) (ra : Nat → Int32) (x : Int64) (hgd : gd ≤ 9) (hgs : gs ≤ 9) : skM l yX1_takeNumbered cX1_takeNumbered 13 none 1 22 0 0 D (skT cI cJ cC cZ cS) [.ref (q 11), .long x, .ref rw] [(q 11, .inr (1, [.ref (q 10), .ref (q 67), .ref (q 68), .ref (q 69), .ref (q 70), .ref (q 71), .ref (q 72), .int (nI gd), .int (nI gs)])), (q 67, .inl (cI, 90, .inl e1)), (q 68, .inl (cI, 9, .inl e2)), (q 69, .inl (cI, 10, .inl e3)), (q 70, .inl (cJ, 100, .inr (.inl e4))), (rw, .inl (cI, 9, .inl ra))] (skV D (skT cI cJ cC cZ cS) (fun (u : va_W) => ∃ (ra2 : Nat → Int32), rowOk ra2 gd ∧ u = [(q 11, .inr (1, [.ref (q 10), .ref (q 67), .ref (q 68), .ref (q 69), .ref (q 70), .ref (q 71), .ref (q 72), .int (nI gd), .int (nI gs)])), (q 67, .inl (cI, 90, .inl e1)), (q 68, .inl (cI, 9, .inl e2)), (q 69, .inl (cI, 10, .inl e3)), (q 70, .inl (cJ, 100, .inr (.inl e4))), (rw, .inl (cI, 9, .inl ra2))])) := by
  refine skM_of (by decide +kernel) (Nat.le_of_ble_eq_true rfl) ?_
  intro p e s m below meth c A ls E hP hD hl
  obtain ⟨hx, hb, hr, hml, hlocks, hin, hown, hts, hK, hA⟩ := E
  have hown : s.vm.findClass RX1 = some m.cls := hown
  have hS : va_S A s.heap s.heap [] := va_S.rf
  have hl : lv_has ls 13 [(0, .ref (q 11)), (1, .long x), (3, .ref rw)] := hl
  refine lv_lload_n hx hb dX1_takeNumbered_0 rfl (lv_at hl 1 rfl) ?_
  refine lv_lstore (lv' := [(4, .long x), (0, .ref (q 11)), (1, .long x), (3, .ref rw)]) hx hb dX1_takeNumbered_1 hl (by decide) rfl (fun ls hl => ?_)
  refine lv_aload_n hx hb dX1_takeNumbered_3 rfl (lv_at hl 1 rfl) ?_
  refine sk_get (v := .int (nI gs)) (C := RX1) (T := TX1) (N := 9) hx hb hts inlX1 hown hK hP 0 rfl rfl 8 (by decide) w_2_103 rfl dX1_takeNumbered_4 ?_
  refine lv_istore (lv' := [(6, .int (nI gs)), (4, .long x), (0, .ref (q 11)), (1, .long x), (3, .ref rw)]) hx hb dX1_takeNumbered_7 hl (by decide) rfl (fun ls hl => ?_)
  refine lv_iconst (v := 0) hx hb dX1_takeNumbered_9 (by decide) ?_
  refine lv_istore (lv' := [(7, .int 0), (6, .int (nI gs)), (4, .long x), (0, .ref (q 11)), (1, .long x), (3, .ref rw)]) hx hb dX1_takeNumbered_10 hl (by decide) rfl (fun ls hl => ?_)
  have lp_1 : ∀ (n_2 : Nat) (i : Nat) (ah : Nat) (lf : Int64) (rb : Nat → Int32) (H : Heap) (locs : List Loc) (ls : Array Slot), gd - i < n_2 → (i ≤ gd) → (ah < 10) → (rowOk rb i) → va_P D vwCl [(q 11, .inr (1, [.ref (q 10), .ref (q 67), .ref (q 68), .ref (q 69), .ref (q 70), .ref (q 71), .ref (q 72), .int (nI gd), .int (nI gs)])), (q 67, .inl (cI, 90, .inl e1)), (q 68, .inl (cI, 9, .inl e2)), (q 69, .inl (cI, 10, .inl e3)), (q 70, .inl (cJ, 100, .inr (.inl e4))), (rw, .inl (cI, 9, .inl rb))] H → va_D A [(q 11, .inr (1, [.ref (q 10), .ref (q 67), .ref (q 68), .ref (q 69), .ref (q 70), .ref (q 71), .ref (q 72), .int (nI gd), .int (nI gs)])), (q 67, .inl (cI, 90, .inl e1)), (q 68, .inl (cI, 9, .inl e2)), (q 69, .inl (cI, 10, .inl e3)), (q 70, .inl (cJ, 100, .inr (.inl e4))), (rw, .inl (cI, 9, .inl rb))] → va_S A s.heap H locs → lv_has ls 13 [(7, .int (nI i)), (6, .int (nI ah)), (4, .long lf), (0, .ref (q 11)), (1, .long x), (3, .ref rw)] → W p l e { frames := 1, cells := 0, slots := 0, locals := 22 } s m ([.ref (q 11), .long x, .ref rw] : List Value).toArray below meth c H locs 0 0 (MQ below (skV D (skT cI cJ cC cZ cS) (fun (u : va_W) => ∃ (ra2 : Nat → Int32), rowOk ra2 gd ∧ u = [(q 11, .inr (1, [.ref (q 10), .ref (q 67), .ref (q 68), .ref (q 69), .ref (q 70), .ref (q 71), .ref (q 72), .int (nI gd), .int (nI gs)])), (q 67, .inl (cI, 90, .inl e1)), (q 68, .inl (cI, 9, .inl e2)), (q 69, .inl (cI, 10, .inl e3)), (q 70, .inl (cJ, 100, .inr (.inl e4))), (rw, .inl (cI, 9, .inl ra2))]) A) ([.ref (q 11), .long x, .ref rw] : List Value).toArray s 0 0 A) (F0 m 12 ls []) := by
    intro n_2
    induction n_2 with
    | zero => intro i ah lf rb H locs ls hm; exact absurd hm (Nat.not_lt_zero _)
    | succ n_2 ih_lp_1 =>
      intro i ah lf rb H locs ls hm hi hah hro hP hD hS hl
      refine lv_iload hx hb dX1_takeNumbered_12 (lv_at hl 0 rfl) ?_
      refine lv_aload_n hx hb dX1_takeNumbered_14 rfl (lv_at hl 3 rfl) ?_
      refine sk_get (v := .int (nI gd)) (C := RX1) (T := TX1) (N := 9) hx hb hts inlX1 hown hK hP 0 rfl rfl 7 (by decide) w_2_102 rfl dX1_takeNumbered_15 ?_
      refine lv_icmp_ge (tgt := 120) hx hb dX1_takeNumbered_18 (by decide) (fun c_3 => ?_) (fun c_3 => ?_)
      · have c_3 : gd ≤ i := (nle gd i (by omega) (by omega)).mp c_3
        exact sk_vret hx hb hr hlocks hK hP hD hS (⟨rb, by rw [show gd = i by omega]; exact hro, rfl⟩) (Nat.le_of_ble_eq_true rfl) (Nat.le_of_ble_eq_true rfl) dX1_takeNumbered_120
      · have c_3 : ¬ (gd ≤ i) := fun h => c_3 ((nle gd i (by omega) (by omega)).mpr h)
        refine lv_aload_n hx hb dX1_takeNumbered_21 rfl (lv_at hl 3 rfl) ?_
        refine lv_iload hx hb dX1_takeNumbered_22 (lv_at hl 0 rfl) ?_
        refine lv_iload hx hb dX1_takeNumbered_24 (lv_at hl 1 rfl) ?_
        refine sk_Vi (q0 := 0) (n := 2) (rest := []) (wr := [(q 70, .inl (cJ, 100, .inr (.inl e4))), (rw, .inl (cI, 9, .inl rb))]) ⟨hx, hb, hml, hown, hts⟩ hl.1 (c_next l D cI cJ cC cZ cS q gd gs e1 e2 e3 i ah (by omega) (by omega)) w_4_57 w_4_59 w_0_20 w_1_13 w_4_60 (by decide +kernel) ⟨⟨(Nat.le_of_ble_eq_true rfl), (Nat.le_of_ble_eq_true rfl)⟩, (Nat.le_of_ble_eq_true rfl), (Nat.le_of_ble_eq_true rfl)⟩ hK hP hD hS hA [0, 1, 2, 3] [4, 5] rfl rfl (by decide +kernel) (by decide +kernel) (by decide +kernel) rfl rfl rfl rfl (Nat.le_of_ble_eq_true rfl) dX1_takeNumbered_26 (fun r_4 u H locs hw hP hD hS => ?_)
        obtain rfl := hw
        have hP : va_P D vwCl [(q 70, .inl (cJ, 100, .inr (.inl e4))), (rw, .inl (cI, 9, .inl rb)), (q 11, .inr (1, [.ref (q 10), .ref (q 67), .ref (q 68), .ref (q 69), .ref (q 70), .ref (q 71), .ref (q 72), .int (nI gd), .int (nI gs)])), (q 67, .inl (cI, 90, .inl e1)), (q 68, .inl (cI, 9, .inl e2)), (q 69, .inl (cI, 10, .inl e3))] H := hP
        have hD : va_D A [(q 70, .inl (cJ, 100, .inr (.inl e4))), (rw, .inl (cI, 9, .inl rb)), (q 11, .inr (1, [.ref (q 10), .ref (q 67), .ref (q 68), .ref (q 69), .ref (q 70), .ref (q 71), .ref (q 72), .int (nI gd), .int (nI gs)])), (q 67, .inl (cI, 90, .inl e1)), (q 68, .inl (cI, 9, .inl e2)), (q 69, .inl (cI, 10, .inl e3))] := hD
        refine lv_istore (lv' := [(8, .int r_4), (7, .int (nI i)), (6, .int (nI ah)), (4, .long lf), (0, .ref (q 11)), (1, .long x), (3, .ref rw)]) hx hb dX1_takeNumbered_29 hl (by decide) rfl (fun ls hl => ?_)
        refine lv_iconst (v := 0) hx hb dX1_takeNumbered_31 (by decide) ?_
        refine lv_istore (lv' := [(9, .int 0), (8, .int r_4), (7, .int (nI i)), (6, .int (nI ah)), (4, .long lf), (0, .ref (q 11)), (1, .long x), (3, .ref rw)]) hx hb dX1_takeNumbered_32 hl (by decide) rfl (fun ls hl => ?_)
        refine lv_iconst (v := 0) hx hb dX1_takeNumbered_34 (by decide) ?_
        refine lv_istore (lv' := [(10, .int 0), (9, .int 0), (8, .int r_4), (7, .int (nI i)), (6, .int (nI ah)), (4, .long lf), (0, .ref (q 11)), (1, .long x), (3, .ref rw)]) hx hb dX1_takeNumbered_35 hl (by decide) rfl (fun ls hl => ?_)
        have lp_5 : ∀ (n_6 : Nat) (jj : Nat) (lf2 : Int64) (H : Heap) (locs : List Loc) (ls : Array Slot), 10 - jj < n_6 → (jj ≤ 10) → va_P D vwCl [(q 70, .inl (cJ, 100, .inr (.inl e4))), (rw, .inl (cI, 9, .inl rb)), (q 11, .inr (1, [.ref (q 10), .ref (q 67), .ref (q 68), .ref (q 69), .ref (q 70), .ref (q 71), .ref (q 72), .int (nI gd), .int (nI gs)])), (q 67, .inl (cI, 90, .inl e1)), (q 68, .inl (cI, 9, .inl e2)), (q 69, .inl (cI, 10, .inl e3))] H → va_D A [(q 70, .inl (cJ, 100, .inr (.inl e4))), (rw, .inl (cI, 9, .inl rb)), (q 11, .inr (1, [.ref (q 10), .ref (q 67), .ref (q 68), .ref (q 69), .ref (q 70), .ref (q 71), .ref (q 72), .int (nI gd), .int (nI gs)])), (q 67, .inl (cI, 90, .inl e1)), (q 68, .inl (cI, 9, .inl e2)), (q 69, .inl (cI, 10, .inl e3))] → va_S A s.heap H locs → lv_has ls 13 [(10, .int (nI jj)), (9, .int 0), (8, .int r_4), (7, .int (nI i)), (6, .int (nI ah)), (4, .long lf2), (0, .ref (q 11)), (1, .long x), (3, .ref rw)] → W p l e { frames := 1, cells := 0, slots := 0, locals := 22 } s m ([.ref (q 11), .long x, .ref rw] : List Value).toArray below meth c H locs 0 0 (MQ below (skV D (skT cI cJ cC cZ cS) (fun (u : va_W) => ∃ (ra2 : Nat → Int32), rowOk ra2 gd ∧ u = [(q 11, .inr (1, [.ref (q 10), .ref (q 67), .ref (q 68), .ref (q 69), .ref (q 70), .ref (q 71), .ref (q 72), .int (nI gd), .int (nI gs)])), (q 67, .inl (cI, 90, .inl e1)), (q 68, .inl (cI, 9, .inl e2)), (q 69, .inl (cI, 10, .inl e3)), (q 70, .inl (cJ, 100, .inr (.inl e4))), (rw, .inl (cI, 9, .inl ra2))]) A) ([.ref (q 11), .long x, .ref rw] : List Value).toArray s 0 0 A) (F0 m 37 ls []) := by
          intro n_6
          induction n_6 with
          | zero => intro jj lf2 H locs ls hm; exact absurd hm (Nat.not_lt_zero _)
          | succ n_6 ih_lp_5 =>
            intro jj lf2 H locs ls hm hjj hP hD hS hl
            refine lv_iload hx hb dX1_takeNumbered_37 (lv_at hl 0 rfl) ?_
            refine lv_bipush (v := 10) hx hb dX1_takeNumbered_39 (by decide) ?_
            refine lv_icmp_ge (tgt := 104) hx hb dX1_takeNumbered_41 (by decide) (fun c_7 => ?_) (fun c_7 => ?_)
            · have c_7 : 10 ≤ jj := (nle 10 jj (by omega) (by omega)).mp c_7
              refine lv_aload_n hx hb dX1_takeNumbered_104 rfl (lv_at hl 8 rfl) ?_
              refine lv_iload hx hb dX1_takeNumbered_105 (lv_at hl 3 rfl) ?_
              refine lv_iload hx hb dX1_takeNumbered_107 (lv_at hl 1 rfl) ?_
              refine sk_iast (ws' := [(q 70, .inl (cJ, 100, .inr (.inl e4))), (rw, .inl (cI, 9, .inl (upd rb (nI i).toNatClampNeg (nI 0)))), (q 11, .inr (1, [.ref (q 10), .ref (q 67), .ref (q 68), .ref (q 69), .ref (q 70), .ref (q 71), .ref (q 72), .int (nI gd), .int (nI gs)])), (q 67, .inl (cI, 90, .inl e1)), (q 68, .inl (cI, 9, .inl e2)), (q 69, .inl (cI, 10, .inl e3))]) hx hb hK hP hD hS 1 0 rfl rfl (vin i 9 (by omega) (by omega)) rfl dX1_takeNumbered_109 (fun H locs hP hD hS => ?_)
              have ho_9 := rowOk_up (f := rb) (i := i) (v := 0) hro (by omega) (by omega)
              generalize ef_10 : upd rb (nI i).toNatClampNeg (nI 0) = f_8 at hP hD ho_9
              refine lv_iload hx hb dX1_takeNumbered_110 (lv_at hl 1 rfl) ?_
              refine lv_istore (lv' := [(6, .int 0), (10, .int (nI jj)), (9, .int 0), (8, .int r_4), (7, .int (nI i)), (4, .long lf2), (0, .ref (q 11)), (1, .long x), (3, .ref rw)]) hx hb dX1_takeNumbered_112 hl (by decide) rfl (fun ls hl => ?_)
              refine lv_iinc (v := nI (i + 1)) (lv' := [(7, .int (nI (i + 1))), (6, .int 0), (10, .int (nI jj)), (9, .int 0), (8, .int r_4), (4, .long lf2), (0, .ref (q 11)), (1, .long x), (3, .ref rw)]) hx hb dX1_takeNumbered_114 hl (k := 4) rfl (ninc i 1 (by decide)) (by decide) rfl (fun ls hl => ?_)
              refine lv_goto (tgt := 12) hx hb dX1_takeNumbered_117 (by decide) ?_
              have hP := hP.sub (ws' := [(q 11, .inr (1, [.ref (q 10), .ref (q 67), .ref (q 68), .ref (q 69), .ref (q 70), .ref (q 71), .ref (q 72), .int (nI gd), .int (nI gs)])), (q 67, .inl (cI, 90, .inl e1)), (q 68, .inl (cI, 9, .inl e2)), (q 69, .inl (cI, 10, .inl e3)), (q 70, .inl (cJ, 100, .inr (.inl e4))), (rw, .inl (cI, 9, .inl f_8))]) [2, 3, 4, 5, 0, 1] rfl
              have hD := hD.sub (ws' := [(q 11, .inr (1, [.ref (q 10), .ref (q 67), .ref (q 68), .ref (q 69), .ref (q 70), .ref (q 71), .ref (q 72), .int (nI gd), .int (nI gs)])), (q 67, .inl (cI, 90, .inl e1)), (q 68, .inl (cI, 9, .inl e2)), (q 69, .inl (cI, 10, .inl e3)), (q 70, .inl (cJ, 100, .inr (.inl e4))), (rw, .inl (cI, 9, .inl f_8))]) [2, 3, 4, 5, 0, 1] (by decide +kernel) rfl
              exact ih_lp_1 (i + 1) 0 lf2 f_8 _ _ _ (by omega) (by omega) (by omega) ho_9 hP hD hS (lv_sub hl [0, 1, 5, 6, 7, 8] rfl)
            · have c_7 : ¬ (10 ≤ jj) := fun h => c_7 ((nle 10 jj (by omega) (by omega)).mpr h)
              refine lv_iload hx hb dX1_takeNumbered_44 (lv_at hl 2 rfl) ?_
              refine lv_iload hx hb dX1_takeNumbered_46 (lv_at hl 0 rfl) ?_
              refine lv_ishr hx hb dX1_takeNumbered_48 ?_
              refine lv_topi (fun v_11 ev_11 => ?_)
              refine lv_iconst (v := 1) hx hb dX1_takeNumbered_49 (by decide) ?_
              refine lv_iand hx hb dX1_takeNumbered_50 ?_
              refine lv_topi (fun v_12 ev_12 => ?_)
              refine lv_iconst (v := 1) hx hb dX1_takeNumbered_51 (by decide) ?_
              refine lv_icmp_ne (tgt := 73) hx hb dX1_takeNumbered_52 (by decide) (fun c_13 => ?_) (fun c_13 => ?_)
              · skip
                refine lv_lconst (v := 0) hx hb dX1_takeNumbered_73 (by decide) ?_
                refine lv_lstore (lv' := [(11, .long 0), (10, .int (nI jj)), (9, .int 0), (8, .int r_4), (7, .int (nI i)), (6, .int (nI ah)), (4, .long lf2), (0, .ref (q 11)), (1, .long x), (3, .ref rw)]) hx hb dX1_takeNumbered_74 hl (by decide) rfl (fun ls hl => ?_)
                refine lv_lload hx hb dX1_takeNumbered_76 (lv_at hl 6 rfl) ?_
                refine lv_lload hx hb dX1_takeNumbered_78 (lv_at hl 0 rfl) ?_
                refine W.lcmp hx hb dX1_takeNumbered_80 ?_
                refine lv_if_ge (tgt := 91) hx hb dX1_takeNumbered_81 (by decide) (fun c_14 => ?_) (fun c_14 => ?_)
                · skip
                  refine lv_lload hx hb dX1_takeNumbered_91 (lv_at hl 6 rfl) ?_
                  refine lv_lload hx hb dX1_takeNumbered_93 (lv_at hl 0 rfl) ?_
                  refine lv_lsub hx hb dX1_takeNumbered_95 ?_
                  refine lv_topl (fun v_15 ev_15 => ?_)
                  refine lv_lstore (lv' := [(4, .long v_15), (11, .long 0), (10, .int (nI jj)), (9, .int 0), (8, .int r_4), (7, .int (nI i)), (6, .int (nI ah)), (0, .ref (q 11)), (1, .long x), (3, .ref rw)]) hx hb dX1_takeNumbered_96 hl (by decide) rfl (fun ls hl => ?_)
                  refine lv_iinc (v := nI (jj + 1)) (lv' := [(10, .int (nI (jj + 1))), (4, .long v_15), (11, .long 0), (9, .int 0), (8, .int r_4), (7, .int (nI i)), (6, .int (nI ah)), (0, .ref (q 11)), (1, .long x), (3, .ref rw)]) hx hb dX1_takeNumbered_98 hl (k := 2) rfl (ninc jj 1 (by decide)) (by decide) rfl (fun ls hl => ?_)
                  refine lv_goto (tgt := 37) hx hb dX1_takeNumbered_101 (by decide) ?_
                  exact ih_lp_5 (jj + 1) v_15 _ _ _ (by omega) (by omega) hP hD hS (lv_sub hl [0, 3, 4, 5, 6, 1, 7, 8, 9] rfl)
                · skip
                  refine lv_iload hx hb dX1_takeNumbered_84 (lv_at hl 1 rfl) ?_
                  refine lv_istore (lv' := [(9, .int (nI jj)), (11, .long 0), (10, .int (nI jj)), (8, .int r_4), (7, .int (nI i)), (6, .int (nI ah)), (4, .long lf2), (0, .ref (q 11)), (1, .long x), (3, .ref rw)]) hx hb dX1_takeNumbered_86 hl (by decide) rfl (fun ls hl => ?_)
                  refine lv_goto (tgt := 104) hx hb dX1_takeNumbered_88 (by decide) ?_
                  refine lv_aload_n hx hb dX1_takeNumbered_104 rfl (lv_at hl 9 rfl) ?_
                  refine lv_iload hx hb dX1_takeNumbered_105 (lv_at hl 4 rfl) ?_
                  refine lv_iload hx hb dX1_takeNumbered_107 (lv_at hl 0 rfl) ?_
                  refine sk_iast (ws' := [(q 70, .inl (cJ, 100, .inr (.inl e4))), (rw, .inl (cI, 9, .inl (upd rb (nI i).toNatClampNeg (nI jj)))), (q 11, .inr (1, [.ref (q 10), .ref (q 67), .ref (q 68), .ref (q 69), .ref (q 70), .ref (q 71), .ref (q 72), .int (nI gd), .int (nI gs)])), (q 67, .inl (cI, 90, .inl e1)), (q 68, .inl (cI, 9, .inl e2)), (q 69, .inl (cI, 10, .inl e3))]) hx hb hK hP hD hS 1 0 rfl rfl (vin i 9 (by omega) (by omega)) rfl dX1_takeNumbered_109 (fun H locs hP hD hS => ?_)
                  have ho_17 := rowOk_up (f := rb) (i := i) (v := jj) hro (by omega) (by omega)
                  generalize ef_18 : upd rb (nI i).toNatClampNeg (nI jj) = f_16 at hP hD ho_17
                  refine lv_iload hx hb dX1_takeNumbered_110 (lv_at hl 0 rfl) ?_
                  refine lv_istore (lv' := [(6, .int (nI jj)), (9, .int (nI jj)), (11, .long 0), (10, .int (nI jj)), (8, .int r_4), (7, .int (nI i)), (4, .long lf2), (0, .ref (q 11)), (1, .long x), (3, .ref rw)]) hx hb dX1_takeNumbered_112 hl (by decide) rfl (fun ls hl => ?_)
                  refine lv_iinc (v := nI (i + 1)) (lv' := [(7, .int (nI (i + 1))), (6, .int (nI jj)), (9, .int (nI jj)), (11, .long 0), (10, .int (nI jj)), (8, .int r_4), (4, .long lf2), (0, .ref (q 11)), (1, .long x), (3, .ref rw)]) hx hb dX1_takeNumbered_114 hl (k := 5) rfl (ninc i 1 (by decide)) (by decide) rfl (fun ls hl => ?_)
                  refine lv_goto (tgt := 12) hx hb dX1_takeNumbered_117 (by decide) ?_
                  have hP := hP.sub (ws' := [(q 11, .inr (1, [.ref (q 10), .ref (q 67), .ref (q 68), .ref (q 69), .ref (q 70), .ref (q 71), .ref (q 72), .int (nI gd), .int (nI gs)])), (q 67, .inl (cI, 90, .inl e1)), (q 68, .inl (cI, 9, .inl e2)), (q 69, .inl (cI, 10, .inl e3)), (q 70, .inl (cJ, 100, .inr (.inl e4))), (rw, .inl (cI, 9, .inl f_16))]) [2, 3, 4, 5, 0, 1] rfl
                  have hD := hD.sub (ws' := [(q 11, .inr (1, [.ref (q 10), .ref (q 67), .ref (q 68), .ref (q 69), .ref (q 70), .ref (q 71), .ref (q 72), .int (nI gd), .int (nI gs)])), (q 67, .inl (cI, 90, .inl e1)), (q 68, .inl (cI, 9, .inl e2)), (q 69, .inl (cI, 10, .inl e3)), (q 70, .inl (cJ, 100, .inr (.inl e4))), (rw, .inl (cI, 9, .inl f_16))]) [2, 3, 4, 5, 0, 1] (by decide +kernel) rfl
                  exact ih_lp_1 (i + 1) jj lf2 f_16 _ _ _ (by omega) (by omega) (by omega) ho_17 hP hD hS (lv_sub hl [0, 1, 6, 7, 8, 9] rfl)
              · skip
                refine lv_aload_n hx hb dX1_takeNumbered_55 rfl (lv_at hl 6 rfl) ?_
                refine sk_get (v := .ref (q 70)) (C := RX1) (T := TX1) (N := 9) hx hb hts inlX1 hown hK hP 2 rfl rfl 4 (by decide) w_2_99 rfl dX1_takeNumbered_56 ?_
                refine lv_iload hx hb dX1_takeNumbered_59 (lv_at hl 3 rfl) ?_
                refine lv_iconst (v := 1) hx hb dX1_takeNumbered_61 (by decide) ?_
                refine lv_iadd hx hb dX1_takeNumbered_62 ?_
                refine sk_top (nI (i + 1)) (nI_add i 1) ?_
                refine lv_bipush (v := 10) hx hb dX1_takeNumbered_63 (by decide) ?_
                refine lv_imul hx hb dX1_takeNumbered_65 ?_
                refine sk_top (nI ((i + 1) * 10)) (nmul (i + 1) 10) ?_
                refine lv_iload hx hb dX1_takeNumbered_66 (lv_at hl 0 rfl) ?_
                refine lv_iadd hx hb dX1_takeNumbered_68 ?_
                refine sk_top (nI ((i + 1) * 10 + jj)) (nI_add ((i + 1) * 10) jj) ?_
                refine va_lald hx hb hK.1 hP 0 1 rfl rfl (vin ((i + 1) * 10 + jj) 100 (by omega) (by omega)) dX1_takeNumbered_69 ?_
                refine lv_topl (fun v_19 ev_19 => ?_)
                refine lv_goto (tgt := 74) hx hb dX1_takeNumbered_70 (by decide) ?_
                refine lv_lstore (lv' := [(11, .long v_19), (10, .int (nI jj)), (9, .int 0), (8, .int r_4), (7, .int (nI i)), (6, .int (nI ah)), (4, .long lf2), (0, .ref (q 11)), (1, .long x), (3, .ref rw)]) hx hb dX1_takeNumbered_74 hl (by decide) rfl (fun ls hl => ?_)
                refine lv_lload hx hb dX1_takeNumbered_76 (lv_at hl 6 rfl) ?_
                refine lv_lload hx hb dX1_takeNumbered_78 (lv_at hl 0 rfl) ?_
                refine W.lcmp hx hb dX1_takeNumbered_80 ?_
                refine lv_if_ge (tgt := 91) hx hb dX1_takeNumbered_81 (by decide) (fun c_20 => ?_) (fun c_20 => ?_)
                · skip
                  refine lv_lload hx hb dX1_takeNumbered_91 (lv_at hl 6 rfl) ?_
                  refine lv_lload hx hb dX1_takeNumbered_93 (lv_at hl 0 rfl) ?_
                  refine lv_lsub hx hb dX1_takeNumbered_95 ?_
                  refine lv_topl (fun v_21 ev_21 => ?_)
                  refine lv_lstore (lv' := [(4, .long v_21), (11, .long v_19), (10, .int (nI jj)), (9, .int 0), (8, .int r_4), (7, .int (nI i)), (6, .int (nI ah)), (0, .ref (q 11)), (1, .long x), (3, .ref rw)]) hx hb dX1_takeNumbered_96 hl (by decide) rfl (fun ls hl => ?_)
                  refine lv_iinc (v := nI (jj + 1)) (lv' := [(10, .int (nI (jj + 1))), (4, .long v_21), (11, .long v_19), (9, .int 0), (8, .int r_4), (7, .int (nI i)), (6, .int (nI ah)), (0, .ref (q 11)), (1, .long x), (3, .ref rw)]) hx hb dX1_takeNumbered_98 hl (k := 2) rfl (ninc jj 1 (by decide)) (by decide) rfl (fun ls hl => ?_)
                  refine lv_goto (tgt := 37) hx hb dX1_takeNumbered_101 (by decide) ?_
                  exact ih_lp_5 (jj + 1) v_21 _ _ _ (by omega) (by omega) hP hD hS (lv_sub hl [0, 3, 4, 5, 6, 1, 7, 8, 9] rfl)
                · skip
                  refine lv_iload hx hb dX1_takeNumbered_84 (lv_at hl 1 rfl) ?_
                  refine lv_istore (lv' := [(9, .int (nI jj)), (11, .long v_19), (10, .int (nI jj)), (8, .int r_4), (7, .int (nI i)), (6, .int (nI ah)), (4, .long lf2), (0, .ref (q 11)), (1, .long x), (3, .ref rw)]) hx hb dX1_takeNumbered_86 hl (by decide) rfl (fun ls hl => ?_)
                  refine lv_goto (tgt := 104) hx hb dX1_takeNumbered_88 (by decide) ?_
                  refine lv_aload_n hx hb dX1_takeNumbered_104 rfl (lv_at hl 9 rfl) ?_
                  refine lv_iload hx hb dX1_takeNumbered_105 (lv_at hl 4 rfl) ?_
                  refine lv_iload hx hb dX1_takeNumbered_107 (lv_at hl 0 rfl) ?_
                  refine sk_iast (ws' := [(q 70, .inl (cJ, 100, .inr (.inl e4))), (rw, .inl (cI, 9, .inl (upd rb (nI i).toNatClampNeg (nI jj)))), (q 11, .inr (1, [.ref (q 10), .ref (q 67), .ref (q 68), .ref (q 69), .ref (q 70), .ref (q 71), .ref (q 72), .int (nI gd), .int (nI gs)])), (q 67, .inl (cI, 90, .inl e1)), (q 68, .inl (cI, 9, .inl e2)), (q 69, .inl (cI, 10, .inl e3))]) hx hb hK hP hD hS 1 0 rfl rfl (vin i 9 (by omega) (by omega)) rfl dX1_takeNumbered_109 (fun H locs hP hD hS => ?_)
                  have ho_23 := rowOk_up (f := rb) (i := i) (v := jj) hro (by omega) (by omega)
                  generalize ef_24 : upd rb (nI i).toNatClampNeg (nI jj) = f_22 at hP hD ho_23
                  refine lv_iload hx hb dX1_takeNumbered_110 (lv_at hl 0 rfl) ?_
                  refine lv_istore (lv' := [(6, .int (nI jj)), (9, .int (nI jj)), (11, .long v_19), (10, .int (nI jj)), (8, .int r_4), (7, .int (nI i)), (4, .long lf2), (0, .ref (q 11)), (1, .long x), (3, .ref rw)]) hx hb dX1_takeNumbered_112 hl (by decide) rfl (fun ls hl => ?_)
                  refine lv_iinc (v := nI (i + 1)) (lv' := [(7, .int (nI (i + 1))), (6, .int (nI jj)), (9, .int (nI jj)), (11, .long v_19), (10, .int (nI jj)), (8, .int r_4), (4, .long lf2), (0, .ref (q 11)), (1, .long x), (3, .ref rw)]) hx hb dX1_takeNumbered_114 hl (k := 5) rfl (ninc i 1 (by decide)) (by decide) rfl (fun ls hl => ?_)
                  refine lv_goto (tgt := 12) hx hb dX1_takeNumbered_117 (by decide) ?_
                  have hP := hP.sub (ws' := [(q 11, .inr (1, [.ref (q 10), .ref (q 67), .ref (q 68), .ref (q 69), .ref (q 70), .ref (q 71), .ref (q 72), .int (nI gd), .int (nI gs)])), (q 67, .inl (cI, 90, .inl e1)), (q 68, .inl (cI, 9, .inl e2)), (q 69, .inl (cI, 10, .inl e3)), (q 70, .inl (cJ, 100, .inr (.inl e4))), (rw, .inl (cI, 9, .inl f_22))]) [2, 3, 4, 5, 0, 1] rfl
                  have hD := hD.sub (ws' := [(q 11, .inr (1, [.ref (q 10), .ref (q 67), .ref (q 68), .ref (q 69), .ref (q 70), .ref (q 71), .ref (q 72), .int (nI gd), .int (nI gs)])), (q 67, .inl (cI, 90, .inl e1)), (q 68, .inl (cI, 9, .inl e2)), (q 69, .inl (cI, 10, .inl e3)), (q 70, .inl (cJ, 100, .inr (.inl e4))), (rw, .inl (cI, 9, .inl f_22))]) [2, 3, 4, 5, 0, 1] (by decide +kernel) rfl
                  exact ih_lp_1 (i + 1) jj lf2 f_22 _ _ _ (by omega) (by omega) (by omega) ho_23 hP hD hS (lv_sub hl [0, 1, 6, 7, 8, 9] rfl)
        exact lp_5 (10 - 0 + 1) 0 lf _ _ _ (Nat.lt_succ_self _) (by omega) hP hD hS (lv_sub hl [0, 1, 2, 3, 4, 5, 6, 7, 8] rfl)
  exact lp_1 (gd - 0 + 1) 0 gs x ra _ _ _ (Nat.lt_succ_self _) (by omega) (by omega) (rowOk_0 _) hP hD hS (lv_sub hl [0, 1, 2, 3, 4, 5] rfl)
theorem dX1_gainBy_0 : decode cX1_gainBy 0 = .ok (.aload_n 0, 1) := by decide +kernel
theorem dX1_gainBy_1 : decode cX1_gainBy 1 = .ok (.getfield 38, 3) := by decide +kernel
theorem dX1_gainBy_4 : decode cX1_gainBy 4 = .ok (.getfield 94, 3) := by decide +kernel
theorem dX1_gainBy_7 : decode cX1_gainBy 7 = .ok (.iload_n 1, 1) := by decide +kernel
theorem dX1_gainBy_8 : decode cX1_gainBy 8 = .ok (.bipush 10, 2) := by decide +kernel
theorem dX1_gainBy_10 : decode cX1_gainBy 10 = .ok (.imul, 1) := by decide +kernel
theorem dX1_gainBy_11 : decode cX1_gainBy 11 = .ok (.iload_n 2, 1) := by decide +kernel
theorem dX1_gainBy_12 : decode cX1_gainBy 12 = .ok (.iadd, 1) := by decide +kernel
theorem dX1_gainBy_13 : decode cX1_gainBy 13 = .ok (.laload, 1) := by decide +kernel
theorem dX1_gainBy_14 : decode cX1_gainBy 14 = .ok (.aload_n 0, 1) := by decide +kernel
theorem dX1_gainBy_15 : decode cX1_gainBy 15 = .ok (.getfield 28, 3) := by decide +kernel
theorem dX1_gainBy_18 : decode cX1_gainBy 18 = .ok (.iload_n 1, 1) := by decide +kernel
theorem dX1_gainBy_19 : decode cX1_gainBy 19 = .ok (.iconst 1, 1) := by decide +kernel
theorem dX1_gainBy_20 : decode cX1_gainBy 20 = .ok (.iadd, 1) := by decide +kernel
theorem dX1_gainBy_21 : decode cX1_gainBy 21 = .ok (.bipush 10, 2) := by decide +kernel
theorem dX1_gainBy_23 : decode cX1_gainBy 23 = .ok (.imul, 1) := by decide +kernel
theorem dX1_gainBy_24 : decode cX1_gainBy 24 = .ok (.iload_n 2, 1) := by decide +kernel
theorem dX1_gainBy_25 : decode cX1_gainBy 25 = .ok (.iadd, 1) := by decide +kernel
theorem dX1_gainBy_26 : decode cX1_gainBy 26 = .ok (.laload, 1) := by decide +kernel
theorem dX1_gainBy_27 : decode cX1_gainBy 27 = .ok (.ladd, 1) := by decide +kernel
theorem dX1_gainBy_28 : decode cX1_gainBy 28 = .ok (.lreturn, 1) := by decide +kernel
theorem w_2_73 : (Cond.fieldLink RX1 94 "SameKeeper$Table" "wages" "[J") ∈ wsL_law := sk_mem (ck_2 _ (List.mem_of_getElem? (i := 73) rfl)) rfl
theorem w_2_101 : (Cond.fieldLink RX1 28 "SameKeeper$Graph" "gains" "[J") ∈ wsL_law := sk_mem (ck_2 _ (List.mem_of_getElem? (i := 101) rfl)) rfl
theorem w_4_164 : (Cond.code yX1_gainBy cX1_gainBy 3 (some .long)) ∈ wsL_law := sk_mem (ck_4 _ (List.mem_of_getElem? (i := 164) rfl)) rfl
set_option maxHeartbeats 4000000 in
set_option maxRecDepth 100000 in
theorem c_gainBy (l : Launch) (D : va_G) (cI cJ cC cZ cS : ClassId) (q : Nat → Nat) (gd : Nat) (gs : Nat) (e6 : Nat → Int64) (fg : Nat → Int64) (d : Nat) (ah : Nat) (hd : d < 9) (hah : ah < 10) : skM l yX1_gainBy cX1_gainBy 3 (some .long) 0 0 0 0 D (skT cI cJ cC cZ cS) [.ref (q 11), .int (nI d), .int (nI ah)] [(q 11, .inr (1, [.ref (q 10), .ref (q 67), .ref (q 68), .ref (q 69), .ref (q 70), .ref (q 71), .ref (q 72), .int (nI gd), .int (nI gs)])), (q 72, .inl (cJ, 100, .inr (.inl e6))), (q 10, .inr (9, [.ref (q 61), .ref (q 62), .ref (q 63), .ref (q 64), .ref (q 65), .ref (q 66)])), (q 65, .inl (cJ, 90, .inr (.inl fg)))] (skL D (skT cI cJ cC cZ cS) (fun (r : Int64) (u : va_W) => u = [(q 11, .inr (1, [.ref (q 10), .ref (q 67), .ref (q 68), .ref (q 69), .ref (q 70), .ref (q 71), .ref (q 72), .int (nI gd), .int (nI gs)])), (q 72, .inl (cJ, 100, .inr (.inl e6))), (q 10, .inr (9, [.ref (q 61), .ref (q 62), .ref (q 63), .ref (q 64), .ref (q 65), .ref (q 66)])), (q 65, .inl (cJ, 90, .inr (.inl fg)))])) := by
  refine skM_of (by decide +kernel) (Nat.le_of_ble_eq_true rfl) ?_
  intro p e s m below meth c A ls E hP hD hl
  obtain ⟨hx, hb, hr, hml, hlocks, hin, hown, hts, hK, hA⟩ := E
  have hown : s.vm.findClass RX1 = some m.cls := hown
  have hS : va_S A s.heap s.heap [] := va_S.rf
  have hl : lv_has ls 3 [(0, .ref (q 11)), (1, .int (nI d)), (2, .int (nI ah))] := hl
  refine lv_aload_n hx hb dX1_gainBy_0 rfl (lv_at hl 0 rfl) ?_
  refine sk_get (v := .ref (q 10)) (C := RX1) (T := TX1) (N := 9) hx hb hts inlX1 hown hK hP 0 rfl rfl 0 (by decide) w_2_95 rfl dX1_gainBy_1 ?_
  refine sk_get (v := .ref (q 65)) (C := RX9) (T := TX9) (N := 6) hx hb hts inlX9 hown hK hP 2 rfl rfl 4 (by decide) w_2_73 rfl dX1_gainBy_4 ?_
  refine lv_iload_n hx hb dX1_gainBy_7 rfl (lv_at hl 1 rfl) ?_
  refine lv_bipush (v := 10) hx hb dX1_gainBy_8 (by decide) ?_
  refine lv_imul hx hb dX1_gainBy_10 ?_
  refine sk_top (nI (d * 10)) (nmul d 10) ?_
  refine lv_iload_n hx hb dX1_gainBy_11 rfl (lv_at hl 2 rfl) ?_
  refine lv_iadd hx hb dX1_gainBy_12 ?_
  refine sk_top (nI (d * 10 + ah)) (nI_add (d * 10) ah) ?_
  refine va_lald hx hb hK.1 hP 3 1 rfl rfl (vin (d * 10 + ah) 90 (by omega) (by omega)) dX1_gainBy_13 ?_
  refine lv_topl (fun v_1 ev_1 => ?_)
  refine lv_aload_n hx hb dX1_gainBy_14 rfl (lv_at hl 0 rfl) ?_
  refine sk_get (v := .ref (q 72)) (C := RX1) (T := TX1) (N := 9) hx hb hts inlX1 hown hK hP 0 rfl rfl 6 (by decide) w_2_101 rfl dX1_gainBy_15 ?_
  refine lv_iload_n hx hb dX1_gainBy_18 rfl (lv_at hl 1 rfl) ?_
  refine lv_iconst (v := 1) hx hb dX1_gainBy_19 (by decide) ?_
  refine lv_iadd hx hb dX1_gainBy_20 ?_
  refine sk_top (nI (d + 1)) (nI_add d 1) ?_
  refine lv_bipush (v := 10) hx hb dX1_gainBy_21 (by decide) ?_
  refine lv_imul hx hb dX1_gainBy_23 ?_
  refine sk_top (nI ((d + 1) * 10)) (nmul (d + 1) 10) ?_
  refine lv_iload_n hx hb dX1_gainBy_24 rfl (lv_at hl 2 rfl) ?_
  refine lv_iadd hx hb dX1_gainBy_25 ?_
  refine sk_top (nI ((d + 1) * 10 + ah)) (nI_add ((d + 1) * 10) ah) ?_
  refine va_lald hx hb hK.1 hP 1 1 rfl rfl (vin ((d + 1) * 10 + ah) 100 (by omega) (by omega)) dX1_gainBy_26 ?_
  refine lv_topl (fun v_2 ev_2 => ?_)
  refine lv_ladd hx hb dX1_gainBy_27 ?_
  refine lv_topl (fun v_3 ev_3 => ?_)
  exact sk_lret hx hb hr hlocks hK hP hD hS rfl (Nat.le_of_ble_eq_true rfl) (Nat.le_of_ble_eq_true rfl) dX1_gainBy_28
theorem dX1_bestPay_0 : decode cX1_bestPay 0 = .ok (.iconst 0, 1) := by decide +kernel
theorem dX1_bestPay_1 : decode cX1_bestPay 1 = .ok (.istore_n 1, 1) := by decide +kernel
theorem dX1_bestPay_2 : decode cX1_bestPay 2 = .ok (.iload_n 1, 1) := by decide +kernel
theorem dX1_bestPay_3 : decode cX1_bestPay 3 = .ok (.bipush 10, 2) := by decide +kernel
theorem dX1_bestPay_5 : decode cX1_bestPay 5 = .ok (.if_icmp .ge 24, 3) := by decide +kernel
theorem dX1_bestPay_29 : decode cX1_bestPay 29 = .ok (.aload_n 0, 1) := by decide +kernel
theorem dX1_bestPay_30 : decode cX1_bestPay 30 = .ok (.getfield 31, 3) := by decide +kernel
theorem dX1_bestPay_33 : decode cX1_bestPay 33 = .ok (.iconst 1, 1) := by decide +kernel
theorem dX1_bestPay_34 : decode cX1_bestPay 34 = .ok (.isub, 1) := by decide +kernel
theorem dX1_bestPay_35 : decode cX1_bestPay 35 = .ok (.istore_n 1, 1) := by decide +kernel
theorem dX1_bestPay_36 : decode cX1_bestPay 36 = .ok (.iload_n 1, 1) := by decide +kernel
theorem dX1_bestPay_37 : decode cX1_bestPay 37 = .ok (.ifCond .lt 88, 3) := by decide +kernel
theorem dX1_bestPay_125 : decode cX1_bestPay 125 = .ok (.aload_n 0, 1) := by decide +kernel
theorem dX1_bestPay_126 : decode cX1_bestPay 126 = .ok (.getfield 28, 3) := by decide +kernel
theorem dX1_bestPay_129 : decode cX1_bestPay 129 = .ok (.aload_n 0, 1) := by decide +kernel
theorem dX1_bestPay_130 : decode cX1_bestPay 130 = .ok (.getfield 35, 3) := by decide +kernel
theorem dX1_bestPay_133 : decode cX1_bestPay 133 = .ok (.laload, 1) := by decide +kernel
theorem dX1_bestPay_134 : decode cX1_bestPay 134 = .ok (.lreturn, 1) := by decide +kernel
theorem dX1_bestPay_40 : decode cX1_bestPay 40 = .ok (.iconst 0, 1) := by decide +kernel
theorem dX1_bestPay_41 : decode cX1_bestPay 41 = .ok (.istore_n 2, 1) := by decide +kernel
theorem dX1_bestPay_42 : decode cX1_bestPay 42 = .ok (.iload_n 2, 1) := by decide +kernel
theorem dX1_bestPay_43 : decode cX1_bestPay 43 = .ok (.bipush 10, 2) := by decide +kernel
theorem dX1_bestPay_45 : decode cX1_bestPay 45 = .ok (.if_icmp .ge 74, 3) := by decide +kernel
theorem dX1_bestPay_119 : decode cX1_bestPay 119 = .ok (.iinc 1 (-1), 3) := by decide +kernel
theorem dX1_bestPay_122 : decode cX1_bestPay 122 = .ok (.goto (-86), 3) := by decide +kernel
theorem dX1_bestPay_48 : decode cX1_bestPay 48 = .ok (.aload_n 0, 1) := by decide +kernel
theorem dX1_bestPay_49 : decode cX1_bestPay 49 = .ok (.iload_n 1, 1) := by decide +kernel
theorem dX1_bestPay_50 : decode cX1_bestPay 50 = .ok (.iload_n 2, 1) := by decide +kernel
theorem dX1_bestPay_51 : decode cX1_bestPay 51 = .ok (.invokevirtual 66, 3) := by decide +kernel
theorem dX1_bestPay_54 : decode cX1_bestPay 54 = .ok (.istore_n 3, 1) := by decide +kernel
theorem dX1_bestPay_55 : decode cX1_bestPay 55 = .ok (.ldc2_w 89, 3) := by decide +kernel
theorem dX1_bestPay_58 : decode cX1_bestPay 58 = .ok (.lstore 4, 2) := by decide +kernel
theorem dX1_bestPay_60 : decode cX1_bestPay 60 = .ok (.iconst 0, 1) := by decide +kernel
theorem dX1_bestPay_61 : decode cX1_bestPay 61 = .ok (.istore 6, 2) := by decide +kernel
theorem dX1_bestPay_63 : decode cX1_bestPay 63 = .ok (.iload 6, 2) := by decide +kernel
theorem dX1_bestPay_65 : decode cX1_bestPay 65 = .ok (.bipush 10, 2) := by decide +kernel
theorem dX1_bestPay_67 : decode cX1_bestPay 67 = .ok (.if_icmp .ge 33, 3) := by decide +kernel
theorem dX1_bestPay_100 : decode cX1_bestPay 100 = .ok (.aload_n 0, 1) := by decide +kernel
theorem dX1_bestPay_101 : decode cX1_bestPay 101 = .ok (.getfield 28, 3) := by decide +kernel
theorem dX1_bestPay_104 : decode cX1_bestPay 104 = .ok (.iload_n 1, 1) := by decide +kernel
theorem dX1_bestPay_105 : decode cX1_bestPay 105 = .ok (.bipush 10, 2) := by decide +kernel
theorem dX1_bestPay_107 : decode cX1_bestPay 107 = .ok (.imul, 1) := by decide +kernel
theorem dX1_bestPay_108 : decode cX1_bestPay 108 = .ok (.iload_n 2, 1) := by decide +kernel
theorem dX1_bestPay_109 : decode cX1_bestPay 109 = .ok (.iadd, 1) := by decide +kernel
theorem dX1_bestPay_110 : decode cX1_bestPay 110 = .ok (.lload 4, 2) := by decide +kernel
theorem dX1_bestPay_112 : decode cX1_bestPay 112 = .ok (.lastore, 1) := by decide +kernel
theorem dX1_bestPay_113 : decode cX1_bestPay 113 = .ok (.iinc 2 1, 3) := by decide +kernel
theorem dX1_bestPay_116 : decode cX1_bestPay 116 = .ok (.goto (-74), 3) := by decide +kernel
theorem dX1_bestPay_70 : decode cX1_bestPay 70 = .ok (.iload_n 3, 1) := by decide +kernel
theorem dX1_bestPay_71 : decode cX1_bestPay 71 = .ok (.iload 6, 2) := by decide +kernel
theorem dX1_bestPay_73 : decode cX1_bestPay 73 = .ok (.ishr, 1) := by decide +kernel
theorem dX1_bestPay_74 : decode cX1_bestPay 74 = .ok (.iconst 1, 1) := by decide +kernel
theorem dX1_bestPay_75 : decode cX1_bestPay 75 = .ok (.iand, 1) := by decide +kernel
theorem dX1_bestPay_76 : decode cX1_bestPay 76 = .ok (.iconst 1, 1) := by decide +kernel
theorem dX1_bestPay_77 : decode cX1_bestPay 77 = .ok (.if_icmp .ne 17, 3) := by decide +kernel
theorem dX1_bestPay_94 : decode cX1_bestPay 94 = .ok (.iinc 6 1, 3) := by decide +kernel
theorem dX1_bestPay_97 : decode cX1_bestPay 97 = .ok (.goto (-34), 3) := by decide +kernel
theorem dX1_bestPay_80 : decode cX1_bestPay 80 = .ok (.lload 4, 2) := by decide +kernel
theorem dX1_bestPay_82 : decode cX1_bestPay 82 = .ok (.aload_n 0, 1) := by decide +kernel
theorem dX1_bestPay_83 : decode cX1_bestPay 83 = .ok (.iload_n 1, 1) := by decide +kernel
theorem dX1_bestPay_84 : decode cX1_bestPay 84 = .ok (.iload 6, 2) := by decide +kernel
theorem dX1_bestPay_86 : decode cX1_bestPay 86 = .ok (.invokevirtual 91, 3) := by decide +kernel
theorem dX1_bestPay_89 : decode cX1_bestPay 89 = .ok (.invokestatic 83, 3) := by decide +kernel
theorem dX1_bestPay_92 : decode cX1_bestPay 92 = .ok (.lstore 4, 2) := by decide +kernel
theorem dX1_bestPay_8 : decode cX1_bestPay 8 = .ok (.aload_n 0, 1) := by decide +kernel
theorem dX1_bestPay_9 : decode cX1_bestPay 9 = .ok (.getfield 28, 3) := by decide +kernel
theorem dX1_bestPay_12 : decode cX1_bestPay 12 = .ok (.aload_n 0, 1) := by decide +kernel
theorem dX1_bestPay_13 : decode cX1_bestPay 13 = .ok (.getfield 31, 3) := by decide +kernel
theorem dX1_bestPay_16 : decode cX1_bestPay 16 = .ok (.bipush 10, 2) := by decide +kernel
theorem dX1_bestPay_18 : decode cX1_bestPay 18 = .ok (.imul, 1) := by decide +kernel
theorem dX1_bestPay_19 : decode cX1_bestPay 19 = .ok (.iload_n 1, 1) := by decide +kernel
theorem dX1_bestPay_20 : decode cX1_bestPay 20 = .ok (.iadd, 1) := by decide +kernel
theorem dX1_bestPay_21 : decode cX1_bestPay 21 = .ok (.lconst 0, 1) := by decide +kernel
theorem dX1_bestPay_22 : decode cX1_bestPay 22 = .ok (.lastore, 1) := by decide +kernel
theorem dX1_bestPay_23 : decode cX1_bestPay 23 = .ok (.iinc 1 1, 3) := by decide +kernel
theorem dX1_bestPay_26 : decode cX1_bestPay 26 = .ok (.goto (-24), 3) := by decide +kernel
theorem w_4_160 : (Cond.constantLong RX1 89 (-1000000000000000)) ∈ wsL_law := sk_mem (ck_4 _ (List.mem_of_getElem? (i := 160) rfl)) rfl
theorem w_4_161 : (Cond.methodLink RX1 91 yX1_gainBy) ∈ wsL_law := sk_mem (ck_4 _ (List.mem_of_getElem? (i := 161) rfl)) rfl
theorem w_4_163 : (Cond.instanceMethod yX1_gainBy) ∈ wsL_law := sk_mem (ck_4 _ (List.mem_of_getElem? (i := 163) rfl)) rfl
theorem w_0_26 : (Cond.selects RX1 yX1_gainBy yX1_gainBy) ∈ wsL_law := sk_mem (ck_0 _ (List.mem_of_getElem? (i := 26) rfl)) rfl
theorem w_4_159 : (Cond.code yX1_bestPay cX1_bestPay 7 (some .long)) ∈ wsL_law := sk_mem (ck_4 _ (List.mem_of_getElem? (i := 159) rfl)) rfl
set_option maxHeartbeats 4000000 in
set_option maxRecDepth 100000 in
theorem c_bestPay (l : Launch) (D : va_G) (cI cJ cC cZ cS : ClassId) (q : Nat → Nat) (gd : Nat) (gs : Nat) (e1 : Nat → Int32) (e2 : Nat → Int32) (e3 : Nat → Int32) (e6 : Nat → Int64) (fg : Nat → Int64) (hgd : gd ≤ 9) (hgs : gs ≤ 9) : skM l yX1_bestPay cX1_bestPay 7 (some .long) 1 23 0 0 D (skT cI cJ cC cZ cS) [.ref (q 11)] [(q 11, .inr (1, [.ref (q 10), .ref (q 67), .ref (q 68), .ref (q 69), .ref (q 70), .ref (q 71), .ref (q 72), .int (nI gd), .int (nI gs)])), (q 67, .inl (cI, 90, .inl e1)), (q 68, .inl (cI, 9, .inl e2)), (q 69, .inl (cI, 10, .inl e3)), (q 72, .inl (cJ, 100, .inr (.inl e6))), (q 10, .inr (9, [.ref (q 61), .ref (q 62), .ref (q 63), .ref (q 64), .ref (q 65), .ref (q 66)])), (q 65, .inl (cJ, 90, .inr (.inl fg)))] (skL D (skT cI cJ cC cZ cS) (fun (r : Int64) (u : va_W) => ∃ (g6 : Nat → Int64), u = [(q 11, .inr (1, [.ref (q 10), .ref (q 67), .ref (q 68), .ref (q 69), .ref (q 70), .ref (q 71), .ref (q 72), .int (nI gd), .int (nI gs)])), (q 67, .inl (cI, 90, .inl e1)), (q 68, .inl (cI, 9, .inl e2)), (q 69, .inl (cI, 10, .inl e3)), (q 72, .inl (cJ, 100, .inr (.inl g6))), (q 10, .inr (9, [.ref (q 61), .ref (q 62), .ref (q 63), .ref (q 64), .ref (q 65), .ref (q 66)])), (q 65, .inl (cJ, 90, .inr (.inl fg)))])) := by
  refine skM_of (by decide +kernel) (Nat.le_of_ble_eq_true rfl) ?_
  intro p e s m below meth c A ls E hP hD hl
  obtain ⟨hx, hb, hr, hml, hlocks, hin, hown, hts, hK, hA⟩ := E
  have hown : s.vm.findClass RX1 = some m.cls := hown
  have hS : va_S A s.heap s.heap [] := va_S.rf
  have hl : lv_has ls 7 [(0, .ref (q 11))] := hl
  refine lv_iconst (v := 0) hx hb dX1_bestPay_0 (by decide) ?_
  refine lv_istore_n (lv' := [(1, .int 0), (0, .ref (q 11))]) hx hb dX1_bestPay_1 rfl hl (by decide) rfl (fun ls hl => ?_)
  have lp_1 : ∀ (n_2 : Nat) (i : Nat) (a6 : Nat → Int64) (H : Heap) (locs : List Loc) (ls : Array Slot), 10 - i < n_2 → (i ≤ 10) → va_P D vwCl [(q 11, .inr (1, [.ref (q 10), .ref (q 67), .ref (q 68), .ref (q 69), .ref (q 70), .ref (q 71), .ref (q 72), .int (nI gd), .int (nI gs)])), (q 67, .inl (cI, 90, .inl e1)), (q 68, .inl (cI, 9, .inl e2)), (q 69, .inl (cI, 10, .inl e3)), (q 72, .inl (cJ, 100, .inr (.inl a6))), (q 10, .inr (9, [.ref (q 61), .ref (q 62), .ref (q 63), .ref (q 64), .ref (q 65), .ref (q 66)])), (q 65, .inl (cJ, 90, .inr (.inl fg)))] H → va_D A [(q 11, .inr (1, [.ref (q 10), .ref (q 67), .ref (q 68), .ref (q 69), .ref (q 70), .ref (q 71), .ref (q 72), .int (nI gd), .int (nI gs)])), (q 67, .inl (cI, 90, .inl e1)), (q 68, .inl (cI, 9, .inl e2)), (q 69, .inl (cI, 10, .inl e3)), (q 72, .inl (cJ, 100, .inr (.inl a6))), (q 10, .inr (9, [.ref (q 61), .ref (q 62), .ref (q 63), .ref (q 64), .ref (q 65), .ref (q 66)])), (q 65, .inl (cJ, 90, .inr (.inl fg)))] → va_S A s.heap H locs → lv_has ls 7 [(1, .int (nI i)), (0, .ref (q 11))] → W p l e { frames := 1, cells := 0, slots := 0, locals := 23 } s m ([.ref (q 11)] : List Value).toArray below meth c H locs 0 0 (MQ below (skL D (skT cI cJ cC cZ cS) (fun (r : Int64) (u : va_W) => ∃ (g6 : Nat → Int64), u = [(q 11, .inr (1, [.ref (q 10), .ref (q 67), .ref (q 68), .ref (q 69), .ref (q 70), .ref (q 71), .ref (q 72), .int (nI gd), .int (nI gs)])), (q 67, .inl (cI, 90, .inl e1)), (q 68, .inl (cI, 9, .inl e2)), (q 69, .inl (cI, 10, .inl e3)), (q 72, .inl (cJ, 100, .inr (.inl g6))), (q 10, .inr (9, [.ref (q 61), .ref (q 62), .ref (q 63), .ref (q 64), .ref (q 65), .ref (q 66)])), (q 65, .inl (cJ, 90, .inr (.inl fg)))]) A) ([.ref (q 11)] : List Value).toArray s 0 0 A) (F0 m 2 ls []) := by
    intro n_2
    induction n_2 with
    | zero => intro i a6 H locs ls hm; exact absurd hm (Nat.not_lt_zero _)
    | succ n_2 ih_lp_1 =>
      intro i a6 H locs ls hm hi hP hD hS hl
      refine lv_iload_n hx hb dX1_bestPay_2 rfl (lv_at hl 0 rfl) ?_
      refine lv_bipush (v := 10) hx hb dX1_bestPay_3 (by decide) ?_
      refine lv_icmp_ge (tgt := 29) hx hb dX1_bestPay_5 (by decide) (fun c_3 => ?_) (fun c_3 => ?_)
      · have c_3 : 10 ≤ i := (nle 10 i (by omega) (by omega)).mp c_3
        refine lv_aload_n hx hb dX1_bestPay_29 rfl (lv_at hl 1 rfl) ?_
        refine sk_get (v := .int (nI gd)) (C := RX1) (T := TX1) (N := 9) hx hb hts inlX1 hown hK hP 0 rfl rfl 7 (by decide) w_2_102 rfl dX1_bestPay_30 ?_
        refine lv_iconst (v := 1) hx hb dX1_bestPay_33 (by decide) ?_
        refine lv_isub hx hb dX1_bestPay_34 ?_
        refine lv_istore_n (lv' := [(1, .int (nI gd - 1)), (0, .ref (q 11))]) hx hb dX1_bestPay_35 rfl hl (by decide) rfl (fun ls hl => ?_)
        have lp_4 : ∀ (n_5 : Nat) (dd : Nat) (b6 : Nat → Int64) (H : Heap) (locs : List Loc) (ls : Array Slot), dd < n_5 → (dd ≤ 9) → va_P D vwCl [(q 11, .inr (1, [.ref (q 10), .ref (q 67), .ref (q 68), .ref (q 69), .ref (q 70), .ref (q 71), .ref (q 72), .int (nI gd), .int (nI gs)])), (q 67, .inl (cI, 90, .inl e1)), (q 68, .inl (cI, 9, .inl e2)), (q 69, .inl (cI, 10, .inl e3)), (q 72, .inl (cJ, 100, .inr (.inl b6))), (q 10, .inr (9, [.ref (q 61), .ref (q 62), .ref (q 63), .ref (q 64), .ref (q 65), .ref (q 66)])), (q 65, .inl (cJ, 90, .inr (.inl fg)))] H → va_D A [(q 11, .inr (1, [.ref (q 10), .ref (q 67), .ref (q 68), .ref (q 69), .ref (q 70), .ref (q 71), .ref (q 72), .int (nI gd), .int (nI gs)])), (q 67, .inl (cI, 90, .inl e1)), (q 68, .inl (cI, 9, .inl e2)), (q 69, .inl (cI, 10, .inl e3)), (q 72, .inl (cJ, 100, .inr (.inl b6))), (q 10, .inr (9, [.ref (q 61), .ref (q 62), .ref (q 63), .ref (q 64), .ref (q 65), .ref (q 66)])), (q 65, .inl (cJ, 90, .inr (.inl fg)))] → va_S A s.heap H locs → lv_has ls 7 [(1, .int (nI dd - 1)), (0, .ref (q 11))] → W p l e { frames := 1, cells := 0, slots := 0, locals := 23 } s m ([.ref (q 11)] : List Value).toArray below meth c H locs 0 0 (MQ below (skL D (skT cI cJ cC cZ cS) (fun (r : Int64) (u : va_W) => ∃ (g6 : Nat → Int64), u = [(q 11, .inr (1, [.ref (q 10), .ref (q 67), .ref (q 68), .ref (q 69), .ref (q 70), .ref (q 71), .ref (q 72), .int (nI gd), .int (nI gs)])), (q 67, .inl (cI, 90, .inl e1)), (q 68, .inl (cI, 9, .inl e2)), (q 69, .inl (cI, 10, .inl e3)), (q 72, .inl (cJ, 100, .inr (.inl g6))), (q 10, .inr (9, [.ref (q 61), .ref (q 62), .ref (q 63), .ref (q 64), .ref (q 65), .ref (q 66)])), (q 65, .inl (cJ, 90, .inr (.inl fg)))]) A) ([.ref (q 11)] : List Value).toArray s 0 0 A) (F0 m 36 ls []) := by
          intro n_5
          induction n_5 with
          | zero => intro dd b6 H locs ls hm; exact absurd hm (Nat.not_lt_zero _)
          | succ n_5 ih_lp_4 =>
            intro dd b6 H locs ls hm hdd hP hD hS hl
            refine lv_iload_n hx hb dX1_bestPay_36 rfl (lv_at hl 0 rfl) ?_
            refine lv_if_lt (tgt := 125) hx hb dX1_bestPay_37 (by decide) (fun c_6 => ?_) (fun c_6 => ?_)
            · have c_6 : dd = 0 := npm0 dd (by omega) c_6
              refine lv_aload_n hx hb dX1_bestPay_125 rfl (lv_at hl 1 rfl) ?_
              refine sk_get (v := .ref (q 72)) (C := RX1) (T := TX1) (N := 9) hx hb hts inlX1 hown hK hP 0 rfl rfl 6 (by decide) w_2_101 rfl dX1_bestPay_126 ?_
              refine lv_aload_n hx hb dX1_bestPay_129 rfl (lv_at hl 1 rfl) ?_
              refine sk_get (v := .int (nI gs)) (C := RX1) (T := TX1) (N := 9) hx hb hts inlX1 hown hK hP 0 rfl rfl 8 (by decide) w_2_103 rfl dX1_bestPay_130 ?_
              refine va_lald hx hb hK.1 hP 4 1 rfl rfl (vin gs 100 (by omega) (by omega)) dX1_bestPay_133 ?_
              refine lv_topl (fun v_7 ev_7 => ?_)
              exact sk_lret hx hb hr hlocks hK hP hD hS (⟨b6, rfl⟩) (Nat.le_of_ble_eq_true rfl) (Nat.le_of_ble_eq_true rfl) dX1_bestPay_134
            · have c_6 : 1 ≤ dd := npm1 dd c_6
              rw [npred dd (by omega)] at hl
              refine lv_iconst (v := 0) hx hb dX1_bestPay_40 (by decide) ?_
              refine lv_istore_n (lv' := [(2, .int 0), (1, .int (nI (dd - 1))), (0, .ref (q 11))]) hx hb dX1_bestPay_41 rfl hl (by decide) rfl (fun ls hl => ?_)
              have lp_8 : ∀ (n_9 : Nat) (jj : Nat) (c6 : Nat → Int64) (H : Heap) (locs : List Loc) (ls : Array Slot), 10 - jj < n_9 → (jj ≤ 10) → va_P D vwCl [(q 11, .inr (1, [.ref (q 10), .ref (q 67), .ref (q 68), .ref (q 69), .ref (q 70), .ref (q 71), .ref (q 72), .int (nI gd), .int (nI gs)])), (q 67, .inl (cI, 90, .inl e1)), (q 68, .inl (cI, 9, .inl e2)), (q 69, .inl (cI, 10, .inl e3)), (q 72, .inl (cJ, 100, .inr (.inl c6))), (q 10, .inr (9, [.ref (q 61), .ref (q 62), .ref (q 63), .ref (q 64), .ref (q 65), .ref (q 66)])), (q 65, .inl (cJ, 90, .inr (.inl fg)))] H → va_D A [(q 11, .inr (1, [.ref (q 10), .ref (q 67), .ref (q 68), .ref (q 69), .ref (q 70), .ref (q 71), .ref (q 72), .int (nI gd), .int (nI gs)])), (q 67, .inl (cI, 90, .inl e1)), (q 68, .inl (cI, 9, .inl e2)), (q 69, .inl (cI, 10, .inl e3)), (q 72, .inl (cJ, 100, .inr (.inl c6))), (q 10, .inr (9, [.ref (q 61), .ref (q 62), .ref (q 63), .ref (q 64), .ref (q 65), .ref (q 66)])), (q 65, .inl (cJ, 90, .inr (.inl fg)))] → va_S A s.heap H locs → lv_has ls 7 [(2, .int (nI jj)), (1, .int (nI (dd - 1))), (0, .ref (q 11))] → W p l e { frames := 1, cells := 0, slots := 0, locals := 23 } s m ([.ref (q 11)] : List Value).toArray below meth c H locs 0 0 (MQ below (skL D (skT cI cJ cC cZ cS) (fun (r : Int64) (u : va_W) => ∃ (g6 : Nat → Int64), u = [(q 11, .inr (1, [.ref (q 10), .ref (q 67), .ref (q 68), .ref (q 69), .ref (q 70), .ref (q 71), .ref (q 72), .int (nI gd), .int (nI gs)])), (q 67, .inl (cI, 90, .inl e1)), (q 68, .inl (cI, 9, .inl e2)), (q 69, .inl (cI, 10, .inl e3)), (q 72, .inl (cJ, 100, .inr (.inl g6))), (q 10, .inr (9, [.ref (q 61), .ref (q 62), .ref (q 63), .ref (q 64), .ref (q 65), .ref (q 66)])), (q 65, .inl (cJ, 90, .inr (.inl fg)))]) A) ([.ref (q 11)] : List Value).toArray s 0 0 A) (F0 m 42 ls []) := by
                intro n_9
                induction n_9 with
                | zero => intro jj c6 H locs ls hm; exact absurd hm (Nat.not_lt_zero _)
                | succ n_9 ih_lp_8 =>
                  intro jj c6 H locs ls hm hjj hP hD hS hl
                  refine lv_iload_n hx hb dX1_bestPay_42 rfl (lv_at hl 0 rfl) ?_
                  refine lv_bipush (v := 10) hx hb dX1_bestPay_43 (by decide) ?_
                  refine lv_icmp_ge (tgt := 119) hx hb dX1_bestPay_45 (by decide) (fun c_10 => ?_) (fun c_10 => ?_)
                  · have c_10 : 10 ≤ jj := (nle 10 jj (by omega) (by omega)).mp c_10
                    refine lv_iinc (v := nI (dd - 1) - 1) (lv' := [(1, .int (nI (dd - 1) - 1)), (2, .int (nI jj)), (0, .ref (q 11))]) hx hb dX1_bestPay_119 hl (k := 1) rfl (ndn _) (by decide) rfl (fun ls hl => ?_)
                    refine lv_goto (tgt := 36) hx hb dX1_bestPay_122 (by decide) ?_
                    exact ih_lp_4 (dd - 1) c6 _ _ _ (by omega) (by omega) hP hD hS (lv_sub hl [0, 2] rfl)
                  · have c_10 : ¬ (10 ≤ jj) := fun h => c_10 ((nle 10 jj (by omega) (by omega)).mpr h)
                    refine lv_aload_n hx hb dX1_bestPay_48 rfl (lv_at hl 2 rfl) ?_
                    refine lv_iload_n hx hb dX1_bestPay_49 rfl (lv_at hl 1 rfl) ?_
                    refine lv_iload_n hx hb dX1_bestPay_50 rfl (lv_at hl 0 rfl) ?_
                    refine sk_Vi (q0 := 0) (n := 2) (rest := []) (wr := [(q 72, .inl (cJ, 100, .inr (.inl c6))), (q 10, .inr (9, [.ref (q 61), .ref (q 62), .ref (q 63), .ref (q 64), .ref (q 65), .ref (q 66)])), (q 65, .inl (cJ, 90, .inr (.inl fg)))]) ⟨hx, hb, hml, hown, hts⟩ hl.1 (c_next l D cI cJ cC cZ cS q gd gs e1 e2 e3 (dd - 1) jj (by omega) (by omega)) w_4_57 w_4_59 w_0_20 w_1_13 w_4_60 (by decide +kernel) ⟨⟨(Nat.le_of_ble_eq_true rfl), (Nat.le_of_ble_eq_true rfl)⟩, (Nat.le_of_ble_eq_true rfl), (Nat.le_of_ble_eq_true rfl)⟩ hK hP hD hS hA [0, 1, 2, 3] [4, 5, 6] rfl rfl (by decide +kernel) (by decide +kernel) (by decide +kernel) rfl rfl rfl rfl (Nat.le_of_ble_eq_true rfl) dX1_bestPay_51 (fun r_11 u H locs hw hP hD hS => ?_)
                    obtain rfl := hw
                    have hP : va_P D vwCl [(q 72, .inl (cJ, 100, .inr (.inl c6))), (q 10, .inr (9, [.ref (q 61), .ref (q 62), .ref (q 63), .ref (q 64), .ref (q 65), .ref (q 66)])), (q 65, .inl (cJ, 90, .inr (.inl fg))), (q 11, .inr (1, [.ref (q 10), .ref (q 67), .ref (q 68), .ref (q 69), .ref (q 70), .ref (q 71), .ref (q 72), .int (nI gd), .int (nI gs)])), (q 67, .inl (cI, 90, .inl e1)), (q 68, .inl (cI, 9, .inl e2)), (q 69, .inl (cI, 10, .inl e3))] H := hP
                    have hD : va_D A [(q 72, .inl (cJ, 100, .inr (.inl c6))), (q 10, .inr (9, [.ref (q 61), .ref (q 62), .ref (q 63), .ref (q 64), .ref (q 65), .ref (q 66)])), (q 65, .inl (cJ, 90, .inr (.inl fg))), (q 11, .inr (1, [.ref (q 10), .ref (q 67), .ref (q 68), .ref (q 69), .ref (q 70), .ref (q 71), .ref (q 72), .int (nI gd), .int (nI gs)])), (q 67, .inl (cI, 90, .inl e1)), (q 68, .inl (cI, 9, .inl e2)), (q 69, .inl (cI, 10, .inl e3))] := hD
                    refine lv_istore_n (lv' := [(3, .int r_11), (2, .int (nI jj)), (1, .int (nI (dd - 1))), (0, .ref (q 11))]) hx hb dX1_bestPay_54 rfl hl (by decide) rfl (fun ls hl => ?_)
                    refine lv_ldc2 (v := (-1000000000000000)) hx hb hown (hts _ w_4_160) dX1_bestPay_55 ?_
                    refine lv_lstore (lv' := [(4, .long (-1000000000000000)), (3, .int r_11), (2, .int (nI jj)), (1, .int (nI (dd - 1))), (0, .ref (q 11))]) hx hb dX1_bestPay_58 hl (by decide) rfl (fun ls hl => ?_)
                    refine lv_iconst (v := 0) hx hb dX1_bestPay_60 (by decide) ?_
                    refine lv_istore (lv' := [(6, .int 0), (4, .long (-1000000000000000)), (3, .int r_11), (2, .int (nI jj)), (1, .int (nI (dd - 1))), (0, .ref (q 11))]) hx hb dX1_bestPay_61 hl (by decide) rfl (fun ls hl => ?_)
                    have lp_12 : ∀ (n_13 : Nat) (kk : Nat) (sm : Int64) (H : Heap) (locs : List Loc) (ls : Array Slot), 10 - kk < n_13 → (kk ≤ 10) → va_P D vwCl [(q 72, .inl (cJ, 100, .inr (.inl c6))), (q 10, .inr (9, [.ref (q 61), .ref (q 62), .ref (q 63), .ref (q 64), .ref (q 65), .ref (q 66)])), (q 65, .inl (cJ, 90, .inr (.inl fg))), (q 11, .inr (1, [.ref (q 10), .ref (q 67), .ref (q 68), .ref (q 69), .ref (q 70), .ref (q 71), .ref (q 72), .int (nI gd), .int (nI gs)])), (q 67, .inl (cI, 90, .inl e1)), (q 68, .inl (cI, 9, .inl e2)), (q 69, .inl (cI, 10, .inl e3))] H → va_D A [(q 72, .inl (cJ, 100, .inr (.inl c6))), (q 10, .inr (9, [.ref (q 61), .ref (q 62), .ref (q 63), .ref (q 64), .ref (q 65), .ref (q 66)])), (q 65, .inl (cJ, 90, .inr (.inl fg))), (q 11, .inr (1, [.ref (q 10), .ref (q 67), .ref (q 68), .ref (q 69), .ref (q 70), .ref (q 71), .ref (q 72), .int (nI gd), .int (nI gs)])), (q 67, .inl (cI, 90, .inl e1)), (q 68, .inl (cI, 9, .inl e2)), (q 69, .inl (cI, 10, .inl e3))] → va_S A s.heap H locs → lv_has ls 7 [(6, .int (nI kk)), (4, .long sm), (3, .int r_11), (2, .int (nI jj)), (1, .int (nI (dd - 1))), (0, .ref (q 11))] → W p l e { frames := 1, cells := 0, slots := 0, locals := 23 } s m ([.ref (q 11)] : List Value).toArray below meth c H locs 0 0 (MQ below (skL D (skT cI cJ cC cZ cS) (fun (r : Int64) (u : va_W) => ∃ (g6 : Nat → Int64), u = [(q 11, .inr (1, [.ref (q 10), .ref (q 67), .ref (q 68), .ref (q 69), .ref (q 70), .ref (q 71), .ref (q 72), .int (nI gd), .int (nI gs)])), (q 67, .inl (cI, 90, .inl e1)), (q 68, .inl (cI, 9, .inl e2)), (q 69, .inl (cI, 10, .inl e3)), (q 72, .inl (cJ, 100, .inr (.inl g6))), (q 10, .inr (9, [.ref (q 61), .ref (q 62), .ref (q 63), .ref (q 64), .ref (q 65), .ref (q 66)])), (q 65, .inl (cJ, 90, .inr (.inl fg)))]) A) ([.ref (q 11)] : List Value).toArray s 0 0 A) (F0 m 63 ls []) := by
                      intro n_13
                      induction n_13 with
                      | zero => intro kk sm H locs ls hm; exact absurd hm (Nat.not_lt_zero _)
                      | succ n_13 ih_lp_12 =>
                        intro kk sm H locs ls hm hkk hP hD hS hl
                        refine lv_iload hx hb dX1_bestPay_63 (lv_at hl 0 rfl) ?_
                        refine lv_bipush (v := 10) hx hb dX1_bestPay_65 (by decide) ?_
                        refine lv_icmp_ge (tgt := 100) hx hb dX1_bestPay_67 (by decide) (fun c_14 => ?_) (fun c_14 => ?_)
                        · have c_14 : 10 ≤ kk := (nle 10 kk (by omega) (by omega)).mp c_14
                          refine lv_aload_n hx hb dX1_bestPay_100 rfl (lv_at hl 5 rfl) ?_
                          refine sk_get (v := .ref (q 72)) (C := RX1) (T := TX1) (N := 9) hx hb hts inlX1 hown hK hP 3 rfl rfl 6 (by decide) w_2_101 rfl dX1_bestPay_101 ?_
                          refine lv_iload_n hx hb dX1_bestPay_104 rfl (lv_at hl 4 rfl) ?_
                          refine lv_bipush (v := 10) hx hb dX1_bestPay_105 (by decide) ?_
                          refine lv_imul hx hb dX1_bestPay_107 ?_
                          refine sk_top (nI ((dd - 1) * 10)) (nmul (dd - 1) 10) ?_
                          refine lv_iload_n hx hb dX1_bestPay_108 rfl (lv_at hl 3 rfl) ?_
                          refine lv_iadd hx hb dX1_bestPay_109 ?_
                          refine sk_top (nI ((dd - 1) * 10 + jj)) (nI_add ((dd - 1) * 10) jj) ?_
                          refine lv_lload hx hb dX1_bestPay_110 (lv_at hl 1 rfl) ?_
                          refine sk_lastO (ws' := fun f_15 => [(q 72, .inl (cJ, 100, .inr (.inl f_15))), (q 10, .inr (9, [.ref (q 61), .ref (q 62), .ref (q 63), .ref (q 64), .ref (q 65), .ref (q 66)])), (q 65, .inl (cJ, 90, .inr (.inl fg))), (q 11, .inr (1, [.ref (q 10), .ref (q 67), .ref (q 68), .ref (q 69), .ref (q 70), .ref (q 71), .ref (q 72), .int (nI gd), .int (nI gs)])), (q 67, .inl (cI, 90, .inl e1)), (q 68, .inl (cI, 9, .inl e2)), (q 69, .inl (cI, 10, .inl e3))]) hx hb hK hP hD hS 0 1 rfl rfl (vin ((dd - 1) * 10 + jj) 100 (by omega) (by omega)) (fun _ => rfl) dX1_bestPay_112 (fun f_15 H locs hP hD hS => ?_)
                          refine lv_iinc (v := nI (jj + 1)) (lv' := [(2, .int (nI (jj + 1))), (6, .int (nI kk)), (4, .long sm), (3, .int r_11), (1, .int (nI (dd - 1))), (0, .ref (q 11))]) hx hb dX1_bestPay_113 hl (k := 3) rfl (ninc jj 1 (by decide)) (by decide) rfl (fun ls hl => ?_)
                          refine lv_goto (tgt := 42) hx hb dX1_bestPay_116 (by decide) ?_
                          have hP := hP.sub (ws' := [(q 11, .inr (1, [.ref (q 10), .ref (q 67), .ref (q 68), .ref (q 69), .ref (q 70), .ref (q 71), .ref (q 72), .int (nI gd), .int (nI gs)])), (q 67, .inl (cI, 90, .inl e1)), (q 68, .inl (cI, 9, .inl e2)), (q 69, .inl (cI, 10, .inl e3)), (q 72, .inl (cJ, 100, .inr (.inl f_15))), (q 10, .inr (9, [.ref (q 61), .ref (q 62), .ref (q 63), .ref (q 64), .ref (q 65), .ref (q 66)])), (q 65, .inl (cJ, 90, .inr (.inl fg)))]) [3, 4, 5, 6, 0, 1, 2] rfl
                          have hD := hD.sub (ws' := [(q 11, .inr (1, [.ref (q 10), .ref (q 67), .ref (q 68), .ref (q 69), .ref (q 70), .ref (q 71), .ref (q 72), .int (nI gd), .int (nI gs)])), (q 67, .inl (cI, 90, .inl e1)), (q 68, .inl (cI, 9, .inl e2)), (q 69, .inl (cI, 10, .inl e3)), (q 72, .inl (cJ, 100, .inr (.inl f_15))), (q 10, .inr (9, [.ref (q 61), .ref (q 62), .ref (q 63), .ref (q 64), .ref (q 65), .ref (q 66)])), (q 65, .inl (cJ, 90, .inr (.inl fg)))]) [3, 4, 5, 6, 0, 1, 2] (by decide +kernel) rfl
                          exact ih_lp_8 (jj + 1) f_15 _ _ _ (by omega) (by omega) hP hD hS (lv_sub hl [0, 4, 5] rfl)
                        · have c_14 : ¬ (10 ≤ kk) := fun h => c_14 ((nle 10 kk (by omega) (by omega)).mpr h)
                          refine lv_iload_n hx hb dX1_bestPay_70 rfl (lv_at hl 2 rfl) ?_
                          refine lv_iload hx hb dX1_bestPay_71 (lv_at hl 0 rfl) ?_
                          refine lv_ishr hx hb dX1_bestPay_73 ?_
                          refine lv_topi (fun v_16 ev_16 => ?_)
                          refine lv_iconst (v := 1) hx hb dX1_bestPay_74 (by decide) ?_
                          refine lv_iand hx hb dX1_bestPay_75 ?_
                          refine lv_topi (fun v_17 ev_17 => ?_)
                          refine lv_iconst (v := 1) hx hb dX1_bestPay_76 (by decide) ?_
                          refine lv_icmp_ne (tgt := 94) hx hb dX1_bestPay_77 (by decide) (fun c_18 => ?_) (fun c_18 => ?_)
                          · skip
                            refine lv_iinc (v := nI (kk + 1)) (lv' := [(6, .int (nI (kk + 1))), (4, .long sm), (3, .int r_11), (2, .int (nI jj)), (1, .int (nI (dd - 1))), (0, .ref (q 11))]) hx hb dX1_bestPay_94 hl (k := 0) rfl (ninc kk 1 (by decide)) (by decide) rfl (fun ls hl => ?_)
                            refine lv_goto (tgt := 63) hx hb dX1_bestPay_97 (by decide) ?_
                            exact ih_lp_12 (kk + 1) sm _ _ _ (by omega) (by omega) hP hD hS (lv_sub hl [0, 1, 2, 3, 4, 5] rfl)
                          · skip
                            refine lv_lload hx hb dX1_bestPay_80 (lv_at hl 1 rfl) ?_
                            refine lv_aload_n hx hb dX1_bestPay_82 rfl (lv_at hl 5 rfl) ?_
                            refine lv_iload_n hx hb dX1_bestPay_83 rfl (lv_at hl 4 rfl) ?_
                            refine lv_iload hx hb dX1_bestPay_84 (lv_at hl 0 rfl) ?_
                            refine sk_Vl (q0 := 0) (n := 2) (rest := [.long sm]) (wr := [(q 67, .inl (cI, 90, .inl e1)), (q 68, .inl (cI, 9, .inl e2)), (q 69, .inl (cI, 10, .inl e3))]) ⟨hx, hb, hml, hown, hts⟩ hl.1 (c_gainBy l D cI cJ cC cZ cS q gd gs c6 fg (dd - 1) kk (by omega) (by omega)) w_4_161 w_4_163 w_0_26 w_1_13 w_4_164 (by decide +kernel) ⟨⟨(Nat.le_of_ble_eq_true rfl), (Nat.le_of_ble_eq_true rfl)⟩, (Nat.le_of_ble_eq_true rfl), (Nat.le_of_ble_eq_true rfl)⟩ hK hP hD hS hA [3, 0, 1, 2] [4, 5, 6] rfl rfl (by decide +kernel) (by decide +kernel) (by decide +kernel) rfl rfl rfl rfl (Nat.le_of_ble_eq_true rfl) dX1_bestPay_86 (fun r_19 u H locs hw hP hD hS => ?_)
                            obtain rfl := hw
                            have hP : va_P D vwCl [(q 67, .inl (cI, 90, .inl e1)), (q 68, .inl (cI, 9, .inl e2)), (q 69, .inl (cI, 10, .inl e3)), (q 11, .inr (1, [.ref (q 10), .ref (q 67), .ref (q 68), .ref (q 69), .ref (q 70), .ref (q 71), .ref (q 72), .int (nI gd), .int (nI gs)])), (q 72, .inl (cJ, 100, .inr (.inl c6))), (q 10, .inr (9, [.ref (q 61), .ref (q 62), .ref (q 63), .ref (q 64), .ref (q 65), .ref (q 66)])), (q 65, .inl (cJ, 90, .inr (.inl fg)))] H := hP
                            have hD : va_D A [(q 67, .inl (cI, 90, .inl e1)), (q 68, .inl (cI, 9, .inl e2)), (q 69, .inl (cI, 10, .inl e3)), (q 11, .inr (1, [.ref (q 10), .ref (q 67), .ref (q 68), .ref (q 69), .ref (q 70), .ref (q 71), .ref (q 72), .int (nI gd), .int (nI gs)])), (q 72, .inl (cJ, 100, .inr (.inl c6))), (q 10, .inr (9, [.ref (q 61), .ref (q 62), .ref (q 63), .ref (q 64), .ref (q 65), .ref (q 66)])), (q 65, .inl (cJ, 90, .inr (.inl fg)))] := hD
                            refine va_mmax_long hx hb (by rw [hml]; exact hl.1.symm) hown (hts _ w_4_165) (hts _ w_4_0) (hts _ w_1_3) (hts _ w_4_1) (Nat.le_of_ble_eq_true rfl) (Nat.le_of_ble_eq_true rfl) (Nat.le_of_ble_eq_true rfl) (Nat.le_of_ble_eq_true rfl) dX1_bestPay_89 ?_
                            refine lv_topl (fun v_20 ev_20 => ?_)
                            refine lv_lstore (lv' := [(4, .long v_20), (6, .int (nI kk)), (3, .int r_11), (2, .int (nI jj)), (1, .int (nI (dd - 1))), (0, .ref (q 11))]) hx hb dX1_bestPay_92 hl (by decide) rfl (fun ls hl => ?_)
                            refine lv_iinc (v := nI (kk + 1)) (lv' := [(6, .int (nI (kk + 1))), (4, .long v_20), (3, .int r_11), (2, .int (nI jj)), (1, .int (nI (dd - 1))), (0, .ref (q 11))]) hx hb dX1_bestPay_94 hl (k := 1) rfl (ninc kk 1 (by decide)) (by decide) rfl (fun ls hl => ?_)
                            refine lv_goto (tgt := 63) hx hb dX1_bestPay_97 (by decide) ?_
                            have hP := hP.sub (ws' := [(q 72, .inl (cJ, 100, .inr (.inl c6))), (q 10, .inr (9, [.ref (q 61), .ref (q 62), .ref (q 63), .ref (q 64), .ref (q 65), .ref (q 66)])), (q 65, .inl (cJ, 90, .inr (.inl fg))), (q 11, .inr (1, [.ref (q 10), .ref (q 67), .ref (q 68), .ref (q 69), .ref (q 70), .ref (q 71), .ref (q 72), .int (nI gd), .int (nI gs)])), (q 67, .inl (cI, 90, .inl e1)), (q 68, .inl (cI, 9, .inl e2)), (q 69, .inl (cI, 10, .inl e3))]) [4, 5, 6, 3, 0, 1, 2] rfl
                            have hD := hD.sub (ws' := [(q 72, .inl (cJ, 100, .inr (.inl c6))), (q 10, .inr (9, [.ref (q 61), .ref (q 62), .ref (q 63), .ref (q 64), .ref (q 65), .ref (q 66)])), (q 65, .inl (cJ, 90, .inr (.inl fg))), (q 11, .inr (1, [.ref (q 10), .ref (q 67), .ref (q 68), .ref (q 69), .ref (q 70), .ref (q 71), .ref (q 72), .int (nI gd), .int (nI gs)])), (q 67, .inl (cI, 90, .inl e1)), (q 68, .inl (cI, 9, .inl e2)), (q 69, .inl (cI, 10, .inl e3))]) [4, 5, 6, 3, 0, 1, 2] (by decide +kernel) rfl
                            exact ih_lp_12 (kk + 1) v_20 _ _ _ (by omega) (by omega) hP hD hS (lv_sub hl [0, 1, 2, 3, 4, 5] rfl)
                    exact lp_12 (10 - 0 + 1) 0 (-1000000000000000) _ _ _ (Nat.lt_succ_self _) (by omega) hP hD hS (lv_sub hl [0, 1, 2, 3, 4, 5] rfl)
              exact lp_8 (10 - 0 + 1) 0 b6 _ _ _ (Nat.lt_succ_self _) (by omega) hP hD hS (lv_sub hl [0, 1, 2] rfl)
        exact lp_4 (gd + 1) gd a6 _ _ _ (Nat.lt_succ_self _) (by omega) hP hD hS (lv_sub hl [0, 1] rfl)
      · have c_3 : ¬ (10 ≤ i) := fun h => c_3 ((nle 10 i (by omega) (by omega)).mpr h)
        refine lv_aload_n hx hb dX1_bestPay_8 rfl (lv_at hl 1 rfl) ?_
        refine sk_get (v := .ref (q 72)) (C := RX1) (T := TX1) (N := 9) hx hb hts inlX1 hown hK hP 0 rfl rfl 6 (by decide) w_2_101 rfl dX1_bestPay_9 ?_
        refine lv_aload_n hx hb dX1_bestPay_12 rfl (lv_at hl 1 rfl) ?_
        refine sk_get (v := .int (nI gd)) (C := RX1) (T := TX1) (N := 9) hx hb hts inlX1 hown hK hP 0 rfl rfl 7 (by decide) w_2_102 rfl dX1_bestPay_13 ?_
        refine lv_bipush (v := 10) hx hb dX1_bestPay_16 (by decide) ?_
        refine lv_imul hx hb dX1_bestPay_18 ?_
        refine sk_top (nI (gd * 10)) (nmul gd 10) ?_
        refine lv_iload_n hx hb dX1_bestPay_19 rfl (lv_at hl 0 rfl) ?_
        refine lv_iadd hx hb dX1_bestPay_20 ?_
        refine sk_top (nI (gd * 10 + i)) (nI_add (gd * 10) i) ?_
        refine lv_lconst (v := 0) hx hb dX1_bestPay_21 (by decide) ?_
        refine sk_lastO (ws' := fun f_21 => [(q 11, .inr (1, [.ref (q 10), .ref (q 67), .ref (q 68), .ref (q 69), .ref (q 70), .ref (q 71), .ref (q 72), .int (nI gd), .int (nI gs)])), (q 67, .inl (cI, 90, .inl e1)), (q 68, .inl (cI, 9, .inl e2)), (q 69, .inl (cI, 10, .inl e3)), (q 72, .inl (cJ, 100, .inr (.inl f_21))), (q 10, .inr (9, [.ref (q 61), .ref (q 62), .ref (q 63), .ref (q 64), .ref (q 65), .ref (q 66)])), (q 65, .inl (cJ, 90, .inr (.inl fg)))]) hx hb hK hP hD hS 4 1 rfl rfl (vin (gd * 10 + i) 100 (by omega) (by omega)) (fun _ => rfl) dX1_bestPay_22 (fun f_21 H locs hP hD hS => ?_)
        refine lv_iinc (v := nI (i + 1)) (lv' := [(1, .int (nI (i + 1))), (0, .ref (q 11))]) hx hb dX1_bestPay_23 hl (k := 0) rfl (ninc i 1 (by decide)) (by decide) rfl (fun ls hl => ?_)
        refine lv_goto (tgt := 2) hx hb dX1_bestPay_26 (by decide) ?_
        exact ih_lp_1 (i + 1) f_21 _ _ _ (by omega) (by omega) hP hD hS (lv_sub hl [0, 1] rfl)
  exact lp_1 (10 - 0 + 1) 0 e6 _ _ _ (Nat.lt_succ_self _) (by omega) hP hD hS (lv_sub hl [0, 1] rfl)
theorem dX1_takeBestPaid_0 : decode cX1_takeBestPaid 0 = .ok (.aload_n 0, 1) := by decide +kernel
theorem dX1_takeBestPaid_1 : decode cX1_takeBestPaid 1 = .ok (.getfield 35, 3) := by decide +kernel
theorem dX1_takeBestPaid_4 : decode cX1_takeBestPaid 4 = .ok (.istore_n 2, 1) := by decide +kernel
theorem dX1_takeBestPaid_5 : decode cX1_takeBestPaid 5 = .ok (.iconst 0, 1) := by decide +kernel
theorem dX1_takeBestPaid_6 : decode cX1_takeBestPaid 6 = .ok (.istore_n 3, 1) := by decide +kernel
theorem dX1_takeBestPaid_7 : decode cX1_takeBestPaid 7 = .ok (.iload_n 3, 1) := by decide +kernel
theorem dX1_takeBestPaid_8 : decode cX1_takeBestPaid 8 = .ok (.aload_n 0, 1) := by decide +kernel
theorem dX1_takeBestPaid_9 : decode cX1_takeBestPaid 9 = .ok (.getfield 31, 3) := by decide +kernel
theorem dX1_takeBestPaid_12 : decode cX1_takeBestPaid 12 = .ok (.if_icmp .ge 84, 3) := by decide +kernel
theorem dX1_takeBestPaid_96 : decode cX1_takeBestPaid 96 = .ok (.return_, 1) := by decide +kernel
theorem dX1_takeBestPaid_15 : decode cX1_takeBestPaid 15 = .ok (.aload_n 0, 1) := by decide +kernel
theorem dX1_takeBestPaid_16 : decode cX1_takeBestPaid 16 = .ok (.iload_n 3, 1) := by decide +kernel
theorem dX1_takeBestPaid_17 : decode cX1_takeBestPaid 17 = .ok (.iload_n 2, 1) := by decide +kernel
theorem dX1_takeBestPaid_18 : decode cX1_takeBestPaid 18 = .ok (.invokevirtual 66, 3) := by decide +kernel
theorem dX1_takeBestPaid_21 : decode cX1_takeBestPaid 21 = .ok (.istore 4, 2) := by decide +kernel
theorem dX1_takeBestPaid_23 : decode cX1_takeBestPaid 23 = .ok (.iconst 0, 1) := by decide +kernel
theorem dX1_takeBestPaid_24 : decode cX1_takeBestPaid 24 = .ok (.istore 5, 2) := by decide +kernel
theorem dX1_takeBestPaid_26 : decode cX1_takeBestPaid 26 = .ok (.iconst 0, 1) := by decide +kernel
theorem dX1_takeBestPaid_27 : decode cX1_takeBestPaid 27 = .ok (.istore 6, 2) := by decide +kernel
theorem dX1_takeBestPaid_29 : decode cX1_takeBestPaid 29 = .ok (.iload 6, 2) := by decide +kernel
theorem dX1_takeBestPaid_31 : decode cX1_takeBestPaid 31 = .ok (.bipush 10, 2) := by decide +kernel
theorem dX1_takeBestPaid_33 : decode cX1_takeBestPaid 33 = .ok (.if_icmp .ge 49, 3) := by decide +kernel
theorem dX1_takeBestPaid_82 : decode cX1_takeBestPaid 82 = .ok (.aload_n 1, 1) := by decide +kernel
theorem dX1_takeBestPaid_83 : decode cX1_takeBestPaid 83 = .ok (.iload_n 3, 1) := by decide +kernel
theorem dX1_takeBestPaid_84 : decode cX1_takeBestPaid 84 = .ok (.iload 5, 2) := by decide +kernel
theorem dX1_takeBestPaid_86 : decode cX1_takeBestPaid 86 = .ok (.iastore, 1) := by decide +kernel
theorem dX1_takeBestPaid_87 : decode cX1_takeBestPaid 87 = .ok (.iload 5, 2) := by decide +kernel
theorem dX1_takeBestPaid_89 : decode cX1_takeBestPaid 89 = .ok (.istore_n 2, 1) := by decide +kernel
theorem dX1_takeBestPaid_90 : decode cX1_takeBestPaid 90 = .ok (.iinc 3 1, 3) := by decide +kernel
theorem dX1_takeBestPaid_93 : decode cX1_takeBestPaid 93 = .ok (.goto (-86), 3) := by decide +kernel
theorem dX1_takeBestPaid_36 : decode cX1_takeBestPaid 36 = .ok (.iload 4, 2) := by decide +kernel
theorem dX1_takeBestPaid_38 : decode cX1_takeBestPaid 38 = .ok (.iload 6, 2) := by decide +kernel
theorem dX1_takeBestPaid_40 : decode cX1_takeBestPaid 40 = .ok (.ishr, 1) := by decide +kernel
theorem dX1_takeBestPaid_41 : decode cX1_takeBestPaid 41 = .ok (.iconst 1, 1) := by decide +kernel
theorem dX1_takeBestPaid_42 : decode cX1_takeBestPaid 42 = .ok (.iand, 1) := by decide +kernel
theorem dX1_takeBestPaid_43 : decode cX1_takeBestPaid 43 = .ok (.iconst 1, 1) := by decide +kernel
theorem dX1_takeBestPaid_44 : decode cX1_takeBestPaid 44 = .ok (.if_icmp .ne 32, 3) := by decide +kernel
theorem dX1_takeBestPaid_76 : decode cX1_takeBestPaid 76 = .ok (.iinc 6 1, 3) := by decide +kernel
theorem dX1_takeBestPaid_79 : decode cX1_takeBestPaid 79 = .ok (.goto (-50), 3) := by decide +kernel
theorem dX1_takeBestPaid_47 : decode cX1_takeBestPaid 47 = .ok (.aload_n 0, 1) := by decide +kernel
theorem dX1_takeBestPaid_48 : decode cX1_takeBestPaid 48 = .ok (.iload_n 3, 1) := by decide +kernel
theorem dX1_takeBestPaid_49 : decode cX1_takeBestPaid 49 = .ok (.iload 6, 2) := by decide +kernel
theorem dX1_takeBestPaid_51 : decode cX1_takeBestPaid 51 = .ok (.invokevirtual 91, 3) := by decide +kernel
theorem dX1_takeBestPaid_54 : decode cX1_takeBestPaid 54 = .ok (.aload_n 0, 1) := by decide +kernel
theorem dX1_takeBestPaid_55 : decode cX1_takeBestPaid 55 = .ok (.getfield 28, 3) := by decide +kernel
theorem dX1_takeBestPaid_58 : decode cX1_takeBestPaid 58 = .ok (.iload_n 3, 1) := by decide +kernel
theorem dX1_takeBestPaid_59 : decode cX1_takeBestPaid 59 = .ok (.bipush 10, 2) := by decide +kernel
theorem dX1_takeBestPaid_61 : decode cX1_takeBestPaid 61 = .ok (.imul, 1) := by decide +kernel
theorem dX1_takeBestPaid_62 : decode cX1_takeBestPaid 62 = .ok (.iload_n 2, 1) := by decide +kernel
theorem dX1_takeBestPaid_63 : decode cX1_takeBestPaid 63 = .ok (.iadd, 1) := by decide +kernel
theorem dX1_takeBestPaid_64 : decode cX1_takeBestPaid 64 = .ok (.laload, 1) := by decide +kernel
theorem dX1_takeBestPaid_65 : decode cX1_takeBestPaid 65 = .ok (.lcmp, 1) := by decide +kernel
theorem dX1_takeBestPaid_66 : decode cX1_takeBestPaid 66 = .ok (.ifCond .ne 10, 3) := by decide +kernel
theorem dX1_takeBestPaid_69 : decode cX1_takeBestPaid 69 = .ok (.iload 6, 2) := by decide +kernel
theorem dX1_takeBestPaid_71 : decode cX1_takeBestPaid 71 = .ok (.istore 5, 2) := by decide +kernel
theorem dX1_takeBestPaid_73 : decode cX1_takeBestPaid 73 = .ok (.goto 9, 3) := by decide +kernel
theorem w_4_173 : (Cond.code yX1_takeBestPaid cX1_takeBestPaid 7 none) ∈ wsL_law := sk_mem (ck_4 _ (List.mem_of_getElem? (i := 173) rfl)) rfl
set_option maxHeartbeats 4000000 in
set_option maxRecDepth 100000 in
theorem c_takeBestPaid (l : Launch) (D : va_G) (cI cJ cC cZ cS : ClassId) (q : Nat → Nat) (gd : Nat) (gs : Nat) (e1 : Nat → Int32) (e2 : Nat → Int32) (e3 : Nat → Int32) (e6 : Nat → Int64) (fg : Nat → Int64) (rw : Nat) (ra : Nat → Int32) (hgd : gd ≤ 9) (hgs : gs ≤ 9) : skM l yX1_takeBestPaid cX1_takeBestPaid 7 none 1 22 0 0 D (skT cI cJ cC cZ cS) [.ref (q 11), .ref rw] [(q 11, .inr (1, [.ref (q 10), .ref (q 67), .ref (q 68), .ref (q 69), .ref (q 70), .ref (q 71), .ref (q 72), .int (nI gd), .int (nI gs)])), (q 67, .inl (cI, 90, .inl e1)), (q 68, .inl (cI, 9, .inl e2)), (q 69, .inl (cI, 10, .inl e3)), (q 72, .inl (cJ, 100, .inr (.inl e6))), (q 10, .inr (9, [.ref (q 61), .ref (q 62), .ref (q 63), .ref (q 64), .ref (q 65), .ref (q 66)])), (q 65, .inl (cJ, 90, .inr (.inl fg))), (rw, .inl (cI, 9, .inl ra))] (skV D (skT cI cJ cC cZ cS) (fun (u : va_W) => ∃ (ra2 : Nat → Int32), rowOk ra2 gd ∧ u = [(q 11, .inr (1, [.ref (q 10), .ref (q 67), .ref (q 68), .ref (q 69), .ref (q 70), .ref (q 71), .ref (q 72), .int (nI gd), .int (nI gs)])), (q 67, .inl (cI, 90, .inl e1)), (q 68, .inl (cI, 9, .inl e2)), (q 69, .inl (cI, 10, .inl e3)), (q 72, .inl (cJ, 100, .inr (.inl e6))), (q 10, .inr (9, [.ref (q 61), .ref (q 62), .ref (q 63), .ref (q 64), .ref (q 65), .ref (q 66)])), (q 65, .inl (cJ, 90, .inr (.inl fg))), (rw, .inl (cI, 9, .inl ra2))])) := by
  refine skM_of (by decide +kernel) (Nat.le_of_ble_eq_true rfl) ?_
  intro p e s m below meth c A ls E hP hD hl
  obtain ⟨hx, hb, hr, hml, hlocks, hin, hown, hts, hK, hA⟩ := E
  have hown : s.vm.findClass RX1 = some m.cls := hown
  have hS : va_S A s.heap s.heap [] := va_S.rf
  have hl : lv_has ls 7 [(0, .ref (q 11)), (1, .ref rw)] := hl
  refine lv_aload_n hx hb dX1_takeBestPaid_0 rfl (lv_at hl 0 rfl) ?_
  refine sk_get (v := .int (nI gs)) (C := RX1) (T := TX1) (N := 9) hx hb hts inlX1 hown hK hP 0 rfl rfl 8 (by decide) w_2_103 rfl dX1_takeBestPaid_1 ?_
  refine lv_istore_n (lv' := [(2, .int (nI gs)), (0, .ref (q 11)), (1, .ref rw)]) hx hb dX1_takeBestPaid_4 rfl hl (by decide) rfl (fun ls hl => ?_)
  refine lv_iconst (v := 0) hx hb dX1_takeBestPaid_5 (by decide) ?_
  refine lv_istore_n (lv' := [(3, .int 0), (2, .int (nI gs)), (0, .ref (q 11)), (1, .ref rw)]) hx hb dX1_takeBestPaid_6 rfl hl (by decide) rfl (fun ls hl => ?_)
  have lp_1 : ∀ (n_2 : Nat) (i : Nat) (ah : Nat) (rb : Nat → Int32) (H : Heap) (locs : List Loc) (ls : Array Slot), gd - i < n_2 → (i ≤ gd) → (ah < 10) → (rowOk rb i) → va_P D vwCl [(q 11, .inr (1, [.ref (q 10), .ref (q 67), .ref (q 68), .ref (q 69), .ref (q 70), .ref (q 71), .ref (q 72), .int (nI gd), .int (nI gs)])), (q 67, .inl (cI, 90, .inl e1)), (q 68, .inl (cI, 9, .inl e2)), (q 69, .inl (cI, 10, .inl e3)), (q 72, .inl (cJ, 100, .inr (.inl e6))), (q 10, .inr (9, [.ref (q 61), .ref (q 62), .ref (q 63), .ref (q 64), .ref (q 65), .ref (q 66)])), (q 65, .inl (cJ, 90, .inr (.inl fg))), (rw, .inl (cI, 9, .inl rb))] H → va_D A [(q 11, .inr (1, [.ref (q 10), .ref (q 67), .ref (q 68), .ref (q 69), .ref (q 70), .ref (q 71), .ref (q 72), .int (nI gd), .int (nI gs)])), (q 67, .inl (cI, 90, .inl e1)), (q 68, .inl (cI, 9, .inl e2)), (q 69, .inl (cI, 10, .inl e3)), (q 72, .inl (cJ, 100, .inr (.inl e6))), (q 10, .inr (9, [.ref (q 61), .ref (q 62), .ref (q 63), .ref (q 64), .ref (q 65), .ref (q 66)])), (q 65, .inl (cJ, 90, .inr (.inl fg))), (rw, .inl (cI, 9, .inl rb))] → va_S A s.heap H locs → lv_has ls 7 [(3, .int (nI i)), (2, .int (nI ah)), (0, .ref (q 11)), (1, .ref rw)] → W p l e { frames := 1, cells := 0, slots := 0, locals := 22 } s m ([.ref (q 11), .ref rw] : List Value).toArray below meth c H locs 0 0 (MQ below (skV D (skT cI cJ cC cZ cS) (fun (u : va_W) => ∃ (ra2 : Nat → Int32), rowOk ra2 gd ∧ u = [(q 11, .inr (1, [.ref (q 10), .ref (q 67), .ref (q 68), .ref (q 69), .ref (q 70), .ref (q 71), .ref (q 72), .int (nI gd), .int (nI gs)])), (q 67, .inl (cI, 90, .inl e1)), (q 68, .inl (cI, 9, .inl e2)), (q 69, .inl (cI, 10, .inl e3)), (q 72, .inl (cJ, 100, .inr (.inl e6))), (q 10, .inr (9, [.ref (q 61), .ref (q 62), .ref (q 63), .ref (q 64), .ref (q 65), .ref (q 66)])), (q 65, .inl (cJ, 90, .inr (.inl fg))), (rw, .inl (cI, 9, .inl ra2))]) A) ([.ref (q 11), .ref rw] : List Value).toArray s 0 0 A) (F0 m 7 ls []) := by
    intro n_2
    induction n_2 with
    | zero => intro i ah rb H locs ls hm; exact absurd hm (Nat.not_lt_zero _)
    | succ n_2 ih_lp_1 =>
      intro i ah rb H locs ls hm hi hah hro hP hD hS hl
      refine lv_iload_n hx hb dX1_takeBestPaid_7 rfl (lv_at hl 0 rfl) ?_
      refine lv_aload_n hx hb dX1_takeBestPaid_8 rfl (lv_at hl 2 rfl) ?_
      refine sk_get (v := .int (nI gd)) (C := RX1) (T := TX1) (N := 9) hx hb hts inlX1 hown hK hP 0 rfl rfl 7 (by decide) w_2_102 rfl dX1_takeBestPaid_9 ?_
      refine lv_icmp_ge (tgt := 96) hx hb dX1_takeBestPaid_12 (by decide) (fun c_3 => ?_) (fun c_3 => ?_)
      · have c_3 : gd ≤ i := (nle gd i (by omega) (by omega)).mp c_3
        exact sk_vret hx hb hr hlocks hK hP hD hS (⟨rb, by rw [show gd = i by omega]; exact hro, rfl⟩) (Nat.le_of_ble_eq_true rfl) (Nat.le_of_ble_eq_true rfl) dX1_takeBestPaid_96
      · have c_3 : ¬ (gd ≤ i) := fun h => c_3 ((nle gd i (by omega) (by omega)).mpr h)
        refine lv_aload_n hx hb dX1_takeBestPaid_15 rfl (lv_at hl 2 rfl) ?_
        refine lv_iload_n hx hb dX1_takeBestPaid_16 rfl (lv_at hl 0 rfl) ?_
        refine lv_iload_n hx hb dX1_takeBestPaid_17 rfl (lv_at hl 1 rfl) ?_
        refine sk_Vi (q0 := 0) (n := 2) (rest := []) (wr := [(q 72, .inl (cJ, 100, .inr (.inl e6))), (q 10, .inr (9, [.ref (q 61), .ref (q 62), .ref (q 63), .ref (q 64), .ref (q 65), .ref (q 66)])), (q 65, .inl (cJ, 90, .inr (.inl fg))), (rw, .inl (cI, 9, .inl rb))]) ⟨hx, hb, hml, hown, hts⟩ hl.1 (c_next l D cI cJ cC cZ cS q gd gs e1 e2 e3 i ah (by omega) (by omega)) w_4_57 w_4_59 w_0_20 w_1_13 w_4_60 (by decide +kernel) ⟨⟨(Nat.le_of_ble_eq_true rfl), (Nat.le_of_ble_eq_true rfl)⟩, (Nat.le_of_ble_eq_true rfl), (Nat.le_of_ble_eq_true rfl)⟩ hK hP hD hS hA [0, 1, 2, 3] [4, 5, 6, 7] rfl rfl (by decide +kernel) (by decide +kernel) (by decide +kernel) rfl rfl rfl rfl (Nat.le_of_ble_eq_true rfl) dX1_takeBestPaid_18 (fun r_4 u H locs hw hP hD hS => ?_)
        obtain rfl := hw
        have hP : va_P D vwCl [(q 72, .inl (cJ, 100, .inr (.inl e6))), (q 10, .inr (9, [.ref (q 61), .ref (q 62), .ref (q 63), .ref (q 64), .ref (q 65), .ref (q 66)])), (q 65, .inl (cJ, 90, .inr (.inl fg))), (rw, .inl (cI, 9, .inl rb)), (q 11, .inr (1, [.ref (q 10), .ref (q 67), .ref (q 68), .ref (q 69), .ref (q 70), .ref (q 71), .ref (q 72), .int (nI gd), .int (nI gs)])), (q 67, .inl (cI, 90, .inl e1)), (q 68, .inl (cI, 9, .inl e2)), (q 69, .inl (cI, 10, .inl e3))] H := hP
        have hD : va_D A [(q 72, .inl (cJ, 100, .inr (.inl e6))), (q 10, .inr (9, [.ref (q 61), .ref (q 62), .ref (q 63), .ref (q 64), .ref (q 65), .ref (q 66)])), (q 65, .inl (cJ, 90, .inr (.inl fg))), (rw, .inl (cI, 9, .inl rb)), (q 11, .inr (1, [.ref (q 10), .ref (q 67), .ref (q 68), .ref (q 69), .ref (q 70), .ref (q 71), .ref (q 72), .int (nI gd), .int (nI gs)])), (q 67, .inl (cI, 90, .inl e1)), (q 68, .inl (cI, 9, .inl e2)), (q 69, .inl (cI, 10, .inl e3))] := hD
        refine lv_istore (lv' := [(4, .int r_4), (3, .int (nI i)), (2, .int (nI ah)), (0, .ref (q 11)), (1, .ref rw)]) hx hb dX1_takeBestPaid_21 hl (by decide) rfl (fun ls hl => ?_)
        refine lv_iconst (v := 0) hx hb dX1_takeBestPaid_23 (by decide) ?_
        refine lv_istore (lv' := [(5, .int 0), (4, .int r_4), (3, .int (nI i)), (2, .int (nI ah)), (0, .ref (q 11)), (1, .ref rw)]) hx hb dX1_takeBestPaid_24 hl (by decide) rfl (fun ls hl => ?_)
        refine lv_iconst (v := 0) hx hb dX1_takeBestPaid_26 (by decide) ?_
        refine lv_istore (lv' := [(6, .int 0), (5, .int 0), (4, .int r_4), (3, .int (nI i)), (2, .int (nI ah)), (0, .ref (q 11)), (1, .ref rw)]) hx hb dX1_takeBestPaid_27 hl (by decide) rfl (fun ls hl => ?_)
        have lp_5 : ∀ (n_6 : Nat) (jj : Nat) (H : Heap) (locs : List Loc) (ls : Array Slot), 10 - jj < n_6 → (jj ≤ 10) → va_P D vwCl [(q 72, .inl (cJ, 100, .inr (.inl e6))), (q 10, .inr (9, [.ref (q 61), .ref (q 62), .ref (q 63), .ref (q 64), .ref (q 65), .ref (q 66)])), (q 65, .inl (cJ, 90, .inr (.inl fg))), (rw, .inl (cI, 9, .inl rb)), (q 11, .inr (1, [.ref (q 10), .ref (q 67), .ref (q 68), .ref (q 69), .ref (q 70), .ref (q 71), .ref (q 72), .int (nI gd), .int (nI gs)])), (q 67, .inl (cI, 90, .inl e1)), (q 68, .inl (cI, 9, .inl e2)), (q 69, .inl (cI, 10, .inl e3))] H → va_D A [(q 72, .inl (cJ, 100, .inr (.inl e6))), (q 10, .inr (9, [.ref (q 61), .ref (q 62), .ref (q 63), .ref (q 64), .ref (q 65), .ref (q 66)])), (q 65, .inl (cJ, 90, .inr (.inl fg))), (rw, .inl (cI, 9, .inl rb)), (q 11, .inr (1, [.ref (q 10), .ref (q 67), .ref (q 68), .ref (q 69), .ref (q 70), .ref (q 71), .ref (q 72), .int (nI gd), .int (nI gs)])), (q 67, .inl (cI, 90, .inl e1)), (q 68, .inl (cI, 9, .inl e2)), (q 69, .inl (cI, 10, .inl e3))] → va_S A s.heap H locs → lv_has ls 7 [(6, .int (nI jj)), (5, .int 0), (4, .int r_4), (3, .int (nI i)), (2, .int (nI ah)), (0, .ref (q 11)), (1, .ref rw)] → W p l e { frames := 1, cells := 0, slots := 0, locals := 22 } s m ([.ref (q 11), .ref rw] : List Value).toArray below meth c H locs 0 0 (MQ below (skV D (skT cI cJ cC cZ cS) (fun (u : va_W) => ∃ (ra2 : Nat → Int32), rowOk ra2 gd ∧ u = [(q 11, .inr (1, [.ref (q 10), .ref (q 67), .ref (q 68), .ref (q 69), .ref (q 70), .ref (q 71), .ref (q 72), .int (nI gd), .int (nI gs)])), (q 67, .inl (cI, 90, .inl e1)), (q 68, .inl (cI, 9, .inl e2)), (q 69, .inl (cI, 10, .inl e3)), (q 72, .inl (cJ, 100, .inr (.inl e6))), (q 10, .inr (9, [.ref (q 61), .ref (q 62), .ref (q 63), .ref (q 64), .ref (q 65), .ref (q 66)])), (q 65, .inl (cJ, 90, .inr (.inl fg))), (rw, .inl (cI, 9, .inl ra2))]) A) ([.ref (q 11), .ref rw] : List Value).toArray s 0 0 A) (F0 m 29 ls []) := by
          intro n_6
          induction n_6 with
          | zero => intro jj H locs ls hm; exact absurd hm (Nat.not_lt_zero _)
          | succ n_6 ih_lp_5 =>
            intro jj H locs ls hm hjj hP hD hS hl
            refine lv_iload hx hb dX1_takeBestPaid_29 (lv_at hl 0 rfl) ?_
            refine lv_bipush (v := 10) hx hb dX1_takeBestPaid_31 (by decide) ?_
            refine lv_icmp_ge (tgt := 82) hx hb dX1_takeBestPaid_33 (by decide) (fun c_7 => ?_) (fun c_7 => ?_)
            · have c_7 : 10 ≤ jj := (nle 10 jj (by omega) (by omega)).mp c_7
              refine lv_aload_n hx hb dX1_takeBestPaid_82 rfl (lv_at hl 6 rfl) ?_
              refine lv_iload_n hx hb dX1_takeBestPaid_83 rfl (lv_at hl 3 rfl) ?_
              refine lv_iload hx hb dX1_takeBestPaid_84 (lv_at hl 1 rfl) ?_
              refine sk_iast (ws' := [(q 72, .inl (cJ, 100, .inr (.inl e6))), (q 10, .inr (9, [.ref (q 61), .ref (q 62), .ref (q 63), .ref (q 64), .ref (q 65), .ref (q 66)])), (q 65, .inl (cJ, 90, .inr (.inl fg))), (rw, .inl (cI, 9, .inl (upd rb (nI i).toNatClampNeg (nI 0)))), (q 11, .inr (1, [.ref (q 10), .ref (q 67), .ref (q 68), .ref (q 69), .ref (q 70), .ref (q 71), .ref (q 72), .int (nI gd), .int (nI gs)])), (q 67, .inl (cI, 90, .inl e1)), (q 68, .inl (cI, 9, .inl e2)), (q 69, .inl (cI, 10, .inl e3))]) hx hb hK hP hD hS 3 0 rfl rfl (vin i 9 (by omega) (by omega)) rfl dX1_takeBestPaid_86 (fun H locs hP hD hS => ?_)
              have ho_9 := rowOk_up (f := rb) (i := i) (v := 0) hro (by omega) (by omega)
              generalize ef_10 : upd rb (nI i).toNatClampNeg (nI 0) = f_8 at hP hD ho_9
              refine lv_iload hx hb dX1_takeBestPaid_87 (lv_at hl 1 rfl) ?_
              refine lv_istore_n (lv' := [(2, .int 0), (6, .int (nI jj)), (5, .int 0), (4, .int r_4), (3, .int (nI i)), (0, .ref (q 11)), (1, .ref rw)]) hx hb dX1_takeBestPaid_89 rfl hl (by decide) rfl (fun ls hl => ?_)
              refine lv_iinc (v := nI (i + 1)) (lv' := [(3, .int (nI (i + 1))), (2, .int 0), (6, .int (nI jj)), (5, .int 0), (4, .int r_4), (0, .ref (q 11)), (1, .ref rw)]) hx hb dX1_takeBestPaid_90 hl (k := 4) rfl (ninc i 1 (by decide)) (by decide) rfl (fun ls hl => ?_)
              refine lv_goto (tgt := 7) hx hb dX1_takeBestPaid_93 (by decide) ?_
              have hP := hP.sub (ws' := [(q 11, .inr (1, [.ref (q 10), .ref (q 67), .ref (q 68), .ref (q 69), .ref (q 70), .ref (q 71), .ref (q 72), .int (nI gd), .int (nI gs)])), (q 67, .inl (cI, 90, .inl e1)), (q 68, .inl (cI, 9, .inl e2)), (q 69, .inl (cI, 10, .inl e3)), (q 72, .inl (cJ, 100, .inr (.inl e6))), (q 10, .inr (9, [.ref (q 61), .ref (q 62), .ref (q 63), .ref (q 64), .ref (q 65), .ref (q 66)])), (q 65, .inl (cJ, 90, .inr (.inl fg))), (rw, .inl (cI, 9, .inl f_8))]) [4, 5, 6, 7, 0, 1, 2, 3] rfl
              have hD := hD.sub (ws' := [(q 11, .inr (1, [.ref (q 10), .ref (q 67), .ref (q 68), .ref (q 69), .ref (q 70), .ref (q 71), .ref (q 72), .int (nI gd), .int (nI gs)])), (q 67, .inl (cI, 90, .inl e1)), (q 68, .inl (cI, 9, .inl e2)), (q 69, .inl (cI, 10, .inl e3)), (q 72, .inl (cJ, 100, .inr (.inl e6))), (q 10, .inr (9, [.ref (q 61), .ref (q 62), .ref (q 63), .ref (q 64), .ref (q 65), .ref (q 66)])), (q 65, .inl (cJ, 90, .inr (.inl fg))), (rw, .inl (cI, 9, .inl f_8))]) [4, 5, 6, 7, 0, 1, 2, 3] (by decide +kernel) rfl
              exact ih_lp_1 (i + 1) 0 f_8 _ _ _ (by omega) (by omega) (by omega) ho_9 hP hD hS (lv_sub hl [0, 1, 5, 6] rfl)
            · have c_7 : ¬ (10 ≤ jj) := fun h => c_7 ((nle 10 jj (by omega) (by omega)).mpr h)
              refine lv_iload hx hb dX1_takeBestPaid_36 (lv_at hl 2 rfl) ?_
              refine lv_iload hx hb dX1_takeBestPaid_38 (lv_at hl 0 rfl) ?_
              refine lv_ishr hx hb dX1_takeBestPaid_40 ?_
              refine lv_topi (fun v_11 ev_11 => ?_)
              refine lv_iconst (v := 1) hx hb dX1_takeBestPaid_41 (by decide) ?_
              refine lv_iand hx hb dX1_takeBestPaid_42 ?_
              refine lv_topi (fun v_12 ev_12 => ?_)
              refine lv_iconst (v := 1) hx hb dX1_takeBestPaid_43 (by decide) ?_
              refine lv_icmp_ne (tgt := 76) hx hb dX1_takeBestPaid_44 (by decide) (fun c_13 => ?_) (fun c_13 => ?_)
              · skip
                refine lv_iinc (v := nI (jj + 1)) (lv' := [(6, .int (nI (jj + 1))), (5, .int 0), (4, .int r_4), (3, .int (nI i)), (2, .int (nI ah)), (0, .ref (q 11)), (1, .ref rw)]) hx hb dX1_takeBestPaid_76 hl (k := 0) rfl (ninc jj 1 (by decide)) (by decide) rfl (fun ls hl => ?_)
                refine lv_goto (tgt := 29) hx hb dX1_takeBestPaid_79 (by decide) ?_
                exact ih_lp_5 (jj + 1) _ _ _ (by omega) (by omega) hP hD hS (lv_sub hl [0, 1, 2, 3, 4, 5, 6] rfl)
              · skip
                refine lv_aload_n hx hb dX1_takeBestPaid_47 rfl (lv_at hl 5 rfl) ?_
                refine lv_iload_n hx hb dX1_takeBestPaid_48 rfl (lv_at hl 3 rfl) ?_
                refine lv_iload hx hb dX1_takeBestPaid_49 (lv_at hl 0 rfl) ?_
                refine sk_Vl (q0 := 0) (n := 2) (rest := []) (wr := [(rw, .inl (cI, 9, .inl rb)), (q 67, .inl (cI, 90, .inl e1)), (q 68, .inl (cI, 9, .inl e2)), (q 69, .inl (cI, 10, .inl e3))]) ⟨hx, hb, hml, hown, hts⟩ hl.1 (c_gainBy l D cI cJ cC cZ cS q gd gs e6 fg i jj (by omega) (by omega)) w_4_161 w_4_163 w_0_26 w_1_13 w_4_164 (by decide +kernel) ⟨⟨(Nat.le_of_ble_eq_true rfl), (Nat.le_of_ble_eq_true rfl)⟩, (Nat.le_of_ble_eq_true rfl), (Nat.le_of_ble_eq_true rfl)⟩ hK hP hD hS hA [4, 0, 1, 2] [3, 5, 6, 7] rfl rfl (by decide +kernel) (by decide +kernel) (by decide +kernel) rfl rfl rfl rfl (Nat.le_of_ble_eq_true rfl) dX1_takeBestPaid_51 (fun r_14 u H locs hw hP hD hS => ?_)
                obtain rfl := hw
                have hP : va_P D vwCl [(rw, .inl (cI, 9, .inl rb)), (q 67, .inl (cI, 90, .inl e1)), (q 68, .inl (cI, 9, .inl e2)), (q 69, .inl (cI, 10, .inl e3)), (q 11, .inr (1, [.ref (q 10), .ref (q 67), .ref (q 68), .ref (q 69), .ref (q 70), .ref (q 71), .ref (q 72), .int (nI gd), .int (nI gs)])), (q 72, .inl (cJ, 100, .inr (.inl e6))), (q 10, .inr (9, [.ref (q 61), .ref (q 62), .ref (q 63), .ref (q 64), .ref (q 65), .ref (q 66)])), (q 65, .inl (cJ, 90, .inr (.inl fg)))] H := hP
                have hD : va_D A [(rw, .inl (cI, 9, .inl rb)), (q 67, .inl (cI, 90, .inl e1)), (q 68, .inl (cI, 9, .inl e2)), (q 69, .inl (cI, 10, .inl e3)), (q 11, .inr (1, [.ref (q 10), .ref (q 67), .ref (q 68), .ref (q 69), .ref (q 70), .ref (q 71), .ref (q 72), .int (nI gd), .int (nI gs)])), (q 72, .inl (cJ, 100, .inr (.inl e6))), (q 10, .inr (9, [.ref (q 61), .ref (q 62), .ref (q 63), .ref (q 64), .ref (q 65), .ref (q 66)])), (q 65, .inl (cJ, 90, .inr (.inl fg)))] := hD
                refine lv_aload_n hx hb dX1_takeBestPaid_54 rfl (lv_at hl 5 rfl) ?_
                refine sk_get (v := .ref (q 72)) (C := RX1) (T := TX1) (N := 9) hx hb hts inlX1 hown hK hP 4 rfl rfl 6 (by decide) w_2_101 rfl dX1_takeBestPaid_55 ?_
                refine lv_iload_n hx hb dX1_takeBestPaid_58 rfl (lv_at hl 3 rfl) ?_
                refine lv_bipush (v := 10) hx hb dX1_takeBestPaid_59 (by decide) ?_
                refine lv_imul hx hb dX1_takeBestPaid_61 ?_
                refine sk_top (nI (i * 10)) (nmul i 10) ?_
                refine lv_iload_n hx hb dX1_takeBestPaid_62 rfl (lv_at hl 4 rfl) ?_
                refine lv_iadd hx hb dX1_takeBestPaid_63 ?_
                refine sk_top (nI (i * 10 + ah)) (nI_add (i * 10) ah) ?_
                refine va_lald hx hb hK.1 hP 5 1 rfl rfl (vin (i * 10 + ah) 100 (by omega) (by omega)) dX1_takeBestPaid_64 ?_
                refine lv_topl (fun v_15 ev_15 => ?_)
                refine W.lcmp hx hb dX1_takeBestPaid_65 ?_
                refine lv_if_ne (tgt := 76) hx hb dX1_takeBestPaid_66 (by decide) (fun c_16 => ?_) (fun c_16 => ?_)
                · skip
                  refine lv_iinc (v := nI (jj + 1)) (lv' := [(6, .int (nI (jj + 1))), (5, .int 0), (4, .int r_4), (3, .int (nI i)), (2, .int (nI ah)), (0, .ref (q 11)), (1, .ref rw)]) hx hb dX1_takeBestPaid_76 hl (k := 0) rfl (ninc jj 1 (by decide)) (by decide) rfl (fun ls hl => ?_)
                  refine lv_goto (tgt := 29) hx hb dX1_takeBestPaid_79 (by decide) ?_
                  have hP := hP.sub (ws' := [(q 72, .inl (cJ, 100, .inr (.inl e6))), (q 10, .inr (9, [.ref (q 61), .ref (q 62), .ref (q 63), .ref (q 64), .ref (q 65), .ref (q 66)])), (q 65, .inl (cJ, 90, .inr (.inl fg))), (rw, .inl (cI, 9, .inl rb)), (q 11, .inr (1, [.ref (q 10), .ref (q 67), .ref (q 68), .ref (q 69), .ref (q 70), .ref (q 71), .ref (q 72), .int (nI gd), .int (nI gs)])), (q 67, .inl (cI, 90, .inl e1)), (q 68, .inl (cI, 9, .inl e2)), (q 69, .inl (cI, 10, .inl e3))]) [5, 6, 7, 0, 4, 1, 2, 3] rfl
                  have hD := hD.sub (ws' := [(q 72, .inl (cJ, 100, .inr (.inl e6))), (q 10, .inr (9, [.ref (q 61), .ref (q 62), .ref (q 63), .ref (q 64), .ref (q 65), .ref (q 66)])), (q 65, .inl (cJ, 90, .inr (.inl fg))), (rw, .inl (cI, 9, .inl rb)), (q 11, .inr (1, [.ref (q 10), .ref (q 67), .ref (q 68), .ref (q 69), .ref (q 70), .ref (q 71), .ref (q 72), .int (nI gd), .int (nI gs)])), (q 67, .inl (cI, 90, .inl e1)), (q 68, .inl (cI, 9, .inl e2)), (q 69, .inl (cI, 10, .inl e3))]) [5, 6, 7, 0, 4, 1, 2, 3] (by decide +kernel) rfl
                  exact ih_lp_5 (jj + 1) _ _ _ (by omega) (by omega) hP hD hS (lv_sub hl [0, 1, 2, 3, 4, 5, 6] rfl)
                · skip
                  refine lv_iload hx hb dX1_takeBestPaid_69 (lv_at hl 0 rfl) ?_
                  refine lv_istore (lv' := [(5, .int (nI jj)), (6, .int (nI jj)), (4, .int r_4), (3, .int (nI i)), (2, .int (nI ah)), (0, .ref (q 11)), (1, .ref rw)]) hx hb dX1_takeBestPaid_71 hl (by decide) rfl (fun ls hl => ?_)
                  refine lv_goto (tgt := 82) hx hb dX1_takeBestPaid_73 (by decide) ?_
                  refine lv_aload_n hx hb dX1_takeBestPaid_82 rfl (lv_at hl 6 rfl) ?_
                  refine lv_iload_n hx hb dX1_takeBestPaid_83 rfl (lv_at hl 3 rfl) ?_
                  refine lv_iload hx hb dX1_takeBestPaid_84 (lv_at hl 0 rfl) ?_
                  refine sk_iast (ws' := [(rw, .inl (cI, 9, .inl (upd rb (nI i).toNatClampNeg (nI jj)))), (q 67, .inl (cI, 90, .inl e1)), (q 68, .inl (cI, 9, .inl e2)), (q 69, .inl (cI, 10, .inl e3)), (q 11, .inr (1, [.ref (q 10), .ref (q 67), .ref (q 68), .ref (q 69), .ref (q 70), .ref (q 71), .ref (q 72), .int (nI gd), .int (nI gs)])), (q 72, .inl (cJ, 100, .inr (.inl e6))), (q 10, .inr (9, [.ref (q 61), .ref (q 62), .ref (q 63), .ref (q 64), .ref (q 65), .ref (q 66)])), (q 65, .inl (cJ, 90, .inr (.inl fg)))]) hx hb hK hP hD hS 0 0 rfl rfl (vin i 9 (by omega) (by omega)) rfl dX1_takeBestPaid_86 (fun H locs hP hD hS => ?_)
                  have ho_18 := rowOk_up (f := rb) (i := i) (v := jj) hro (by omega) (by omega)
                  generalize ef_19 : upd rb (nI i).toNatClampNeg (nI jj) = f_17 at hP hD ho_18
                  refine lv_iload hx hb dX1_takeBestPaid_87 (lv_at hl 0 rfl) ?_
                  refine lv_istore_n (lv' := [(2, .int (nI jj)), (5, .int (nI jj)), (6, .int (nI jj)), (4, .int r_4), (3, .int (nI i)), (0, .ref (q 11)), (1, .ref rw)]) hx hb dX1_takeBestPaid_89 rfl hl (by decide) rfl (fun ls hl => ?_)
                  refine lv_iinc (v := nI (i + 1)) (lv' := [(3, .int (nI (i + 1))), (2, .int (nI jj)), (5, .int (nI jj)), (6, .int (nI jj)), (4, .int r_4), (0, .ref (q 11)), (1, .ref rw)]) hx hb dX1_takeBestPaid_90 hl (k := 4) rfl (ninc i 1 (by decide)) (by decide) rfl (fun ls hl => ?_)
                  refine lv_goto (tgt := 7) hx hb dX1_takeBestPaid_93 (by decide) ?_
                  have hP := hP.sub (ws' := [(q 11, .inr (1, [.ref (q 10), .ref (q 67), .ref (q 68), .ref (q 69), .ref (q 70), .ref (q 71), .ref (q 72), .int (nI gd), .int (nI gs)])), (q 67, .inl (cI, 90, .inl e1)), (q 68, .inl (cI, 9, .inl e2)), (q 69, .inl (cI, 10, .inl e3)), (q 72, .inl (cJ, 100, .inr (.inl e6))), (q 10, .inr (9, [.ref (q 61), .ref (q 62), .ref (q 63), .ref (q 64), .ref (q 65), .ref (q 66)])), (q 65, .inl (cJ, 90, .inr (.inl fg))), (rw, .inl (cI, 9, .inl f_17))]) [4, 1, 2, 3, 5, 6, 7, 0] rfl
                  have hD := hD.sub (ws' := [(q 11, .inr (1, [.ref (q 10), .ref (q 67), .ref (q 68), .ref (q 69), .ref (q 70), .ref (q 71), .ref (q 72), .int (nI gd), .int (nI gs)])), (q 67, .inl (cI, 90, .inl e1)), (q 68, .inl (cI, 9, .inl e2)), (q 69, .inl (cI, 10, .inl e3)), (q 72, .inl (cJ, 100, .inr (.inl e6))), (q 10, .inr (9, [.ref (q 61), .ref (q 62), .ref (q 63), .ref (q 64), .ref (q 65), .ref (q 66)])), (q 65, .inl (cJ, 90, .inr (.inl fg))), (rw, .inl (cI, 9, .inl f_17))]) [4, 1, 2, 3, 5, 6, 7, 0] (by decide +kernel) rfl
                  exact ih_lp_1 (i + 1) jj f_17 _ _ _ (by omega) (by omega) (by omega) ho_18 hP hD hS (lv_sub hl [0, 1, 5, 6] rfl)
        exact lp_5 (10 - 0 + 1) 0 _ _ _ (Nat.lt_succ_self _) (by omega) hP hD hS (lv_sub hl [0, 1, 2, 3, 4, 5, 6] rfl)
  exact lp_1 (gd - 0 + 1) 0 gs ra _ _ _ (Nat.lt_succ_self _) (by omega) (by omega) (rowOk_0 _) hP hD hS (lv_sub hl [0, 1, 2, 3] rfl)
