theorem ch_by : ∀ i, i < 168 → (((skBy.getD i 0) &&& 255).toUInt32 % 65536).toInt32 = skBy.getD i 0 := by decide +kernel
theorem dg_J3_checkIndex_8e157_0_0 : bqL cJ3_checkIndex_8e157 0 [(0, [26]), (1, [155, 0, 8]), (4, [26]), (5, [27]), (6, [161, 0, 10]), (16, [26]), (17, [172])] = true := by decide +kernel
theorem dJ3_checkIndex_8e157_0 : decode cJ3_checkIndex_8e157 0 = .ok (.iload_n 0, 1) := q_iload_n0 (bat_get dg_J3_checkIndex_8e157_0_0 0 rfl rfl)
theorem dJ3_checkIndex_8e157_1 : decode cJ3_checkIndex_8e157 1 = .ok (.ifCond .lt 8, 3) := q_ifCond_lt (bat_get dg_J3_checkIndex_8e157_0_0 1 rfl rfl) rfl
theorem dJ3_checkIndex_8e157_4 : decode cJ3_checkIndex_8e157 4 = .ok (.iload_n 0, 1) := q_iload_n0 (bat_get dg_J3_checkIndex_8e157_0_0 2 rfl rfl)
theorem dJ3_checkIndex_8e157_5 : decode cJ3_checkIndex_8e157 5 = .ok (.iload_n 1, 1) := q_iload_n1 (bat_get dg_J3_checkIndex_8e157_0_0 3 rfl rfl)
theorem dJ3_checkIndex_8e157_6 : decode cJ3_checkIndex_8e157 6 = .ok (.if_icmp .lt 10, 3) := q_if_icmp_lt (bat_get dg_J3_checkIndex_8e157_0_0 4 rfl rfl) rfl
theorem dJ3_checkIndex_8e157_16 : decode cJ3_checkIndex_8e157 16 = .ok (.iload_n 0, 1) := q_iload_n0 (bat_get dg_J3_checkIndex_8e157_0_0 5 rfl rfl)
theorem dJ3_checkIndex_8e157_17 : decode cJ3_checkIndex_8e157 17 = .ok (.ireturn, 1) := q_ireturn (bat_get dg_J3_checkIndex_8e157_0_0 6 rfl rfl)
theorem w_3_22 : (Cond.code yJ3_checkIndex_8e157 cJ3_checkIndex_8e157 3 (some .int)) ∈ wsL_law := sk_mem (ck_3 _ (List.mem_of_getElem? (i := 22) rfl)) rfl
set_option maxHeartbeats 4000000 in
set_option maxRecDepth 100000 in
theorem c_pc_checkIndex_n (l : Launch) (D : va_G) (cI cJ cC cZ cS : ClassId) (i : Nat) (n : Nat) (hi : i < n) (hn : n < 2147483648) : skM l yJ3_checkIndex_8e157 cJ3_checkIndex_8e157 3 (some .int) 0 0 0 0 D (skT cI cJ cC cZ cS) [.int (nI i), .int (nI n), .null] [] (skI D (skT cI cJ cC cZ cS) (fun (r : Int32) (u : va_W) => r = nI i ∧ u = [])) := by
  refine skM_of pf_J3_checkIndex_8e157 (Nat.le_of_ble_eq_true rfl) ?_
  intro p e s m below meth c A ls E hP hD hl
  refine skE_el E (fun hx hb hr hml hlocks hin hown hts hK hA => ?_)
  have hown : s.vm.findClass RJ3 = some m.cls := hown
  have hS : va_S A s.heap s.heap [] := va_S.rf
  have hl : lv_has ls 3 [(0, .int (nI i)), (1, .int (nI n)), (2, .null)] := hl
  refine lv_iload_n hx hb dJ3_checkIndex_8e157_0 rfl (lv_at hl 0 rfl) ?_
  refine lv_if_lt (tgt := 9) hx hb dJ3_checkIndex_8e157_1 (by decide) (fun c => absurd c (nI_pos (by omega))) (fun c_1 => ?_)
  refine lv_iload_n hx hb dJ3_checkIndex_8e157_4 rfl (lv_at hl 0 rfl) ?_
  refine lv_iload_n hx hb dJ3_checkIndex_8e157_5 rfl (lv_at hl 1 rfl) ?_
  refine lv_icmp_lt (tgt := 16) hx hb dJ3_checkIndex_8e157_6 (by decide) (fun c_2 => ?_) (fun c => absurd ((nlt i n (by omega) (by omega)).mpr (by omega)) c)
  refine lv_iload_n hx hb dJ3_checkIndex_8e157_16 rfl (lv_at hl 0 rfl) ?_
  exact sk_iret hx hb hr rfl hlocks hK hP hD hS (⟨rfl, rfl⟩) (Nat.le_of_ble_eq_true rfl) (Nat.le_of_ble_eq_true rfl) dJ3_checkIndex_8e157_17
set_option maxHeartbeats 4000000 in
set_option maxRecDepth 100000 in
theorem c_pc_checkIndex_r (l : Launch) (D : va_G) (cI cJ cC cZ cS : ClassId) (i : Nat) (n : Nat) (zz : Nat) (hi : i < n) (hn : n < 2147483648) : skM l yJ3_checkIndex_8e157 cJ3_checkIndex_8e157 3 (some .int) 0 0 0 0 D (skT cI cJ cC cZ cS) [.int (nI i), .int (nI n), .ref zz] [] (skI D (skT cI cJ cC cZ cS) (fun (r : Int32) (u : va_W) => r = nI i ∧ u = [])) := by
  refine skM_of pf_J3_checkIndex_8e157 (Nat.le_of_ble_eq_true rfl) ?_
  intro p e s m below meth c A ls E hP hD hl
  refine skE_el E (fun hx hb hr hml hlocks hin hown hts hK hA => ?_)
  have hown : s.vm.findClass RJ3 = some m.cls := hown
  have hS : va_S A s.heap s.heap [] := va_S.rf
  have hl : lv_has ls 3 [(0, .int (nI i)), (1, .int (nI n)), (2, .ref zz)] := hl
  refine lv_iload_n hx hb dJ3_checkIndex_8e157_0 rfl (lv_at hl 0 rfl) ?_
  refine lv_if_lt (tgt := 9) hx hb dJ3_checkIndex_8e157_1 (by decide) (fun c => absurd c (nI_pos (by omega))) (fun c_1 => ?_)
  refine lv_iload_n hx hb dJ3_checkIndex_8e157_4 rfl (lv_at hl 0 rfl) ?_
  refine lv_iload_n hx hb dJ3_checkIndex_8e157_5 rfl (lv_at hl 1 rfl) ?_
  refine lv_icmp_lt (tgt := 16) hx hb dJ3_checkIndex_8e157_6 (by decide) (fun c_2 => ?_) (fun c => absurd ((nlt i n (by omega) (by omega)).mpr (by omega)) c)
  refine lv_iload_n hx hb dJ3_checkIndex_8e157_16 rfl (lv_at hl 0 rfl) ?_
  exact sk_iret hx hb hr rfl hlocks hK hP hD hS (⟨rfl, rfl⟩) (Nat.le_of_ble_eq_true rfl) (Nat.le_of_ble_eq_true rfl) dJ3_checkIndex_8e157_17
theorem dg_J0_checkIndex_df160_0_0 : bqL cJ0_checkIndex_df160 0 [(0, [26]), (1, [27]), (2, [178, 4, 29]), (5, [184, 4, 35]), (8, [87]), (9, [177])] = true := by decide +kernel
theorem dJ0_checkIndex_df160_0 : decode cJ0_checkIndex_df160 0 = .ok (.iload_n 0, 1) := q_iload_n0 (bat_get dg_J0_checkIndex_df160_0_0 0 rfl rfl)
theorem dJ0_checkIndex_df160_1 : decode cJ0_checkIndex_df160 1 = .ok (.iload_n 1, 1) := q_iload_n1 (bat_get dg_J0_checkIndex_df160_0_0 1 rfl rfl)
theorem dJ0_checkIndex_df160_2 : decode cJ0_checkIndex_df160 2 = .ok (.getstatic 1053, 3) := q_getstatic (bat_get dg_J0_checkIndex_df160_0_0 2 rfl rfl) rfl
theorem dJ0_checkIndex_df160_5 : decode cJ0_checkIndex_df160 5 = .ok (.invokestatic 1059, 3) := q_invokestatic (bat_get dg_J0_checkIndex_df160_0_0 3 rfl rfl) rfl
theorem dJ0_checkIndex_df160_8 : decode cJ0_checkIndex_df160 8 = .ok (.pop, 1) := q_pop (bat_get dg_J0_checkIndex_df160_0_0 4 rfl rfl)
theorem dJ0_checkIndex_df160_9 : decode cJ0_checkIndex_df160 9 = .ok (.return_, 1) := q_return_ (bat_get dg_J0_checkIndex_df160_0_0 5 rfl rfl)
theorem w_3_18 : (Cond.fieldLink RJ0 1053 "jdk/internal/util/Preconditions" "SIOOBE_FORMATTER" "Ljava/util/function/BiFunction;") ∈ wsL_law := sk_mem (ck_3 _ (List.mem_of_getElem? (i := 18) rfl)) rfl
theorem w_3_20 : (Cond.methodLink RJ0 1059 yJ3_checkIndex_8e157) ∈ wsL_law := sk_mem (ck_3 _ (List.mem_of_getElem? (i := 20) rfl)) rfl
theorem w_3_21 : (Cond.static yJ3_checkIndex_8e157) ∈ wsL_law := sk_mem (ck_3 _ (List.mem_of_getElem? (i := 21) rfl)) rfl
theorem w_1_18 : (Cond.initialized RJ3) ∈ wsL_law := sk_mem (ck_1 _ (List.mem_of_getElem? (i := 18) rfl)) rfl
theorem w_3_17 : (Cond.code yJ0_checkIndex_df160 cJ0_checkIndex_df160 2 none) ∈ wsL_law := sk_mem (ck_3 _ (List.mem_of_getElem? (i := 17) rfl)) rfl
theorem hd_J3_checkIndex_8e157_3 : skD yJ3_checkIndex_8e157 3 := by decide +kernel
set_option maxHeartbeats 4000000 in
set_option maxRecDepth 100000 in
theorem c_str_checkIndex (l : Launch) (D : va_G) (cI cJ cC cZ cS : ClassId) (zk zv : Nat) (zf : Value) (i : Nat) (n : Nat) (hi : i < n) (hn : n < 2147483648) : skMZ zk zv zf l yJ0_checkIndex_df160 cJ0_checkIndex_df160 2 none 1 22 0 0 D (skT cI cJ cC cZ cS) [.int (nI i), .int (nI n)] [] (skV D (skT cI cJ cC cZ cS) (fun (u : va_W) => u = [])) := by
  refine skMZ_of pf_J0_checkIndex_df160 (Nat.le_of_ble_eq_true rfl) ?_
  intro p e s m below meth c A ls E hP hD hZ hl
  refine skE_el E (fun hx hb hr hml hlocks hin hown hts hK hA => ?_)
  have hown : s.vm.findClass RJ0 = some m.cls := hown
  have hS : va_S A s.heap s.heap [] := va_S.rf
  have hl : lv_has ls 2 [(0, .int (nI i)), (1, .int (nI n))] := hl
  refine lv_iload_n hx hb dJ0_checkIndex_df160_0 rfl (lv_at hl 0 rfl) ?_
  refine lv_iload_n hx hb dJ0_checkIndex_df160_1 rfl (lv_at hl 1 rfl) ?_
  rcases hZ.2.2.2.2.2.2.2 with hq | ⟨zz, hq⟩
  · subst hq
    refine va_gets hx hb hZ.2.2.2.2.2.2.1 hS hown (hts _ w_3_18) (fun _ h => h) dJ0_checkIndex_df160_2 ?_
    refine sk_Si (n := 3) (rest := []) (wr := []) ⟨hx, hb, hml, hown, hts⟩ hl.1 (c_pc_checkIndex_n l D cI cJ cC cZ cS i n (by omega) (by omega)) w_3_20 w_3_21 w_1_18 w_3_22 hd_J3_checkIndex_8e157_3 ⟨⟨(Nat.le_of_ble_eq_true rfl), (Nat.le_of_ble_eq_true rfl)⟩, (Nat.le_of_ble_eq_true rfl), (Nat.le_of_ble_eq_true rfl)⟩ hK hP hD hS hA [] [] rfl rfl (by decide +kernel) (by decide +kernel) (by decide +kernel) rfl rfl (Nat.le_of_ble_eq_true rfl) dJ0_checkIndex_df160_5 (fun r_1 u H locs hw hP hD hS => ?_)
    obtain ⟨rfl, rfl⟩ := hw
    refine o_re (ws' := []) hP hD rfl (fun hP hD => ?_)
    refine lv_pop hx hb dJ0_checkIndex_df160_8 rfl ?_
    exact sk_vret hx hb hr hlocks hK hP hD hS rfl (Nat.le_of_ble_eq_true rfl) (Nat.le_of_ble_eq_true rfl) dJ0_checkIndex_df160_9
  · subst hq
    refine va_gets hx hb hZ.2.2.2.2.2.2.1 hS hown (hts _ w_3_18) (fun _ h => h) dJ0_checkIndex_df160_2 ?_
    refine sk_Si (n := 3) (rest := []) (wr := []) ⟨hx, hb, hml, hown, hts⟩ hl.1 (c_pc_checkIndex_r l D cI cJ cC cZ cS i n zz (by omega) (by omega)) w_3_20 w_3_21 w_1_18 w_3_22 hd_J3_checkIndex_8e157_3 ⟨⟨(Nat.le_of_ble_eq_true rfl), (Nat.le_of_ble_eq_true rfl)⟩, (Nat.le_of_ble_eq_true rfl), (Nat.le_of_ble_eq_true rfl)⟩ hK hP hD hS hA [] [] rfl rfl (by decide +kernel) (by decide +kernel) (by decide +kernel) rfl rfl (Nat.le_of_ble_eq_true rfl) dJ0_checkIndex_df160_5 (fun r_2 u H locs hw hP hD hS => ?_)
    obtain ⟨rfl, rfl⟩ := hw
    refine o_re (ws' := []) hP hD rfl (fun hP hD => ?_)
    refine lv_pop hx hb dJ0_checkIndex_df160_8 rfl ?_
    exact sk_vret hx hb hr hlocks hK hP hD hS rfl (Nat.le_of_ble_eq_true rfl) (Nat.le_of_ble_eq_true rfl) dJ0_checkIndex_df160_9
theorem dg_J1_charAt_3b067_0_0 : bqL cJ1_charAt_3b067 0 [(0, [27]), (1, [42]), (2, [190]), (3, [184, 0, 9]), (6, [42]), (7, [27]), (8, [51]), (9, [17, 0, 255]), (12, [126]), (13, [146]), (14, [172])] = true := by decide +kernel
theorem dJ1_charAt_3b067_0 : decode cJ1_charAt_3b067 0 = .ok (.iload_n 1, 1) := q_iload_n1 (bat_get dg_J1_charAt_3b067_0_0 0 rfl rfl)
theorem dJ1_charAt_3b067_1 : decode cJ1_charAt_3b067 1 = .ok (.aload_n 0, 1) := q_aload_n0 (bat_get dg_J1_charAt_3b067_0_0 1 rfl rfl)
theorem dJ1_charAt_3b067_2 : decode cJ1_charAt_3b067 2 = .ok (.arraylength, 1) := q_arraylength (bat_get dg_J1_charAt_3b067_0_0 2 rfl rfl)
theorem dJ1_charAt_3b067_3 : decode cJ1_charAt_3b067 3 = .ok (.invokestatic 9, 3) := q_invokestatic (bat_get dg_J1_charAt_3b067_0_0 3 rfl rfl) rfl
theorem dJ1_charAt_3b067_6 : decode cJ1_charAt_3b067 6 = .ok (.aload_n 0, 1) := q_aload_n0 (bat_get dg_J1_charAt_3b067_0_0 4 rfl rfl)
theorem dJ1_charAt_3b067_7 : decode cJ1_charAt_3b067 7 = .ok (.iload_n 1, 1) := q_iload_n1 (bat_get dg_J1_charAt_3b067_0_0 5 rfl rfl)
theorem dJ1_charAt_3b067_8 : decode cJ1_charAt_3b067 8 = .ok (.baload, 1) := q_baload (bat_get dg_J1_charAt_3b067_0_0 6 rfl rfl)
theorem dJ1_charAt_3b067_9 : decode cJ1_charAt_3b067 9 = .ok (.sipush 255, 3) := q_sipush (bat_get dg_J1_charAt_3b067_0_0 7 rfl rfl) rfl
theorem dJ1_charAt_3b067_12 : decode cJ1_charAt_3b067 12 = .ok (.iand, 1) := q_iand (bat_get dg_J1_charAt_3b067_0_0 8 rfl rfl)
theorem dJ1_charAt_3b067_13 : decode cJ1_charAt_3b067 13 = .ok (.i2c, 1) := q_i2c (bat_get dg_J1_charAt_3b067_0_0 9 rfl rfl)
theorem dJ1_charAt_3b067_14 : decode cJ1_charAt_3b067 14 = .ok (.ireturn, 1) := q_ireturn (bat_get dg_J1_charAt_3b067_0_0 10 rfl rfl)
theorem w_3_15 : (Cond.methodLink RJ1 9 yJ0_checkIndex_df160) ∈ wsL_law := sk_mem (ck_3 _ (List.mem_of_getElem? (i := 15) rfl)) rfl
theorem w_3_16 : (Cond.static yJ0_checkIndex_df160) ∈ wsL_law := sk_mem (ck_3 _ (List.mem_of_getElem? (i := 16) rfl)) rfl
theorem w_1_16 : (Cond.initialized RJ0) ∈ wsL_law := sk_mem (ck_1 _ (List.mem_of_getElem? (i := 16) rfl)) rfl
theorem w_3_14 : (Cond.code yJ1_charAt_3b067 cJ1_charAt_3b067 2 (some .char)) ∈ wsL_law := sk_mem (ck_3 _ (List.mem_of_getElem? (i := 14) rfl)) rfl
theorem hd_J0_checkIndex_df160_2 : skD yJ0_checkIndex_df160 2 := by decide +kernel
set_option maxHeartbeats 4000000 in
set_option maxRecDepth 100000 in
theorem c_l1_charAt (l : Launch) (D : va_G) (cI cJ cC cZ cS : ClassId) (zk zv : Nat) (zf : Value) (i : Nat) (hi : i < 168) : skMZ zk zv zf l yJ1_charAt_3b067 cJ1_charAt_3b067 2 (some .char) 2 43 0 0 D (skT cI cJ cC cZ cS) [.ref zv, .int (nI i)] [] (skI D (skT cI cJ cC cZ cS) (fun (r : Int32) (u : va_W) => narrow .char (.int r) = .int r ∧ r = skBy.getD i 0 ∧ u = [])) := by
  refine skMZ_of pf_J1_charAt_3b067 (Nat.le_of_ble_eq_true rfl) ?_
  intro p e s m below meth c A ls E hP hD hZ hl
  refine skE_el E (fun hx hb hr hml hlocks hin hown hts hK hA => ?_)
  have hown : s.vm.findClass RJ1 = some m.cls := hown
  have hS : va_S A s.heap s.heap [] := va_S.rf
  have hl : lv_has ls 2 [(0, .ref zv), (1, .int (nI i))] := hl
  refine lv_iload_n hx hb dJ1_charAt_3b067_0 rfl (lv_at hl 1 rfl) ?_
  refine lv_aload_n hx hb dJ1_charAt_3b067_1 rfl (lv_at hl 0 rfl) ?_
  refine va_tlen (v := 168) hx hb hZ.2.2.2.2.1 hS rfl dJ1_charAt_3b067_2 ?_
  refine sk_SvZ (n := 2) (rest := []) (wr := []) ⟨hx, hb, hml, hown, hts⟩ hl.1 (c_str_checkIndex l D cI cJ cC cZ cS zk zv zf i 168 (by omega) (by omega)) w_3_15 w_3_16 w_1_16 w_3_17 hd_J0_checkIndex_df160_2 ⟨⟨(Nat.le_of_ble_eq_true rfl), (Nat.le_of_ble_eq_true rfl)⟩, (Nat.le_of_ble_eq_true rfl), (Nat.le_of_ble_eq_true rfl)⟩ hK hP hD hS hZ hA [] [] rfl rfl (by decide +kernel) (by decide +kernel) (by decide +kernel) rfl rfl (Nat.le_of_ble_eq_true rfl) dJ1_charAt_3b067_3 (fun u H locs hw hP hD hS => ?_)
  obtain rfl := hw
  refine o_re (ws' := []) hP hD rfl (fun hP hD => ?_)
  refine lv_aload_n hx hb dJ1_charAt_3b067_6 rfl (lv_at hl 0 rfl) ?_
  refine lv_iload_n hx hb dJ1_charAt_3b067_7 rfl (lv_at hl 1 rfl) ?_
  refine va_tb hx hb hZ.2.2.2.2.1 hS (vin i 168 (by omega) (by omega)) rfl dJ1_charAt_3b067_8 ?_
  refine lv_topi (fun v_1 ev_1 => ?_)
  refine lv_sipush (v := 255) hx hb dJ1_charAt_3b067_9 (by decide) ?_
  refine lv_iand hx hb dJ1_charAt_3b067_12 ?_
  refine lv_i2c hx hb dJ1_charAt_3b067_13 rfl ?_
  refine lv_topi (fun v_2 ev_2 => ?_)
  exact sk_iret hx hb hr (by rw [ev_2]; exact pk_nc _) hlocks hK hP hD hS (⟨by rw [ev_2]; exact pk_nc _, by rw [ev_2, ev_1, nI_clamp (by omega)]; exact ch_by i (by omega), rfl⟩) (Nat.le_of_ble_eq_true rfl) (Nat.le_of_ble_eq_true rfl) dJ1_charAt_3b067_14
theorem dg_J0_coder_7d493_0_0 : bqL cJ0_coder_7d493 0 [(0, [178, 0, 38]), (3, [153, 0, 10]), (6, [42]), (7, [180, 0, 15]), (10, [167, 0, 4]), (14, [172])] = true := by decide +kernel
theorem dJ0_coder_7d493_0 : decode cJ0_coder_7d493 0 = .ok (.getstatic 38, 3) := q_getstatic (bat_get dg_J0_coder_7d493_0_0 0 rfl rfl) rfl
theorem dJ0_coder_7d493_3 : decode cJ0_coder_7d493 3 = .ok (.ifCond .eq 10, 3) := q_ifCond_eq (bat_get dg_J0_coder_7d493_0_0 1 rfl rfl) rfl
theorem dJ0_coder_7d493_6 : decode cJ0_coder_7d493 6 = .ok (.aload_n 0, 1) := q_aload_n0 (bat_get dg_J0_coder_7d493_0_0 2 rfl rfl)
theorem dJ0_coder_7d493_7 : decode cJ0_coder_7d493 7 = .ok (.getfield 15, 3) := q_getfield (bat_get dg_J0_coder_7d493_0_0 3 rfl rfl) rfl
theorem dJ0_coder_7d493_10 : decode cJ0_coder_7d493 10 = .ok (.goto 4, 3) := q_goto (bat_get dg_J0_coder_7d493_0_0 4 rfl rfl) rfl
theorem dJ0_coder_7d493_14 : decode cJ0_coder_7d493 14 = .ok (.ireturn, 1) := q_ireturn (bat_get dg_J0_coder_7d493_0_0 5 rfl rfl)
theorem w_3_2 : (Cond.fieldLink RJ0 38 "java/lang/String" "COMPACT_STRINGS" "Z") ∈ wsL_law := sk_mem (ck_3 _ (List.mem_of_getElem? (i := 2) rfl)) rfl
theorem w_8_232 : (Cond.fieldLink RJ0 15 "java/lang/String" "coder" "B") ∈ wsL_law := sk_mem (ck_8 _ (List.mem_of_getElem? (i := 232) rfl)) rfl
theorem w_3_1 : (Cond.code yJ0_coder_7d493 cJ0_coder_7d493 1 (some .byte)) ∈ wsL_law := sk_mem (ck_3 _ (List.mem_of_getElem? (i := 1) rfl)) rfl
set_option maxHeartbeats 4000000 in
set_option maxRecDepth 100000 in
theorem c_str_coder (l : Launch) (D : va_G) (cI cJ cC cZ cS : ClassId) (zk zv : Nat) (zf : Value)  : skMZ zk zv zf l yJ0_coder_7d493 cJ0_coder_7d493 1 (some .byte) 0 0 0 0 D (skT cI cJ cC cZ cS) [.ref zk] [] (skI D (skT cI cJ cC cZ cS) (fun (r : Int32) (u : va_W) => r = 0 ∧ u = [])) := by
  refine skMZ_of pf_J0_coder_7d493 (Nat.le_of_ble_eq_true rfl) ?_
  intro p e s m below meth c A ls E hP hD hZ hl
  refine skE_el E (fun hx hb hr hml hlocks hin hown hts hK hA => ?_)
  have hown : s.vm.findClass RJ0 = some m.cls := hown
  have hS : va_S A s.heap s.heap [] := va_S.rf
  have hl : lv_has ls 1 [(0, .ref zk)] := hl
  refine va_gets hx hb hZ.2.2.2.2.2.1 hS hown (hts _ w_3_2) (fun _ h => h) dJ0_coder_7d493_0 ?_
  refine lv_if_eq (tgt := 13) hx hb dJ0_coder_7d493_3 (by decide) (fun c => absurd c (by decide)) (fun c_1 => ?_)
  refine lv_aload_n hx hb dJ0_coder_7d493_6 rfl (lv_at hl 0 rfl) ?_
  refine vk_getf hx hb hZ.2.2.1 hS hown (hts _ w_8_232) (fun _ h => h) dJ0_coder_7d493_7 ?_
  refine lv_goto (tgt := 14) hx hb dJ0_coder_7d493_10 (by decide) ?_
  exact sk_iret hx hb hr rfl hlocks hK hP hD hS (⟨rfl, rfl⟩) (Nat.le_of_ble_eq_true rfl) (Nat.le_of_ble_eq_true rfl) dJ0_coder_7d493_14
