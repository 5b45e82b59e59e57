theorem dg_J0_isLatin1_aae02_0_0 : bqL cJ0_isLatin1_aae02 0 [(0, [178, 0, 38]), (3, [153, 0, 14]), (6, [42]), (7, [180, 0, 15]), (10, [154, 0, 7]), (13, [4]), (14, [167, 0, 4]), (18, [172])] = true := by decide +kernel
theorem dJ0_isLatin1_aae02_0 : decode cJ0_isLatin1_aae02 0 = .ok (.getstatic 38, 3) := q_getstatic (bat_get dg_J0_isLatin1_aae02_0_0 0 rfl rfl) rfl
theorem dJ0_isLatin1_aae02_3 : decode cJ0_isLatin1_aae02 3 = .ok (.ifCond .eq 14, 3) := q_ifCond_eq (bat_get dg_J0_isLatin1_aae02_0_0 1 rfl rfl) rfl
theorem dJ0_isLatin1_aae02_6 : decode cJ0_isLatin1_aae02 6 = .ok (.aload_n 0, 1) := q_aload_n0 (bat_get dg_J0_isLatin1_aae02_0_0 2 rfl rfl)
theorem dJ0_isLatin1_aae02_7 : decode cJ0_isLatin1_aae02 7 = .ok (.getfield 15, 3) := q_getfield (bat_get dg_J0_isLatin1_aae02_0_0 3 rfl rfl) rfl
theorem dJ0_isLatin1_aae02_10 : decode cJ0_isLatin1_aae02 10 = .ok (.ifCond .ne 7, 3) := q_ifCond_ne (bat_get dg_J0_isLatin1_aae02_0_0 4 rfl rfl) rfl
theorem dJ0_isLatin1_aae02_13 : decode cJ0_isLatin1_aae02 13 = .ok (.iconst 1, 1) := q_iconst1 (bat_get dg_J0_isLatin1_aae02_0_0 5 rfl rfl)
theorem dJ0_isLatin1_aae02_14 : decode cJ0_isLatin1_aae02 14 = .ok (.goto 4, 3) := q_goto (bat_get dg_J0_isLatin1_aae02_0_0 6 rfl rfl) rfl
theorem dJ0_isLatin1_aae02_18 : decode cJ0_isLatin1_aae02 18 = .ok (.ireturn, 1) := q_ireturn (bat_get dg_J0_isLatin1_aae02_0_0 7 rfl rfl)
theorem w_3_11 : (Cond.code yJ0_isLatin1_aae02 cJ0_isLatin1_aae02 1 (some .boolean)) ∈ wsL_law := sk_mem (ck_3 _ (List.mem_of_getElem? (i := 11) rfl)) rfl
set_option maxHeartbeats 4000000 in
set_option maxRecDepth 100000 in
theorem c_str_isLatin1 (l : Launch) (D : va_G) (cI cJ cC cZ cS : ClassId) (zk zv : Nat) (zf : Value)  : skMZ zk zv zf l yJ0_isLatin1_aae02 cJ0_isLatin1_aae02 1 (some .boolean) 0 0 0 0 D (skT cI cJ cC cZ cS) [.ref zk] [] (skI D (skT cI cJ cC cZ cS) (fun (r : Int32) (u : va_W) => r = 1 ∧ u = [])) := by
  refine skMZ_of pf_J0_isLatin1_aae02 (Nat.le_of_ble_eq_true rfl) ?_
  intro p e s m below meth c A ls E hP hD hZ hl
  refine skE_el E (fun hx hb hr hml hlocks hin hown hts hK hA => ?_)
  have hown : s.vm.findClass RJ0 = some m.cls := hown
  have hS : va_S A s.heap s.heap [] := va_S.rf
  have hl : lv_has ls 1 [(0, .ref zk)] := hl
  refine va_gets hx hb hZ.2.2.2.2.2.1 hS hown (hts _ w_3_2) (fun _ h => h) dJ0_isLatin1_aae02_0 ?_
  refine lv_if_eq (tgt := 17) hx hb dJ0_isLatin1_aae02_3 (by decide) (fun c => absurd c (by decide)) (fun c_1 => ?_)
  refine lv_aload_n hx hb dJ0_isLatin1_aae02_6 rfl (lv_at hl 0 rfl) ?_
  refine vk_getf hx hb hZ.2.2.1 hS hown (hts _ w_8_232) (fun _ h => h) dJ0_isLatin1_aae02_7 ?_
  refine lv_if_ne (tgt := 17) hx hb dJ0_isLatin1_aae02_10 (by decide) (fun c => absurd c (by decide)) (fun c_2 => ?_)
  refine lv_iconst (v := 1) hx hb dJ0_isLatin1_aae02_13 (by decide) ?_
  refine lv_goto (tgt := 18) hx hb dJ0_isLatin1_aae02_14 (by decide) ?_
  exact sk_iret hx hb hr rfl hlocks hK hP hD hS (⟨rfl, rfl⟩) (Nat.le_of_ble_eq_true rfl) (Nat.le_of_ble_eq_true rfl) dJ0_isLatin1_aae02_18
theorem dg_J0_length_8abf5_0_0 : bqL cJ0_length_8abf5 0 [(0, [42]), (1, [180, 0, 9]), (4, [190]), (5, [42]), (6, [182, 1, 79]), (9, [122]), (10, [172])] = true := by decide +kernel
theorem dJ0_length_8abf5_0 : decode cJ0_length_8abf5 0 = .ok (.aload_n 0, 1) := q_aload_n0 (bat_get dg_J0_length_8abf5_0_0 0 rfl rfl)
theorem dJ0_length_8abf5_1 : decode cJ0_length_8abf5 1 = .ok (.getfield 9, 3) := q_getfield (bat_get dg_J0_length_8abf5_0_0 1 rfl rfl) rfl
theorem dJ0_length_8abf5_4 : decode cJ0_length_8abf5 4 = .ok (.arraylength, 1) := q_arraylength (bat_get dg_J0_length_8abf5_0_0 2 rfl rfl)
theorem dJ0_length_8abf5_5 : decode cJ0_length_8abf5 5 = .ok (.aload_n 0, 1) := q_aload_n0 (bat_get dg_J0_length_8abf5_0_0 3 rfl rfl)
theorem dJ0_length_8abf5_6 : decode cJ0_length_8abf5 6 = .ok (.invokevirtual 335, 3) := q_invokevirtual (bat_get dg_J0_length_8abf5_0_0 4 rfl rfl) rfl
theorem dJ0_length_8abf5_9 : decode cJ0_length_8abf5 9 = .ok (.ishr, 1) := q_ishr (bat_get dg_J0_length_8abf5_0_0 5 rfl rfl)
theorem dJ0_length_8abf5_10 : decode cJ0_length_8abf5 10 = .ok (.ireturn, 1) := q_ireturn (bat_get dg_J0_length_8abf5_0_0 6 rfl rfl)
theorem w_8_231 : (Cond.fieldLink RJ0 9 "java/lang/String" "value" "[B") ∈ wsL_law := sk_mem (ck_8 _ (List.mem_of_getElem? (i := 231) rfl)) rfl
theorem w_2_238 : (Cond.methodLink RJ0 335 yJ0_coder_7d493) ∈ wsL_law := sk_mem (ck_2 _ (List.mem_of_getElem? (i := 238) rfl)) rfl
theorem w_2_239 : (Cond.instanceMethod yJ0_coder_7d493) ∈ wsL_law := sk_mem (ck_2 _ (List.mem_of_getElem? (i := 239) rfl)) rfl
theorem w_3_0 : (Cond.selects RJ0 yJ0_coder_7d493 yJ0_coder_7d493) ∈ wsL_law := sk_mem (ck_3 _ (List.mem_of_getElem? (i := 0) rfl)) rfl
theorem w_2_237 : (Cond.code yJ0_length_8abf5 cJ0_length_8abf5 1 (some .int)) ∈ wsL_law := sk_mem (ck_2 _ (List.mem_of_getElem? (i := 237) rfl)) rfl
theorem hd_J0_coder_7d493_0 : skD yJ0_coder_7d493 0 := by decide +kernel
set_option maxHeartbeats 4000000 in
set_option maxRecDepth 100000 in
theorem c_str_length (l : Launch) (D : va_G) (cI cJ cC cZ cS : ClassId) (zk zv : Nat) (zf : Value)  : skMZ zk zv zf l yJ0_length_8abf5 cJ0_length_8abf5 1 (some .int) 1 20 0 0 D (skT cI cJ cC cZ cS) [.ref zk] [] (skI D (skT cI cJ cC cZ cS) (fun (r : Int32) (u : va_W) => r = 168 ∧ u = [])) := by
  refine skMZ_of pf_J0_length_8abf5 (Nat.le_of_ble_eq_true rfl) ?_
  intro p e s m below meth c A ls E hP hD hZ hl
  refine skE_el E (fun hx hb hr hml hlocks hin hown hts hK hA => ?_)
  have hown : s.vm.findClass RJ0 = some m.cls := hown
  have hS : va_S A s.heap s.heap [] := va_S.rf
  have hl : lv_has ls 1 [(0, .ref zk)] := hl
  refine lv_aload_n hx hb dJ0_length_8abf5_0 rfl (lv_at hl 0 rfl) ?_
  refine vk_getf hx hb hZ.2.2.2.1 hS hown (hts _ w_8_231) (fun _ h => h) dJ0_length_8abf5_1 ?_
  refine va_tlen (v := 168) hx hb hZ.2.2.2.2.1 hS rfl dJ0_length_8abf5_4 ?_
  refine lv_aload_n hx hb dJ0_length_8abf5_5 rfl (lv_at hl 0 rfl) ?_
  refine sk_ViS (n := 0) (rest := [.int 168]) (wr := []) ⟨hx, hb, hml, hown, hts⟩ hl.1 (c_str_coder l D cI cJ cC cZ cS zk zv zf) w_2_238 w_2_239 w_3_0 w_1_16 w_3_1 hd_J0_coder_7d493_0 ⟨⟨(Nat.le_of_ble_eq_true rfl), (Nat.le_of_ble_eq_true rfl)⟩, (Nat.le_of_ble_eq_true rfl), (Nat.le_of_ble_eq_true rfl)⟩ hK hP hD hS hZ hA [] [] rfl rfl (by decide +kernel) (by decide +kernel) (by decide +kernel) rfl rfl rfl rfl (Nat.le_of_ble_eq_true rfl) dJ0_length_8abf5_6 (fun r_1 u H locs hw hP hD hS => ?_)
  obtain ⟨rfl, rfl⟩ := hw
  refine o_re (ws' := []) hP hD rfl (fun hP hD => ?_)
  refine lv_ishr hx hb dJ0_length_8abf5_9 ?_
  refine sk_top 168 (by decide) ?_
  exact sk_iret hx hb hr rfl hlocks hK hP hD hS (⟨rfl, rfl⟩) (Nat.le_of_ble_eq_true rfl) (Nat.le_of_ble_eq_true rfl) dJ0_length_8abf5_10
theorem dg_J0_charAt_5068e_0_0 : bqL cJ0_charAt_5068e 0 [(0, [42]), (1, [182, 1, 236]), (4, [153, 0, 12]), (7, [42]), (8, [180, 0, 9]), (11, [27]), (12, [184, 1, 239]), (15, [172])] = true := by decide +kernel
theorem dJ0_charAt_5068e_0 : decode cJ0_charAt_5068e 0 = .ok (.aload_n 0, 1) := q_aload_n0 (bat_get dg_J0_charAt_5068e_0_0 0 rfl rfl)
theorem dJ0_charAt_5068e_1 : decode cJ0_charAt_5068e 1 = .ok (.invokevirtual 492, 3) := q_invokevirtual (bat_get dg_J0_charAt_5068e_0_0 1 rfl rfl) rfl
theorem dJ0_charAt_5068e_4 : decode cJ0_charAt_5068e 4 = .ok (.ifCond .eq 12, 3) := q_ifCond_eq (bat_get dg_J0_charAt_5068e_0_0 2 rfl rfl) rfl
theorem dJ0_charAt_5068e_7 : decode cJ0_charAt_5068e 7 = .ok (.aload_n 0, 1) := q_aload_n0 (bat_get dg_J0_charAt_5068e_0_0 3 rfl rfl)
theorem dJ0_charAt_5068e_8 : decode cJ0_charAt_5068e 8 = .ok (.getfield 9, 3) := q_getfield (bat_get dg_J0_charAt_5068e_0_0 4 rfl rfl) rfl
theorem dJ0_charAt_5068e_11 : decode cJ0_charAt_5068e 11 = .ok (.iload_n 1, 1) := q_iload_n1 (bat_get dg_J0_charAt_5068e_0_0 5 rfl rfl)
theorem dJ0_charAt_5068e_12 : decode cJ0_charAt_5068e 12 = .ok (.invokestatic 495, 3) := q_invokestatic (bat_get dg_J0_charAt_5068e_0_0 6 rfl rfl) rfl
theorem dJ0_charAt_5068e_15 : decode cJ0_charAt_5068e 15 = .ok (.ireturn, 1) := q_ireturn (bat_get dg_J0_charAt_5068e_0_0 7 rfl rfl)
theorem w_3_8 : (Cond.methodLink RJ0 492 yJ0_isLatin1_aae02) ∈ wsL_law := sk_mem (ck_3 _ (List.mem_of_getElem? (i := 8) rfl)) rfl
theorem w_3_9 : (Cond.instanceMethod yJ0_isLatin1_aae02) ∈ wsL_law := sk_mem (ck_3 _ (List.mem_of_getElem? (i := 9) rfl)) rfl
theorem w_3_10 : (Cond.selects RJ0 yJ0_isLatin1_aae02 yJ0_isLatin1_aae02) ∈ wsL_law := sk_mem (ck_3 _ (List.mem_of_getElem? (i := 10) rfl)) rfl
theorem w_3_12 : (Cond.methodLink RJ0 495 yJ1_charAt_3b067) ∈ wsL_law := sk_mem (ck_3 _ (List.mem_of_getElem? (i := 12) rfl)) rfl
theorem w_3_13 : (Cond.static yJ1_charAt_3b067) ∈ wsL_law := sk_mem (ck_3 _ (List.mem_of_getElem? (i := 13) rfl)) rfl
theorem w_1_17 : (Cond.initialized RJ1) ∈ wsL_law := sk_mem (ck_1 _ (List.mem_of_getElem? (i := 17) rfl)) rfl
theorem w_3_7 : (Cond.code yJ0_charAt_5068e cJ0_charAt_5068e 2 (some .char)) ∈ wsL_law := sk_mem (ck_3 _ (List.mem_of_getElem? (i := 7) rfl)) rfl
theorem hd_J0_isLatin1_aae02_0 : skD yJ0_isLatin1_aae02 0 := by decide +kernel
theorem hd_J1_charAt_3b067_2 : skD yJ1_charAt_3b067 2 := by decide +kernel
set_option maxHeartbeats 4000000 in
set_option maxRecDepth 100000 in
theorem c_str_charAt (l : Launch) (D : va_G) (cI cJ cC cZ cS : ClassId) (zk zv : Nat) (zf : Value) (i : Nat) (hi : i < 168) : skMZ zk zv zf l yJ0_charAt_5068e cJ0_charAt_5068e 2 (some .char) 3 64 0 0 D (skT cI cJ cC cZ cS) [.ref zk, .int (nI i)] [] (skI D (skT cI cJ cC cZ cS) (fun (r : Int32) (u : va_W) => r = skBy.getD i 0 ∧ u = [])) := by
  refine skMZ_of pf_J0_charAt_5068e (Nat.le_of_ble_eq_true rfl) ?_
  intro p e s m below meth c A ls E hP hD hZ hl
  refine skE_el E (fun hx hb hr hml hlocks hin hown hts hK hA => ?_)
  have hown : s.vm.findClass RJ0 = some m.cls := hown
  have hS : va_S A s.heap s.heap [] := va_S.rf
  have hl : lv_has ls 2 [(0, .ref zk), (1, .int (nI i))] := hl
  refine lv_aload_n hx hb dJ0_charAt_5068e_0 rfl (lv_at hl 0 rfl) ?_
  refine sk_ViS (n := 0) (rest := []) (wr := []) ⟨hx, hb, hml, hown, hts⟩ hl.1 (c_str_isLatin1 l D cI cJ cC cZ cS zk zv zf) w_3_8 w_3_9 w_3_10 w_1_16 w_3_11 hd_J0_isLatin1_aae02_0 ⟨⟨(Nat.le_of_ble_eq_true rfl), (Nat.le_of_ble_eq_true rfl)⟩, (Nat.le_of_ble_eq_true rfl), (Nat.le_of_ble_eq_true rfl)⟩ hK hP hD hS hZ hA [] [] rfl rfl (by decide +kernel) (by decide +kernel) (by decide +kernel) rfl rfl rfl rfl (Nat.le_of_ble_eq_true rfl) dJ0_charAt_5068e_1 (fun r_1 u H locs hw hP hD hS => ?_)
  obtain ⟨rfl, rfl⟩ := hw
  refine o_re (ws' := []) hP hD rfl (fun hP hD => ?_)
  refine lv_if_eq (tgt := 16) hx hb dJ0_charAt_5068e_4 (by decide) (fun c => absurd c (by decide)) (fun c_2 => ?_)
  refine lv_aload_n hx hb dJ0_charAt_5068e_7 rfl (lv_at hl 0 rfl) ?_
  refine vk_getf hx hb hZ.2.2.2.1 hS hown (hts _ w_8_231) (fun _ h => h) dJ0_charAt_5068e_8 ?_
  refine lv_iload_n hx hb dJ0_charAt_5068e_11 rfl (lv_at hl 1 rfl) ?_
  refine sk_SiZ (n := 2) (rest := []) (wr := []) ⟨hx, hb, hml, hown, hts⟩ hl.1 (c_l1_charAt l D cI cJ cC cZ cS zk zv zf i (by omega)) w_3_12 w_3_13 w_1_17 w_3_14 hd_J1_charAt_3b067_2 ⟨⟨(Nat.le_of_ble_eq_true rfl), (Nat.le_of_ble_eq_true rfl)⟩, (Nat.le_of_ble_eq_true rfl), (Nat.le_of_ble_eq_true rfl)⟩ hK hP hD hS hZ hA [] [] rfl rfl (by decide +kernel) (by decide +kernel) (by decide +kernel) rfl rfl (Nat.le_of_ble_eq_true rfl) dJ0_charAt_5068e_12 (fun r_3 u H locs hw hP hD hS => ?_)
  obtain ⟨hn_4, hv_5, rfl⟩ := hw
  refine o_re (ws' := []) hP hD rfl (fun hP hD => ?_)
  exact sk_iret hx hb hr hn_4 hlocks hK hP hD hS (⟨hv_5, rfl⟩) (Nat.le_of_ble_eq_true rfl) (Nat.le_of_ble_eq_true rfl) dJ0_charAt_5068e_15

