theorem dg_X4_toldOf_0_0 : bqL cX4_toldOf 0 [(0, [27]), (1, [16, 30]), (3, [184, 0, 43]), (6, [172])] = true := by decide +kernel
theorem dX4_toldOf_0 : decode cX4_toldOf 0 = .ok (.iload_n 1, 1) := q_iload_n1 (bat_get dg_X4_toldOf_0_0 0 rfl rfl)
theorem dX4_toldOf_1 : decode cX4_toldOf 1 = .ok (.bipush 30, 2) := q_bipush (bat_get dg_X4_toldOf_0_0 1 rfl rfl) rfl
theorem dX4_toldOf_3 : decode cX4_toldOf 3 = .ok (.invokestatic 43, 3) := q_invokestatic (bat_get dg_X4_toldOf_0_0 2 rfl rfl) rfl
theorem dX4_toldOf_6 : decode cX4_toldOf 6 = .ok (.ireturn, 1) := q_ireturn (bat_get dg_X4_toldOf_0_0 3 rfl rfl)
theorem w_3_183 : (Cond.methodLink RX4 43 Lib.Math.min.name) ∈ wsL_law := sk_mem (ck_3 _ (List.mem_of_getElem? (i := 183) rfl)) rfl
theorem w_3_182 : (Cond.code yX4_toldOf cX4_toldOf 2 (some .int)) ∈ wsL_law := sk_mem (ck_3 _ (List.mem_of_getElem? (i := 182) rfl)) rfl
set_option maxHeartbeats 4000000 in
set_option maxRecDepth 100000 in
theorem c_kpast_toldOf (l : Launch) (D : va_G) (cI cJ cC cZ cS : ClassId) (q : Nat → Nat) (ac : Nat) (ke : Nat) (hke : ke < 1000) : skM l yX4_toldOf cX4_toldOf 2 (some .int) 1 21 0 0 D (skT cI cJ cC cZ cS) [.ref (q 9), .int (nI ke)] [(q 9, .inr (4, [.ref (q 35), .int (nI ac), .ref (q 36), .ref (q 37), .ref (q 38)]))] (skI D (skT cI cJ cC cZ cS) (fun (r : Int32) (u : va_W) => r = nI (min ke 30) ∧ u = [(q 9, .inr (4, [.ref (q 35), .int (nI ac), .ref (q 36), .ref (q 37), .ref (q 38)]))])) := by
  refine skM_of pf_X4_toldOf (Nat.le_of_ble_eq_true rfl) ?_
  intro p e s m below meth c A ls E hP hD hl
  refine skE_el E (fun hx hb hr hml hlocks hin hown hts hK hA => ?_)
  have hown : s.vm.findClass RX4 = some m.cls := hown
  have hS : va_S A s.heap s.heap [] := va_S.rf
  have hl : lv_has ls 2 [(0, .ref (q 9)), (1, .int (nI ke))] := hl
  refine lv_iload_n hx hb dX4_toldOf_0 rfl (lv_at hl 1 rfl) ?_
  refine lv_bipush (v := 30) hx hb dX4_toldOf_1 (by decide) ?_
  refine va_mmin hx hb (by rw [hml]; exact hl.1.symm) hown (hts _ w_3_183) (hts _ w_3_184) (hts _ w_1_3) (hts _ w_3_185) (Nat.le_of_ble_eq_true rfl) (Nat.le_of_ble_eq_true rfl) (Nat.le_of_ble_eq_true rfl) (Nat.le_of_ble_eq_true rfl) dX4_toldOf_3 ?_
  refine sk_top (nI (min ke 30)) (kmin30 (by omega)) ?_
  exact sk_iret hx hb hr rfl hlocks hK hP hD hS (⟨rfl, rfl⟩) (Nat.le_of_ble_eq_true rfl) (Nat.le_of_ble_eq_true rfl) dX4_toldOf_6
theorem dX11_has_1 : decode cX11_has 1 = .ok (.tableswitch 106 0 6 #[43, 51, 59, 67, 78, 93, 98], 43) := by decide +kernel
theorem dg_X11_has_0_0 : bqL cX11_has 0 [(0, [27]), (44, [42]), (45, [180, 0, 59]), (48, [180, 0, 144]), (51, [172]), (52, [42]), (53, [180, 0, 59]), (56, [180, 0, 147]), (59, [172]), (60, [42]), (61, [180, 0, 59]), (64, [180, 0, 150]), (67, [172]), (68, [42]), (69, [180, 0, 59]), (72, [180, 0, 153]), (75, [184, 0, 156]), (78, [172]), (79, [42]), (80, [180, 0, 69]), (83, [42]), (84, [180, 0, 59]), (87, [180, 0, 161]), (90, [182, 0, 164]), (93, [172]), (94, [42]), (95, [180, 0, 99]), (98, [172]), (99, [42]), (100, [180, 0, 69]), (103, [180, 0, 167]), (106, [172]), (107, [2]), (108, [172])] = true := by decide +kernel
theorem dX11_has_0 : decode cX11_has 0 = .ok (.iload_n 1, 1) := q_iload_n1 (bat_get dg_X11_has_0_0 0 rfl rfl)
theorem dX11_has_44 : decode cX11_has 44 = .ok (.aload_n 0, 1) := q_aload_n0 (bat_get dg_X11_has_0_0 1 rfl rfl)
theorem dX11_has_45 : decode cX11_has 45 = .ok (.getfield 59, 3) := q_getfield (bat_get dg_X11_has_0_0 2 rfl rfl) rfl
theorem dX11_has_48 : decode cX11_has 48 = .ok (.getfield 144, 3) := q_getfield (bat_get dg_X11_has_0_0 3 rfl rfl) rfl
theorem dX11_has_51 : decode cX11_has 51 = .ok (.ireturn, 1) := q_ireturn (bat_get dg_X11_has_0_0 4 rfl rfl)
theorem dX11_has_52 : decode cX11_has 52 = .ok (.aload_n 0, 1) := q_aload_n0 (bat_get dg_X11_has_0_0 5 rfl rfl)
theorem dX11_has_53 : decode cX11_has 53 = .ok (.getfield 59, 3) := q_getfield (bat_get dg_X11_has_0_0 6 rfl rfl) rfl
theorem dX11_has_56 : decode cX11_has 56 = .ok (.getfield 147, 3) := q_getfield (bat_get dg_X11_has_0_0 7 rfl rfl) rfl
theorem dX11_has_59 : decode cX11_has 59 = .ok (.ireturn, 1) := q_ireturn (bat_get dg_X11_has_0_0 8 rfl rfl)
theorem dX11_has_60 : decode cX11_has 60 = .ok (.aload_n 0, 1) := q_aload_n0 (bat_get dg_X11_has_0_0 9 rfl rfl)
theorem dX11_has_61 : decode cX11_has 61 = .ok (.getfield 59, 3) := q_getfield (bat_get dg_X11_has_0_0 10 rfl rfl) rfl
theorem dX11_has_64 : decode cX11_has 64 = .ok (.getfield 150, 3) := q_getfield (bat_get dg_X11_has_0_0 11 rfl rfl) rfl
theorem dX11_has_67 : decode cX11_has 67 = .ok (.ireturn, 1) := q_ireturn (bat_get dg_X11_has_0_0 12 rfl rfl)
theorem dX11_has_68 : decode cX11_has 68 = .ok (.aload_n 0, 1) := q_aload_n0 (bat_get dg_X11_has_0_0 13 rfl rfl)
theorem dX11_has_69 : decode cX11_has 69 = .ok (.getfield 59, 3) := q_getfield (bat_get dg_X11_has_0_0 14 rfl rfl) rfl
theorem dX11_has_72 : decode cX11_has 72 = .ok (.getfield 153, 3) := q_getfield (bat_get dg_X11_has_0_0 15 rfl rfl) rfl
theorem dX11_has_75 : decode cX11_has 75 = .ok (.invokestatic 156, 3) := q_invokestatic (bat_get dg_X11_has_0_0 16 rfl rfl) rfl
theorem dX11_has_78 : decode cX11_has 78 = .ok (.ireturn, 1) := q_ireturn (bat_get dg_X11_has_0_0 17 rfl rfl)
theorem dX11_has_79 : decode cX11_has 79 = .ok (.aload_n 0, 1) := q_aload_n0 (bat_get dg_X11_has_0_0 18 rfl rfl)
theorem dX11_has_80 : decode cX11_has 80 = .ok (.getfield 69, 3) := q_getfield (bat_get dg_X11_has_0_0 19 rfl rfl) rfl
theorem dX11_has_83 : decode cX11_has 83 = .ok (.aload_n 0, 1) := q_aload_n0 (bat_get dg_X11_has_0_0 20 rfl rfl)
theorem dX11_has_84 : decode cX11_has 84 = .ok (.getfield 59, 3) := q_getfield (bat_get dg_X11_has_0_0 21 rfl rfl) rfl
theorem dX11_has_87 : decode cX11_has 87 = .ok (.getfield 161, 3) := q_getfield (bat_get dg_X11_has_0_0 22 rfl rfl) rfl
theorem dX11_has_90 : decode cX11_has 90 = .ok (.invokevirtual 164, 3) := q_invokevirtual (bat_get dg_X11_has_0_0 23 rfl rfl) rfl
theorem dX11_has_93 : decode cX11_has 93 = .ok (.ireturn, 1) := q_ireturn (bat_get dg_X11_has_0_0 24 rfl rfl)
theorem dX11_has_94 : decode cX11_has 94 = .ok (.aload_n 0, 1) := q_aload_n0 (bat_get dg_X11_has_0_0 25 rfl rfl)
theorem dX11_has_95 : decode cX11_has 95 = .ok (.getfield 99, 3) := q_getfield (bat_get dg_X11_has_0_0 26 rfl rfl) rfl
theorem dX11_has_98 : decode cX11_has 98 = .ok (.ireturn, 1) := q_ireturn (bat_get dg_X11_has_0_0 27 rfl rfl)
theorem dX11_has_99 : decode cX11_has 99 = .ok (.aload_n 0, 1) := q_aload_n0 (bat_get dg_X11_has_0_0 28 rfl rfl)
theorem dX11_has_100 : decode cX11_has 100 = .ok (.getfield 69, 3) := q_getfield (bat_get dg_X11_has_0_0 29 rfl rfl) rfl
theorem dX11_has_103 : decode cX11_has 103 = .ok (.getfield 167, 3) := q_getfield (bat_get dg_X11_has_0_0 30 rfl rfl) rfl
theorem dX11_has_106 : decode cX11_has 106 = .ok (.ireturn, 1) := q_ireturn (bat_get dg_X11_has_0_0 31 rfl rfl)
theorem dX11_has_107 : decode cX11_has 107 = .ok (.iconst (-1), 1) := q_iconstm1 (bat_get dg_X11_has_0_0 32 rfl rfl)
theorem dX11_has_108 : decode cX11_has 108 = .ok (.ireturn, 1) := q_ireturn (bat_get dg_X11_has_0_0 33 rfl rfl)
theorem w_3_173 : (Cond.methodLink RX11 156 yJ6_bitCount_0f7a4) ∈ wsL_law := sk_mem (ck_3 _ (List.mem_of_getElem? (i := 173) rfl)) rfl
theorem w_3_174 : (Cond.static yJ6_bitCount_0f7a4) ∈ wsL_law := sk_mem (ck_3 _ (List.mem_of_getElem? (i := 174) rfl)) rfl
theorem w_2_15 : (Cond.fieldLink RX11 161 "SameKeeper$State" "kept" "I") ∈ wsL_law := sk_mem (ck_2 _ (List.mem_of_getElem? (i := 15) rfl)) rfl
theorem w_3_179 : (Cond.methodLink RX11 164 yX4_toldOf) ∈ wsL_law := sk_mem (ck_3 _ (List.mem_of_getElem? (i := 179) rfl)) rfl
theorem w_3_180 : (Cond.instanceMethod yX4_toldOf) ∈ wsL_law := sk_mem (ck_3 _ (List.mem_of_getElem? (i := 180) rfl)) rfl
theorem w_3_181 : (Cond.selects RX4 yX4_toldOf yX4_toldOf) ∈ wsL_law := sk_mem (ck_3 _ (List.mem_of_getElem? (i := 181) rfl)) rfl
theorem w_2_138 : (Cond.fieldLink RX11 99 "SameKeeper" "heardCount" "I") ∈ wsL_law := sk_mem (ck_2 _ (List.mem_of_getElem? (i := 138) rfl)) rfl
theorem w_2_42 : (Cond.fieldLink RX11 167 "SameKeeper$Past" "acts" "I") ∈ wsL_law := sk_mem (ck_2 _ (List.mem_of_getElem? (i := 42) rfl)) rfl
theorem w_3_172 : (Cond.code yX11_has cX11_has 2 (some .int)) ∈ wsL_law := sk_mem (ck_3 _ (List.mem_of_getElem? (i := 172) rfl)) rfl
def om_3_1 : List Bool := false :: false :: true :: []
theorem hd_J6_bitCount_0f7a4_1 : skD yJ6_bitCount_0f7a4 1 := by decide +kernel
theorem hd_X4_toldOf_1 : skD yX4_toldOf 1 := by decide +kernel
set_option maxHeartbeats 4000000 in
set_option maxRecDepth 100000 in
theorem c_ky_has (l : Launch) (D : va_G) (cI cJ cC cZ cS : ClassId) (x0 : Nat) (q : Nat → Nat) (dr : Int64) (hn : Nat) (dy : Nat) (wn : Nat) (mo : Nat) (ke : Nat) (mu : Int32) (fb : Nat → Int32) (fw : Nat → Int32) (ac : Nat) (U : Nat → Bool) (w : Int32) (hU : muO U mu) (hke : ke < 1000) : skM l yX11_has cX11_has 2 (some .int) 2 42 0 0 D (skT cI cJ cC cZ cS) [.ref x0, .int w] [(x0, .inr (11, [.ref (q 0), .ref (q 1), .ref (q 2), .ref (q 3), .ref (q 4), .ref (q 5), .ref (q 6), .ref (q 7), .ref (q 8), .ref (q 9), .ref (q 10), .ref (q 11), .ref (q 12), .ref (q 13), .ref (q 14), .int (nI hn), .ref (q 16), .long dr])), (q 7, .inr (7, [.ref (q 33), .ref (q 34), .int (nI dy), .int (nI wn), .int (nI mo), .int mu, .int (nI ke)])), (q 9, .inr (4, [.ref (q 35), .int (nI ac), .ref (q 36), .ref (q 37), .ref (q 38)]))] (skI D (skT cI cJ cC cZ cS) (fun (r : Int32) (u : va_W) => r = hasV dy wn mo U ke hn ac w ∧ u = [(x0, .inr (11, [.ref (q 0), .ref (q 1), .ref (q 2), .ref (q 3), .ref (q 4), .ref (q 5), .ref (q 6), .ref (q 7), .ref (q 8), .ref (q 9), .ref (q 10), .ref (q 11), .ref (q 12), .ref (q 13), .ref (q 14), .int (nI hn), .ref (q 16), .long dr])), (q 7, .inr (7, [.ref (q 33), .ref (q 34), .int (nI dy), .int (nI wn), .int (nI mo), .int mu, .int (nI ke)])), (q 9, .inr (4, [.ref (q 35), .int (nI ac), .ref (q 36), .ref (q 37), .ref (q 38)]))])) := by
  refine skM_of pf_X11_has (Nat.le_of_ble_eq_true rfl) ?_
  intro p e s m below meth c A ls E hP hD hl
  refine skE_el E (fun hx hb hr hml hlocks hin hown hts hK hA => ?_)
  have hown : s.vm.findClass RX11 = some m.cls := hown
  have hS : va_S A s.heap s.heap [] := va_S.rf
  have hl : lv_has ls 2 [(0, .ref x0), (1, .int w)] := hl
  refine lv_iload_n hx hb dX11_has_0 rfl (lv_at hl 1 rfl) ?_
  by_cases g_1 : w = 0
  · refine lv_tableIn (off := 43) (tgt := 44) hx hb dX11_has_1 (by rw [g_1]; decide) (by rw [g_1]; decide) (by rw [g_1]; rfl) (by decide) ?_
    refine lv_aload_n hx hb dX11_has_44 rfl (lv_at hl 0 rfl) ?_
    refine sk_get (v := .ref (q 7)) (C := RX11) (T := TX11) (N := 18) hx hb hts inlX11 hown hK hP 0 rfl rfl 7 (by decide) w_2_130 rfl dX11_has_45 ?_
    refine sk_get (v := .int (nI dy)) (C := RX7) (T := TX7) (N := 7) hx hb hts inlX7 hown hK hP 1 rfl rfl 2 (by decide) w_2_1 rfl dX11_has_48 ?_
    exact sk_iret hx hb hr rfl hlocks hK hP hD hS (⟨(by unfold hasV; rw [g_1, if_pos rfl]), rfl⟩) (Nat.le_of_ble_eq_true rfl) (Nat.le_of_ble_eq_true rfl) dX11_has_51
  by_cases g_2 : w = 1
  · refine lv_tableIn (off := 51) (tgt := 52) hx hb dX11_has_1 (by rw [g_2]; decide) (by rw [g_2]; decide) (by rw [g_2]; rfl) (by decide) ?_
    refine lv_aload_n hx hb dX11_has_52 rfl (lv_at hl 0 rfl) ?_
    refine sk_get (v := .ref (q 7)) (C := RX11) (T := TX11) (N := 18) hx hb hts inlX11 hown hK hP 0 rfl rfl 7 (by decide) w_2_130 rfl dX11_has_53 ?_
    refine sk_get (v := .int (nI wn)) (C := RX7) (T := TX7) (N := 7) hx hb hts inlX7 hown hK hP 1 rfl rfl 3 (by decide) w_2_6 rfl dX11_has_56 ?_
    exact sk_iret hx hb hr rfl hlocks hK hP hD hS (⟨(by unfold hasV; rw [g_2, if_neg (by decide), if_pos rfl]), rfl⟩) (Nat.le_of_ble_eq_true rfl) (Nat.le_of_ble_eq_true rfl) dX11_has_59
  by_cases g_3 : w = 2
  · refine lv_tableIn (off := 59) (tgt := 60) hx hb dX11_has_1 (by rw [g_3]; decide) (by rw [g_3]; decide) (by rw [g_3]; rfl) (by decide) ?_
    refine lv_aload_n hx hb dX11_has_60 rfl (lv_at hl 0 rfl) ?_
    refine sk_get (v := .ref (q 7)) (C := RX11) (T := TX11) (N := 18) hx hb hts inlX11 hown hK hP 0 rfl rfl 7 (by decide) w_2_130 rfl dX11_has_61 ?_
    refine sk_get (v := .int (nI mo)) (C := RX7) (T := TX7) (N := 7) hx hb hts inlX7 hown hK hP 1 rfl rfl 4 (by decide) w_2_10 rfl dX11_has_64 ?_
    exact sk_iret hx hb hr rfl hlocks hK hP hD hS (⟨(by unfold hasV; rw [g_3, if_neg (by decide), if_neg (by decide), if_pos rfl]), rfl⟩) (Nat.le_of_ble_eq_true rfl) (Nat.le_of_ble_eq_true rfl) dX11_has_67
  by_cases g_4 : w = 3
  · refine lv_tableIn (off := 67) (tgt := 68) hx hb dX11_has_1 (by rw [g_4]; decide) (by rw [g_4]; decide) (by rw [g_4]; rfl) (by decide) ?_
    obtain ⟨mz, hmz, rfl, hmb⟩ := hU
    refine lv_aload_n hx hb dX11_has_68 rfl (lv_at hl 0 rfl) ?_
    refine sk_get (v := .ref (q 7)) (C := RX11) (T := TX11) (N := 18) hx hb hts inlX11 hown hK hP 0 rfl rfl 7 (by decide) w_2_130 rfl dX11_has_69 ?_
    refine sk_get (v := .int (nI mz)) (C := RX7) (T := TX7) (N := 7) hx hb hts inlX7 hown hK hP 1 rfl rfl 5 (by decide) w_2_12 rfl dX11_has_72 ?_
    refine sk_Si (n := 1) (rest := []) (wr := [(x0, .inr (11, [.ref (q 0), .ref (q 1), .ref (q 2), .ref (q 3), .ref (q 4), .ref (q 5), .ref (q 6), .ref (q 7), .ref (q 8), .ref (q 9), .ref (q 10), .ref (q 11), .ref (q 12), .ref (q 13), .ref (q 14), .int (nI hn), .ref (q 16), .long dr])), (q 7, .inr (7, [.ref (q 33), .ref (q 34), .int (nI dy), .int (nI wn), .int (nI mo), .int (nI mz), .int (nI ke)])), (q 9, .inr (4, [.ref (q 35), .int (nI ac), .ref (q 36), .ref (q 37), .ref (q 38)]))]) ⟨hx, hb, hml, hown, hts⟩ hl.1 (c_kbitCountX l D cI cJ cC cZ cS mz (by omega)) w_3_173 w_3_174 w_1_21 w_3_175 hd_J6_bitCount_0f7a4_1 ⟨⟨(Nat.le_of_ble_eq_true rfl), (Nat.le_of_ble_eq_true rfl)⟩, (Nat.le_of_ble_eq_true rfl), (Nat.le_of_ble_eq_true rfl)⟩ hK hP hD hS hA [] [0, 1, 2] rfl rfl (by decide +kernel) (by decide +kernel) (by decide +kernel) rfl rfl (Nat.le_of_ble_eq_true rfl) dX11_has_75 (fun r_5 u H locs hw hP hD hS => ?_)
    obtain ⟨hr_6, rfl⟩ := hw
    refine o_re (ws' := [(x0, .inr (11, [.ref (q 0), .ref (q 1), .ref (q 2), .ref (q 3), .ref (q 4), .ref (q 5), .ref (q 6), .ref (q 7), .ref (q 8), .ref (q 9), .ref (q 10), .ref (q 11), .ref (q 12), .ref (q 13), .ref (q 14), .int (nI hn), .ref (q 16), .long dr])), (q 7, .inr (7, [.ref (q 33), .ref (q 34), .int (nI dy), .int (nI wn), .int (nI mo), .int (nI mz), .int (nI ke)])), (q 9, .inr (4, [.ref (q 35), .int (nI ac), .ref (q 36), .ref (q 37), .ref (q 38)]))]) hP hD rfl (fun hP hD => ?_)
    subst hr_6
    exact sk_iret hx hb hr rfl hlocks hK hP hD hS (⟨(by unfold hasV; rw [g_4, if_neg (by decide), if_neg (by decide), if_neg (by decide), if_pos rfl, kpop_U hmb]), rfl⟩) (Nat.le_of_ble_eq_true rfl) (Nat.le_of_ble_eq_true rfl) dX11_has_78
  by_cases g_7 : w = 4
  · refine lv_tableIn (off := 78) (tgt := 79) hx hb dX11_has_1 (by rw [g_7]; decide) (by rw [g_7]; decide) (by rw [g_7]; rfl) (by decide) ?_
    refine lv_aload_n hx hb dX11_has_79 rfl (lv_at hl 0 rfl) ?_
    refine sk_get (v := .ref (q 9)) (C := RX11) (T := TX11) (N := 18) hx hb hts inlX11 hown hK hP 0 rfl rfl 9 (by decide) w_2_132 rfl dX11_has_80 ?_
    refine lv_aload_n hx hb dX11_has_83 rfl (lv_at hl 0 rfl) ?_
    refine sk_get (v := .ref (q 7)) (C := RX11) (T := TX11) (N := 18) hx hb hts inlX11 hown hK hP 0 rfl rfl 7 (by decide) w_2_130 rfl dX11_has_84 ?_
    refine sk_get (v := .int (nI ke)) (C := RX7) (T := TX7) (N := 7) hx hb hts inlX7 hown hK hP 1 rfl rfl 6 (by decide) w_2_15 rfl dX11_has_87 ?_
    refine sk_Vi (q0 := 0) (n := 1) (rest := []) (wr := fmR om_3_1 _) ⟨hx, hb, hml, hown, hts⟩ hl.1 (c_kpast_toldOf l D cI cJ cC cZ cS q ac ke (by omega)) w_3_179 w_3_180 w_3_181 w_1_11 w_3_182 hd_X4_toldOf_1 ⟨⟨(Nat.le_of_ble_eq_true rfl), (Nat.le_of_ble_eq_true rfl)⟩, (Nat.le_of_ble_eq_true rfl), (Nat.le_of_ble_eq_true rfl)⟩ hK hP hD hS hA (fmT om_3_1 0) (fmF om_3_1 0) (fm_C1 rfl rfl) (fm_R rfl rfl) (fm_nT om_3_1 0) (fm_nF om_3_1 0) (fm_di om_3_1 0) rfl rfl rfl rfl (Nat.le_of_ble_eq_true rfl) dX11_has_90 (fun r_8 u H locs hw hP hD hS => ?_)
    refine anE hw (fun er_10 eu_9 => ?_)
    clear hw
    subst er_10
    refine o_mgE (ws' := [(x0, .inr (11, [.ref (q 0), .ref (q 1), .ref (q 2), .ref (q 3), .ref (q 4), .ref (q 5), .ref (q 6), .ref (q 7), .ref (q 8), .ref (q 9), .ref (q 10), .ref (q 11), .ref (q 12), .ref (q 13), .ref (q 14), .int (nI hn), .ref (q 16), .long dr])), (q 7, .inr (7, [.ref (q 33), .ref (q 34), .int (nI dy), .int (nI wn), .int (nI mo), .int mu, .int (nI ke)])), (q 9, .inr (4, [.ref (q 35), .int (nI ac), .ref (q 36), .ref (q 37), .ref (q 38)]))]) eu_9 hP hD rfl (fun hP hD => ?_)
    exact sk_iret hx hb hr rfl hlocks hK hP hD hS (⟨(by unfold hasV; rw [g_7, if_neg (by decide), if_neg (by decide), if_neg (by decide), if_neg (by decide), if_pos rfl]), rfl⟩) (Nat.le_of_ble_eq_true rfl) (Nat.le_of_ble_eq_true rfl) dX11_has_93
  by_cases g_11 : w = 5
  · refine lv_tableIn (off := 93) (tgt := 94) hx hb dX11_has_1 (by rw [g_11]; decide) (by rw [g_11]; decide) (by rw [g_11]; rfl) (by decide) ?_
    refine lv_aload_n hx hb dX11_has_94 rfl (lv_at hl 0 rfl) ?_
    refine sk_get (v := .int (nI hn)) (C := RX11) (T := TX11) (N := 18) hx hb hts inlX11 hown hK hP 0 rfl rfl 15 (by decide) w_2_138 rfl dX11_has_95 ?_
    exact sk_iret hx hb hr rfl hlocks hK hP hD hS (⟨(by unfold hasV; rw [g_11, if_neg (by decide), if_neg (by decide), if_neg (by decide), if_neg (by decide), if_neg (by decide), if_pos rfl]), rfl⟩) (Nat.le_of_ble_eq_true rfl) (Nat.le_of_ble_eq_true rfl) dX11_has_98
  by_cases g_12 : w = 6
  · refine lv_tableIn (off := 98) (tgt := 99) hx hb dX11_has_1 (by rw [g_12]; decide) (by rw [g_12]; decide) (by rw [g_12]; rfl) (by decide) ?_
    refine lv_aload_n hx hb dX11_has_99 rfl (lv_at hl 0 rfl) ?_
    refine sk_get (v := .ref (q 9)) (C := RX11) (T := TX11) (N := 18) hx hb hts inlX11 hown hK hP 0 rfl rfl 9 (by decide) w_2_132 rfl dX11_has_100 ?_
    refine sk_get (v := .int (nI ac)) (C := RX4) (T := TX4) (N := 5) hx hb hts inlX4 hown hK hP 2 rfl rfl 1 (by decide) w_2_42 rfl dX11_has_103 ?_
    exact sk_iret hx hb hr rfl hlocks hK hP hD hS (⟨(by unfold hasV; rw [g_12, if_neg (by decide), if_neg (by decide), if_neg (by decide), if_neg (by decide), if_neg (by decide), if_neg (by decide), if_pos rfl]), rfl⟩) (Nat.le_of_ble_eq_true rfl) (Nat.le_of_ble_eq_true rfl) dX11_has_106
  refine lv_tableOut (tgt := 107) hx hb dX11_has_1 (sk_out (n := 6) (by intro k hk; rcases (show k = 0 ∨ k = 1 ∨ k = 2 ∨ k = 3 ∨ k = 4 ∨ k = 5 ∨ k = 6 by omega) with rfl | rfl | rfl | rfl | rfl | rfl | rfl <;> assumption)) (by decide) ?_
  refine lv_iconst (v := (-1)) hx hb dX11_has_107 (by decide) ?_
  exact sk_iret hx hb hr rfl hlocks hK hP hD hS (⟨(by unfold hasV; rw [if_neg (by assumption), if_neg (by assumption), if_neg (by assumption), if_neg (by assumption), if_neg (by assumption), if_neg (by assumption), if_neg (by assumption)]), rfl⟩) (Nat.le_of_ble_eq_true rfl) (Nat.le_of_ble_eq_true rfl) dX11_has_108
