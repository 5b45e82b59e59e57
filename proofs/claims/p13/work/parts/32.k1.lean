theorem dg_X11_lookAt_0_0 : bqL cX11_lookAt 0 [(0, [42]), (1, [180, 0, 76]), (4, [42]), (5, [180, 0, 49]), (8, [43]), (9, [182, 0, 185]), (12, [42]), (13, [180, 0, 85]), (16, [43]), (17, [43]), (18, [180, 0, 153]), (21, [3]), (22, [182, 0, 230]), (25, [42]), (26, [180, 0, 85]), (29, [182, 0, 234]), (32, [172])] = true := by decide +kernel
theorem dX11_lookAt_0 : decode cX11_lookAt 0 = .ok (.aload_n 0, 1) := q_aload_n0 (bat_get dg_X11_lookAt_0_0 0 rfl rfl)
theorem dX11_lookAt_1 : decode cX11_lookAt 1 = .ok (.getfield 76, 3) := q_getfield (bat_get dg_X11_lookAt_0_0 1 rfl rfl) rfl
theorem dX11_lookAt_4 : decode cX11_lookAt 4 = .ok (.aload_n 0, 1) := q_aload_n0 (bat_get dg_X11_lookAt_0_0 2 rfl rfl)
theorem dX11_lookAt_5 : decode cX11_lookAt 5 = .ok (.getfield 49, 3) := q_getfield (bat_get dg_X11_lookAt_0_0 3 rfl rfl) rfl
theorem dX11_lookAt_8 : decode cX11_lookAt 8 = .ok (.aload_n 1, 1) := q_aload_n1 (bat_get dg_X11_lookAt_0_0 4 rfl rfl)
theorem dX11_lookAt_9 : decode cX11_lookAt 9 = .ok (.invokevirtual 185, 3) := q_invokevirtual (bat_get dg_X11_lookAt_0_0 5 rfl rfl) rfl
theorem dX11_lookAt_12 : decode cX11_lookAt 12 = .ok (.aload_n 0, 1) := q_aload_n0 (bat_get dg_X11_lookAt_0_0 6 rfl rfl)
theorem dX11_lookAt_13 : decode cX11_lookAt 13 = .ok (.getfield 85, 3) := q_getfield (bat_get dg_X11_lookAt_0_0 7 rfl rfl) rfl
theorem dX11_lookAt_16 : decode cX11_lookAt 16 = .ok (.aload_n 1, 1) := q_aload_n1 (bat_get dg_X11_lookAt_0_0 8 rfl rfl)
theorem dX11_lookAt_17 : decode cX11_lookAt 17 = .ok (.aload_n 1, 1) := q_aload_n1 (bat_get dg_X11_lookAt_0_0 9 rfl rfl)
theorem dX11_lookAt_18 : decode cX11_lookAt 18 = .ok (.getfield 153, 3) := q_getfield (bat_get dg_X11_lookAt_0_0 10 rfl rfl) rfl
theorem dX11_lookAt_21 : decode cX11_lookAt 21 = .ok (.iconst 0, 1) := q_iconst0 (bat_get dg_X11_lookAt_0_0 11 rfl rfl)
theorem dX11_lookAt_22 : decode cX11_lookAt 22 = .ok (.invokevirtual 230, 3) := q_invokevirtual (bat_get dg_X11_lookAt_0_0 12 rfl rfl) rfl
theorem dX11_lookAt_25 : decode cX11_lookAt 25 = .ok (.aload_n 0, 1) := q_aload_n0 (bat_get dg_X11_lookAt_0_0 13 rfl rfl)
theorem dX11_lookAt_26 : decode cX11_lookAt 26 = .ok (.getfield 85, 3) := q_getfield (bat_get dg_X11_lookAt_0_0 14 rfl rfl) rfl
theorem dX11_lookAt_29 : decode cX11_lookAt 29 = .ok (.invokevirtual 234, 3) := q_invokevirtual (bat_get dg_X11_lookAt_0_0 15 rfl rfl) rfl
theorem dX11_lookAt_32 : decode cX11_lookAt 32 = .ok (.ireturn, 1) := q_ireturn (bat_get dg_X11_lookAt_0_0 16 rfl rfl)
theorem w_2_128 : (Cond.fieldLink RX11 49 "SameKeeper" "held" "LSameKeeper$Lock;") ∈ wsL_law := sk_mem (ck_2 _ (List.mem_of_getElem? (i := 128) rfl)) rfl
theorem w_3_205 : (Cond.methodLink RX11 185 yX9_fit) ∈ wsL_law := sk_mem (ck_3 _ (List.mem_of_getElem? (i := 205) rfl)) rfl
theorem w_3_206 : (Cond.instanceMethod yX9_fit) ∈ wsL_law := sk_mem (ck_3 _ (List.mem_of_getElem? (i := 206) rfl)) rfl
theorem w_3_207 : (Cond.selects RX9 yX9_fit yX9_fit) ∈ wsL_law := sk_mem (ck_3 _ (List.mem_of_getElem? (i := 207) rfl)) rfl
theorem w_2_12 : (Cond.fieldLink RX11 153 "SameKeeper$State" "mute" "I") ∈ wsL_law := sk_mem (ck_2 _ (List.mem_of_getElem? (i := 12) rfl)) rfl
theorem w_4_46 : (Cond.code yX11_lookAt cX11_lookAt 2 (some .boolean)) ∈ wsL_law := sk_mem (ck_4 _ (List.mem_of_getElem? (i := 46) rfl)) rfl
def om_23_3fff87 : List Bool := false :: true :: true :: true :: true :: true :: true :: true :: true :: true :: true :: true :: true :: true :: true :: true :: false :: false :: false :: false :: true :: true :: true :: []
def om_23_3e0074 : List Bool := false :: true :: true :: true :: true :: true :: false :: false :: false :: false :: false :: false :: false :: false :: false :: false :: true :: true :: true :: false :: true :: false :: false :: []
def om_23_78 : List Bool := false :: false :: false :: false :: false :: false :: false :: false :: false :: false :: false :: false :: false :: false :: false :: false :: true :: true :: true :: true :: false :: false :: false :: []
theorem hd_X9_fit_2 : skD yX9_fit 2 := by decide +kernel
set_option maxHeartbeats 4000000 in
set_option maxRecDepth 100000 in
theorem c_kx_lookAt (l : Launch) (D : va_G) (cI cJ cC cZ cS : ClassId) (x0 : Nat) (q : Nat → Nat) (hc : Int32) (dr : Int64) (sa : Nat → Nat) (ft : Nat → Int32) (fa : Nat → Int32) (fo : Nat → Int32) (fg : Nat → Int64) (fk : Nat → Int32) (dh : Nat) (mh : Nat) (uh : Int32) (rh : Int32) (nh : Nat) (ch : Nat) (wh : Nat) (y1 : Nat → Int32) (y2 : Nat → Int64) (y3 : Nat → Int64) (y4 : Nat → Int64) (yf : Nat → Int32) (yt : Nat → Int32) (gd : Nat) (gs : Nat) (e1 : Nat → Int32) (e2 : Nat → Int32) (e3 : Nat → Int32) (o0 : Nat) (o1 : Nat) (o2 : Nat) (dy : Nat) (wn : Nat) (mo : Nat) (ke : Nat) (mu : Int32) (fb : Nat → Int32) (fw : Nat → Int32) (Ba : Nat → Nat) (We : Nat → Nat) (L : LkS) (U : Nat → Bool) (hsa : ∀ j, sa j ≤ 9) (hch : ch ≤ 1600) (hwh : wh ≤ 1) (hdy : dy ≤ 9) (hmo : mo ≤ 9) (hLk : kcLk L) (hcd : cdK (lK (lkF L)) ch wh y1) (hsg : ∀ v, v < 3 → sgO (lG (lkF L) v) (yf v) (yt v)) (hfb : ∀ j, j < 9 → fb j = nI (Ba j)) (hfw : ∀ j, j < 9 → fw j = nI (We j)) (hB9 : ∀ j, Ba j ≤ 9) (hW9 : ∀ j, We j ≤ 9) (hwn : wn ≤ 999) (hU : muO U mu) (hti : kcTI L sa ft fa fo fg fk) : skM l yX11_lookAt cX11_lookAt 2 (some .boolean) 5 128 0 0 D (skT cI cJ cC cZ cS) [.ref x0, .ref o0] [ro_rrrrrrrrrrrrrrrirl x0 11 (q 0) (q 1) (q 2) (q 3) (q 4) (q 5) (q 6) (q 7) (q 8) (q 9) (q 10) (q 11) (q 12) (q 13) (q 14) hc (q 16) dr, ro_rrrrrr (q 10) 9 (q 61) (q 62) (q 63) (q 64) (q 65) (q 66), ra_N (q 61) cI 90 sa, ra_I (q 62) cI 900 ft, ra_I (q 63) cI 90 fa, ra_I (q 64) cI 90 fo, ra_J (q 65) cJ 90 fg, ra_I (q 66) cI 9 fk, ro_rrrrrnniin (q 5) 2 (q 44) (q 45) (q 46) (q 47) (q 48) dh mh uh rh nh, ro_rrrrnn (q 44) 0 (q 49) (q 50) (q 51) (q 52) ch wh, ra_I (q 49) cI 1600 y1, ra_J (q 50) cJ 64 y2, ra_J (q 51) cJ 9 y3, ra_J (q 52) cJ 10 y4, ra_I (q 47) cI 3 yf, ra_I (q 48) cI 3 yt, ro_rrrrrrrnn (q 11) 1 (q 10) (q 67) (q 68) (q 69) (q 70) (q 71) (q 72) gd gs, ra_I (q 67) cI 90 e1, ra_I (q 68) cI 9 e2, ra_I (q 69) cI 10 e3, ro_rrnnnin o0 7 o1 o2 dy wn mo mu ke, ra_I o1 cI 9 fb, ra_I o2 cI 9 fw] (skI D (skT cI cJ cC cZ cS) (fun (r : Int32) (u : va_W) => ∃ (sa2 : Nat → Nat), ∃ (ft2 : Nat → Int32), ∃ (fa2 : Nat → Int32), ∃ (fo2 : Nat → Int32), ∃ (fg2 : Nat → Int64), ∃ (fk2 : Nat → Int32), ∃ (z2 : Nat → Int64), ∃ (z3 : Nat → Int64), ∃ (g1 : Nat → Int32), ∃ (g2 : Nat → Int32), ∃ (g3 : Nat → Int32), ∃ (b : Nat), (∀ j, sa2 j ≤ 9) ∧ kcTI L sa2 ft2 fa2 fo2 fg2 fk2 ∧ kcLd (kcFo L wn Ba We U 0) dy g1 g2 ∧ kcLv (kcFo L wn Ba We U 0) dy 0 g3 ∧ ((b = 0 ∧ kcC (kcFo L wn Ba We U 0) dy 0 mo = 0) ∨ (b = 1 ∧ 0 < kcC (kcFo L wn Ba We U 0) dy 0 mo)) ∧ r = nI b ∧ u = [ro_rrrrrrrrrrrrrrrirl x0 11 (q 0) (q 1) (q 2) (q 3) (q 4) (q 5) (q 6) (q 7) (q 8) (q 9) (q 10) (q 11) (q 12) (q 13) (q 14) hc (q 16) dr, ro_rrrrrr (q 10) 9 (q 61) (q 62) (q 63) (q 64) (q 65) (q 66), ra_N (q 61) cI 90 sa2, ra_I (q 62) cI 900 ft2, ra_I (q 63) cI 90 fa2, ra_I (q 64) cI 90 fo2, ra_J (q 65) cJ 90 fg2, ra_I (q 66) cI 9 fk2, ro_rrrrrnniin (q 5) 2 (q 44) (q 45) (q 46) (q 47) (q 48) dh mh uh rh nh, ro_rrrrnn (q 44) 0 (q 49) (q 50) (q 51) (q 52) ch wh, ra_I (q 49) cI 1600 y1, ra_J (q 50) cJ 64 z2, ra_J (q 51) cJ 9 z3, ra_J (q 52) cJ 10 y4, ra_I (q 47) cI 3 yf, ra_I (q 48) cI 3 yt, ro_rrrrrrrnn (q 11) 1 (q 10) (q 67) (q 68) (q 69) (q 70) (q 71) (q 72) dy mo, ra_I (q 67) cI 90 g1, ra_I (q 68) cI 9 g2, ra_I (q 69) cI 10 g3, ro_rrnnnin o0 7 o1 o2 dy wn mo mu ke, ra_I o1 cI 9 fb, ra_I o2 cI 9 fw])) := by
  refine skM_of pf_X11_lookAt (Nat.le_of_ble_eq_true rfl) ?_
  intro p e s m below meth c A ls E hP hD hl
  refine skE_el E (fun hx hb hr hml hlocks hin hown hts hK hA => ?_)
  have hown : s.vm.findClass RX11 = some m.cls := hown
  have hS : va_S A s.heap s.heap [] := va_S.rf
  have hl : lv_has ls 2 [(0, .ref x0), (1, .ref o0)] := hl
  refine lv_aload_n hx hb dX11_lookAt_0 rfl (lv_at hl 0 rfl) ?_
  refine sk_get (v := .ref (q 10)) (C := RX11) (T := TX11) (N := 18) hx hb hts inlX11 hown hK hP 0 rfl rfl 10 (Nat.le_of_ble_eq_true rfl) w_2_133 rfl dX11_lookAt_1 ?_
  refine lv_aload_n hx hb dX11_lookAt_4 rfl (lv_at hl 0 rfl) ?_
  refine sk_get (v := .ref (q 5)) (C := RX11) (T := TX11) (N := 18) hx hb hts inlX11 hown hK hP 0 rfl rfl 5 (Nat.le_of_ble_eq_true rfl) w_2_128 rfl dX11_lookAt_5 ?_
  refine lv_aload_n hx hb dX11_lookAt_8 rfl (lv_at hl 1 rfl) ?_
  refine sk_Vv (q0 := 0) (n := 2) (rest := []) (wr := fmR om_23_3fff87 _) ⟨hx, hb, hml, hown, hts⟩ hl.1 (c_kfit l D cI cJ cC cZ cS q dh mh uh rh nh ch wh y1 y2 y3 y4 yf yt sa ft fa fo fg fk o0 o1 o2 dy wn mo ke mu fb fw Ba We L hsa hch hwh hdy hmo hLk hcd hsg hfb hfw hB9 hW9 hwn hti) w_3_205 w_3_206 w_3_207 w_1_12 w_3_208 hd_X9_fit_2 ⟨⟨(Nat.le_of_ble_eq_true rfl), (Nat.le_of_ble_eq_true rfl)⟩, (Nat.le_of_ble_eq_true rfl), (Nat.le_of_ble_eq_true rfl)⟩ hK hP hD hS hA (fmT om_23_3fff87 0) (fmF om_23_3fff87 0) (fm_C1 rfl rfl) (fm_R rfl rfl) (fm_nT om_23_3fff87 0) (fm_nF om_23_3fff87 0) (fm_di om_23_3fff87 0) rfl rfl rfl rfl (Nat.le_of_ble_eq_true rfl) dX11_lookAt_9 (fun u H locs hw hP hD hS => ?_)
  refine exE hw (fun sa2_1 hw1 => exE hw1 (fun ft2_2 hw2 => exE hw2 (fun fa2_3 hw3 => exE hw3 (fun fo2_4 hw4 => exE hw4 (fun fg2_5 hw5 => exE hw5 (fun fk2_6 hw6 => exE hw6 (fun z2_7 hw7 => exE hw7 (fun z3_8 hw8 => anE hw8 (fun hsa2_9 hw9 => anE hw9 (fun hti2_10 hw10 => anE hw10 (fun hrows_11 eu_12 => ?_)))))))))))
  clear hw hw1 hw2 hw3 hw4 hw5 hw6 hw7 hw8 hw9 hw10
  refine o_mgE (ws' := [ro_rrrrrrrrrrrrrrrirl x0 11 (q 0) (q 1) (q 2) (q 3) (q 4) (q 5) (q 6) (q 7) (q 8) (q 9) (q 10) (q 11) (q 12) (q 13) (q 14) hc (q 16) dr, ro_rrrrrr (q 10) 9 (q 61) (q 62) (q 63) (q 64) (q 65) (q 66), ra_N (q 61) cI 90 sa2_1, ra_I (q 62) cI 900 ft2_2, ra_I (q 63) cI 90 fa2_3, ra_I (q 64) cI 90 fo2_4, ra_J (q 65) cJ 90 fg2_5, ra_I (q 66) cI 9 fk2_6, ro_rrrrrnniin (q 5) 2 (q 44) (q 45) (q 46) (q 47) (q 48) dh mh uh rh nh, ro_rrrrnn (q 44) 0 (q 49) (q 50) (q 51) (q 52) ch wh, ra_I (q 49) cI 1600 y1, ra_J (q 50) cJ 64 z2_7, ra_J (q 51) cJ 9 z3_8, ra_J (q 52) cJ 10 y4, ra_I (q 47) cI 3 yf, ra_I (q 48) cI 3 yt, ro_rrrrrrrnn (q 11) 1 (q 10) (q 67) (q 68) (q 69) (q 70) (q 71) (q 72) gd gs, ra_I (q 67) cI 90 e1, ra_I (q 68) cI 9 e2, ra_I (q 69) cI 10 e3, ro_rrnnnin o0 7 o1 o2 dy wn mo mu ke, ra_I o1 cI 9 fb, ra_I o2 cI 9 fw]) eu_12 hP hD rfl (fun hP hD => ?_)
  refine lv_aload_n hx hb dX11_lookAt_12 rfl (lv_at hl 0 rfl) ?_
  refine sk_get (v := .ref (q 11)) (C := RX11) (T := TX11) (N := 18) hx hb hts inlX11 hown hK hP 0 rfl rfl 11 (Nat.le_of_ble_eq_true rfl) w_2_134 rfl dX11_lookAt_13 ?_
  refine lv_aload_n hx hb dX11_lookAt_16 rfl (lv_at hl 1 rfl) ?_
  refine lv_aload_n hx hb dX11_lookAt_17 rfl (lv_at hl 1 rfl) ?_
  refine sk_get (v := .int mu) (C := RX7) (T := TX7) (N := 7) hx hb hts inlX7 hown hK hP 20 rfl rfl 5 (Nat.le_of_ble_eq_true rfl) w_2_12 rfl dX11_lookAt_18 ?_
  refine lv_iconst (v := 0) hx hb dX11_lookAt_21 ic_0 ?_
  refine sk_Vv (q0 := 0) (n := 3) (rest := []) (wr := fmR om_23_3e0074 _) ⟨hx, hb, hml, hown, hts⟩ hl.1 (c_klay l D cI cJ cC cZ cS q gd gs e1 e2 sa2_1 ft2_2 fa2_3 fo2_4 o0 o1 o2 dy wn mo ke mu fb fw Ba We L 0 U mu fg2_5 hsa2_9 hdy hmo (by decide) hU hrows_11) w_4_47 w_4_48 w_4_49 w_1_13 w_4_50 hd_X1_lay_3 ⟨⟨(Nat.le_of_ble_eq_true rfl), (Nat.le_of_ble_eq_true rfl)⟩, (Nat.le_of_ble_eq_true rfl), (Nat.le_of_ble_eq_true rfl)⟩ hK hP hD hS hA [16, 17, 18, 1, 2, 3, 4, 5, 20] (fmF om_23_3e0074 0) rfl (fm_R rfl rfl) (by decide +kernel) (fm_nF om_23_3e0074 0) (by decide +kernel) rfl rfl rfl rfl (Nat.le_of_ble_eq_true rfl) dX11_lookAt_22 (fun u H locs hw hP hD hS => ?_)
  refine exE hw (fun g1_13 hw1 => exE hw1 (fun g2_14 hw2 => anE hw2 (fun hld2_15 eu_16 => ?_)))
  clear hw hw1 hw2
  refine o_mgqE (ux := [ro_rrrrrr (q 10) 9 (q 61) (q 62) (q 63) (q 64) (q 65) (q 66), ra_N (q 61) cI 90 sa2_1, ra_I (q 62) cI 900 ft2_2, ra_I (q 63) cI 90 fa2_3, ra_I (q 64) cI 90 fo2_4, ro_rrrrrrrnn (q 11) 1 (q 10) (q 67) (q 68) (q 69) (q 70) (q 71) (q 72) dy mo, ra_I (q 67) cI 90 g1_13, ra_I (q 68) cI 9 g2_14, ro_rrnnnin o0 7 o1 o2 dy wn mo mu ke]) (ws' := [ro_rrrrrrrrrrrrrrrirl x0 11 (q 0) (q 1) (q 2) (q 3) (q 4) (q 5) (q 6) (q 7) (q 8) (q 9) (q 10) (q 11) (q 12) (q 13) (q 14) hc (q 16) dr, ro_rrrrrr (q 10) 9 (q 61) (q 62) (q 63) (q 64) (q 65) (q 66), ra_N (q 61) cI 90 sa2_1, ra_I (q 62) cI 900 ft2_2, ra_I (q 63) cI 90 fa2_3, ra_I (q 64) cI 90 fo2_4, ra_J (q 65) cJ 90 fg2_5, ra_I (q 66) cI 9 fk2_6, ro_rrrrrnniin (q 5) 2 (q 44) (q 45) (q 46) (q 47) (q 48) dh mh uh rh nh, ro_rrrrnn (q 44) 0 (q 49) (q 50) (q 51) (q 52) ch wh, ra_I (q 49) cI 1600 y1, ra_J (q 50) cJ 64 z2_7, ra_J (q 51) cJ 9 z3_8, ra_J (q 52) cJ 10 y4, ra_I (q 47) cI 3 yf, ra_I (q 48) cI 3 yt, ro_rrrrrrrnn (q 11) 1 (q 10) (q 67) (q 68) (q 69) (q 70) (q 71) (q 72) dy mo, ra_I (q 67) cI 90 g1_13, ra_I (q 68) cI 9 g2_14, ra_I (q 69) cI 10 e3, ro_rrnnnin o0 7 o1 o2 dy wn mo mu ke, ra_I o1 cI 9 fb, ra_I o2 cI 9 fw]) eu_16 [3, 4, 5, 6, 7, 0, 1, 2, 8] (by decide +kernel) rfl hP hD rfl (fun hP hD => ?_)
  refine lv_aload_n hx hb dX11_lookAt_25 rfl (lv_at hl 0 rfl) ?_
  refine sk_get (v := .ref (q 11)) (C := RX11) (T := TX11) (N := 18) hx hb hts inlX11 hown hK hP 0 rfl rfl 11 (Nat.le_of_ble_eq_true rfl) w_2_134 rfl dX11_lookAt_26 ?_
  refine sk_Vi (q0 := 0) (n := 0) (rest := []) (wr := fmR om_23_78 _) ⟨hx, hb, hml, hown, hts⟩ hl.1 (c_ksettle l D cI cJ cC cZ cS q dy mo g1_13 g2_14 e3 (kcFo L wn Ba We U 0) hdy hmo hld2_15) w_4_53 w_4_54 w_4_55 w_1_13 w_4_56 hd_X1_settle_0 ⟨⟨(Nat.le_of_ble_eq_true rfl), (Nat.le_of_ble_eq_true rfl)⟩, (Nat.le_of_ble_eq_true rfl), (Nat.le_of_ble_eq_true rfl)⟩ hK hP hD hS hA (fmT om_23_78 0) (fmF om_23_78 0) (fm_C1 rfl rfl) (fm_R rfl rfl) (fm_nT om_23_78 0) (fm_nF om_23_78 0) (fm_di om_23_78 0) rfl rfl rfl rfl (Nat.le_of_ble_eq_true rfl) dX11_lookAt_29 (fun r_19 u H locs hw hP hD hS => ?_)
  refine exE hw (fun b_17 hw1 => exE hw1 (fun g3_18 hw2 => anE hw2 (fun hb1_20 hw3 => anE hw3 (fun hlv2_21 hw4 => anE hw4 (fun er_23 eu_22 => ?_)))))
  clear hw hw1 hw2 hw3 hw4
  subst er_23
  refine o_mgE (ws' := [ro_rrrrrrrrrrrrrrrirl x0 11 (q 0) (q 1) (q 2) (q 3) (q 4) (q 5) (q 6) (q 7) (q 8) (q 9) (q 10) (q 11) (q 12) (q 13) (q 14) hc (q 16) dr, ro_rrrrrr (q 10) 9 (q 61) (q 62) (q 63) (q 64) (q 65) (q 66), ra_N (q 61) cI 90 sa2_1, ra_I (q 62) cI 900 ft2_2, ra_I (q 63) cI 90 fa2_3, ra_I (q 64) cI 90 fo2_4, ra_J (q 65) cJ 90 fg2_5, ra_I (q 66) cI 9 fk2_6, ro_rrrrrnniin (q 5) 2 (q 44) (q 45) (q 46) (q 47) (q 48) dh mh uh rh nh, ro_rrrrnn (q 44) 0 (q 49) (q 50) (q 51) (q 52) ch wh, ra_I (q 49) cI 1600 y1, ra_J (q 50) cJ 64 z2_7, ra_J (q 51) cJ 9 z3_8, ra_J (q 52) cJ 10 y4, ra_I (q 47) cI 3 yf, ra_I (q 48) cI 3 yt, ro_rrrrrrrnn (q 11) 1 (q 10) (q 67) (q 68) (q 69) (q 70) (q 71) (q 72) dy mo, ra_I (q 67) cI 90 g1_13, ra_I (q 68) cI 9 g2_14, ra_I (q 69) cI 10 g3_18, ro_rrnnnin o0 7 o1 o2 dy wn mo mu ke, ra_I o1 cI 9 fb, ra_I o2 cI 9 fw]) eu_22 hP hD rfl (fun hP hD => ?_)
  exact sk_iret hx hb hr (nbool b_17 (by omega)) hlocks hK hP hD hS (⟨sa2_1, ft2_2, fa2_3, fo2_4, fg2_5, fk2_6, z2_7, z3_8, g1_13, g2_14, g3_18, b_17, hsa2_9, hti2_10, hld2_15, hlv2_21, hb1_20, rfl, rfl⟩) (Nat.le_of_ble_eq_true rfl) (Nat.le_of_ble_eq_true rfl) dX11_lookAt_32
theorem dg_X11_draw_0_0 : bqL cX11_draw 0 [(0, [42]), (1, [20, 1, 105]), (4, [42]), (5, [180, 0, 106]), (8, [105]), (9, [20, 1, 107]), (12, [97]), (13, [20, 1, 109]), (16, [127]), (17, [181, 0, 106]), (20, [31]), (21, [9]), (22, [148]), (23, [158, 0, 16]), (26, [42]), (27, [180, 0, 106]), (30, [20, 1, 111]), (33, [109]), (34, [31]), (35, [113]), (36, [167, 0, 4]), (40, [173])] = true := by decide +kernel
theorem dX11_draw_0 : decode cX11_draw 0 = .ok (.aload_n 0, 1) := q_aload_n0 (bat_get dg_X11_draw_0_0 0 rfl rfl)
theorem dX11_draw_1 : decode cX11_draw 1 = .ok (.ldc2_w 361, 3) := q_ldc2_w (bat_get dg_X11_draw_0_0 1 rfl rfl) rfl
theorem dX11_draw_4 : decode cX11_draw 4 = .ok (.aload_n 0, 1) := q_aload_n0 (bat_get dg_X11_draw_0_0 2 rfl rfl)
theorem dX11_draw_5 : decode cX11_draw 5 = .ok (.getfield 106, 3) := q_getfield (bat_get dg_X11_draw_0_0 3 rfl rfl) rfl
theorem dX11_draw_8 : decode cX11_draw 8 = .ok (.lmul, 1) := q_lmul (bat_get dg_X11_draw_0_0 4 rfl rfl)
theorem dX11_draw_9 : decode cX11_draw 9 = .ok (.ldc2_w 363, 3) := q_ldc2_w (bat_get dg_X11_draw_0_0 5 rfl rfl) rfl
theorem dX11_draw_12 : decode cX11_draw 12 = .ok (.ladd, 1) := q_ladd (bat_get dg_X11_draw_0_0 6 rfl rfl)
theorem dX11_draw_13 : decode cX11_draw 13 = .ok (.ldc2_w 365, 3) := q_ldc2_w (bat_get dg_X11_draw_0_0 7 rfl rfl) rfl
theorem dX11_draw_16 : decode cX11_draw 16 = .ok (.land, 1) := q_land (bat_get dg_X11_draw_0_0 8 rfl rfl)
theorem dX11_draw_17 : decode cX11_draw 17 = .ok (.putfield 106, 3) := q_putfield (bat_get dg_X11_draw_0_0 9 rfl rfl) rfl
theorem dX11_draw_20 : decode cX11_draw 20 = .ok (.lload_n 1, 1) := q_lload_n1 (bat_get dg_X11_draw_0_0 10 rfl rfl)
theorem dX11_draw_21 : decode cX11_draw 21 = .ok (.lconst 0, 1) := q_lconst0 (bat_get dg_X11_draw_0_0 11 rfl rfl)
theorem dX11_draw_22 : decode cX11_draw 22 = .ok (.lcmp, 1) := q_lcmp (bat_get dg_X11_draw_0_0 12 rfl rfl)
theorem dX11_draw_23 : decode cX11_draw 23 = .ok (.ifCond .le 16, 3) := q_ifCond_le (bat_get dg_X11_draw_0_0 13 rfl rfl) rfl
theorem dX11_draw_26 : decode cX11_draw 26 = .ok (.aload_n 0, 1) := q_aload_n0 (bat_get dg_X11_draw_0_0 14 rfl rfl)
theorem dX11_draw_27 : decode cX11_draw 27 = .ok (.getfield 106, 3) := q_getfield (bat_get dg_X11_draw_0_0 15 rfl rfl) rfl
theorem dX11_draw_30 : decode cX11_draw 30 = .ok (.ldc2_w 367, 3) := q_ldc2_w (bat_get dg_X11_draw_0_0 16 rfl rfl) rfl
theorem dX11_draw_33 : decode cX11_draw 33 = .ok (.ldiv, 1) := q_ldiv (bat_get dg_X11_draw_0_0 17 rfl rfl)
theorem dX11_draw_34 : decode cX11_draw 34 = .ok (.lload_n 1, 1) := q_lload_n1 (bat_get dg_X11_draw_0_0 18 rfl rfl)
theorem dX11_draw_35 : decode cX11_draw 35 = .ok (.lrem, 1) := q_lrem (bat_get dg_X11_draw_0_0 19 rfl rfl)
theorem dX11_draw_36 : decode cX11_draw 36 = .ok (.goto 4, 3) := q_goto (bat_get dg_X11_draw_0_0 20 rfl rfl) rfl
theorem dX11_draw_40 : decode cX11_draw 40 = .ok (.lreturn, 1) := q_lreturn (bat_get dg_X11_draw_0_0 21 rfl rfl)
theorem w_5_41 : (Cond.constantLong RX11 361 (1103515245)) ∈ wsL_law := sk_mem (ck_5 _ (List.mem_of_getElem? (i := 41) rfl)) rfl
theorem w_2_140 : (Cond.fieldLink RX11 106 "SameKeeper" "drawn" "J") ∈ wsL_law := sk_mem (ck_2 _ (List.mem_of_getElem? (i := 140) rfl)) rfl
theorem w_5_42 : (Cond.constantLong RX11 363 (12345)) ∈ wsL_law := sk_mem (ck_5 _ (List.mem_of_getElem? (i := 42) rfl)) rfl
theorem w_5_43 : (Cond.constantLong RX11 365 (2147483647)) ∈ wsL_law := sk_mem (ck_5 _ (List.mem_of_getElem? (i := 43) rfl)) rfl
theorem w_5_44 : (Cond.constantLong RX11 367 (64)) ∈ wsL_law := sk_mem (ck_5 _ (List.mem_of_getElem? (i := 44) rfl)) rfl
theorem w_5_40 : (Cond.code yX11_draw cX11_draw 3 (some .long)) ∈ wsL_law := sk_mem (ck_5 _ (List.mem_of_getElem? (i := 40) rfl)) rfl
set_option maxHeartbeats 4000000 in
set_option maxRecDepth 100000 in
theorem c_kx_draw (l : Launch) (D : va_G) (cI cJ cC cZ cS : ClassId) (x0 : Nat) (q : Nat → Nat) (hc : Int32) (sd : Nat) (mq : Nat) (hm1 : 1 ≤ mq) (hm2 : mq ≤ 1000000000) : skM l yX11_draw cX11_draw 3 (some .long) 0 0 0 0 D (skT cI cJ cC cZ cS) [.ref x0, .long (Int64.ofNat mq)] [ro_rrrrrrrrrrrrrrrirl x0 11 (q 0) (q 1) (q 2) (q 3) (q 4) (q 5) (q 6) (q 7) (q 8) (q 9) (q 10) (q 11) (q 12) (q 13) (q 14) hc (q 16) (Int64.ofNat sd)] (skL D (skT cI cJ cC cZ cS) (fun (r : Int64) (u : va_W) => r = Int64.ofNat (kdv sd mq) ∧ u = [ro_rrrrrrrrrrrrrrrirl x0 11 (q 0) (q 1) (q 2) (q 3) (q 4) (q 5) (q 6) (q 7) (q 8) (q 9) (q 10) (q 11) (q 12) (q 13) (q 14) hc (q 16) (Int64.ofNat (kdr sd))])) := by
  refine skM_of pf_X11_draw (Nat.le_of_ble_eq_true rfl) ?_
  intro p e s m below meth c A ls E hP hD hl
  refine skE_el E (fun hx hb hr hml hlocks hin hown hts hK hA => ?_)
  have hown : s.vm.findClass RX11 = some m.cls := hown
  have hS : va_S A s.heap s.heap [] := va_S.rf
  have hl : lv_has ls 3 [(0, .ref x0), (1, .long (Int64.ofNat mq))] := hl
  refine lv_aload_n hx hb dX11_draw_0 rfl (lv_at hl 0 rfl) ?_
  refine lv_ldc2 (v := 1103515245) hx hb hown (hts _ w_5_41) dX11_draw_1 ?_
  refine lv_aload_n hx hb dX11_draw_4 rfl (lv_at hl 0 rfl) ?_
  refine sk_get (v := .long (Int64.ofNat sd)) (C := RX11) (T := TX11) (N := 18) hx hb hts inlX11 hown hK hP 0 rfl rfl 17 (Nat.le_of_ble_eq_true rfl) w_2_140 rfl dX11_draw_5 ?_
  refine lv_lmul hx hb dX11_draw_8 ?_
  refine lv_ldc2 (v := 12345) hx hb hown (hts _ w_5_42) dX11_draw_9 ?_
  refine lv_ladd hx hb dX11_draw_12 ?_
  refine lv_ldc2 (v := 2147483647) hx hb hown (hts _ w_5_43) dX11_draw_13 ?_
  refine lv_land hx hb dX11_draw_16 ?_
  refine sk_topl (Int64.ofNat (kdr sd)) (kdr_and sd) ?_
  have hkd := kdr_lt sd
  refine sk_put (ws' := [ro_rrrrrrrrrrrrrrrirl x0 11 (q 0) (q 1) (q 2) (q 3) (q 4) (q 5) (q 6) (q 7) (q 8) (q 9) (q 10) (q 11) (q 12) (q 13) (q 14) hc (q 16) (Int64.ofNat (kdr sd))]) (C := RX11) (T := TX11) (N := 18) (v := .long (Int64.ofNat (kdr sd))) hx hb hts inlX11 tyX11 tyX11_ok nmX11 hown hK hP hD hS 0 rfl rfl 17 (Nat.le_of_ble_eq_true rfl) w_2_140 rfl rfl rfl (Nat.le_of_ble_eq_true rfl) rfl dX11_draw_17 (fun H locs hP hD hS => ?_)
  refine lv_lload_n hx hb dX11_draw_20 rfl (lv_at hl 1 rfl) ?_
  refine lv_lconst (v := 0) hx hb dX11_draw_21 (by decide) ?_
  refine W.lcmp hx hb dX11_draw_22 ?_
  refine lv_if_le (tgt := 39) hx hb dX11_draw_23 (by decide) (fun c => absurd c (kofn_pos hm1 (by omega))) (fun c_1 => ?_)
  refine lv_aload_n hx hb dX11_draw_26 rfl (lv_at hl 0 rfl) ?_
  refine sk_get (v := .long (Int64.ofNat (kdr sd))) (C := RX11) (T := TX11) (N := 18) hx hb hts inlX11 hown hK hP 0 rfl rfl 17 (Nat.le_of_ble_eq_true rfl) w_2_140 rfl dX11_draw_27 ?_
  refine lv_ldc2 (v := 64) hx hb hown (hts _ w_5_44) dX11_draw_30 ?_
  refine lv_ldiv hx hb dX11_draw_33 (by decide) ?_
  refine sk_topl (Int64.ofNat (kdr sd / 64)) (kofn_div (b := 64) (by omega) (by decide) (by decide)) ?_
  refine lv_lload_n hx hb dX11_draw_34 rfl (lv_at hl 1 rfl) ?_
  refine lv_lrem hx hb dX11_draw_35 (kofn_ne hm1 (by omega)) ?_
  refine sk_topl (Int64.ofNat (kdv sd mq)) (kofn_rem (by omega) (by omega) (by omega)) ?_
  refine lv_goto (tgt := 40) hx hb dX11_draw_36 (by decide) ?_
  exact sk_lret hx hb hr hlocks hK hP hD hS (⟨rfl, rfl⟩) (Nat.le_of_ble_eq_true rfl) (Nat.le_of_ble_eq_true rfl) dX11_draw_40
theorem dg_X4_keep_0_0 : bqL cX4_keep 0 [(0, [43]), (1, [180, 0, 37]), (4, [54, 5]), (6, [21, 5]), (8, [155, 0, 51]), (11, [21, 5]), (13, [42]), (14, [180, 0, 21]), (17, [190]), (18, [162, 0, 41]), (21, [42]), (22, [180, 0, 21]), (25, [21, 5]), (27, [43]), (28, [180, 0, 40]), (31, [79]), (32, [42]), (33, [180, 0, 25]), (36, [21, 5]), (38, [32]), (39, [80]), (40, [42]), (41, [180, 0, 29]), (44, [21, 5]), (46, [21, 4]), (48, [79]), (49, [43]), (50, [89]), (51, [180, 0, 37]), (54, [4]), (55, [96]), (56, [181, 0, 37]), (59, [177])] = true := by decide +kernel
theorem dX4_keep_0 : decode cX4_keep 0 = .ok (.aload_n 1, 1) := q_aload_n1 (bat_get dg_X4_keep_0_0 0 rfl rfl)
theorem dX4_keep_1 : decode cX4_keep 1 = .ok (.getfield 37, 3) := q_getfield (bat_get dg_X4_keep_0_0 1 rfl rfl) rfl
theorem dX4_keep_4 : decode cX4_keep 4 = .ok (.istore 5, 2) := q_istore (bat_get dg_X4_keep_0_0 2 rfl rfl)
theorem dX4_keep_6 : decode cX4_keep 6 = .ok (.iload 5, 2) := q_iload (bat_get dg_X4_keep_0_0 3 rfl rfl)
theorem dX4_keep_8 : decode cX4_keep 8 = .ok (.ifCond .lt 51, 3) := q_ifCond_lt (bat_get dg_X4_keep_0_0 4 rfl rfl) rfl
theorem dX4_keep_11 : decode cX4_keep 11 = .ok (.iload 5, 2) := q_iload (bat_get dg_X4_keep_0_0 5 rfl rfl)
theorem dX4_keep_13 : decode cX4_keep 13 = .ok (.aload_n 0, 1) := q_aload_n0 (bat_get dg_X4_keep_0_0 6 rfl rfl)
theorem dX4_keep_14 : decode cX4_keep 14 = .ok (.getfield 21, 3) := q_getfield (bat_get dg_X4_keep_0_0 7 rfl rfl) rfl
theorem dX4_keep_17 : decode cX4_keep 17 = .ok (.arraylength, 1) := q_arraylength (bat_get dg_X4_keep_0_0 8 rfl rfl)
theorem dX4_keep_18 : decode cX4_keep 18 = .ok (.if_icmp .ge 41, 3) := q_if_icmp_ge (bat_get dg_X4_keep_0_0 9 rfl rfl) rfl
theorem dX4_keep_21 : decode cX4_keep 21 = .ok (.aload_n 0, 1) := q_aload_n0 (bat_get dg_X4_keep_0_0 10 rfl rfl)
theorem dX4_keep_22 : decode cX4_keep 22 = .ok (.getfield 21, 3) := q_getfield (bat_get dg_X4_keep_0_0 11 rfl rfl) rfl
theorem dX4_keep_25 : decode cX4_keep 25 = .ok (.iload 5, 2) := q_iload (bat_get dg_X4_keep_0_0 12 rfl rfl)
theorem dX4_keep_27 : decode cX4_keep 27 = .ok (.aload_n 1, 1) := q_aload_n1 (bat_get dg_X4_keep_0_0 13 rfl rfl)
theorem dX4_keep_28 : decode cX4_keep 28 = .ok (.getfield 40, 3) := q_getfield (bat_get dg_X4_keep_0_0 14 rfl rfl) rfl
theorem dX4_keep_31 : decode cX4_keep 31 = .ok (.iastore, 1) := q_iastore (bat_get dg_X4_keep_0_0 15 rfl rfl)
theorem dX4_keep_32 : decode cX4_keep 32 = .ok (.aload_n 0, 1) := q_aload_n0 (bat_get dg_X4_keep_0_0 16 rfl rfl)
theorem dX4_keep_33 : decode cX4_keep 33 = .ok (.getfield 25, 3) := q_getfield (bat_get dg_X4_keep_0_0 17 rfl rfl) rfl
theorem dX4_keep_36 : decode cX4_keep 36 = .ok (.iload 5, 2) := q_iload (bat_get dg_X4_keep_0_0 18 rfl rfl)
theorem dX4_keep_38 : decode cX4_keep 38 = .ok (.lload_n 2, 1) := q_lload_n2 (bat_get dg_X4_keep_0_0 19 rfl rfl)
theorem dX4_keep_39 : decode cX4_keep 39 = .ok (.lastore, 1) := q_lastore (bat_get dg_X4_keep_0_0 20 rfl rfl)
theorem dX4_keep_40 : decode cX4_keep 40 = .ok (.aload_n 0, 1) := q_aload_n0 (bat_get dg_X4_keep_0_0 21 rfl rfl)
theorem dX4_keep_41 : decode cX4_keep 41 = .ok (.getfield 29, 3) := q_getfield (bat_get dg_X4_keep_0_0 22 rfl rfl) rfl
theorem dX4_keep_44 : decode cX4_keep 44 = .ok (.iload 5, 2) := q_iload (bat_get dg_X4_keep_0_0 23 rfl rfl)
theorem dX4_keep_46 : decode cX4_keep 46 = .ok (.iload 4, 2) := q_iload (bat_get dg_X4_keep_0_0 24 rfl rfl)
theorem dX4_keep_48 : decode cX4_keep 48 = .ok (.iastore, 1) := q_iastore (bat_get dg_X4_keep_0_0 25 rfl rfl)
theorem dX4_keep_49 : decode cX4_keep 49 = .ok (.aload_n 1, 1) := q_aload_n1 (bat_get dg_X4_keep_0_0 26 rfl rfl)
theorem dX4_keep_50 : decode cX4_keep 50 = .ok (.dup, 1) := q_dup (bat_get dg_X4_keep_0_0 27 rfl rfl)
theorem dX4_keep_51 : decode cX4_keep 51 = .ok (.getfield 37, 3) := q_getfield (bat_get dg_X4_keep_0_0 28 rfl rfl) rfl
theorem dX4_keep_54 : decode cX4_keep 54 = .ok (.iconst 1, 1) := q_iconst1 (bat_get dg_X4_keep_0_0 29 rfl rfl)
theorem dX4_keep_55 : decode cX4_keep 55 = .ok (.iadd, 1) := q_iadd (bat_get dg_X4_keep_0_0 30 rfl rfl)
theorem dX4_keep_56 : decode cX4_keep 56 = .ok (.putfield 37, 3) := q_putfield (bat_get dg_X4_keep_0_0 31 rfl rfl) rfl
theorem dX4_keep_59 : decode cX4_keep 59 = .ok (.return_, 1) := q_return_ (bat_get dg_X4_keep_0_0 32 rfl rfl)
theorem w_2_14 : (Cond.fieldLink RX4 37 "SameKeeper$State" "kept" "I") ∈ wsL_law := sk_mem (ck_2 _ (List.mem_of_getElem? (i := 14) rfl)) rfl
theorem w_2_43 : (Cond.fieldLink RX4 21 "SameKeeper$Past" "weekOf" "[I") ∈ wsL_law := sk_mem (ck_2 _ (List.mem_of_getElem? (i := 43) rfl)) rfl
theorem w_2_5 : (Cond.fieldLink RX4 40 "SameKeeper$State" "week" "I") ∈ wsL_law := sk_mem (ck_2 _ (List.mem_of_getElem? (i := 5) rfl)) rfl
theorem w_2_44 : (Cond.fieldLink RX4 25 "SameKeeper$Past" "agreedOf" "[J") ∈ wsL_law := sk_mem (ck_2 _ (List.mem_of_getElem? (i := 44) rfl)) rfl
theorem w_2_45 : (Cond.fieldLink RX4 29 "SameKeeper$Past" "moodOf" "[I") ∈ wsL_law := sk_mem (ck_2 _ (List.mem_of_getElem? (i := 45) rfl)) rfl
theorem w_5_27 : (Cond.code yX4_keep cX4_keep 6 none) ∈ wsL_law := sk_mem (ck_5 _ (List.mem_of_getElem? (i := 27) rfl)) rfl
set_option maxHeartbeats 4000000 in
set_option maxRecDepth 100000 in
theorem c_kpast_keep (l : Launch) (D : va_G) (cI cJ cC cZ cS : ClassId) (q : Nat → Nat) (ac : Nat) (p1 : Nat → Int32) (p2 : Nat → Int64) (p3 : Nat → Int32) (dy : Nat) (wn : Nat) (mo : Nat) (ke : Nat) (mu : Int32) (fb : Nat → Int32) (fw : Nat → Int32) (x : Int64) (o : Int32) (hke : ke < 1000) : skM l yX4_keep cX4_keep 6 none 0 0 0 0 D (skT cI cJ cC cZ cS) [.ref (q 9), .ref (q 7), .long x, .int o] [ro_rnrrr (q 9) 4 (q 35) ac (q 36) (q 37) (q 38), ra_I (q 36) cI 1000 p1, ra_J (q 37) cJ 1000 p2, ra_I (q 38) cI 1000 p3, ro_rrnnnin (q 7) 7 (q 33) (q 34) dy wn mo mu ke] (skV D (skT cI cJ cC cZ cS) (fun (u : va_W) => ∃ (p1_ : Nat → Int32), ∃ (p2_ : Nat → Int64), ∃ (p3_ : Nat → Int32), p1_ = upd p1 ke (nI wn) ∧ p2_ = vp_updL p2 ke x ∧ p3_ = upd p3 ke o ∧ u = [ro_rnrrr (q 9) 4 (q 35) ac (q 36) (q 37) (q 38), ra_I (q 36) cI 1000 p1_, ra_J (q 37) cJ 1000 p2_, ra_I (q 38) cI 1000 p3_, ro_rrnnnin (q 7) 7 (q 33) (q 34) dy wn mo mu (ke + 1)])) := by
  refine skM_of pf_X4_keep (Nat.le_of_ble_eq_true rfl) ?_
  intro p e s m below meth c A ls E hP hD hl
  refine skE_el E (fun hx hb hr hml hlocks hin hown hts hK hA => ?_)
  have hown : s.vm.findClass RX4 = some m.cls := hown
  have hS : va_S A s.heap s.heap [] := va_S.rf
  have hl : lv_has ls 6 [(0, .ref (q 9)), (1, .ref (q 7)), (2, .long x), (4, .int o)] := hl
  refine lv_aload_n hx hb dX4_keep_0 rfl (lv_at hl 1 rfl) ?_
  refine sk_get (v := .int (nI ke)) (C := RX7) (T := TX7) (N := 7) hx hb hts inlX7 hown hK hP 4 rfl rfl 6 (Nat.le_of_ble_eq_true rfl) w_2_14 rfl dX4_keep_1 ?_
  refine lv_istore (lv' := [(5, .int (nI ke)), (0, .ref (q 9)), (1, .ref (q 7)), (2, .long x), (4, .int o)]) hx hb dX4_keep_4 hl (by decide) rfl (fun ls hl => ?_)
  refine lv_iload hx hb dX4_keep_6 (lv_at hl 0 rfl) ?_
  refine lv_if_lt (tgt := 59) hx hb dX4_keep_8 (by decide) (fun c => absurd c (nI_pos (by omega))) (fun c_1 => ?_)
  refine lv_iload hx hb dX4_keep_11 (lv_at hl 0 rfl) ?_
  refine lv_aload_n hx hb dX4_keep_13 rfl (lv_at hl 1 rfl) ?_
  refine sk_get (v := .ref (q 36)) (C := RX4) (T := TX4) (N := 5) hx hb hts inlX4 hown hK hP 0 rfl rfl 2 (Nat.le_of_ble_eq_true rfl) w_2_43 rfl dX4_keep_14 ?_
  refine va_alen (v := 1000) hx hb hK.1 hP 1 0 rfl rfl rfl dX4_keep_17 ?_
  refine lv_icmp_ge (tgt := 59) hx hb dX4_keep_18 (by decide) (fun c => absurd ((nle 1000 ke (Nat.le_of_ble_eq_true rfl) (by omega)).mp c) (by omega)) (fun c_2 => ?_)
  refine lv_aload_n hx hb dX4_keep_21 rfl (lv_at hl 1 rfl) ?_
  refine sk_get (v := .ref (q 36)) (C := RX4) (T := TX4) (N := 5) hx hb hts inlX4 hown hK hP 0 rfl rfl 2 (Nat.le_of_ble_eq_true rfl) w_2_43 rfl dX4_keep_22 ?_
  refine lv_iload hx hb dX4_keep_25 (lv_at hl 0 rfl) ?_
  refine lv_aload_n hx hb dX4_keep_27 rfl (lv_at hl 2 rfl) ?_
  refine sk_get (v := .int (nI wn)) (C := RX7) (T := TX7) (N := 7) hx hb hts inlX7 hown hK hP 4 rfl rfl 3 (Nat.le_of_ble_eq_true rfl) w_2_5 rfl dX4_keep_28 ?_
  refine sk_iastE (k := ke) (ws' := fun f_3 => [ro_rnrrr (q 9) 4 (q 35) ac (q 36) (q 37) (q 38), ra_I (q 36) cI 1000 f_3, ra_J (q 37) cJ 1000 p2, ra_I (q 38) cI 1000 p3, ro_rrnnnin (q 7) 7 (q 33) (q 34) dy wn mo mu ke]) hx hb hK hP hD hS 1 0 rfl rfl (by omega) (by omega) (fun _ => rfl) dX4_keep_31 (fun f_3 H locs ef_4 hP hD hS => ?_)
  refine lv_aload_n hx hb dX4_keep_32 rfl (lv_at hl 1 rfl) ?_
  refine sk_get (v := .ref (q 37)) (C := RX4) (T := TX4) (N := 5) hx hb hts inlX4 hown hK hP 0 rfl rfl 3 (Nat.le_of_ble_eq_true rfl) w_2_44 rfl dX4_keep_33 ?_
  refine lv_iload hx hb dX4_keep_36 (lv_at hl 0 rfl) ?_
  refine lv_lload_n hx hb dX4_keep_38 rfl (lv_at hl 3 rfl) ?_
  refine sk_lastE (k := ke) (ws' := fun f_5 => [ro_rnrrr (q 9) 4 (q 35) ac (q 36) (q 37) (q 38), ra_I (q 36) cI 1000 f_3, ra_J (q 37) cJ 1000 f_5, ra_I (q 38) cI 1000 p3, ro_rrnnnin (q 7) 7 (q 33) (q 34) dy wn mo mu ke]) hx hb hK hP hD hS 2 1 rfl rfl (by omega) (by omega) (fun _ => rfl) dX4_keep_39 (fun f_5 H locs ef_6 hP hD hS => ?_)
  refine lv_aload_n hx hb dX4_keep_40 rfl (lv_at hl 1 rfl) ?_
  refine sk_get (v := .ref (q 38)) (C := RX4) (T := TX4) (N := 5) hx hb hts inlX4 hown hK hP 0 rfl rfl 4 (Nat.le_of_ble_eq_true rfl) w_2_45 rfl dX4_keep_41 ?_
  refine lv_iload hx hb dX4_keep_44 (lv_at hl 0 rfl) ?_
  refine lv_iload hx hb dX4_keep_46 (lv_at hl 4 rfl) ?_
  refine sk_iastE (k := ke) (ws' := fun f_7 => [ro_rnrrr (q 9) 4 (q 35) ac (q 36) (q 37) (q 38), ra_I (q 36) cI 1000 f_3, ra_J (q 37) cJ 1000 f_5, ra_I (q 38) cI 1000 f_7, ro_rrnnnin (q 7) 7 (q 33) (q 34) dy wn mo mu ke]) hx hb hK hP hD hS 3 0 rfl rfl (by omega) (by omega) (fun _ => rfl) dX4_keep_48 (fun f_7 H locs ef_8 hP hD hS => ?_)
  refine lv_aload_n hx hb dX4_keep_49 rfl (lv_at hl 2 rfl) ?_
  refine lv_dup hx hb dX4_keep_50 rfl ?_
  refine sk_get (v := .int (nI ke)) (C := RX7) (T := TX7) (N := 7) hx hb hts inlX7 hown hK hP 4 rfl rfl 6 (Nat.le_of_ble_eq_true rfl) w_2_14 rfl dX4_keep_51 ?_
  refine lv_iconst (v := 1) hx hb dX4_keep_54 ic_1 ?_
  refine lv_iadd hx hb dX4_keep_55 ?_
  refine sk_top (nI (ke + 1)) (nI_add ke 1) ?_
  refine sk_put (ws' := [ro_rnrrr (q 9) 4 (q 35) ac (q 36) (q 37) (q 38), ra_I (q 36) cI 1000 f_3, ra_J (q 37) cJ 1000 f_5, ra_I (q 38) cI 1000 f_7, ro_rrnnnin (q 7) 7 (q 33) (q 34) dy wn mo mu (ke + 1)]) (C := RX7) (T := TX7) (N := 7) (v := .int (nI (ke + 1))) hx hb hts inlX7 tyX7 tyX7_ok nmX7 hown hK hP hD hS 4 rfl rfl 6 (Nat.le_of_ble_eq_true rfl) w_2_14 rfl rfl rfl (Nat.le_of_ble_eq_true rfl) rfl dX4_keep_56 (fun H locs hP hD hS => ?_)
  exact sk_vret hx hb hr hlocks hK hP hD hS (⟨f_3, f_5, f_7, ef_4, ef_6, ef_8, rfl⟩) (Nat.le_of_ble_eq_true rfl) (Nat.le_of_ble_eq_true rfl) dX4_keep_59
theorem dg_X11_pass_0_0 : bqL cX11_pass 0 [(0, [42]), (1, [180, 0, 89]), (4, [42]), (5, [180, 0, 59]), (8, [180, 0, 144]), (11, [4]), (12, [100]), (13, [46]), (14, [62]), (15, [42]), (16, [180, 0, 69]), (19, [42]), (20, [180, 0, 59]), (23, [31]), (24, [29]), (25, [182, 1, 85]), (28, [42]), (29, [180, 0, 59]), (32, [29]), (33, [181, 0, 150]), (36, [42]), (37, [180, 0, 59]), (40, [89]), (41, [180, 0, 147]), (44, [4]), (45, [96]), (46, [181, 0, 147]), (49, [177])] = true := by decide +kernel
theorem dX11_pass_0 : decode cX11_pass 0 = .ok (.aload_n 0, 1) := q_aload_n0 (bat_get dg_X11_pass_0_0 0 rfl rfl)
theorem dX11_pass_1 : decode cX11_pass 1 = .ok (.getfield 89, 3) := q_getfield (bat_get dg_X11_pass_0_0 1 rfl rfl) rfl
theorem dX11_pass_4 : decode cX11_pass 4 = .ok (.aload_n 0, 1) := q_aload_n0 (bat_get dg_X11_pass_0_0 2 rfl rfl)
theorem dX11_pass_5 : decode cX11_pass 5 = .ok (.getfield 59, 3) := q_getfield (bat_get dg_X11_pass_0_0 3 rfl rfl) rfl
theorem dX11_pass_8 : decode cX11_pass 8 = .ok (.getfield 144, 3) := q_getfield (bat_get dg_X11_pass_0_0 4 rfl rfl) rfl
theorem dX11_pass_11 : decode cX11_pass 11 = .ok (.iconst 1, 1) := q_iconst1 (bat_get dg_X11_pass_0_0 5 rfl rfl)
theorem dX11_pass_12 : decode cX11_pass 12 = .ok (.isub, 1) := q_isub (bat_get dg_X11_pass_0_0 6 rfl rfl)
theorem dX11_pass_13 : decode cX11_pass 13 = .ok (.iaload, 1) := q_iaload (bat_get dg_X11_pass_0_0 7 rfl rfl)
theorem dX11_pass_14 : decode cX11_pass 14 = .ok (.istore_n 3, 1) := q_istore_n3 (bat_get dg_X11_pass_0_0 8 rfl rfl)
theorem dX11_pass_15 : decode cX11_pass 15 = .ok (.aload_n 0, 1) := q_aload_n0 (bat_get dg_X11_pass_0_0 9 rfl rfl)
theorem dX11_pass_16 : decode cX11_pass 16 = .ok (.getfield 69, 3) := q_getfield (bat_get dg_X11_pass_0_0 10 rfl rfl) rfl
theorem dX11_pass_19 : decode cX11_pass 19 = .ok (.aload_n 0, 1) := q_aload_n0 (bat_get dg_X11_pass_0_0 11 rfl rfl)
theorem dX11_pass_20 : decode cX11_pass 20 = .ok (.getfield 59, 3) := q_getfield (bat_get dg_X11_pass_0_0 12 rfl rfl) rfl
theorem dX11_pass_23 : decode cX11_pass 23 = .ok (.lload_n 1, 1) := q_lload_n1 (bat_get dg_X11_pass_0_0 13 rfl rfl)
theorem dX11_pass_24 : decode cX11_pass 24 = .ok (.iload_n 3, 1) := q_iload_n3 (bat_get dg_X11_pass_0_0 14 rfl rfl)
theorem dX11_pass_25 : decode cX11_pass 25 = .ok (.invokevirtual 341, 3) := q_invokevirtual (bat_get dg_X11_pass_0_0 15 rfl rfl) rfl
theorem dX11_pass_28 : decode cX11_pass 28 = .ok (.aload_n 0, 1) := q_aload_n0 (bat_get dg_X11_pass_0_0 16 rfl rfl)
theorem dX11_pass_29 : decode cX11_pass 29 = .ok (.getfield 59, 3) := q_getfield (bat_get dg_X11_pass_0_0 17 rfl rfl) rfl
theorem dX11_pass_32 : decode cX11_pass 32 = .ok (.iload_n 3, 1) := q_iload_n3 (bat_get dg_X11_pass_0_0 18 rfl rfl)
theorem dX11_pass_33 : decode cX11_pass 33 = .ok (.putfield 150, 3) := q_putfield (bat_get dg_X11_pass_0_0 19 rfl rfl) rfl
theorem dX11_pass_36 : decode cX11_pass 36 = .ok (.aload_n 0, 1) := q_aload_n0 (bat_get dg_X11_pass_0_0 20 rfl rfl)
theorem dX11_pass_37 : decode cX11_pass 37 = .ok (.getfield 59, 3) := q_getfield (bat_get dg_X11_pass_0_0 21 rfl rfl) rfl
theorem dX11_pass_40 : decode cX11_pass 40 = .ok (.dup, 1) := q_dup (bat_get dg_X11_pass_0_0 22 rfl rfl)
theorem dX11_pass_41 : decode cX11_pass 41 = .ok (.getfield 147, 3) := q_getfield (bat_get dg_X11_pass_0_0 23 rfl rfl) rfl
theorem dX11_pass_44 : decode cX11_pass 44 = .ok (.iconst 1, 1) := q_iconst1 (bat_get dg_X11_pass_0_0 24 rfl rfl)
theorem dX11_pass_45 : decode cX11_pass 45 = .ok (.iadd, 1) := q_iadd (bat_get dg_X11_pass_0_0 25 rfl rfl)
theorem dX11_pass_46 : decode cX11_pass 46 = .ok (.putfield 147, 3) := q_putfield (bat_get dg_X11_pass_0_0 26 rfl rfl) rfl
theorem dX11_pass_49 : decode cX11_pass 49 = .ok (.return_, 1) := q_return_ (bat_get dg_X11_pass_0_0 27 rfl rfl)
theorem w_2_132 : (Cond.fieldLink RX11 69 "SameKeeper" "past" "LSameKeeper$Past;") ∈ wsL_law := sk_mem (ck_2 _ (List.mem_of_getElem? (i := 132) rfl)) rfl
theorem w_5_24 : (Cond.methodLink RX11 341 yX4_keep) ∈ wsL_law := sk_mem (ck_5 _ (List.mem_of_getElem? (i := 24) rfl)) rfl
theorem w_5_25 : (Cond.instanceMethod yX4_keep) ∈ wsL_law := sk_mem (ck_5 _ (List.mem_of_getElem? (i := 25) rfl)) rfl
theorem w_5_26 : (Cond.selects RX4 yX4_keep yX4_keep) ∈ wsL_law := sk_mem (ck_5 _ (List.mem_of_getElem? (i := 26) rfl)) rfl
theorem w_1_11 : (Cond.initialized RX4) ∈ wsL_law := sk_mem (ck_1 _ (List.mem_of_getElem? (i := 11) rfl)) rfl
theorem w_2_10 : (Cond.fieldLink RX11 150 "SameKeeper$State" "mood" "I") ∈ wsL_law := sk_mem (ck_2 _ (List.mem_of_getElem? (i := 10) rfl)) rfl
theorem w_2_6 : (Cond.fieldLink RX11 147 "SameKeeper$State" "week" "I") ∈ wsL_law := sk_mem (ck_2 _ (List.mem_of_getElem? (i := 6) rfl)) rfl
theorem w_5_23 : (Cond.code yX11_pass cX11_pass 4 none) ∈ wsL_law := sk_mem (ck_5 _ (List.mem_of_getElem? (i := 23) rfl)) rfl
def om_7_3e : List Bool := false :: true :: true :: true :: true :: true :: false :: []
theorem hd_X4_keep_3 : skD yX4_keep 3 := by decide +kernel
set_option maxHeartbeats 4000000 in
set_option maxRecDepth 100000 in
theorem c_kx_pass (l : Launch) (D : va_G) (cI cJ cC cZ cS : ClassId) (x0 : Nat) (q : Nat → Nat) (hc : Int32) (dr : Int64) (dy : Nat) (wn : Nat) (mo : Nat) (ke : Nat) (mu : Int32) (fb : Nat → Int32) (fw : Nat → Int32) (ac : Nat) (lst : Nat) (p1 : Nat → Int32) (p2 : Nat → Int64) (p3 : Nat → Int32) (ra : Nat → Int32) (x : Int64) (hdy : dy ≤ 9) (hdy1 : 1 ≤ dy) (hls : ra (dy - 1) = nI lst) (hls9 : lst ≤ 9) (hke : ke < 1000) (hwn : wn ≤ 999) : skM l yX11_pass cX11_pass 4 none 1 25 0 0 D (skT cI cJ cC cZ cS) [.ref x0, .long x] [ro_rrrrrrrrrrrrrrrirl x0 11 (q 0) (q 1) (q 2) (q 3) (q 4) (q 5) (q 6) (q 7) (q 8) (q 9) (q 10) (q 11) (q 12) (q 13) (q 14) hc (q 16) dr, ro_rrnnnin (q 7) 7 (q 33) (q 34) dy wn mo mu ke, ro_rnrrr (q 9) 4 (q 35) ac (q 36) (q 37) (q 38), ra_I (q 36) cI 1000 p1, ra_J (q 37) cJ 1000 p2, ra_I (q 38) cI 1000 p3, ra_I (q 12) cI 9 ra] (skV D (skT cI cJ cC cZ cS) (fun (u : va_W) => ∃ (p1_ : Nat → Int32), ∃ (p2_ : Nat → Int64), ∃ (p3_ : Nat → Int32), p1_ = upd p1 ke (nI wn) ∧ p2_ = vp_updL p2 ke x ∧ p3_ = upd p3 ke (nI lst) ∧ u = [ro_rrrrrrrrrrrrrrrirl x0 11 (q 0) (q 1) (q 2) (q 3) (q 4) (q 5) (q 6) (q 7) (q 8) (q 9) (q 10) (q 11) (q 12) (q 13) (q 14) hc (q 16) dr, ro_rrnnnin (q 7) 7 (q 33) (q 34) dy (wn + 1) lst mu (ke + 1), ro_rnrrr (q 9) 4 (q 35) ac (q 36) (q 37) (q 38), ra_I (q 36) cI 1000 p1_, ra_J (q 37) cJ 1000 p2_, ra_I (q 38) cI 1000 p3_, ra_I (q 12) cI 9 ra])) := by
  refine skM_of pf_X11_pass (Nat.le_of_ble_eq_true rfl) ?_
  intro p e s m below meth c A ls E hP hD hl
  refine skE_el E (fun hx hb hr hml hlocks hin hown hts hK hA => ?_)
  have hown : s.vm.findClass RX11 = some m.cls := hown
  have hS : va_S A s.heap s.heap [] := va_S.rf
  have hl : lv_has ls 4 [(0, .ref x0), (1, .long x)] := hl
  refine lv_aload_n hx hb dX11_pass_0 rfl (lv_at hl 0 rfl) ?_
  refine sk_get (v := .ref (q 12)) (C := RX11) (T := TX11) (N := 18) hx hb hts inlX11 hown hK hP 0 rfl rfl 12 (Nat.le_of_ble_eq_true rfl) w_2_135 rfl dX11_pass_1 ?_
  refine lv_aload_n hx hb dX11_pass_4 rfl (lv_at hl 0 rfl) ?_
  refine sk_get (v := .ref (q 7)) (C := RX11) (T := TX11) (N := 18) hx hb hts inlX11 hown hK hP 0 rfl rfl 7 (Nat.le_of_ble_eq_true rfl) w_2_130 rfl dX11_pass_5 ?_
  refine sk_get (v := .int (nI dy)) (C := RX7) (T := TX7) (N := 7) hx hb hts inlX7 hown hK hP 1 rfl rfl 2 (Nat.le_of_ble_eq_true rfl) w_2_1 rfl dX11_pass_8 ?_
  refine lv_iconst (v := 1) hx hb dX11_pass_11 ic_1 ?_
  refine lv_isub hx hb dX11_pass_12 ?_
  refine sk_top (nI (dy - 1)) (nsub dy 1 (by omega)) ?_
  refine va_iald hx hb hK.1 hP 6 0 rfl rfl (vin (dy - 1) 9 (by omega) (Nat.le_of_ble_eq_true rfl)) dX11_pass_13 ?_
  refine sk_top (nI lst) (by rw [nI_clamp (by omega)]; exact hls) ?_
  refine lv_istore_n (lv' := [(3, .int (nI lst)), (0, .ref x0), (1, .long x)]) hx hb dX11_pass_14 rfl hl (by decide) rfl (fun ls hl => ?_)
  refine lv_aload_n hx hb dX11_pass_15 rfl (lv_at hl 1 rfl) ?_
  refine sk_get (v := .ref (q 9)) (C := RX11) (T := TX11) (N := 18) hx hb hts inlX11 hown hK hP 0 rfl rfl 9 (Nat.le_of_ble_eq_true rfl) w_2_132 rfl dX11_pass_16 ?_
  refine lv_aload_n hx hb dX11_pass_19 rfl (lv_at hl 1 rfl) ?_
  refine sk_get (v := .ref (q 7)) (C := RX11) (T := TX11) (N := 18) hx hb hts inlX11 hown hK hP 0 rfl rfl 7 (Nat.le_of_ble_eq_true rfl) w_2_130 rfl dX11_pass_20 ?_
  refine lv_lload_n hx hb dX11_pass_23 rfl (lv_at hl 2 rfl) ?_
  refine lv_iload_n hx hb dX11_pass_24 rfl (lv_at hl 0 rfl) ?_
  refine sk_Vv (q0 := 0) (n := 3) (rest := []) (wr := fmR om_7_3e _) ⟨hx, hb, hml, hown, hts⟩ hl.1 (c_kpast_keep l D cI cJ cC cZ cS q ac p1 p2 p3 dy wn mo ke mu fb fw x (nI lst) hke) w_5_24 w_5_25 w_5_26 w_1_11 w_5_27 hd_X4_keep_3 ⟨⟨(Nat.le_of_ble_eq_true rfl), (Nat.le_of_ble_eq_true rfl)⟩, (Nat.le_of_ble_eq_true rfl), (Nat.le_of_ble_eq_true rfl)⟩ hK hP hD hS hA [2, 3, 4, 5, 1] (fmF om_7_3e 0) rfl (fm_R rfl rfl) (by decide +kernel) (fm_nF om_7_3e 0) (by decide +kernel) rfl rfl rfl rfl (Nat.le_of_ble_eq_true rfl) dX11_pass_25 (fun u H locs hw hP hD hS => ?_)
  refine exE hw (fun p1__1 hw1 => exE hw1 (fun p2__2 hw2 => exE hw2 (fun p3__3 hw3 => anE hw3 (fun hp1_4 hw4 => anE hw4 (fun hp2_5 hw5 => anE hw5 (fun hp3_6 eu_7 => ?_))))))
  clear hw hw1 hw2 hw3 hw4 hw5
  refine o_mgqE (ux := [ro_rrnnnin (q 7) 7 (q 33) (q 34) dy wn mo mu (ke + 1), ro_rnrrr (q 9) 4 (q 35) ac (q 36) (q 37) (q 38), ra_I (q 36) cI 1000 p1__1, ra_J (q 37) cJ 1000 p2__2, ra_I (q 38) cI 1000 p3__3]) (ws' := [ro_rrrrrrrrrrrrrrrirl x0 11 (q 0) (q 1) (q 2) (q 3) (q 4) (q 5) (q 6) (q 7) (q 8) (q 9) (q 10) (q 11) (q 12) (q 13) (q 14) hc (q 16) dr, ro_rrnnnin (q 7) 7 (q 33) (q 34) dy wn mo mu (ke + 1), ro_rnrrr (q 9) 4 (q 35) ac (q 36) (q 37) (q 38), ra_I (q 36) cI 1000 p1__1, ra_J (q 37) cJ 1000 p2__2, ra_I (q 38) cI 1000 p3__3, ra_I (q 12) cI 9 ra]) eu_7 [4, 0, 1, 2, 3] (by decide +kernel) rfl hP hD rfl (fun hP hD => ?_)
  refine lv_aload_n hx hb dX11_pass_28 rfl (lv_at hl 1 rfl) ?_
  refine sk_get (v := .ref (q 7)) (C := RX11) (T := TX11) (N := 18) hx hb hts inlX11 hown hK hP 0 rfl rfl 7 (Nat.le_of_ble_eq_true rfl) w_2_130 rfl dX11_pass_29 ?_
  refine lv_iload_n hx hb dX11_pass_32 rfl (lv_at hl 0 rfl) ?_
  refine sk_put (ws' := [ro_rrrrrrrrrrrrrrrirl x0 11 (q 0) (q 1) (q 2) (q 3) (q 4) (q 5) (q 6) (q 7) (q 8) (q 9) (q 10) (q 11) (q 12) (q 13) (q 14) hc (q 16) dr, ro_rrnnnin (q 7) 7 (q 33) (q 34) dy wn lst mu (ke + 1), ro_rnrrr (q 9) 4 (q 35) ac (q 36) (q 37) (q 38), ra_I (q 36) cI 1000 p1__1, ra_J (q 37) cJ 1000 p2__2, ra_I (q 38) cI 1000 p3__3, ra_I (q 12) cI 9 ra]) (C := RX7) (T := TX7) (N := 7) (v := .int (nI lst)) hx hb hts inlX7 tyX7 tyX7_ok nmX7 hown hK hP hD hS 1 rfl rfl 4 (Nat.le_of_ble_eq_true rfl) w_2_10 rfl rfl rfl (Nat.le_of_ble_eq_true rfl) rfl dX11_pass_33 (fun H locs hP hD hS => ?_)
  refine lv_aload_n hx hb dX11_pass_36 rfl (lv_at hl 1 rfl) ?_
  refine sk_get (v := .ref (q 7)) (C := RX11) (T := TX11) (N := 18) hx hb hts inlX11 hown hK hP 0 rfl rfl 7 (Nat.le_of_ble_eq_true rfl) w_2_130 rfl dX11_pass_37 ?_
  refine lv_dup hx hb dX11_pass_40 rfl ?_
  refine sk_get (v := .int (nI wn)) (C := RX7) (T := TX7) (N := 7) hx hb hts inlX7 hown hK hP 1 rfl rfl 3 (Nat.le_of_ble_eq_true rfl) w_2_6 rfl dX11_pass_41 ?_
  refine lv_iconst (v := 1) hx hb dX11_pass_44 ic_1 ?_
  refine lv_iadd hx hb dX11_pass_45 ?_
  refine sk_top (nI (wn + 1)) (nI_add wn 1) ?_
  refine sk_put (ws' := [ro_rrrrrrrrrrrrrrrirl x0 11 (q 0) (q 1) (q 2) (q 3) (q 4) (q 5) (q 6) (q 7) (q 8) (q 9) (q 10) (q 11) (q 12) (q 13) (q 14) hc (q 16) dr, ro_rrnnnin (q 7) 7 (q 33) (q 34) dy (wn + 1) lst mu (ke + 1), ro_rnrrr (q 9) 4 (q 35) ac (q 36) (q 37) (q 38), ra_I (q 36) cI 1000 p1__1, ra_J (q 37) cJ 1000 p2__2, ra_I (q 38) cI 1000 p3__3, ra_I (q 12) cI 9 ra]) (C := RX7) (T := TX7) (N := 7) (v := .int (nI (wn + 1))) hx hb hts inlX7 tyX7 tyX7_ok nmX7 hown hK hP hD hS 1 rfl rfl 3 (Nat.le_of_ble_eq_true rfl) w_2_6 rfl rfl rfl (Nat.le_of_ble_eq_true rfl) rfl dX11_pass_46 (fun H locs hP hD hS => ?_)
  exact sk_vret hx hb hr hlocks hK hP hD hS (⟨p1__1, p2__2, p3__3, hp1_4, hp2_5, hp3_6, rfl⟩) (Nat.le_of_ble_eq_true rfl) (Nat.le_of_ble_eq_true rfl) dX11_pass_49
