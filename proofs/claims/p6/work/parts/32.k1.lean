theorem dX11_lookAt_0 : decode cX11_lookAt 0 = .ok (.aload_n 0, 1) := by decide +kernel
theorem dX11_lookAt_1 : decode cX11_lookAt 1 = .ok (.getfield 76, 3) := by decide +kernel
theorem dX11_lookAt_4 : decode cX11_lookAt 4 = .ok (.aload_n 0, 1) := by decide +kernel
theorem dX11_lookAt_5 : decode cX11_lookAt 5 = .ok (.getfield 49, 3) := by decide +kernel
theorem dX11_lookAt_8 : decode cX11_lookAt 8 = .ok (.aload_n 1, 1) := by decide +kernel
theorem dX11_lookAt_9 : decode cX11_lookAt 9 = .ok (.invokevirtual 185, 3) := by decide +kernel
theorem dX11_lookAt_12 : decode cX11_lookAt 12 = .ok (.aload_n 0, 1) := by decide +kernel
theorem dX11_lookAt_13 : decode cX11_lookAt 13 = .ok (.getfield 85, 3) := by decide +kernel
theorem dX11_lookAt_16 : decode cX11_lookAt 16 = .ok (.aload_n 1, 1) := by decide +kernel
theorem dX11_lookAt_17 : decode cX11_lookAt 17 = .ok (.aload_n 1, 1) := by decide +kernel
theorem dX11_lookAt_18 : decode cX11_lookAt 18 = .ok (.getfield 153, 3) := by decide +kernel
theorem dX11_lookAt_21 : decode cX11_lookAt 21 = .ok (.iconst 0, 1) := by decide +kernel
theorem dX11_lookAt_22 : decode cX11_lookAt 22 = .ok (.invokevirtual 230, 3) := by decide +kernel
theorem dX11_lookAt_25 : decode cX11_lookAt 25 = .ok (.aload_n 0, 1) := by decide +kernel
theorem dX11_lookAt_26 : decode cX11_lookAt 26 = .ok (.getfield 85, 3) := by decide +kernel
theorem dX11_lookAt_29 : decode cX11_lookAt 29 = .ok (.invokevirtual 234, 3) := by decide +kernel
theorem dX11_lookAt_32 : decode cX11_lookAt 32 = .ok (.ireturn, 1) := by decide +kernel
theorem w_2_128 : (Cond.fieldLink RX11 49 "SameKeeper" "held" "LSameKeeper$Lock;") ∈ wsL_law := sk_mem (ck_2 _ (List.mem_of_getElem? (i := 128) rfl)) rfl
theorem w_3_205 : (Cond.methodLink RX11 185 yX9_fit) ∈ wsL_law := sk_mem (ck_3 _ (List.mem_of_getElem? (i := 205) rfl)) rfl
theorem w_3_206 : (Cond.instanceMethod yX9_fit) ∈ wsL_law := sk_mem (ck_3 _ (List.mem_of_getElem? (i := 206) rfl)) rfl
theorem w_3_207 : (Cond.selects RX9 yX9_fit yX9_fit) ∈ wsL_law := sk_mem (ck_3 _ (List.mem_of_getElem? (i := 207) rfl)) rfl
theorem w_2_12 : (Cond.fieldLink RX11 153 "SameKeeper$State" "mute" "I") ∈ wsL_law := sk_mem (ck_2 _ (List.mem_of_getElem? (i := 12) rfl)) rfl
theorem w_4_46 : (Cond.code yX11_lookAt cX11_lookAt 2 (some .boolean)) ∈ wsL_law := sk_mem (ck_4 _ (List.mem_of_getElem? (i := 46) rfl)) rfl
set_option maxHeartbeats 4000000 in
set_option maxRecDepth 100000 in
theorem c_kx_lookAt (l : Launch) (D : va_G) (cI cJ cC cZ cS : ClassId) (x0 : Nat) (q : Nat → Nat) (hc : Int32) (dr : Int64) (sa : Nat → Nat) (ft : Nat → Int32) (fa : Nat → Int32) (fo : Nat → Int32) (fg : Nat → Int64) (fk : Nat → Int32) (dh : Nat) (mh : Nat) (uh : Int32) (rh : Int32) (nh : Nat) (ch : Nat) (wh : Nat) (y1 : Nat → Int32) (y2 : Nat → Int64) (y3 : Nat → Int64) (y4 : Nat → Int64) (yf : Nat → Int32) (yt : Nat → Int32) (gd : Nat) (gs : Nat) (e1 : Nat → Int32) (e2 : Nat → Int32) (e3 : Nat → Int32) (o0 : Nat) (o1 : Nat) (o2 : Nat) (dy : Nat) (wn : Nat) (mo : Nat) (ke : Nat) (mu : Int32) (fb : Nat → Int32) (fw : Nat → Int32) (Ba : Nat → Nat) (We : Nat → Nat) (L : LkS) (U : Nat → Bool) (hsa : ∀ j, sa j ≤ 9) (hch : ch ≤ 1600) (hwh : wh ≤ 1) (hdy : dy ≤ 9) (hmo : mo ≤ 9) (hLk : kcLk L) (hcd : cdK (lK (lkF L)) ch wh y1) (hsg : ∀ v, v < 3 → sgO (lG (lkF L) v) (yf v) (yt v)) (hfb : ∀ j, j < 9 → fb j = nI (Ba j)) (hfw : ∀ j, j < 9 → fw j = nI (We j)) (hB9 : ∀ j, Ba j ≤ 9) (hW9 : ∀ j, We j ≤ 9) (hwn : wn ≤ 999) (hU : muO U mu) (hti : kcTI L sa ft fa fo fg fk) : skM l yX11_lookAt cX11_lookAt 2 (some .boolean) 5 128 0 0 D (skT cI cJ cC cZ cS) [.ref x0, .ref o0] [(x0, .inr (11, [.ref (q 0), .ref (q 1), .ref (q 2), .ref (q 3), .ref (q 4), .ref (q 5), .ref (q 6), .ref (q 7), .ref (q 8), .ref (q 9), .ref (q 10), .ref (q 11), .ref (q 12), .ref (q 13), .ref (q 14), .int hc, .ref (q 16), .long dr])), (q 10, .inr (9, [.ref (q 61), .ref (q 62), .ref (q 63), .ref (q 64), .ref (q 65), .ref (q 66)])), (q 61, .inl (cI, 90, .inl (fun j => nI (sa j)))), (q 62, .inl (cI, 900, .inl ft)), (q 63, .inl (cI, 90, .inl fa)), (q 64, .inl (cI, 90, .inl fo)), (q 65, .inl (cJ, 90, .inr (.inl fg))), (q 66, .inl (cI, 9, .inl fk)), (q 5, .inr (2, [.ref (q 44), .ref (q 45), .ref (q 46), .ref (q 47), .ref (q 48), .int (nI dh), .int (nI mh), .int uh, .int rh, .int (nI nh)])), (q 44, .inr (0, [.ref (q 49), .ref (q 50), .ref (q 51), .ref (q 52), .int (nI ch), .int (nI wh)])), (q 49, .inl (cI, 1600, .inl y1)), (q 50, .inl (cJ, 64, .inr (.inl y2))), (q 51, .inl (cJ, 9, .inr (.inl y3))), (q 52, .inl (cJ, 10, .inr (.inl y4))), (q 47, .inl (cI, 3, .inl yf)), (q 48, .inl (cI, 3, .inl yt)), (q 11, .inr (1, [.ref (q 10), .ref (q 67), .ref (q 68), .ref (q 69), .ref (q 70), .ref (q 71), .ref (q 72), .int (nI gd), .int (nI gs)])), (q 67, .inl (cI, 90, .inl e1)), (q 68, .inl (cI, 9, .inl e2)), (q 69, .inl (cI, 10, .inl e3)), (o0, .inr (7, [.ref o1, .ref o2, .int (nI dy), .int (nI wn), .int (nI mo), .int mu, .int (nI ke)])), (o1, .inl (cI, 9, .inl fb)), (o2, .inl (cI, 9, .inl fw))] (skI D (skT cI cJ cC cZ cS) (fun (r : Int32) (u : va_W) => ∃ (sa2 : Nat → Nat), ∃ (ft2 : Nat → Int32), ∃ (fa2 : Nat → Int32), ∃ (fo2 : Nat → Int32), ∃ (fg2 : Nat → Int64), ∃ (fk2 : Nat → Int32), ∃ (z2 : Nat → Int64), ∃ (z3 : Nat → Int64), ∃ (g1 : Nat → Int32), ∃ (g2 : Nat → Int32), ∃ (g3 : Nat → Int32), ∃ (b : Nat), (∀ j, sa2 j ≤ 9) ∧ kcTI L sa2 ft2 fa2 fo2 fg2 fk2 ∧ kcLd (kcFo L wn Ba We U 0) dy g1 g2 ∧ kcLv (kcFo L wn Ba We U 0) dy 0 g3 ∧ ((b = 0 ∧ kcC (kcFo L wn Ba We U 0) dy 0 mo = 0) ∨ (b = 1 ∧ 0 < kcC (kcFo L wn Ba We U 0) dy 0 mo)) ∧ r = nI b ∧ u = [(x0, .inr (11, [.ref (q 0), .ref (q 1), .ref (q 2), .ref (q 3), .ref (q 4), .ref (q 5), .ref (q 6), .ref (q 7), .ref (q 8), .ref (q 9), .ref (q 10), .ref (q 11), .ref (q 12), .ref (q 13), .ref (q 14), .int hc, .ref (q 16), .long dr])), (q 10, .inr (9, [.ref (q 61), .ref (q 62), .ref (q 63), .ref (q 64), .ref (q 65), .ref (q 66)])), (q 61, .inl (cI, 90, .inl (fun j => nI (sa2 j)))), (q 62, .inl (cI, 900, .inl ft2)), (q 63, .inl (cI, 90, .inl fa2)), (q 64, .inl (cI, 90, .inl fo2)), (q 65, .inl (cJ, 90, .inr (.inl fg2))), (q 66, .inl (cI, 9, .inl fk2)), (q 5, .inr (2, [.ref (q 44), .ref (q 45), .ref (q 46), .ref (q 47), .ref (q 48), .int (nI dh), .int (nI mh), .int uh, .int rh, .int (nI nh)])), (q 44, .inr (0, [.ref (q 49), .ref (q 50), .ref (q 51), .ref (q 52), .int (nI ch), .int (nI wh)])), (q 49, .inl (cI, 1600, .inl y1)), (q 50, .inl (cJ, 64, .inr (.inl z2))), (q 51, .inl (cJ, 9, .inr (.inl z3))), (q 52, .inl (cJ, 10, .inr (.inl y4))), (q 47, .inl (cI, 3, .inl yf)), (q 48, .inl (cI, 3, .inl yt)), (q 11, .inr (1, [.ref (q 10), .ref (q 67), .ref (q 68), .ref (q 69), .ref (q 70), .ref (q 71), .ref (q 72), .int (nI dy), .int (nI mo)])), (q 67, .inl (cI, 90, .inl g1)), (q 68, .inl (cI, 9, .inl g2)), (q 69, .inl (cI, 10, .inl g3)), (o0, .inr (7, [.ref o1, .ref o2, .int (nI dy), .int (nI wn), .int (nI mo), .int mu, .int (nI ke)])), (o1, .inl (cI, 9, .inl fb)), (o2, .inl (cI, 9, .inl fw))])) := by
  refine skM_of (by decide +kernel) (Nat.le_of_ble_eq_true rfl) ?_
  intro p e s m below meth c A ls E hP hD hl
  obtain ⟨hx, hb, hr, hml, hlocks, hin, hown, hts, hK, hA⟩ := E
  have hown : s.vm.findClass RX11 = some m.cls := hown
  have hS : va_S A s.heap s.heap [] := va_S.rf
  have hl : lv_has ls 2 [(0, .ref x0), (1, .ref o0)] := hl
  refine lv_aload_n hx hb dX11_lookAt_0 rfl (lv_at hl 0 rfl) ?_
  refine sk_get (v := .ref (q 10)) (C := RX11) (T := TX11) (N := 18) hx hb hts inlX11 hown hK hP 0 rfl rfl 10 (by decide) w_2_133 rfl dX11_lookAt_1 ?_
  refine lv_aload_n hx hb dX11_lookAt_4 rfl (lv_at hl 0 rfl) ?_
  refine sk_get (v := .ref (q 5)) (C := RX11) (T := TX11) (N := 18) hx hb hts inlX11 hown hK hP 0 rfl rfl 5 (by decide) w_2_128 rfl dX11_lookAt_5 ?_
  refine lv_aload_n hx hb dX11_lookAt_8 rfl (lv_at hl 1 rfl) ?_
  refine sk_Vv (q0 := 0) (n := 2) (rest := []) (wr := [(x0, .inr (11, [.ref (q 0), .ref (q 1), .ref (q 2), .ref (q 3), .ref (q 4), .ref (q 5), .ref (q 6), .ref (q 7), .ref (q 8), .ref (q 9), .ref (q 10), .ref (q 11), .ref (q 12), .ref (q 13), .ref (q 14), .int hc, .ref (q 16), .long dr])), (q 11, .inr (1, [.ref (q 10), .ref (q 67), .ref (q 68), .ref (q 69), .ref (q 70), .ref (q 71), .ref (q 72), .int (nI gd), .int (nI gs)])), (q 67, .inl (cI, 90, .inl e1)), (q 68, .inl (cI, 9, .inl e2)), (q 69, .inl (cI, 10, .inl e3))]) ⟨hx, hb, hml, hown, hts⟩ hl.1 (c_kfit l D cI cJ cC cZ cS q dh mh uh rh nh ch wh y1 y2 y3 y4 yf yt sa ft fa fo fg fk o0 o1 o2 dy wn mo ke mu fb fw Ba We L hsa (by omega) (by omega) (by omega) (by omega) hLk hcd hsg hfb hfw hB9 hW9 hwn hti) w_3_205 w_3_206 w_3_207 w_1_12 w_3_208 (by decide +kernel) ⟨⟨(Nat.le_of_ble_eq_true rfl), (Nat.le_of_ble_eq_true rfl)⟩, (Nat.le_of_ble_eq_true rfl), (Nat.le_of_ble_eq_true rfl)⟩ hK hP hD hS hA [1, 2, 3, 4, 5, 6, 7, 8, 9, 10, 11, 12, 13, 14, 15, 20, 21, 22] [0, 16, 17, 18, 19] rfl rfl (by decide +kernel) (by decide +kernel) (by decide +kernel) rfl rfl rfl rfl (Nat.le_of_ble_eq_true rfl) dX11_lookAt_9 (fun u H locs hw hP hD hS => ?_)
  obtain ⟨sa2_1, ft2_2, fa2_3, fo2_4, fg2_5, fk2_6, z2_7, z3_8, hsa2_9, hti2_10, hrows_11, rfl⟩ := hw
  have hP : va_P D vwCl [(x0, .inr (11, [.ref (q 0), .ref (q 1), .ref (q 2), .ref (q 3), .ref (q 4), .ref (q 5), .ref (q 6), .ref (q 7), .ref (q 8), .ref (q 9), .ref (q 10), .ref (q 11), .ref (q 12), .ref (q 13), .ref (q 14), .int hc, .ref (q 16), .long dr])), (q 11, .inr (1, [.ref (q 10), .ref (q 67), .ref (q 68), .ref (q 69), .ref (q 70), .ref (q 71), .ref (q 72), .int (nI gd), .int (nI gs)])), (q 67, .inl (cI, 90, .inl e1)), (q 68, .inl (cI, 9, .inl e2)), (q 69, .inl (cI, 10, .inl e3)), (q 10, .inr (9, [.ref (q 61), .ref (q 62), .ref (q 63), .ref (q 64), .ref (q 65), .ref (q 66)])), (q 61, .inl (cI, 90, .inl (fun j => nI (sa2_1 j)))), (q 62, .inl (cI, 900, .inl ft2_2)), (q 63, .inl (cI, 90, .inl fa2_3)), (q 64, .inl (cI, 90, .inl fo2_4)), (q 65, .inl (cJ, 90, .inr (.inl fg2_5))), (q 66, .inl (cI, 9, .inl fk2_6)), (q 5, .inr (2, [.ref (q 44), .ref (q 45), .ref (q 46), .ref (q 47), .ref (q 48), .int (nI dh), .int (nI mh), .int uh, .int rh, .int (nI nh)])), (q 44, .inr (0, [.ref (q 49), .ref (q 50), .ref (q 51), .ref (q 52), .int (nI ch), .int (nI wh)])), (q 49, .inl (cI, 1600, .inl y1)), (q 50, .inl (cJ, 64, .inr (.inl z2_7))), (q 51, .inl (cJ, 9, .inr (.inl z3_8))), (q 52, .inl (cJ, 10, .inr (.inl y4))), (q 47, .inl (cI, 3, .inl yf)), (q 48, .inl (cI, 3, .inl yt)), (o0, .inr (7, [.ref o1, .ref o2, .int (nI dy), .int (nI wn), .int (nI mo), .int mu, .int (nI ke)])), (o1, .inl (cI, 9, .inl fb)), (o2, .inl (cI, 9, .inl fw))] H := hP
  have hD : va_D A [(x0, .inr (11, [.ref (q 0), .ref (q 1), .ref (q 2), .ref (q 3), .ref (q 4), .ref (q 5), .ref (q 6), .ref (q 7), .ref (q 8), .ref (q 9), .ref (q 10), .ref (q 11), .ref (q 12), .ref (q 13), .ref (q 14), .int hc, .ref (q 16), .long dr])), (q 11, .inr (1, [.ref (q 10), .ref (q 67), .ref (q 68), .ref (q 69), .ref (q 70), .ref (q 71), .ref (q 72), .int (nI gd), .int (nI gs)])), (q 67, .inl (cI, 90, .inl e1)), (q 68, .inl (cI, 9, .inl e2)), (q 69, .inl (cI, 10, .inl e3)), (q 10, .inr (9, [.ref (q 61), .ref (q 62), .ref (q 63), .ref (q 64), .ref (q 65), .ref (q 66)])), (q 61, .inl (cI, 90, .inl (fun j => nI (sa2_1 j)))), (q 62, .inl (cI, 900, .inl ft2_2)), (q 63, .inl (cI, 90, .inl fa2_3)), (q 64, .inl (cI, 90, .inl fo2_4)), (q 65, .inl (cJ, 90, .inr (.inl fg2_5))), (q 66, .inl (cI, 9, .inl fk2_6)), (q 5, .inr (2, [.ref (q 44), .ref (q 45), .ref (q 46), .ref (q 47), .ref (q 48), .int (nI dh), .int (nI mh), .int uh, .int rh, .int (nI nh)])), (q 44, .inr (0, [.ref (q 49), .ref (q 50), .ref (q 51), .ref (q 52), .int (nI ch), .int (nI wh)])), (q 49, .inl (cI, 1600, .inl y1)), (q 50, .inl (cJ, 64, .inr (.inl z2_7))), (q 51, .inl (cJ, 9, .inr (.inl z3_8))), (q 52, .inl (cJ, 10, .inr (.inl y4))), (q 47, .inl (cI, 3, .inl yf)), (q 48, .inl (cI, 3, .inl yt)), (o0, .inr (7, [.ref o1, .ref o2, .int (nI dy), .int (nI wn), .int (nI mo), .int mu, .int (nI ke)])), (o1, .inl (cI, 9, .inl fb)), (o2, .inl (cI, 9, .inl fw))] := hD
  refine lv_aload_n hx hb dX11_lookAt_12 rfl (lv_at hl 0 rfl) ?_
  refine sk_get (v := .ref (q 11)) (C := RX11) (T := TX11) (N := 18) hx hb hts inlX11 hown hK hP 0 rfl rfl 11 (by decide) w_2_134 rfl dX11_lookAt_13 ?_
  refine lv_aload_n hx hb dX11_lookAt_16 rfl (lv_at hl 1 rfl) ?_
  refine lv_aload_n hx hb dX11_lookAt_17 rfl (lv_at hl 1 rfl) ?_
  refine sk_get (v := .int mu) (C := RX7) (T := TX7) (N := 7) hx hb hts inlX7 hown hK hP 20 rfl rfl 5 (by decide) w_2_12 rfl dX11_lookAt_18 ?_
  refine lv_iconst (v := 0) hx hb dX11_lookAt_21 (by decide) ?_
  refine sk_Vv (q0 := 0) (n := 3) (rest := []) (wr := [(x0, .inr (11, [.ref (q 0), .ref (q 1), .ref (q 2), .ref (q 3), .ref (q 4), .ref (q 5), .ref (q 6), .ref (q 7), .ref (q 8), .ref (q 9), .ref (q 10), .ref (q 11), .ref (q 12), .ref (q 13), .ref (q 14), .int hc, .ref (q 16), .long dr])), (q 69, .inl (cI, 10, .inl e3)), (q 65, .inl (cJ, 90, .inr (.inl fg2_5))), (q 66, .inl (cI, 9, .inl fk2_6)), (q 5, .inr (2, [.ref (q 44), .ref (q 45), .ref (q 46), .ref (q 47), .ref (q 48), .int (nI dh), .int (nI mh), .int uh, .int rh, .int (nI nh)])), (q 44, .inr (0, [.ref (q 49), .ref (q 50), .ref (q 51), .ref (q 52), .int (nI ch), .int (nI wh)])), (q 49, .inl (cI, 1600, .inl y1)), (q 50, .inl (cJ, 64, .inr (.inl z2_7))), (q 51, .inl (cJ, 9, .inr (.inl z3_8))), (q 52, .inl (cJ, 10, .inr (.inl y4))), (q 47, .inl (cI, 3, .inl yf)), (q 48, .inl (cI, 3, .inl yt)), (o1, .inl (cI, 9, .inl fb)), (o2, .inl (cI, 9, .inl fw))]) ⟨hx, hb, hml, hown, hts⟩ hl.1 (c_klay l D cI cJ cC cZ cS q gd gs e1 e2 sa2_1 ft2_2 fa2_3 fo2_4 o0 o1 o2 dy wn mo ke mu fb fw Ba We L 0 U mu fg2_5 hsa2_9 (by omega) (by omega) (by decide) hU hrows_11) w_4_47 w_4_48 w_4_49 w_1_13 w_4_50 (by decide +kernel) ⟨⟨(Nat.le_of_ble_eq_true rfl), (Nat.le_of_ble_eq_true rfl)⟩, (Nat.le_of_ble_eq_true rfl), (Nat.le_of_ble_eq_true rfl)⟩ hK hP hD hS hA [1, 2, 3, 5, 6, 7, 8, 9, 20] [0, 4, 10, 11, 12, 13, 14, 15, 16, 17, 18, 19, 21, 22] rfl rfl (by decide +kernel) (by decide +kernel) (by decide +kernel) rfl rfl rfl rfl (Nat.le_of_ble_eq_true rfl) dX11_lookAt_22 (fun u H locs hw hP hD hS => ?_)
  obtain ⟨g1_12, g2_13, hld2_14, rfl⟩ := hw
  have hP : va_P D vwCl [(x0, .inr (11, [.ref (q 0), .ref (q 1), .ref (q 2), .ref (q 3), .ref (q 4), .ref (q 5), .ref (q 6), .ref (q 7), .ref (q 8), .ref (q 9), .ref (q 10), .ref (q 11), .ref (q 12), .ref (q 13), .ref (q 14), .int hc, .ref (q 16), .long dr])), (q 69, .inl (cI, 10, .inl e3)), (q 65, .inl (cJ, 90, .inr (.inl fg2_5))), (q 66, .inl (cI, 9, .inl fk2_6)), (q 5, .inr (2, [.ref (q 44), .ref (q 45), .ref (q 46), .ref (q 47), .ref (q 48), .int (nI dh), .int (nI mh), .int uh, .int rh, .int (nI nh)])), (q 44, .inr (0, [.ref (q 49), .ref (q 50), .ref (q 51), .ref (q 52), .int (nI ch), .int (nI wh)])), (q 49, .inl (cI, 1600, .inl y1)), (q 50, .inl (cJ, 64, .inr (.inl z2_7))), (q 51, .inl (cJ, 9, .inr (.inl z3_8))), (q 52, .inl (cJ, 10, .inr (.inl y4))), (q 47, .inl (cI, 3, .inl yf)), (q 48, .inl (cI, 3, .inl yt)), (o1, .inl (cI, 9, .inl fb)), (o2, .inl (cI, 9, .inl fw)), (q 11, .inr (1, [.ref (q 10), .ref (q 67), .ref (q 68), .ref (q 69), .ref (q 70), .ref (q 71), .ref (q 72), .int (nI dy), .int (nI mo)])), (q 67, .inl (cI, 90, .inl g1_12)), (q 68, .inl (cI, 9, .inl g2_13)), (q 10, .inr (9, [.ref (q 61), .ref (q 62), .ref (q 63), .ref (q 64), .ref (q 65), .ref (q 66)])), (q 61, .inl (cI, 90, .inl (fun j => nI (sa2_1 j)))), (q 62, .inl (cI, 900, .inl ft2_2)), (q 63, .inl (cI, 90, .inl fa2_3)), (q 64, .inl (cI, 90, .inl fo2_4)), (o0, .inr (7, [.ref o1, .ref o2, .int (nI dy), .int (nI wn), .int (nI mo), .int mu, .int (nI ke)]))] H := hP
  have hD : va_D A [(x0, .inr (11, [.ref (q 0), .ref (q 1), .ref (q 2), .ref (q 3), .ref (q 4), .ref (q 5), .ref (q 6), .ref (q 7), .ref (q 8), .ref (q 9), .ref (q 10), .ref (q 11), .ref (q 12), .ref (q 13), .ref (q 14), .int hc, .ref (q 16), .long dr])), (q 69, .inl (cI, 10, .inl e3)), (q 65, .inl (cJ, 90, .inr (.inl fg2_5))), (q 66, .inl (cI, 9, .inl fk2_6)), (q 5, .inr (2, [.ref (q 44), .ref (q 45), .ref (q 46), .ref (q 47), .ref (q 48), .int (nI dh), .int (nI mh), .int uh, .int rh, .int (nI nh)])), (q 44, .inr (0, [.ref (q 49), .ref (q 50), .ref (q 51), .ref (q 52), .int (nI ch), .int (nI wh)])), (q 49, .inl (cI, 1600, .inl y1)), (q 50, .inl (cJ, 64, .inr (.inl z2_7))), (q 51, .inl (cJ, 9, .inr (.inl z3_8))), (q 52, .inl (cJ, 10, .inr (.inl y4))), (q 47, .inl (cI, 3, .inl yf)), (q 48, .inl (cI, 3, .inl yt)), (o1, .inl (cI, 9, .inl fb)), (o2, .inl (cI, 9, .inl fw)), (q 11, .inr (1, [.ref (q 10), .ref (q 67), .ref (q 68), .ref (q 69), .ref (q 70), .ref (q 71), .ref (q 72), .int (nI dy), .int (nI mo)])), (q 67, .inl (cI, 90, .inl g1_12)), (q 68, .inl (cI, 9, .inl g2_13)), (q 10, .inr (9, [.ref (q 61), .ref (q 62), .ref (q 63), .ref (q 64), .ref (q 65), .ref (q 66)])), (q 61, .inl (cI, 90, .inl (fun j => nI (sa2_1 j)))), (q 62, .inl (cI, 900, .inl ft2_2)), (q 63, .inl (cI, 90, .inl fa2_3)), (q 64, .inl (cI, 90, .inl fo2_4)), (o0, .inr (7, [.ref o1, .ref o2, .int (nI dy), .int (nI wn), .int (nI mo), .int mu, .int (nI ke)]))] := hD
  refine lv_aload_n hx hb dX11_lookAt_25 rfl (lv_at hl 0 rfl) ?_
  refine sk_get (v := .ref (q 11)) (C := RX11) (T := TX11) (N := 18) hx hb hts inlX11 hown hK hP 0 rfl rfl 11 (by decide) w_2_134 rfl dX11_lookAt_26 ?_
  refine sk_Vi (q0 := 0) (n := 0) (rest := []) (wr := [(x0, .inr (11, [.ref (q 0), .ref (q 1), .ref (q 2), .ref (q 3), .ref (q 4), .ref (q 5), .ref (q 6), .ref (q 7), .ref (q 8), .ref (q 9), .ref (q 10), .ref (q 11), .ref (q 12), .ref (q 13), .ref (q 14), .int hc, .ref (q 16), .long dr])), (q 65, .inl (cJ, 90, .inr (.inl fg2_5))), (q 66, .inl (cI, 9, .inl fk2_6)), (q 5, .inr (2, [.ref (q 44), .ref (q 45), .ref (q 46), .ref (q 47), .ref (q 48), .int (nI dh), .int (nI mh), .int uh, .int rh, .int (nI nh)])), (q 44, .inr (0, [.ref (q 49), .ref (q 50), .ref (q 51), .ref (q 52), .int (nI ch), .int (nI wh)])), (q 49, .inl (cI, 1600, .inl y1)), (q 50, .inl (cJ, 64, .inr (.inl z2_7))), (q 51, .inl (cJ, 9, .inr (.inl z3_8))), (q 52, .inl (cJ, 10, .inr (.inl y4))), (q 47, .inl (cI, 3, .inl yf)), (q 48, .inl (cI, 3, .inl yt)), (o1, .inl (cI, 9, .inl fb)), (o2, .inl (cI, 9, .inl fw)), (q 10, .inr (9, [.ref (q 61), .ref (q 62), .ref (q 63), .ref (q 64), .ref (q 65), .ref (q 66)])), (q 61, .inl (cI, 90, .inl (fun j => nI (sa2_1 j)))), (q 62, .inl (cI, 900, .inl ft2_2)), (q 63, .inl (cI, 90, .inl fa2_3)), (q 64, .inl (cI, 90, .inl fo2_4)), (o0, .inr (7, [.ref o1, .ref o2, .int (nI dy), .int (nI wn), .int (nI mo), .int mu, .int (nI ke)]))]) ⟨hx, hb, hml, hown, hts⟩ hl.1 (c_ksettle l D cI cJ cC cZ cS q dy mo g1_12 g2_13 e3 (kcFo L wn Ba We U 0) (by omega) (by omega) hld2_14) w_4_53 w_4_54 w_4_55 w_1_13 w_4_56 (by decide +kernel) ⟨⟨(Nat.le_of_ble_eq_true rfl), (Nat.le_of_ble_eq_true rfl)⟩, (Nat.le_of_ble_eq_true rfl), (Nat.le_of_ble_eq_true rfl)⟩ hK hP hD hS hA [14, 15, 16, 1] [0, 2, 3, 4, 5, 6, 7, 8, 9, 10, 11, 12, 13, 17, 18, 19, 20, 21, 22] rfl rfl (by decide +kernel) (by decide +kernel) (by decide +kernel) rfl rfl rfl rfl (Nat.le_of_ble_eq_true rfl) dX11_lookAt_29 (fun r_17 u H locs hw hP hD hS => ?_)
  obtain ⟨b_15, g3_16, hb1_18, hlv2_19, rfl, rfl⟩ := hw
  have hP : va_P D vwCl [(x0, .inr (11, [.ref (q 0), .ref (q 1), .ref (q 2), .ref (q 3), .ref (q 4), .ref (q 5), .ref (q 6), .ref (q 7), .ref (q 8), .ref (q 9), .ref (q 10), .ref (q 11), .ref (q 12), .ref (q 13), .ref (q 14), .int hc, .ref (q 16), .long dr])), (q 65, .inl (cJ, 90, .inr (.inl fg2_5))), (q 66, .inl (cI, 9, .inl fk2_6)), (q 5, .inr (2, [.ref (q 44), .ref (q 45), .ref (q 46), .ref (q 47), .ref (q 48), .int (nI dh), .int (nI mh), .int uh, .int rh, .int (nI nh)])), (q 44, .inr (0, [.ref (q 49), .ref (q 50), .ref (q 51), .ref (q 52), .int (nI ch), .int (nI wh)])), (q 49, .inl (cI, 1600, .inl y1)), (q 50, .inl (cJ, 64, .inr (.inl z2_7))), (q 51, .inl (cJ, 9, .inr (.inl z3_8))), (q 52, .inl (cJ, 10, .inr (.inl y4))), (q 47, .inl (cI, 3, .inl yf)), (q 48, .inl (cI, 3, .inl yt)), (o1, .inl (cI, 9, .inl fb)), (o2, .inl (cI, 9, .inl fw)), (q 10, .inr (9, [.ref (q 61), .ref (q 62), .ref (q 63), .ref (q 64), .ref (q 65), .ref (q 66)])), (q 61, .inl (cI, 90, .inl (fun j => nI (sa2_1 j)))), (q 62, .inl (cI, 900, .inl ft2_2)), (q 63, .inl (cI, 90, .inl fa2_3)), (q 64, .inl (cI, 90, .inl fo2_4)), (o0, .inr (7, [.ref o1, .ref o2, .int (nI dy), .int (nI wn), .int (nI mo), .int mu, .int (nI ke)])), (q 11, .inr (1, [.ref (q 10), .ref (q 67), .ref (q 68), .ref (q 69), .ref (q 70), .ref (q 71), .ref (q 72), .int (nI dy), .int (nI mo)])), (q 67, .inl (cI, 90, .inl g1_12)), (q 68, .inl (cI, 9, .inl g2_13)), (q 69, .inl (cI, 10, .inl g3_16))] H := hP
  have hD : va_D A [(x0, .inr (11, [.ref (q 0), .ref (q 1), .ref (q 2), .ref (q 3), .ref (q 4), .ref (q 5), .ref (q 6), .ref (q 7), .ref (q 8), .ref (q 9), .ref (q 10), .ref (q 11), .ref (q 12), .ref (q 13), .ref (q 14), .int hc, .ref (q 16), .long dr])), (q 65, .inl (cJ, 90, .inr (.inl fg2_5))), (q 66, .inl (cI, 9, .inl fk2_6)), (q 5, .inr (2, [.ref (q 44), .ref (q 45), .ref (q 46), .ref (q 47), .ref (q 48), .int (nI dh), .int (nI mh), .int uh, .int rh, .int (nI nh)])), (q 44, .inr (0, [.ref (q 49), .ref (q 50), .ref (q 51), .ref (q 52), .int (nI ch), .int (nI wh)])), (q 49, .inl (cI, 1600, .inl y1)), (q 50, .inl (cJ, 64, .inr (.inl z2_7))), (q 51, .inl (cJ, 9, .inr (.inl z3_8))), (q 52, .inl (cJ, 10, .inr (.inl y4))), (q 47, .inl (cI, 3, .inl yf)), (q 48, .inl (cI, 3, .inl yt)), (o1, .inl (cI, 9, .inl fb)), (o2, .inl (cI, 9, .inl fw)), (q 10, .inr (9, [.ref (q 61), .ref (q 62), .ref (q 63), .ref (q 64), .ref (q 65), .ref (q 66)])), (q 61, .inl (cI, 90, .inl (fun j => nI (sa2_1 j)))), (q 62, .inl (cI, 900, .inl ft2_2)), (q 63, .inl (cI, 90, .inl fa2_3)), (q 64, .inl (cI, 90, .inl fo2_4)), (o0, .inr (7, [.ref o1, .ref o2, .int (nI dy), .int (nI wn), .int (nI mo), .int mu, .int (nI ke)])), (q 11, .inr (1, [.ref (q 10), .ref (q 67), .ref (q 68), .ref (q 69), .ref (q 70), .ref (q 71), .ref (q 72), .int (nI dy), .int (nI mo)])), (q 67, .inl (cI, 90, .inl g1_12)), (q 68, .inl (cI, 9, .inl g2_13)), (q 69, .inl (cI, 10, .inl g3_16))] := hD
  have hP := hP.sub (ws' := [(x0, .inr (11, [.ref (q 0), .ref (q 1), .ref (q 2), .ref (q 3), .ref (q 4), .ref (q 5), .ref (q 6), .ref (q 7), .ref (q 8), .ref (q 9), .ref (q 10), .ref (q 11), .ref (q 12), .ref (q 13), .ref (q 14), .int hc, .ref (q 16), .long dr])), (q 10, .inr (9, [.ref (q 61), .ref (q 62), .ref (q 63), .ref (q 64), .ref (q 65), .ref (q 66)])), (q 61, .inl (cI, 90, .inl (fun j => nI (sa2_1 j)))), (q 62, .inl (cI, 900, .inl ft2_2)), (q 63, .inl (cI, 90, .inl fa2_3)), (q 64, .inl (cI, 90, .inl fo2_4)), (q 65, .inl (cJ, 90, .inr (.inl fg2_5))), (q 66, .inl (cI, 9, .inl fk2_6)), (q 5, .inr (2, [.ref (q 44), .ref (q 45), .ref (q 46), .ref (q 47), .ref (q 48), .int (nI dh), .int (nI mh), .int uh, .int rh, .int (nI nh)])), (q 44, .inr (0, [.ref (q 49), .ref (q 50), .ref (q 51), .ref (q 52), .int (nI ch), .int (nI wh)])), (q 49, .inl (cI, 1600, .inl y1)), (q 50, .inl (cJ, 64, .inr (.inl z2_7))), (q 51, .inl (cJ, 9, .inr (.inl z3_8))), (q 52, .inl (cJ, 10, .inr (.inl y4))), (q 47, .inl (cI, 3, .inl yf)), (q 48, .inl (cI, 3, .inl yt)), (q 11, .inr (1, [.ref (q 10), .ref (q 67), .ref (q 68), .ref (q 69), .ref (q 70), .ref (q 71), .ref (q 72), .int (nI dy), .int (nI mo)])), (q 67, .inl (cI, 90, .inl g1_12)), (q 68, .inl (cI, 9, .inl g2_13)), (q 69, .inl (cI, 10, .inl g3_16)), (o0, .inr (7, [.ref o1, .ref o2, .int (nI dy), .int (nI wn), .int (nI mo), .int mu, .int (nI ke)])), (o1, .inl (cI, 9, .inl fb)), (o2, .inl (cI, 9, .inl fw))]) [0, 13, 14, 15, 16, 17, 1, 2, 3, 4, 5, 6, 7, 8, 9, 10, 19, 20, 21, 22, 18, 11, 12] rfl
  have hD := hD.sub (ws' := [(x0, .inr (11, [.ref (q 0), .ref (q 1), .ref (q 2), .ref (q 3), .ref (q 4), .ref (q 5), .ref (q 6), .ref (q 7), .ref (q 8), .ref (q 9), .ref (q 10), .ref (q 11), .ref (q 12), .ref (q 13), .ref (q 14), .int hc, .ref (q 16), .long dr])), (q 10, .inr (9, [.ref (q 61), .ref (q 62), .ref (q 63), .ref (q 64), .ref (q 65), .ref (q 66)])), (q 61, .inl (cI, 90, .inl (fun j => nI (sa2_1 j)))), (q 62, .inl (cI, 900, .inl ft2_2)), (q 63, .inl (cI, 90, .inl fa2_3)), (q 64, .inl (cI, 90, .inl fo2_4)), (q 65, .inl (cJ, 90, .inr (.inl fg2_5))), (q 66, .inl (cI, 9, .inl fk2_6)), (q 5, .inr (2, [.ref (q 44), .ref (q 45), .ref (q 46), .ref (q 47), .ref (q 48), .int (nI dh), .int (nI mh), .int uh, .int rh, .int (nI nh)])), (q 44, .inr (0, [.ref (q 49), .ref (q 50), .ref (q 51), .ref (q 52), .int (nI ch), .int (nI wh)])), (q 49, .inl (cI, 1600, .inl y1)), (q 50, .inl (cJ, 64, .inr (.inl z2_7))), (q 51, .inl (cJ, 9, .inr (.inl z3_8))), (q 52, .inl (cJ, 10, .inr (.inl y4))), (q 47, .inl (cI, 3, .inl yf)), (q 48, .inl (cI, 3, .inl yt)), (q 11, .inr (1, [.ref (q 10), .ref (q 67), .ref (q 68), .ref (q 69), .ref (q 70), .ref (q 71), .ref (q 72), .int (nI dy), .int (nI mo)])), (q 67, .inl (cI, 90, .inl g1_12)), (q 68, .inl (cI, 9, .inl g2_13)), (q 69, .inl (cI, 10, .inl g3_16)), (o0, .inr (7, [.ref o1, .ref o2, .int (nI dy), .int (nI wn), .int (nI mo), .int mu, .int (nI ke)])), (o1, .inl (cI, 9, .inl fb)), (o2, .inl (cI, 9, .inl fw))]) [0, 13, 14, 15, 16, 17, 1, 2, 3, 4, 5, 6, 7, 8, 9, 10, 19, 20, 21, 22, 18, 11, 12] (by decide +kernel) rfl
  exact sk_iret hx hb hr (nbool b_15 (by omega)) hlocks hK hP hD hS (⟨sa2_1, ft2_2, fa2_3, fo2_4, fg2_5, fk2_6, z2_7, z3_8, g1_12, g2_13, g3_16, b_15, hsa2_9, hti2_10, hld2_14, hlv2_19, hb1_18, rfl, rfl⟩) (Nat.le_of_ble_eq_true rfl) (Nat.le_of_ble_eq_true rfl) dX11_lookAt_32
theorem dX11_draw_0 : decode cX11_draw 0 = .ok (.aload_n 0, 1) := by decide +kernel
theorem dX11_draw_1 : decode cX11_draw 1 = .ok (.ldc2_w 361, 3) := by decide +kernel
theorem dX11_draw_4 : decode cX11_draw 4 = .ok (.aload_n 0, 1) := by decide +kernel
theorem dX11_draw_5 : decode cX11_draw 5 = .ok (.getfield 106, 3) := by decide +kernel
theorem dX11_draw_8 : decode cX11_draw 8 = .ok (.lmul, 1) := by decide +kernel
theorem dX11_draw_9 : decode cX11_draw 9 = .ok (.ldc2_w 363, 3) := by decide +kernel
theorem dX11_draw_12 : decode cX11_draw 12 = .ok (.ladd, 1) := by decide +kernel
theorem dX11_draw_13 : decode cX11_draw 13 = .ok (.ldc2_w 365, 3) := by decide +kernel
theorem dX11_draw_16 : decode cX11_draw 16 = .ok (.land, 1) := by decide +kernel
theorem dX11_draw_17 : decode cX11_draw 17 = .ok (.putfield 106, 3) := by decide +kernel
theorem dX11_draw_20 : decode cX11_draw 20 = .ok (.lload_n 1, 1) := by decide +kernel
theorem dX11_draw_21 : decode cX11_draw 21 = .ok (.lconst 0, 1) := by decide +kernel
theorem dX11_draw_22 : decode cX11_draw 22 = .ok (.lcmp, 1) := by decide +kernel
theorem dX11_draw_23 : decode cX11_draw 23 = .ok (.ifCond .le 16, 3) := by decide +kernel
theorem dX11_draw_26 : decode cX11_draw 26 = .ok (.aload_n 0, 1) := by decide +kernel
theorem dX11_draw_27 : decode cX11_draw 27 = .ok (.getfield 106, 3) := by decide +kernel
theorem dX11_draw_30 : decode cX11_draw 30 = .ok (.ldc2_w 367, 3) := by decide +kernel
theorem dX11_draw_33 : decode cX11_draw 33 = .ok (.ldiv, 1) := by decide +kernel
theorem dX11_draw_34 : decode cX11_draw 34 = .ok (.lload_n 1, 1) := by decide +kernel
theorem dX11_draw_35 : decode cX11_draw 35 = .ok (.lrem, 1) := by decide +kernel
theorem dX11_draw_36 : decode cX11_draw 36 = .ok (.goto 4, 3) := by decide +kernel
theorem dX11_draw_40 : decode cX11_draw 40 = .ok (.lreturn, 1) := by decide +kernel
theorem w_5_41 : (Cond.constantLong RX11 361 (1103515245)) ∈ wsL_law := sk_mem (ck_5 _ (List.mem_of_getElem? (i := 41) rfl)) rfl
theorem w_2_140 : (Cond.fieldLink RX11 106 "SameKeeper" "drawn" "J") ∈ wsL_law := sk_mem (ck_2 _ (List.mem_of_getElem? (i := 140) rfl)) rfl
theorem w_5_42 : (Cond.constantLong RX11 363 (12345)) ∈ wsL_law := sk_mem (ck_5 _ (List.mem_of_getElem? (i := 42) rfl)) rfl
theorem w_5_43 : (Cond.constantLong RX11 365 (2147483647)) ∈ wsL_law := sk_mem (ck_5 _ (List.mem_of_getElem? (i := 43) rfl)) rfl
theorem w_5_44 : (Cond.constantLong RX11 367 (64)) ∈ wsL_law := sk_mem (ck_5 _ (List.mem_of_getElem? (i := 44) rfl)) rfl
theorem w_5_40 : (Cond.code yX11_draw cX11_draw 3 (some .long)) ∈ wsL_law := sk_mem (ck_5 _ (List.mem_of_getElem? (i := 40) rfl)) rfl
set_option maxHeartbeats 4000000 in
set_option maxRecDepth 100000 in
theorem c_kx_draw (l : Launch) (D : va_G) (cI cJ cC cZ cS : ClassId) (x0 : Nat) (q : Nat → Nat) (hc : Int32) (sd : Nat) (mq : Nat) (hm1 : 1 ≤ mq) (hm2 : mq ≤ 1000000000) : skM l yX11_draw cX11_draw 3 (some .long) 0 0 0 0 D (skT cI cJ cC cZ cS) [.ref x0, .long (Int64.ofNat mq)] [(x0, .inr (11, [.ref (q 0), .ref (q 1), .ref (q 2), .ref (q 3), .ref (q 4), .ref (q 5), .ref (q 6), .ref (q 7), .ref (q 8), .ref (q 9), .ref (q 10), .ref (q 11), .ref (q 12), .ref (q 13), .ref (q 14), .int hc, .ref (q 16), .long (Int64.ofNat sd)]))] (skL D (skT cI cJ cC cZ cS) (fun (r : Int64) (u : va_W) => r = Int64.ofNat (kdv sd mq) ∧ u = [(x0, .inr (11, [.ref (q 0), .ref (q 1), .ref (q 2), .ref (q 3), .ref (q 4), .ref (q 5), .ref (q 6), .ref (q 7), .ref (q 8), .ref (q 9), .ref (q 10), .ref (q 11), .ref (q 12), .ref (q 13), .ref (q 14), .int hc, .ref (q 16), .long (Int64.ofNat (kdr sd))]))])) := by
  refine skM_of (by decide +kernel) (Nat.le_of_ble_eq_true rfl) ?_
  intro p e s m below meth c A ls E hP hD hl
  obtain ⟨hx, hb, hr, hml, hlocks, hin, hown, hts, hK, hA⟩ := E
  have hown : s.vm.findClass RX11 = some m.cls := hown
  have hS : va_S A s.heap s.heap [] := va_S.rf
  have hl : lv_has ls 3 [(0, .ref x0), (1, .long (Int64.ofNat mq))] := hl
  refine lv_aload_n hx hb dX11_draw_0 rfl (lv_at hl 0 rfl) ?_
  refine lv_ldc2 (v := 1103515245) hx hb hown (hts _ w_5_41) dX11_draw_1 ?_
  refine lv_aload_n hx hb dX11_draw_4 rfl (lv_at hl 0 rfl) ?_
  refine sk_get (v := .long (Int64.ofNat sd)) (C := RX11) (T := TX11) (N := 18) hx hb hts inlX11 hown hK hP 0 rfl rfl 17 (by decide) w_2_140 rfl dX11_draw_5 ?_
  refine lv_lmul hx hb dX11_draw_8 ?_
  refine lv_ldc2 (v := 12345) hx hb hown (hts _ w_5_42) dX11_draw_9 ?_
  refine lv_ladd hx hb dX11_draw_12 ?_
  refine lv_ldc2 (v := 2147483647) hx hb hown (hts _ w_5_43) dX11_draw_13 ?_
  refine lv_land hx hb dX11_draw_16 ?_
  refine sk_topl (Int64.ofNat (kdr sd)) (kdr_and sd) ?_
  have hkd := kdr_lt sd
  refine sk_put (ws' := [(x0, .inr (11, [.ref (q 0), .ref (q 1), .ref (q 2), .ref (q 3), .ref (q 4), .ref (q 5), .ref (q 6), .ref (q 7), .ref (q 8), .ref (q 9), .ref (q 10), .ref (q 11), .ref (q 12), .ref (q 13), .ref (q 14), .int hc, .ref (q 16), .long (Int64.ofNat (kdr sd))]))]) (C := RX11) (T := TX11) (N := 18) (v := .long (Int64.ofNat (kdr sd))) hx hb hts inlX11 tyX11 tyX11_ok nmX11 hown hK hP hD hS 0 rfl rfl 17 (by decide) w_2_140 rfl rfl rfl (Nat.le_of_ble_eq_true rfl) rfl dX11_draw_17 (fun H locs hP hD hS => ?_)
  refine lv_lload_n hx hb dX11_draw_20 rfl (lv_at hl 1 rfl) ?_
  refine lv_lconst (v := 0) hx hb dX11_draw_21 (by decide) ?_
  refine W.lcmp hx hb dX11_draw_22 ?_
  refine lv_if_le (tgt := 39) hx hb dX11_draw_23 (by decide) (fun c => absurd c (kofn_pos hm1 (by omega))) (fun c_1 => ?_)
  refine lv_aload_n hx hb dX11_draw_26 rfl (lv_at hl 0 rfl) ?_
  refine sk_get (v := .long (Int64.ofNat (kdr sd))) (C := RX11) (T := TX11) (N := 18) hx hb hts inlX11 hown hK hP 0 rfl rfl 17 (by decide) w_2_140 rfl dX11_draw_27 ?_
  refine lv_ldc2 (v := 64) hx hb hown (hts _ w_5_44) dX11_draw_30 ?_
  refine lv_ldiv hx hb dX11_draw_33 (by decide) ?_
  refine sk_topl (Int64.ofNat (kdr sd / 64)) (kofn_div (b := 64) (by omega) (by decide) (by decide)) ?_
  refine lv_lload_n hx hb dX11_draw_34 rfl (lv_at hl 1 rfl) ?_
  refine lv_lrem hx hb dX11_draw_35 (kofn_ne hm1 (by omega)) ?_
  refine sk_topl (Int64.ofNat (kdv sd mq)) (kofn_rem (by omega) (by omega) (by omega)) ?_
  refine lv_goto (tgt := 40) hx hb dX11_draw_36 (by decide) ?_
  exact sk_lret hx hb hr hlocks hK hP hD hS (⟨rfl, rfl⟩) (Nat.le_of_ble_eq_true rfl) (Nat.le_of_ble_eq_true rfl) dX11_draw_40
theorem dX4_keep_0 : decode cX4_keep 0 = .ok (.aload_n 1, 1) := by decide +kernel
theorem dX4_keep_1 : decode cX4_keep 1 = .ok (.getfield 37, 3) := by decide +kernel
theorem dX4_keep_4 : decode cX4_keep 4 = .ok (.istore 5, 2) := by decide +kernel
theorem dX4_keep_6 : decode cX4_keep 6 = .ok (.iload 5, 2) := by decide +kernel
theorem dX4_keep_8 : decode cX4_keep 8 = .ok (.ifCond .lt 51, 3) := by decide +kernel
theorem dX4_keep_11 : decode cX4_keep 11 = .ok (.iload 5, 2) := by decide +kernel
theorem dX4_keep_13 : decode cX4_keep 13 = .ok (.aload_n 0, 1) := by decide +kernel
theorem dX4_keep_14 : decode cX4_keep 14 = .ok (.getfield 21, 3) := by decide +kernel
theorem dX4_keep_17 : decode cX4_keep 17 = .ok (.arraylength, 1) := by decide +kernel
theorem dX4_keep_18 : decode cX4_keep 18 = .ok (.if_icmp .ge 41, 3) := by decide +kernel
theorem dX4_keep_21 : decode cX4_keep 21 = .ok (.aload_n 0, 1) := by decide +kernel
theorem dX4_keep_22 : decode cX4_keep 22 = .ok (.getfield 21, 3) := by decide +kernel
theorem dX4_keep_25 : decode cX4_keep 25 = .ok (.iload 5, 2) := by decide +kernel
theorem dX4_keep_27 : decode cX4_keep 27 = .ok (.aload_n 1, 1) := by decide +kernel
theorem dX4_keep_28 : decode cX4_keep 28 = .ok (.getfield 40, 3) := by decide +kernel
theorem dX4_keep_31 : decode cX4_keep 31 = .ok (.iastore, 1) := by decide +kernel
theorem dX4_keep_32 : decode cX4_keep 32 = .ok (.aload_n 0, 1) := by decide +kernel
theorem dX4_keep_33 : decode cX4_keep 33 = .ok (.getfield 25, 3) := by decide +kernel
theorem dX4_keep_36 : decode cX4_keep 36 = .ok (.iload 5, 2) := by decide +kernel
theorem dX4_keep_38 : decode cX4_keep 38 = .ok (.lload_n 2, 1) := by decide +kernel
theorem dX4_keep_39 : decode cX4_keep 39 = .ok (.lastore, 1) := by decide +kernel
theorem dX4_keep_40 : decode cX4_keep 40 = .ok (.aload_n 0, 1) := by decide +kernel
theorem dX4_keep_41 : decode cX4_keep 41 = .ok (.getfield 29, 3) := by decide +kernel
theorem dX4_keep_44 : decode cX4_keep 44 = .ok (.iload 5, 2) := by decide +kernel
theorem dX4_keep_46 : decode cX4_keep 46 = .ok (.iload 4, 2) := by decide +kernel
theorem dX4_keep_48 : decode cX4_keep 48 = .ok (.iastore, 1) := by decide +kernel
theorem dX4_keep_49 : decode cX4_keep 49 = .ok (.aload_n 1, 1) := by decide +kernel
theorem dX4_keep_50 : decode cX4_keep 50 = .ok (.dup, 1) := by decide +kernel
theorem dX4_keep_51 : decode cX4_keep 51 = .ok (.getfield 37, 3) := by decide +kernel
theorem dX4_keep_54 : decode cX4_keep 54 = .ok (.iconst 1, 1) := by decide +kernel
theorem dX4_keep_55 : decode cX4_keep 55 = .ok (.iadd, 1) := by decide +kernel
theorem dX4_keep_56 : decode cX4_keep 56 = .ok (.putfield 37, 3) := by decide +kernel
theorem dX4_keep_59 : decode cX4_keep 59 = .ok (.return_, 1) := by decide +kernel
theorem w_2_14 : (Cond.fieldLink RX4 37 "SameKeeper$State" "kept" "I") ∈ wsL_law := sk_mem (ck_2 _ (List.mem_of_getElem? (i := 14) rfl)) rfl
theorem w_2_43 : (Cond.fieldLink RX4 21 "SameKeeper$Past" "weekOf" "[I") ∈ wsL_law := sk_mem (ck_2 _ (List.mem_of_getElem? (i := 43) rfl)) rfl
theorem w_2_5 : (Cond.fieldLink RX4 40 "SameKeeper$State" "week" "I") ∈ wsL_law := sk_mem (ck_2 _ (List.mem_of_getElem? (i := 5) rfl)) rfl
theorem w_2_44 : (Cond.fieldLink RX4 25 "SameKeeper$Past" "agreedOf" "[J") ∈ wsL_law := sk_mem (ck_2 _ (List.mem_of_getElem? (i := 44) rfl)) rfl
theorem w_2_45 : (Cond.fieldLink RX4 29 "SameKeeper$Past" "moodOf" "[I") ∈ wsL_law := sk_mem (ck_2 _ (List.mem_of_getElem? (i := 45) rfl)) rfl
theorem w_5_27 : (Cond.code yX4_keep cX4_keep 6 none) ∈ wsL_law := sk_mem (ck_5 _ (List.mem_of_getElem? (i := 27) rfl)) rfl
set_option maxHeartbeats 4000000 in
set_option maxRecDepth 100000 in
theorem c_kpast_keep (l : Launch) (D : va_G) (cI cJ cC cZ cS : ClassId) (q : Nat → Nat) (ac : Nat) (p1 : Nat → Int32) (p2 : Nat → Int64) (p3 : Nat → Int32) (dy : Nat) (wn : Nat) (mo : Nat) (ke : Nat) (mu : Int32) (fb : Nat → Int32) (fw : Nat → Int32) (x : Int64) (o : Int32) (hke : ke < 1000) : skM l yX4_keep cX4_keep 6 none 0 0 0 0 D (skT cI cJ cC cZ cS) [.ref (q 9), .ref (q 7), .long x, .int o] [(q 9, .inr (4, [.ref (q 35), .int (nI ac), .ref (q 36), .ref (q 37), .ref (q 38)])), (q 36, .inl (cI, 1000, .inl p1)), (q 37, .inl (cJ, 1000, .inr (.inl p2))), (q 38, .inl (cI, 1000, .inl p3)), (q 7, .inr (7, [.ref (q 33), .ref (q 34), .int (nI dy), .int (nI wn), .int (nI mo), .int mu, .int (nI ke)]))] (skV D (skT cI cJ cC cZ cS) (fun (u : va_W) => ∃ (p1_ : Nat → Int32), ∃ (p2_ : Nat → Int64), ∃ (p3_ : Nat → Int32), p1_ = upd p1 ke (nI wn) ∧ p2_ = vp_updL p2 ke x ∧ p3_ = upd p3 ke o ∧ u = [(q 9, .inr (4, [.ref (q 35), .int (nI ac), .ref (q 36), .ref (q 37), .ref (q 38)])), (q 36, .inl (cI, 1000, .inl p1_)), (q 37, .inl (cJ, 1000, .inr (.inl p2_))), (q 38, .inl (cI, 1000, .inl p3_)), (q 7, .inr (7, [.ref (q 33), .ref (q 34), .int (nI dy), .int (nI wn), .int (nI mo), .int mu, .int (nI (ke + 1))]))])) := by
  refine skM_of (by decide +kernel) (Nat.le_of_ble_eq_true rfl) ?_
  intro p e s m below meth c A ls E hP hD hl
  obtain ⟨hx, hb, hr, hml, hlocks, hin, hown, hts, hK, hA⟩ := E
  have hown : s.vm.findClass RX4 = some m.cls := hown
  have hS : va_S A s.heap s.heap [] := va_S.rf
  have hl : lv_has ls 6 [(0, .ref (q 9)), (1, .ref (q 7)), (2, .long x), (4, .int o)] := hl
  refine lv_aload_n hx hb dX4_keep_0 rfl (lv_at hl 1 rfl) ?_
  refine sk_get (v := .int (nI ke)) (C := RX7) (T := TX7) (N := 7) hx hb hts inlX7 hown hK hP 4 rfl rfl 6 (by decide) w_2_14 rfl dX4_keep_1 ?_
  refine lv_istore (lv' := [(5, .int (nI ke)), (0, .ref (q 9)), (1, .ref (q 7)), (2, .long x), (4, .int o)]) hx hb dX4_keep_4 hl (by decide) rfl (fun ls hl => ?_)
  refine lv_iload hx hb dX4_keep_6 (lv_at hl 0 rfl) ?_
  refine lv_if_lt (tgt := 59) hx hb dX4_keep_8 (by decide) (fun c => absurd c (nI_pos (by omega))) (fun c_1 => ?_)
  refine lv_iload hx hb dX4_keep_11 (lv_at hl 0 rfl) ?_
  refine lv_aload_n hx hb dX4_keep_13 rfl (lv_at hl 1 rfl) ?_
  refine sk_get (v := .ref (q 36)) (C := RX4) (T := TX4) (N := 5) hx hb hts inlX4 hown hK hP 0 rfl rfl 2 (by decide) w_2_43 rfl dX4_keep_14 ?_
  refine va_alen (v := 1000) hx hb hK.1 hP 1 0 rfl rfl rfl dX4_keep_17 ?_
  refine lv_icmp_ge (tgt := 59) hx hb dX4_keep_18 (by decide) (fun c => absurd ((nle 1000 ke (by omega) (by omega)).mp c) (by omega)) (fun c_2 => ?_)
  refine lv_aload_n hx hb dX4_keep_21 rfl (lv_at hl 1 rfl) ?_
  refine sk_get (v := .ref (q 36)) (C := RX4) (T := TX4) (N := 5) hx hb hts inlX4 hown hK hP 0 rfl rfl 2 (by decide) w_2_43 rfl dX4_keep_22 ?_
  refine lv_iload hx hb dX4_keep_25 (lv_at hl 0 rfl) ?_
  refine lv_aload_n hx hb dX4_keep_27 rfl (lv_at hl 2 rfl) ?_
  refine sk_get (v := .int (nI wn)) (C := RX7) (T := TX7) (N := 7) hx hb hts inlX7 hown hK hP 4 rfl rfl 3 (by decide) w_2_5 rfl dX4_keep_28 ?_
  refine sk_iastE (k := ke) (ws' := fun f_3 => [(q 9, .inr (4, [.ref (q 35), .int (nI ac), .ref (q 36), .ref (q 37), .ref (q 38)])), (q 36, .inl (cI, 1000, .inl f_3)), (q 37, .inl (cJ, 1000, .inr (.inl p2))), (q 38, .inl (cI, 1000, .inl p3)), (q 7, .inr (7, [.ref (q 33), .ref (q 34), .int (nI dy), .int (nI wn), .int (nI mo), .int mu, .int (nI ke)]))]) hx hb hK hP hD hS 1 0 rfl rfl (by omega) (by omega) (fun _ => rfl) dX4_keep_31 (fun f_3 H locs ef_4 hP hD hS => ?_)
  refine lv_aload_n hx hb dX4_keep_32 rfl (lv_at hl 1 rfl) ?_
  refine sk_get (v := .ref (q 37)) (C := RX4) (T := TX4) (N := 5) hx hb hts inlX4 hown hK hP 0 rfl rfl 3 (by decide) w_2_44 rfl dX4_keep_33 ?_
  refine lv_iload hx hb dX4_keep_36 (lv_at hl 0 rfl) ?_
  refine lv_lload_n hx hb dX4_keep_38 rfl (lv_at hl 3 rfl) ?_
  refine sk_lastE (k := ke) (ws' := fun f_5 => [(q 9, .inr (4, [.ref (q 35), .int (nI ac), .ref (q 36), .ref (q 37), .ref (q 38)])), (q 36, .inl (cI, 1000, .inl f_3)), (q 37, .inl (cJ, 1000, .inr (.inl f_5))), (q 38, .inl (cI, 1000, .inl p3)), (q 7, .inr (7, [.ref (q 33), .ref (q 34), .int (nI dy), .int (nI wn), .int (nI mo), .int mu, .int (nI ke)]))]) hx hb hK hP hD hS 2 1 rfl rfl (by omega) (by omega) (fun _ => rfl) dX4_keep_39 (fun f_5 H locs ef_6 hP hD hS => ?_)
  refine lv_aload_n hx hb dX4_keep_40 rfl (lv_at hl 1 rfl) ?_
  refine sk_get (v := .ref (q 38)) (C := RX4) (T := TX4) (N := 5) hx hb hts inlX4 hown hK hP 0 rfl rfl 4 (by decide) w_2_45 rfl dX4_keep_41 ?_
  refine lv_iload hx hb dX4_keep_44 (lv_at hl 0 rfl) ?_
  refine lv_iload hx hb dX4_keep_46 (lv_at hl 4 rfl) ?_
  refine sk_iastE (k := ke) (ws' := fun f_7 => [(q 9, .inr (4, [.ref (q 35), .int (nI ac), .ref (q 36), .ref (q 37), .ref (q 38)])), (q 36, .inl (cI, 1000, .inl f_3)), (q 37, .inl (cJ, 1000, .inr (.inl f_5))), (q 38, .inl (cI, 1000, .inl f_7)), (q 7, .inr (7, [.ref (q 33), .ref (q 34), .int (nI dy), .int (nI wn), .int (nI mo), .int mu, .int (nI ke)]))]) hx hb hK hP hD hS 3 0 rfl rfl (by omega) (by omega) (fun _ => rfl) dX4_keep_48 (fun f_7 H locs ef_8 hP hD hS => ?_)
  refine lv_aload_n hx hb dX4_keep_49 rfl (lv_at hl 2 rfl) ?_
  refine lv_dup hx hb dX4_keep_50 rfl ?_
  refine sk_get (v := .int (nI ke)) (C := RX7) (T := TX7) (N := 7) hx hb hts inlX7 hown hK hP 4 rfl rfl 6 (by decide) w_2_14 rfl dX4_keep_51 ?_
  refine lv_iconst (v := 1) hx hb dX4_keep_54 (by decide) ?_
  refine lv_iadd hx hb dX4_keep_55 ?_
  refine sk_top (nI (ke + 1)) (nI_add ke 1) ?_
  refine sk_put (ws' := [(q 9, .inr (4, [.ref (q 35), .int (nI ac), .ref (q 36), .ref (q 37), .ref (q 38)])), (q 36, .inl (cI, 1000, .inl f_3)), (q 37, .inl (cJ, 1000, .inr (.inl f_5))), (q 38, .inl (cI, 1000, .inl f_7)), (q 7, .inr (7, [.ref (q 33), .ref (q 34), .int (nI dy), .int (nI wn), .int (nI mo), .int mu, .int (nI (ke + 1))]))]) (C := RX7) (T := TX7) (N := 7) (v := .int (nI (ke + 1))) hx hb hts inlX7 tyX7 tyX7_ok nmX7 hown hK hP hD hS 4 rfl rfl 6 (by decide) w_2_14 rfl rfl rfl (Nat.le_of_ble_eq_true rfl) rfl dX4_keep_56 (fun H locs hP hD hS => ?_)
  exact sk_vret hx hb hr hlocks hK hP hD hS (⟨f_3, f_5, f_7, ef_4, ef_6, ef_8, rfl⟩) (Nat.le_of_ble_eq_true rfl) (Nat.le_of_ble_eq_true rfl) dX4_keep_59
theorem dX11_pass_0 : decode cX11_pass 0 = .ok (.aload_n 0, 1) := by decide +kernel
theorem dX11_pass_1 : decode cX11_pass 1 = .ok (.getfield 89, 3) := by decide +kernel
theorem dX11_pass_4 : decode cX11_pass 4 = .ok (.aload_n 0, 1) := by decide +kernel
theorem dX11_pass_5 : decode cX11_pass 5 = .ok (.getfield 59, 3) := by decide +kernel
theorem dX11_pass_8 : decode cX11_pass 8 = .ok (.getfield 144, 3) := by decide +kernel
theorem dX11_pass_11 : decode cX11_pass 11 = .ok (.iconst 1, 1) := by decide +kernel
theorem dX11_pass_12 : decode cX11_pass 12 = .ok (.isub, 1) := by decide +kernel
theorem dX11_pass_13 : decode cX11_pass 13 = .ok (.iaload, 1) := by decide +kernel
theorem dX11_pass_14 : decode cX11_pass 14 = .ok (.istore_n 3, 1) := by decide +kernel
theorem dX11_pass_15 : decode cX11_pass 15 = .ok (.aload_n 0, 1) := by decide +kernel
theorem dX11_pass_16 : decode cX11_pass 16 = .ok (.getfield 69, 3) := by decide +kernel
theorem dX11_pass_19 : decode cX11_pass 19 = .ok (.aload_n 0, 1) := by decide +kernel
theorem dX11_pass_20 : decode cX11_pass 20 = .ok (.getfield 59, 3) := by decide +kernel
theorem dX11_pass_23 : decode cX11_pass 23 = .ok (.lload_n 1, 1) := by decide +kernel
theorem dX11_pass_24 : decode cX11_pass 24 = .ok (.iload_n 3, 1) := by decide +kernel
theorem dX11_pass_25 : decode cX11_pass 25 = .ok (.invokevirtual 341, 3) := by decide +kernel
theorem dX11_pass_28 : decode cX11_pass 28 = .ok (.aload_n 0, 1) := by decide +kernel
theorem dX11_pass_29 : decode cX11_pass 29 = .ok (.getfield 59, 3) := by decide +kernel
theorem dX11_pass_32 : decode cX11_pass 32 = .ok (.iload_n 3, 1) := by decide +kernel
theorem dX11_pass_33 : decode cX11_pass 33 = .ok (.putfield 150, 3) := by decide +kernel
theorem dX11_pass_36 : decode cX11_pass 36 = .ok (.aload_n 0, 1) := by decide +kernel
theorem dX11_pass_37 : decode cX11_pass 37 = .ok (.getfield 59, 3) := by decide +kernel
theorem dX11_pass_40 : decode cX11_pass 40 = .ok (.dup, 1) := by decide +kernel
theorem dX11_pass_41 : decode cX11_pass 41 = .ok (.getfield 147, 3) := by decide +kernel
theorem dX11_pass_44 : decode cX11_pass 44 = .ok (.iconst 1, 1) := by decide +kernel
theorem dX11_pass_45 : decode cX11_pass 45 = .ok (.iadd, 1) := by decide +kernel
theorem dX11_pass_46 : decode cX11_pass 46 = .ok (.putfield 147, 3) := by decide +kernel
theorem dX11_pass_49 : decode cX11_pass 49 = .ok (.return_, 1) := by decide +kernel
theorem w_2_132 : (Cond.fieldLink RX11 69 "SameKeeper" "past" "LSameKeeper$Past;") ∈ wsL_law := sk_mem (ck_2 _ (List.mem_of_getElem? (i := 132) rfl)) rfl
theorem w_5_24 : (Cond.methodLink RX11 341 yX4_keep) ∈ wsL_law := sk_mem (ck_5 _ (List.mem_of_getElem? (i := 24) rfl)) rfl
theorem w_5_25 : (Cond.instanceMethod yX4_keep) ∈ wsL_law := sk_mem (ck_5 _ (List.mem_of_getElem? (i := 25) rfl)) rfl
theorem w_5_26 : (Cond.selects RX4 yX4_keep yX4_keep) ∈ wsL_law := sk_mem (ck_5 _ (List.mem_of_getElem? (i := 26) rfl)) rfl
theorem w_1_11 : (Cond.initialized RX4) ∈ wsL_law := sk_mem (ck_1 _ (List.mem_of_getElem? (i := 11) rfl)) rfl
theorem w_2_10 : (Cond.fieldLink RX11 150 "SameKeeper$State" "mood" "I") ∈ wsL_law := sk_mem (ck_2 _ (List.mem_of_getElem? (i := 10) rfl)) rfl
theorem w_2_6 : (Cond.fieldLink RX11 147 "SameKeeper$State" "week" "I") ∈ wsL_law := sk_mem (ck_2 _ (List.mem_of_getElem? (i := 6) rfl)) rfl
theorem w_5_23 : (Cond.code yX11_pass cX11_pass 4 none) ∈ wsL_law := sk_mem (ck_5 _ (List.mem_of_getElem? (i := 23) rfl)) rfl
set_option maxHeartbeats 4000000 in
set_option maxRecDepth 100000 in
theorem c_kx_pass (l : Launch) (D : va_G) (cI cJ cC cZ cS : ClassId) (x0 : Nat) (q : Nat → Nat) (hc : Int32) (dr : Int64) (dy : Nat) (wn : Nat) (mo : Nat) (ke : Nat) (mu : Int32) (fb : Nat → Int32) (fw : Nat → Int32) (ac : Nat) (lst : Nat) (p1 : Nat → Int32) (p2 : Nat → Int64) (p3 : Nat → Int32) (ra : Nat → Int32) (x : Int64) (hdy : dy ≤ 9) (hdy1 : 1 ≤ dy) (hls : ra (dy - 1) = nI lst) (hls9 : lst ≤ 9) (hke : ke < 1000) (hwn : wn ≤ 999) : skM l yX11_pass cX11_pass 4 none 1 25 0 0 D (skT cI cJ cC cZ cS) [.ref x0, .long x] [(x0, .inr (11, [.ref (q 0), .ref (q 1), .ref (q 2), .ref (q 3), .ref (q 4), .ref (q 5), .ref (q 6), .ref (q 7), .ref (q 8), .ref (q 9), .ref (q 10), .ref (q 11), .ref (q 12), .ref (q 13), .ref (q 14), .int hc, .ref (q 16), .long dr])), (q 7, .inr (7, [.ref (q 33), .ref (q 34), .int (nI dy), .int (nI wn), .int (nI mo), .int mu, .int (nI ke)])), (q 9, .inr (4, [.ref (q 35), .int (nI ac), .ref (q 36), .ref (q 37), .ref (q 38)])), (q 36, .inl (cI, 1000, .inl p1)), (q 37, .inl (cJ, 1000, .inr (.inl p2))), (q 38, .inl (cI, 1000, .inl p3)), (q 12, .inl (cI, 9, .inl ra))] (skV D (skT cI cJ cC cZ cS) (fun (u : va_W) => ∃ (p1_ : Nat → Int32), ∃ (p2_ : Nat → Int64), ∃ (p3_ : Nat → Int32), p1_ = upd p1 ke (nI wn) ∧ p2_ = vp_updL p2 ke x ∧ p3_ = upd p3 ke (nI lst) ∧ u = [(x0, .inr (11, [.ref (q 0), .ref (q 1), .ref (q 2), .ref (q 3), .ref (q 4), .ref (q 5), .ref (q 6), .ref (q 7), .ref (q 8), .ref (q 9), .ref (q 10), .ref (q 11), .ref (q 12), .ref (q 13), .ref (q 14), .int hc, .ref (q 16), .long dr])), (q 7, .inr (7, [.ref (q 33), .ref (q 34), .int (nI dy), .int (nI (wn + 1)), .int (nI lst), .int mu, .int (nI (ke + 1))])), (q 9, .inr (4, [.ref (q 35), .int (nI ac), .ref (q 36), .ref (q 37), .ref (q 38)])), (q 36, .inl (cI, 1000, .inl p1_)), (q 37, .inl (cJ, 1000, .inr (.inl p2_))), (q 38, .inl (cI, 1000, .inl p3_)), (q 12, .inl (cI, 9, .inl ra))])) := by
  refine skM_of (by decide +kernel) (Nat.le_of_ble_eq_true rfl) ?_
  intro p e s m below meth c A ls E hP hD hl
  obtain ⟨hx, hb, hr, hml, hlocks, hin, hown, hts, hK, hA⟩ := E
  have hown : s.vm.findClass RX11 = some m.cls := hown
  have hS : va_S A s.heap s.heap [] := va_S.rf
  have hl : lv_has ls 4 [(0, .ref x0), (1, .long x)] := hl
  refine lv_aload_n hx hb dX11_pass_0 rfl (lv_at hl 0 rfl) ?_
  refine sk_get (v := .ref (q 12)) (C := RX11) (T := TX11) (N := 18) hx hb hts inlX11 hown hK hP 0 rfl rfl 12 (by decide) w_2_135 rfl dX11_pass_1 ?_
  refine lv_aload_n hx hb dX11_pass_4 rfl (lv_at hl 0 rfl) ?_
  refine sk_get (v := .ref (q 7)) (C := RX11) (T := TX11) (N := 18) hx hb hts inlX11 hown hK hP 0 rfl rfl 7 (by decide) w_2_130 rfl dX11_pass_5 ?_
  refine sk_get (v := .int (nI dy)) (C := RX7) (T := TX7) (N := 7) hx hb hts inlX7 hown hK hP 1 rfl rfl 2 (by decide) w_2_1 rfl dX11_pass_8 ?_
  refine lv_iconst (v := 1) hx hb dX11_pass_11 (by decide) ?_
  refine lv_isub hx hb dX11_pass_12 ?_
  refine sk_top (nI (dy - 1)) (nsub dy 1 (by omega)) ?_
  refine va_iald hx hb hK.1 hP 6 0 rfl rfl (vin (dy - 1) 9 (by omega) (by omega)) dX11_pass_13 ?_
  refine sk_top (nI lst) (by rw [nI_clamp (by omega)]; exact hls) ?_
  refine lv_istore_n (lv' := [(3, .int (nI lst)), (0, .ref x0), (1, .long x)]) hx hb dX11_pass_14 rfl hl (by decide) rfl (fun ls hl => ?_)
  refine lv_aload_n hx hb dX11_pass_15 rfl (lv_at hl 1 rfl) ?_
  refine sk_get (v := .ref (q 9)) (C := RX11) (T := TX11) (N := 18) hx hb hts inlX11 hown hK hP 0 rfl rfl 9 (by decide) w_2_132 rfl dX11_pass_16 ?_
  refine lv_aload_n hx hb dX11_pass_19 rfl (lv_at hl 1 rfl) ?_
  refine sk_get (v := .ref (q 7)) (C := RX11) (T := TX11) (N := 18) hx hb hts inlX11 hown hK hP 0 rfl rfl 7 (by decide) w_2_130 rfl dX11_pass_20 ?_
  refine lv_lload_n hx hb dX11_pass_23 rfl (lv_at hl 2 rfl) ?_
  refine lv_iload_n hx hb dX11_pass_24 rfl (lv_at hl 0 rfl) ?_
  refine sk_Vv (q0 := 0) (n := 3) (rest := []) (wr := [(x0, .inr (11, [.ref (q 0), .ref (q 1), .ref (q 2), .ref (q 3), .ref (q 4), .ref (q 5), .ref (q 6), .ref (q 7), .ref (q 8), .ref (q 9), .ref (q 10), .ref (q 11), .ref (q 12), .ref (q 13), .ref (q 14), .int hc, .ref (q 16), .long dr])), (q 12, .inl (cI, 9, .inl ra))]) ⟨hx, hb, hml, hown, hts⟩ hl.1 (c_kpast_keep l D cI cJ cC cZ cS q ac p1 p2 p3 dy wn mo ke mu fb fw x (nI lst) (by omega)) w_5_24 w_5_25 w_5_26 w_1_11 w_5_27 (by decide +kernel) ⟨⟨(Nat.le_of_ble_eq_true rfl), (Nat.le_of_ble_eq_true rfl)⟩, (Nat.le_of_ble_eq_true rfl), (Nat.le_of_ble_eq_true rfl)⟩ hK hP hD hS hA [2, 3, 4, 5, 1] [0, 6] rfl rfl (by decide +kernel) (by decide +kernel) (by decide +kernel) rfl rfl rfl rfl (Nat.le_of_ble_eq_true rfl) dX11_pass_25 (fun u H locs hw hP hD hS => ?_)
  obtain ⟨p1__1, p2__2, p3__3, hp1_4, hp2_5, hp3_6, rfl⟩ := hw
  have hP : va_P D vwCl [(x0, .inr (11, [.ref (q 0), .ref (q 1), .ref (q 2), .ref (q 3), .ref (q 4), .ref (q 5), .ref (q 6), .ref (q 7), .ref (q 8), .ref (q 9), .ref (q 10), .ref (q 11), .ref (q 12), .ref (q 13), .ref (q 14), .int hc, .ref (q 16), .long dr])), (q 12, .inl (cI, 9, .inl ra)), (q 9, .inr (4, [.ref (q 35), .int (nI ac), .ref (q 36), .ref (q 37), .ref (q 38)])), (q 36, .inl (cI, 1000, .inl p1__1)), (q 37, .inl (cJ, 1000, .inr (.inl p2__2))), (q 38, .inl (cI, 1000, .inl p3__3)), (q 7, .inr (7, [.ref (q 33), .ref (q 34), .int (nI dy), .int (nI wn), .int (nI mo), .int mu, .int (nI (ke + 1))]))] H := hP
  have hD : va_D A [(x0, .inr (11, [.ref (q 0), .ref (q 1), .ref (q 2), .ref (q 3), .ref (q 4), .ref (q 5), .ref (q 6), .ref (q 7), .ref (q 8), .ref (q 9), .ref (q 10), .ref (q 11), .ref (q 12), .ref (q 13), .ref (q 14), .int hc, .ref (q 16), .long dr])), (q 12, .inl (cI, 9, .inl ra)), (q 9, .inr (4, [.ref (q 35), .int (nI ac), .ref (q 36), .ref (q 37), .ref (q 38)])), (q 36, .inl (cI, 1000, .inl p1__1)), (q 37, .inl (cJ, 1000, .inr (.inl p2__2))), (q 38, .inl (cI, 1000, .inl p3__3)), (q 7, .inr (7, [.ref (q 33), .ref (q 34), .int (nI dy), .int (nI wn), .int (nI mo), .int mu, .int (nI (ke + 1))]))] := hD
  refine lv_aload_n hx hb dX11_pass_28 rfl (lv_at hl 1 rfl) ?_
  refine sk_get (v := .ref (q 7)) (C := RX11) (T := TX11) (N := 18) hx hb hts inlX11 hown hK hP 0 rfl rfl 7 (by decide) w_2_130 rfl dX11_pass_29 ?_
  refine lv_iload_n hx hb dX11_pass_32 rfl (lv_at hl 0 rfl) ?_
  refine sk_put (ws' := [(x0, .inr (11, [.ref (q 0), .ref (q 1), .ref (q 2), .ref (q 3), .ref (q 4), .ref (q 5), .ref (q 6), .ref (q 7), .ref (q 8), .ref (q 9), .ref (q 10), .ref (q 11), .ref (q 12), .ref (q 13), .ref (q 14), .int hc, .ref (q 16), .long dr])), (q 12, .inl (cI, 9, .inl ra)), (q 9, .inr (4, [.ref (q 35), .int (nI ac), .ref (q 36), .ref (q 37), .ref (q 38)])), (q 36, .inl (cI, 1000, .inl p1__1)), (q 37, .inl (cJ, 1000, .inr (.inl p2__2))), (q 38, .inl (cI, 1000, .inl p3__3)), (q 7, .inr (7, [.ref (q 33), .ref (q 34), .int (nI dy), .int (nI wn), .int (nI lst), .int mu, .int (nI (ke + 1))]))]) (C := RX7) (T := TX7) (N := 7) (v := .int (nI lst)) hx hb hts inlX7 tyX7 tyX7_ok nmX7 hown hK hP hD hS 6 rfl rfl 4 (by decide) w_2_10 rfl rfl rfl (Nat.le_of_ble_eq_true rfl) rfl dX11_pass_33 (fun H locs hP hD hS => ?_)
  refine lv_aload_n hx hb dX11_pass_36 rfl (lv_at hl 1 rfl) ?_
  refine sk_get (v := .ref (q 7)) (C := RX11) (T := TX11) (N := 18) hx hb hts inlX11 hown hK hP 0 rfl rfl 7 (by decide) w_2_130 rfl dX11_pass_37 ?_
  refine lv_dup hx hb dX11_pass_40 rfl ?_
  refine sk_get (v := .int (nI wn)) (C := RX7) (T := TX7) (N := 7) hx hb hts inlX7 hown hK hP 6 rfl rfl 3 (by decide) w_2_6 rfl dX11_pass_41 ?_
  refine lv_iconst (v := 1) hx hb dX11_pass_44 (by decide) ?_
  refine lv_iadd hx hb dX11_pass_45 ?_
  refine sk_top (nI (wn + 1)) (nI_add wn 1) ?_
  refine sk_put (ws' := [(x0, .inr (11, [.ref (q 0), .ref (q 1), .ref (q 2), .ref (q 3), .ref (q 4), .ref (q 5), .ref (q 6), .ref (q 7), .ref (q 8), .ref (q 9), .ref (q 10), .ref (q 11), .ref (q 12), .ref (q 13), .ref (q 14), .int hc, .ref (q 16), .long dr])), (q 12, .inl (cI, 9, .inl ra)), (q 9, .inr (4, [.ref (q 35), .int (nI ac), .ref (q 36), .ref (q 37), .ref (q 38)])), (q 36, .inl (cI, 1000, .inl p1__1)), (q 37, .inl (cJ, 1000, .inr (.inl p2__2))), (q 38, .inl (cI, 1000, .inl p3__3)), (q 7, .inr (7, [.ref (q 33), .ref (q 34), .int (nI dy), .int (nI (wn + 1)), .int (nI lst), .int mu, .int (nI (ke + 1))]))]) (C := RX7) (T := TX7) (N := 7) (v := .int (nI (wn + 1))) hx hb hts inlX7 tyX7 tyX7_ok nmX7 hown hK hP hD hS 6 rfl rfl 3 (by decide) w_2_6 rfl rfl rfl (Nat.le_of_ble_eq_true rfl) rfl dX11_pass_46 (fun H locs hP hD hS => ?_)
  have hP := hP.sub (ws' := [(x0, .inr (11, [.ref (q 0), .ref (q 1), .ref (q 2), .ref (q 3), .ref (q 4), .ref (q 5), .ref (q 6), .ref (q 7), .ref (q 8), .ref (q 9), .ref (q 10), .ref (q 11), .ref (q 12), .ref (q 13), .ref (q 14), .int hc, .ref (q 16), .long dr])), (q 7, .inr (7, [.ref (q 33), .ref (q 34), .int (nI dy), .int (nI (wn + 1)), .int (nI lst), .int mu, .int (nI (ke + 1))])), (q 9, .inr (4, [.ref (q 35), .int (nI ac), .ref (q 36), .ref (q 37), .ref (q 38)])), (q 36, .inl (cI, 1000, .inl p1__1)), (q 37, .inl (cJ, 1000, .inr (.inl p2__2))), (q 38, .inl (cI, 1000, .inl p3__3)), (q 12, .inl (cI, 9, .inl ra))]) [0, 6, 2, 3, 4, 5, 1] rfl
  have hD := hD.sub (ws' := [(x0, .inr (11, [.ref (q 0), .ref (q 1), .ref (q 2), .ref (q 3), .ref (q 4), .ref (q 5), .ref (q 6), .ref (q 7), .ref (q 8), .ref (q 9), .ref (q 10), .ref (q 11), .ref (q 12), .ref (q 13), .ref (q 14), .int hc, .ref (q 16), .long dr])), (q 7, .inr (7, [.ref (q 33), .ref (q 34), .int (nI dy), .int (nI (wn + 1)), .int (nI lst), .int mu, .int (nI (ke + 1))])), (q 9, .inr (4, [.ref (q 35), .int (nI ac), .ref (q 36), .ref (q 37), .ref (q 38)])), (q 36, .inl (cI, 1000, .inl p1__1)), (q 37, .inl (cJ, 1000, .inr (.inl p2__2))), (q 38, .inl (cI, 1000, .inl p3__3)), (q 12, .inl (cI, 9, .inl ra))]) [0, 6, 2, 3, 4, 5, 1] (by decide +kernel) rfl
  exact sk_vret hx hb hr hlocks hK hP hD hS (⟨p1__1, p2__2, p3__3, hp1_4, hp2_5, hp3_6, rfl⟩) (Nat.le_of_ble_eq_true rfl) (Nat.le_of_ble_eq_true rfl) dX11_pass_49
