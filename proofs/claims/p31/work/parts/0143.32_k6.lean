theorem dX4_ofKept_18 : decode cX4_ofKept 18 = .ok (.tableswitch 49 0 2 #[26, 34, 41], 26) := by decide +kernel
theorem dg_X4_ofKept_0_0 : bqL cX4_ofKept 0 [(0, [27]), (1, [155, 0, 12]), (4, [27]), (5, [42]), (6, [180, 0, 21]), (9, [190]), (10, [161, 0, 7]), (17, [28]), (44, [42]), (45, [180, 0, 21]), (48, [27]), (49, [46]), (50, [133]), (51, [173]), (52, [42]), (53, [180, 0, 25]), (56, [27]), (57, [47]), (58, [173]), (59, [42]), (60, [180, 0, 29]), (63, [27]), (64, [46]), (65, [133]), (66, [173]), (67, [20, 0, 49]), (70, [173])] = true := by decide +kernel
theorem dX4_ofKept_0 : decode cX4_ofKept 0 = .ok (.iload_n 1, 1) := q_iload_n1 (bat_get dg_X4_ofKept_0_0 0 rfl rfl)
theorem dX4_ofKept_1 : decode cX4_ofKept 1 = .ok (.ifCond .lt 12, 3) := q_ifCond_lt (bat_get dg_X4_ofKept_0_0 1 rfl rfl) rfl
theorem dX4_ofKept_4 : decode cX4_ofKept 4 = .ok (.iload_n 1, 1) := q_iload_n1 (bat_get dg_X4_ofKept_0_0 2 rfl rfl)
theorem dX4_ofKept_5 : decode cX4_ofKept 5 = .ok (.aload_n 0, 1) := q_aload_n0 (bat_get dg_X4_ofKept_0_0 3 rfl rfl)
theorem dX4_ofKept_6 : decode cX4_ofKept 6 = .ok (.getfield 21, 3) := q_getfield (bat_get dg_X4_ofKept_0_0 4 rfl rfl) rfl
theorem dX4_ofKept_9 : decode cX4_ofKept 9 = .ok (.arraylength, 1) := q_arraylength (bat_get dg_X4_ofKept_0_0 5 rfl rfl)
theorem dX4_ofKept_10 : decode cX4_ofKept 10 = .ok (.if_icmp .lt 7, 3) := q_if_icmp_lt (bat_get dg_X4_ofKept_0_0 6 rfl rfl) rfl
theorem dX4_ofKept_17 : decode cX4_ofKept 17 = .ok (.iload_n 2, 1) := q_iload_n2 (bat_get dg_X4_ofKept_0_0 7 rfl rfl)
theorem dX4_ofKept_44 : decode cX4_ofKept 44 = .ok (.aload_n 0, 1) := q_aload_n0 (bat_get dg_X4_ofKept_0_0 8 rfl rfl)
theorem dX4_ofKept_45 : decode cX4_ofKept 45 = .ok (.getfield 21, 3) := q_getfield (bat_get dg_X4_ofKept_0_0 9 rfl rfl) rfl
theorem dX4_ofKept_48 : decode cX4_ofKept 48 = .ok (.iload_n 1, 1) := q_iload_n1 (bat_get dg_X4_ofKept_0_0 10 rfl rfl)
theorem dX4_ofKept_49 : decode cX4_ofKept 49 = .ok (.iaload, 1) := q_iaload (bat_get dg_X4_ofKept_0_0 11 rfl rfl)
theorem dX4_ofKept_50 : decode cX4_ofKept 50 = .ok (.i2l, 1) := q_i2l (bat_get dg_X4_ofKept_0_0 12 rfl rfl)
theorem dX4_ofKept_51 : decode cX4_ofKept 51 = .ok (.lreturn, 1) := q_lreturn (bat_get dg_X4_ofKept_0_0 13 rfl rfl)
theorem dX4_ofKept_52 : decode cX4_ofKept 52 = .ok (.aload_n 0, 1) := q_aload_n0 (bat_get dg_X4_ofKept_0_0 14 rfl rfl)
theorem dX4_ofKept_53 : decode cX4_ofKept 53 = .ok (.getfield 25, 3) := q_getfield (bat_get dg_X4_ofKept_0_0 15 rfl rfl) rfl
theorem dX4_ofKept_56 : decode cX4_ofKept 56 = .ok (.iload_n 1, 1) := q_iload_n1 (bat_get dg_X4_ofKept_0_0 16 rfl rfl)
theorem dX4_ofKept_57 : decode cX4_ofKept 57 = .ok (.laload, 1) := q_laload (bat_get dg_X4_ofKept_0_0 17 rfl rfl)
theorem dX4_ofKept_58 : decode cX4_ofKept 58 = .ok (.lreturn, 1) := q_lreturn (bat_get dg_X4_ofKept_0_0 18 rfl rfl)
theorem dX4_ofKept_59 : decode cX4_ofKept 59 = .ok (.aload_n 0, 1) := q_aload_n0 (bat_get dg_X4_ofKept_0_0 19 rfl rfl)
theorem dX4_ofKept_60 : decode cX4_ofKept 60 = .ok (.getfield 29, 3) := q_getfield (bat_get dg_X4_ofKept_0_0 20 rfl rfl) rfl
theorem dX4_ofKept_63 : decode cX4_ofKept 63 = .ok (.iload_n 1, 1) := q_iload_n1 (bat_get dg_X4_ofKept_0_0 21 rfl rfl)
theorem dX4_ofKept_64 : decode cX4_ofKept 64 = .ok (.iaload, 1) := q_iaload (bat_get dg_X4_ofKept_0_0 22 rfl rfl)
theorem dX4_ofKept_65 : decode cX4_ofKept 65 = .ok (.i2l, 1) := q_i2l (bat_get dg_X4_ofKept_0_0 23 rfl rfl)
theorem dX4_ofKept_66 : decode cX4_ofKept 66 = .ok (.lreturn, 1) := q_lreturn (bat_get dg_X4_ofKept_0_0 24 rfl rfl)
theorem dX4_ofKept_67 : decode cX4_ofKept 67 = .ok (.ldc2_w 49, 3) := q_ldc2_w (bat_get dg_X4_ofKept_0_0 25 rfl rfl) rfl
theorem dX4_ofKept_70 : decode cX4_ofKept 70 = .ok (.lreturn, 1) := q_lreturn (bat_get dg_X4_ofKept_0_0 26 rfl rfl)
theorem w_4_34 : (Cond.constantLong RX4 49 (-1000000000000000)) ∈ wsL_law := sk_mem (ck_4 _ (List.mem_of_getElem? (i := 34) rfl)) rfl
theorem w_4_33 : (Cond.code yX4_ofKept cX4_ofKept 3 (some .long)) ∈ wsL_law := sk_mem (ck_4 _ (List.mem_of_getElem? (i := 33) rfl)) rfl
set_option maxHeartbeats 4000000 in
set_option maxRecDepth 100000 in
theorem c_kpast_ofKept (l : Launch) (D : va_G) (cI cJ cC cZ cS : ClassId) (q : Nat → Nat) (ac : Nat) (ke : Nat) (p1 : Nat → Int32) (p2 : Nat → Int64) (p3 : Nat → Int32) (k : Nat) (lg : KLg) (w : Int32) (kk : Nat) (hk : k < ke) (hke : ke < 1000) (hkk : kkO lg ke p1 p2 p3) (hlg : lgOk lg) (hkk2 : kk < min ke 30) (hkk3 : k = ke - min ke 30 + kk) : skM l yX4_ofKept cX4_ofKept 3 (some .long) 0 0 0 0 D (skT cI cJ cC cZ cS) [.ref (q 9), .int (nI k), .int w] [(q 9, .inr (4, [.ref (q 35), .int (nI ac), .ref (q 36), .ref (q 37), .ref (q 38)])), (q 36, .inl (cI, 1000, .inl p1)), (q 37, .inl (cJ, 1000, .inr (.inl p2))), (q 38, .inl (cI, 1000, .inl p3))] (skL D (skT cI cJ cC cZ cS) (fun (r : Int64) (u : va_W) => keptR lg ke (nI kk) w r ∧ u = [(q 9, .inr (4, [.ref (q 35), .int (nI ac), .ref (q 36), .ref (q 37), .ref (q 38)])), (q 36, .inl (cI, 1000, .inl p1)), (q 37, .inl (cJ, 1000, .inr (.inl p2))), (q 38, .inl (cI, 1000, .inl p3))])) := by
  refine skM_of pf_X4_ofKept (Nat.le_of_ble_eq_true rfl) ?_
  intro p e s m below meth c A ls E hP hD hl
  refine skE_el E (fun hx hb hr hml hlocks hin hown hts hK hA => ?_)
  have hown : s.vm.findClass RX4 = some m.cls := hown
  have hS : va_S A s.heap s.heap [] := va_S.rf
  have hl : lv_has ls 3 [(0, .ref (q 9)), (1, .int (nI k)), (2, .int w)] := hl
  refine lv_iload_n hx hb dX4_ofKept_0 rfl (lv_at hl 1 rfl) ?_
  refine lv_if_lt (tgt := 13) hx hb dX4_ofKept_1 (by decide) (fun c => absurd c (nI_pos (by omega))) (fun c_1 => ?_)
  refine lv_iload_n hx hb dX4_ofKept_4 rfl (lv_at hl 1 rfl) ?_
  refine lv_aload_n hx hb dX4_ofKept_5 rfl (lv_at hl 0 rfl) ?_
  refine sk_get (v := .ref (q 36)) (C := RX4) (T := TX4) (N := 5) hx hb hts inlX4 hown hK hP 0 rfl rfl 2 (by decide) w_2_43 rfl dX4_ofKept_6 ?_
  refine va_alen (v := 1000) hx hb hK.1 hP 1 0 rfl rfl rfl dX4_ofKept_9 ?_
  refine lv_icmp_lt (tgt := 17) hx hb dX4_ofKept_10 (by decide) (fun c_2 => ?_) (fun c => absurd ((nlt k 1000 (by omega) (by omega)).mpr (by omega)) c)
  refine lv_iload_n hx hb dX4_ofKept_17 rfl (lv_at hl 2 rfl) ?_
  by_cases g_3 : w = 0
  · refine lv_tableIn (off := 26) (tgt := 44) hx hb dX4_ofKept_18 (by rw [g_3]; decide) (by rw [g_3]; decide) (by rw [g_3]; rfl) (by decide) ?_
    refine lv_aload_n hx hb dX4_ofKept_44 rfl (lv_at hl 0 rfl) ?_
    refine sk_get (v := .ref (q 36)) (C := RX4) (T := TX4) (N := 5) hx hb hts inlX4 hown hK hP 0 rfl rfl 2 (by decide) w_2_43 rfl dX4_ofKept_45 ?_
    refine lv_iload_n hx hb dX4_ofKept_48 rfl (lv_at hl 1 rfl) ?_
    refine va_iald hx hb hK.1 hP 1 0 rfl rfl (vin k 1000 (by omega) (by omega)) dX4_ofKept_49 ?_
    refine sk_top (p1 k) (by rw [nI_clamp (by omega)]) ?_
    refine lv_i2l hx hb dX4_ofKept_50 rfl ?_
    exact sk_lret hx hb hr hlocks hK hP hD hS (⟨(by rw [g_3]; exact kept_0 hkk2 (hkk k hk).1 hkk3 (by have := (hlg k).1; omega)), rfl⟩) (Nat.le_of_ble_eq_true rfl) (Nat.le_of_ble_eq_true rfl) dX4_ofKept_51
  by_cases g_4 : w = 1
  · refine lv_tableIn (off := 34) (tgt := 52) hx hb dX4_ofKept_18 (by rw [g_4]; decide) (by rw [g_4]; decide) (by rw [g_4]; rfl) (by decide) ?_
    refine lv_aload_n hx hb dX4_ofKept_52 rfl (lv_at hl 0 rfl) ?_
    refine sk_get (v := .ref (q 37)) (C := RX4) (T := TX4) (N := 5) hx hb hts inlX4 hown hK hP 0 rfl rfl 3 (by decide) w_2_44 rfl dX4_ofKept_53 ?_
    refine lv_iload_n hx hb dX4_ofKept_56 rfl (lv_at hl 1 rfl) ?_
    refine va_lald hx hb hK.1 hP 2 1 rfl rfl (vin k 1000 (by omega) (by omega)) dX4_ofKept_57 ?_
    refine sk_topl (p2 k) (by rw [nI_clamp (by omega)]) ?_
    exact sk_lret hx hb hr hlocks hK hP hD hS (⟨(by rw [g_4]; exact kept_1 hkk2 (hkk k hk).2.1 hkk3), rfl⟩) (Nat.le_of_ble_eq_true rfl) (Nat.le_of_ble_eq_true rfl) dX4_ofKept_58
  by_cases g_5 : w = 2
  · refine lv_tableIn (off := 41) (tgt := 59) hx hb dX4_ofKept_18 (by rw [g_5]; decide) (by rw [g_5]; decide) (by rw [g_5]; rfl) (by decide) ?_
    refine lv_aload_n hx hb dX4_ofKept_59 rfl (lv_at hl 0 rfl) ?_
    refine sk_get (v := .ref (q 38)) (C := RX4) (T := TX4) (N := 5) hx hb hts inlX4 hown hK hP 0 rfl rfl 4 (by decide) w_2_45 rfl dX4_ofKept_60 ?_
    refine lv_iload_n hx hb dX4_ofKept_63 rfl (lv_at hl 1 rfl) ?_
    refine va_iald hx hb hK.1 hP 3 0 rfl rfl (vin k 1000 (by omega) (by omega)) dX4_ofKept_64 ?_
    refine sk_top (p3 k) (by rw [nI_clamp (by omega)]) ?_
    refine lv_i2l hx hb dX4_ofKept_65 rfl ?_
    exact sk_lret hx hb hr hlocks hK hP hD hS (⟨(by rw [g_5]; exact kept_2 hkk2 (hkk k hk).2.2 hkk3 (by have := (hlg k).2.2; omega)), rfl⟩) (Nat.le_of_ble_eq_true rfl) (Nat.le_of_ble_eq_true rfl) dX4_ofKept_66
  refine lv_tableOut (tgt := 67) hx hb dX4_ofKept_18 (sk_out (n := 2) (by intro k hk; rcases (show k = 0 ∨ k = 1 ∨ k = 2 by omega) with rfl | rfl | rfl <;> assumption)) (by decide) ?_
  refine lv_ldc2 (v := (-1000000000000000)) hx hb hown (hts _ w_4_34) dX4_ofKept_67 ?_
  exact sk_lret hx hb hr hlocks hK hP hD hS (⟨(kept_no2 (by assumption) (by assumption) (by assumption)), rfl⟩) (Nat.le_of_ble_eq_true rfl) (Nat.le_of_ble_eq_true rfl) dX4_ofKept_70
theorem dg_X11_kept_0_0 : bqL cX11_kept 0 [(0, [42]), (1, [180, 0, 69]), (4, [42]), (5, [180, 0, 59]), (8, [180, 0, 161]), (11, [182, 0, 164]), (14, [62]), (15, [27]), (16, [155, 0, 8]), (24, [20, 0, 198]), (27, [173]), (19, [27]), (20, [29]), (21, [161, 0, 7]), (28, [42]), (29, [180, 0, 69]), (32, [42]), (33, [180, 0, 59]), (36, [180, 0, 161]), (39, [29]), (40, [100]), (41, [27]), (42, [96]), (43, [28]), (44, [182, 0, 200]), (47, [173])] = true := by decide +kernel
theorem dX11_kept_0 : decode cX11_kept 0 = .ok (.aload_n 0, 1) := q_aload_n0 (bat_get dg_X11_kept_0_0 0 rfl rfl)
theorem dX11_kept_1 : decode cX11_kept 1 = .ok (.getfield 69, 3) := q_getfield (bat_get dg_X11_kept_0_0 1 rfl rfl) rfl
theorem dX11_kept_4 : decode cX11_kept 4 = .ok (.aload_n 0, 1) := q_aload_n0 (bat_get dg_X11_kept_0_0 2 rfl rfl)
theorem dX11_kept_5 : decode cX11_kept 5 = .ok (.getfield 59, 3) := q_getfield (bat_get dg_X11_kept_0_0 3 rfl rfl) rfl
theorem dX11_kept_8 : decode cX11_kept 8 = .ok (.getfield 161, 3) := q_getfield (bat_get dg_X11_kept_0_0 4 rfl rfl) rfl
theorem dX11_kept_11 : decode cX11_kept 11 = .ok (.invokevirtual 164, 3) := q_invokevirtual (bat_get dg_X11_kept_0_0 5 rfl rfl) rfl
theorem dX11_kept_14 : decode cX11_kept 14 = .ok (.istore_n 3, 1) := q_istore_n3 (bat_get dg_X11_kept_0_0 6 rfl rfl)
theorem dX11_kept_15 : decode cX11_kept 15 = .ok (.iload_n 1, 1) := q_iload_n1 (bat_get dg_X11_kept_0_0 7 rfl rfl)
theorem dX11_kept_16 : decode cX11_kept 16 = .ok (.ifCond .lt 8, 3) := q_ifCond_lt (bat_get dg_X11_kept_0_0 8 rfl rfl) rfl
theorem dX11_kept_24 : decode cX11_kept 24 = .ok (.ldc2_w 198, 3) := q_ldc2_w (bat_get dg_X11_kept_0_0 9 rfl rfl) rfl
theorem dX11_kept_27 : decode cX11_kept 27 = .ok (.lreturn, 1) := q_lreturn (bat_get dg_X11_kept_0_0 10 rfl rfl)
theorem dX11_kept_19 : decode cX11_kept 19 = .ok (.iload_n 1, 1) := q_iload_n1 (bat_get dg_X11_kept_0_0 11 rfl rfl)
theorem dX11_kept_20 : decode cX11_kept 20 = .ok (.iload_n 3, 1) := q_iload_n3 (bat_get dg_X11_kept_0_0 12 rfl rfl)
theorem dX11_kept_21 : decode cX11_kept 21 = .ok (.if_icmp .lt 7, 3) := q_if_icmp_lt (bat_get dg_X11_kept_0_0 13 rfl rfl) rfl
theorem dX11_kept_28 : decode cX11_kept 28 = .ok (.aload_n 0, 1) := q_aload_n0 (bat_get dg_X11_kept_0_0 14 rfl rfl)
theorem dX11_kept_29 : decode cX11_kept 29 = .ok (.getfield 69, 3) := q_getfield (bat_get dg_X11_kept_0_0 15 rfl rfl) rfl
theorem dX11_kept_32 : decode cX11_kept 32 = .ok (.aload_n 0, 1) := q_aload_n0 (bat_get dg_X11_kept_0_0 16 rfl rfl)
theorem dX11_kept_33 : decode cX11_kept 33 = .ok (.getfield 59, 3) := q_getfield (bat_get dg_X11_kept_0_0 17 rfl rfl) rfl
theorem dX11_kept_36 : decode cX11_kept 36 = .ok (.getfield 161, 3) := q_getfield (bat_get dg_X11_kept_0_0 18 rfl rfl) rfl
theorem dX11_kept_39 : decode cX11_kept 39 = .ok (.iload_n 3, 1) := q_iload_n3 (bat_get dg_X11_kept_0_0 19 rfl rfl)
theorem dX11_kept_40 : decode cX11_kept 40 = .ok (.isub, 1) := q_isub (bat_get dg_X11_kept_0_0 20 rfl rfl)
theorem dX11_kept_41 : decode cX11_kept 41 = .ok (.iload_n 1, 1) := q_iload_n1 (bat_get dg_X11_kept_0_0 21 rfl rfl)
theorem dX11_kept_42 : decode cX11_kept 42 = .ok (.iadd, 1) := q_iadd (bat_get dg_X11_kept_0_0 22 rfl rfl)
theorem dX11_kept_43 : decode cX11_kept 43 = .ok (.iload_n 2, 1) := q_iload_n2 (bat_get dg_X11_kept_0_0 23 rfl rfl)
theorem dX11_kept_44 : decode cX11_kept 44 = .ok (.invokevirtual 200, 3) := q_invokevirtual (bat_get dg_X11_kept_0_0 24 rfl rfl) rfl
theorem dX11_kept_47 : decode cX11_kept 47 = .ok (.lreturn, 1) := q_lreturn (bat_get dg_X11_kept_0_0 25 rfl rfl)
theorem w_4_29 : (Cond.constantLong RX11 198 (-1000000000000000)) ∈ wsL_law := sk_mem (ck_4 _ (List.mem_of_getElem? (i := 29) rfl)) rfl
theorem w_4_30 : (Cond.methodLink RX11 200 yX4_ofKept) ∈ wsL_law := sk_mem (ck_4 _ (List.mem_of_getElem? (i := 30) rfl)) rfl
theorem w_4_31 : (Cond.instanceMethod yX4_ofKept) ∈ wsL_law := sk_mem (ck_4 _ (List.mem_of_getElem? (i := 31) rfl)) rfl
theorem w_4_32 : (Cond.selects RX4 yX4_ofKept yX4_ofKept) ∈ wsL_law := sk_mem (ck_4 _ (List.mem_of_getElem? (i := 32) rfl)) rfl
theorem w_4_28 : (Cond.code yX11_kept cX11_kept 4 (some .long)) ∈ wsL_law := sk_mem (ck_4 _ (List.mem_of_getElem? (i := 28) rfl)) rfl
def om_6_f : List Bool := false :: false :: true :: true :: true :: true :: []
theorem hd_X4_ofKept_2 : skD yX4_ofKept 2 := by decide +kernel
set_option maxHeartbeats 4000000 in
set_option maxRecDepth 100000 in
theorem c_ky_kept (l : Launch) (D : va_G) (cI cJ cC cZ cS : ClassId) (x0 : Nat) (q : Nat → Nat) (hc : Int32) (dr : Int64) (dy : Nat) (wn : Nat) (mo : Nat) (ke : Nat) (mu : Int32) (fb : Nat → Int32) (fw : Nat → Int32) (ac : Nat) (p1 : Nat → Int32) (p2 : Nat → Int64) (p3 : Nat → Int32) (lg : KLg) (k : Int32) (w : Int32) (hkk : kkO lg ke p1 p2 p3) (hlg : lgOk lg) (hke : ke < 1000) : skM l yX11_kept cX11_kept 4 (some .long) 2 42 0 0 D (skT cI cJ cC cZ cS) [.ref x0, .int k, .int w] [(x0, .inr (11, [.ref (q 0), .ref (q 1), .ref (q 2), .ref (q 3), .ref (q 4), .ref (q 5), .ref (q 6), .ref (q 7), .ref (q 8), .ref (q 9), .ref (q 10), .ref (q 11), .ref (q 12), .ref (q 13), .ref (q 14), .int hc, .ref (q 16), .long dr])), (q 7, .inr (7, [.ref (q 33), .ref (q 34), .int (nI dy), .int (nI wn), .int (nI mo), .int mu, .int (nI ke)])), (q 9, .inr (4, [.ref (q 35), .int (nI ac), .ref (q 36), .ref (q 37), .ref (q 38)])), (q 36, .inl (cI, 1000, .inl p1)), (q 37, .inl (cJ, 1000, .inr (.inl p2))), (q 38, .inl (cI, 1000, .inl p3))] (skL D (skT cI cJ cC cZ cS) (fun (r : Int64) (u : va_W) => keptR lg ke k w r ∧ u = [(x0, .inr (11, [.ref (q 0), .ref (q 1), .ref (q 2), .ref (q 3), .ref (q 4), .ref (q 5), .ref (q 6), .ref (q 7), .ref (q 8), .ref (q 9), .ref (q 10), .ref (q 11), .ref (q 12), .ref (q 13), .ref (q 14), .int hc, .ref (q 16), .long dr])), (q 7, .inr (7, [.ref (q 33), .ref (q 34), .int (nI dy), .int (nI wn), .int (nI mo), .int mu, .int (nI ke)])), (q 9, .inr (4, [.ref (q 35), .int (nI ac), .ref (q 36), .ref (q 37), .ref (q 38)])), (q 36, .inl (cI, 1000, .inl p1)), (q 37, .inl (cJ, 1000, .inr (.inl p2))), (q 38, .inl (cI, 1000, .inl p3))])) := by
  refine skM_of pf_X11_kept (Nat.le_of_ble_eq_true rfl) ?_
  intro p e s m below meth c A ls E hP hD hl
  refine skE_el E (fun hx hb hr hml hlocks hin hown hts hK hA => ?_)
  have hown : s.vm.findClass RX11 = some m.cls := hown
  have hS : va_S A s.heap s.heap [] := va_S.rf
  have hl : lv_has ls 4 [(0, .ref x0), (1, .int k), (2, .int w)] := hl
  refine lv_aload_n hx hb dX11_kept_0 rfl (lv_at hl 0 rfl) ?_
  refine sk_get (v := .ref (q 9)) (C := RX11) (T := TX11) (N := 18) hx hb hts inlX11 hown hK hP 0 rfl rfl 9 (by decide) w_2_132 rfl dX11_kept_1 ?_
  refine lv_aload_n hx hb dX11_kept_4 rfl (lv_at hl 0 rfl) ?_
  refine sk_get (v := .ref (q 7)) (C := RX11) (T := TX11) (N := 18) hx hb hts inlX11 hown hK hP 0 rfl rfl 7 (by decide) w_2_130 rfl dX11_kept_5 ?_
  refine sk_get (v := .int (nI ke)) (C := RX7) (T := TX7) (N := 7) hx hb hts inlX7 hown hK hP 1 rfl rfl 6 (by decide) w_2_15 rfl dX11_kept_8 ?_
  refine sk_Vi (q0 := 0) (n := 1) (rest := []) (wr := fmR om_6_8 _) ⟨hx, hb, hml, hown, hts⟩ hl.1 (c_kpast_toldOf l D cI cJ cC cZ cS q ac ke (by omega)) w_3_179 w_3_180 w_3_181 w_1_11 w_3_182 hd_X4_toldOf_1 ⟨⟨(Nat.le_of_ble_eq_true rfl), (Nat.le_of_ble_eq_true rfl)⟩, (Nat.le_of_ble_eq_true rfl), (Nat.le_of_ble_eq_true rfl)⟩ hK hP hD hS hA (fmT om_6_8 0) (fmF om_6_8 0) (fm_C1 rfl rfl) (fm_R rfl rfl) (fm_nT om_6_8 0) (fm_nF om_6_8 0) (fm_di om_6_8 0) rfl rfl rfl rfl (Nat.le_of_ble_eq_true rfl) dX11_kept_11 (fun r_1 u H locs hw hP hD hS => ?_)
  refine anE hw (fun er_3 eu_2 => ?_)
  clear hw
  subst er_3
  refine o_mgE (ws' := [(x0, .inr (11, [.ref (q 0), .ref (q 1), .ref (q 2), .ref (q 3), .ref (q 4), .ref (q 5), .ref (q 6), .ref (q 7), .ref (q 8), .ref (q 9), .ref (q 10), .ref (q 11), .ref (q 12), .ref (q 13), .ref (q 14), .int hc, .ref (q 16), .long dr])), (q 7, .inr (7, [.ref (q 33), .ref (q 34), .int (nI dy), .int (nI wn), .int (nI mo), .int mu, .int (nI ke)])), (q 9, .inr (4, [.ref (q 35), .int (nI ac), .ref (q 36), .ref (q 37), .ref (q 38)])), (q 36, .inl (cI, 1000, .inl p1)), (q 37, .inl (cJ, 1000, .inr (.inl p2))), (q 38, .inl (cI, 1000, .inl p3))]) eu_2 hP hD rfl (fun hP hD => ?_)
  refine lv_istore_n (lv' := [(3, .int (nI (min ke 30))), (0, .ref x0), (1, .int k), (2, .int w)]) hx hb dX11_kept_14 rfl hl (by decide) rfl (fun ls hl => ?_)
  refine lv_iload_n hx hb dX11_kept_15 rfl (lv_at hl 2 rfl) ?_
  refine lv_if_lt (tgt := 24) hx hb dX11_kept_16 (by decide) (fun c_4 => ?_) (fun c_4 => ?_)
  · skip
    refine lv_ldc2 (v := (-1000000000000000)) hx hb hown (hts _ w_4_29) dX11_kept_24 ?_
    exact sk_lret hx hb hr hlocks hK hP hD hS (⟨kept_no (kIn_neg c_4 (by omega)), rfl⟩) (Nat.le_of_ble_eq_true rfl) (Nat.le_of_ble_eq_true rfl) dX11_kept_27
  · obtain ⟨k_5, hk_5, rfl⟩ := nof k c_4
    refine lv_iload_n hx hb dX11_kept_19 rfl (lv_at hl 2 rfl) ?_
    refine lv_iload_n hx hb dX11_kept_20 rfl (lv_at hl 0 rfl) ?_
    refine lv_icmp_lt (tgt := 28) hx hb dX11_kept_21 (by decide) (fun c_6 => ?_) (fun c_6 => ?_)
    · have c_6 : k_5 < min ke 30 := (nlt k_5 (min ke 30) (by omega) (by omega)).mp c_6
      refine lv_aload_n hx hb dX11_kept_28 rfl (lv_at hl 1 rfl) ?_
      refine sk_get (v := .ref (q 9)) (C := RX11) (T := TX11) (N := 18) hx hb hts inlX11 hown hK hP 0 rfl rfl 9 (by decide) w_2_132 rfl dX11_kept_29 ?_
      refine lv_aload_n hx hb dX11_kept_32 rfl (lv_at hl 1 rfl) ?_
      refine sk_get (v := .ref (q 7)) (C := RX11) (T := TX11) (N := 18) hx hb hts inlX11 hown hK hP 0 rfl rfl 7 (by decide) w_2_130 rfl dX11_kept_33 ?_
      refine sk_get (v := .int (nI ke)) (C := RX7) (T := TX7) (N := 7) hx hb hts inlX7 hown hK hP 1 rfl rfl 6 (by decide) w_2_15 rfl dX11_kept_36 ?_
      refine lv_iload_n hx hb dX11_kept_39 rfl (lv_at hl 0 rfl) ?_
      refine lv_isub hx hb dX11_kept_40 ?_
      refine sk_top (nI (ke - (min ke 30))) (nsub ke (min ke 30) (by omega)) ?_
      refine lv_iload_n hx hb dX11_kept_41 rfl (lv_at hl 2 rfl) ?_
      refine lv_iadd hx hb dX11_kept_42 ?_
      refine sk_top (nI (ke - (min ke 30) + k_5)) (nI_add (ke - (min ke 30)) k_5) ?_
      refine lv_iload_n hx hb dX11_kept_43 rfl (lv_at hl 3 rfl) ?_
      refine sk_Vl (q0 := 0) (n := 2) (rest := []) (wr := fmR om_6_f _) ⟨hx, hb, hml, hown, hts⟩ hl.1 (c_kpast_ofKept l D cI cJ cC cZ cS q ac ke p1 p2 p3 (ke - (min ke 30) + k_5) lg w k_5 (by omega) hke hkk hlg (by omega) rfl) w_4_30 w_4_31 w_4_32 w_1_11 w_4_33 hd_X4_ofKept_2 ⟨⟨(Nat.le_of_ble_eq_true rfl), (Nat.le_of_ble_eq_true rfl)⟩, (Nat.le_of_ble_eq_true rfl), (Nat.le_of_ble_eq_true rfl)⟩ hK hP hD hS hA (fmT om_6_f 0) (fmF om_6_f 0) (fm_C1 rfl rfl) (fm_R rfl rfl) (fm_nT om_6_f 0) (fm_nF om_6_f 0) (fm_di om_6_f 0) rfl rfl rfl rfl (Nat.le_of_ble_eq_true rfl) dX11_kept_44 (fun r_7 u H locs hw hP hD hS => ?_)
      refine anE hw (fun hkp_8 eu_9 => ?_)
      clear hw
      refine o_mgE (ws' := [(x0, .inr (11, [.ref (q 0), .ref (q 1), .ref (q 2), .ref (q 3), .ref (q 4), .ref (q 5), .ref (q 6), .ref (q 7), .ref (q 8), .ref (q 9), .ref (q 10), .ref (q 11), .ref (q 12), .ref (q 13), .ref (q 14), .int hc, .ref (q 16), .long dr])), (q 7, .inr (7, [.ref (q 33), .ref (q 34), .int (nI dy), .int (nI wn), .int (nI mo), .int mu, .int (nI ke)])), (q 9, .inr (4, [.ref (q 35), .int (nI ac), .ref (q 36), .ref (q 37), .ref (q 38)])), (q 36, .inl (cI, 1000, .inl p1)), (q 37, .inl (cJ, 1000, .inr (.inl p2))), (q 38, .inl (cI, 1000, .inl p3))]) eu_9 hP hD rfl (fun hP hD => ?_)
      exact sk_lret hx hb hr hlocks hK hP hD hS (⟨hkp_8, rfl⟩) (Nat.le_of_ble_eq_true rfl) (Nat.le_of_ble_eq_true rfl) dX11_kept_47
    · have c_6 : ¬ (k_5 < min ke 30) := fun h => c_6 ((nlt k_5 (min ke 30) (by omega) (by omega)).mpr h)
      refine lv_ldc2 (v := (-1000000000000000)) hx hb hown (hts _ w_4_29) dX11_kept_24 ?_
      exact sk_lret hx hb hr hlocks hK hP hD hS (⟨kept_no (kIn_ge (by omega) (by omega)), rfl⟩) (Nat.le_of_ble_eq_true rfl) (Nat.le_of_ble_eq_true rfl) dX11_kept_27

