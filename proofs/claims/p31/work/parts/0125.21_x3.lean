theorem dX11_serves_26 : decode cX11_serves 26 = .ok (.lookupswitch 53 #[(1, 26), (2, 47)], 26) := by decide +kernel
theorem dg_X11_serves_0_0 : bqL cX11_serves 0 [(0, [42]), (1, [180, 0, 85]), (4, [42]), (5, [180, 0, 59]), (8, [28]), (9, [3]), (10, [182, 0, 230]), (13, [42]), (14, [180, 0, 85]), (17, [182, 0, 234]), (20, [154, 0, 5]), (25, [27]), (52, [42]), (53, [180, 0, 85]), (56, [29]), (57, [182, 1, 6]), (60, [4]), (61, [21, 4]), (63, [120]), (64, [160, 0, 7]), (71, [3]), (72, [172]), (67, [4]), (68, [167, 0, 4]), (73, [42]), (74, [28]), (75, [182, 1, 78]), (78, [172]), (79, [4]), (80, [172]), (23, [3]), (24, [172])] = true := by decide +kernel
theorem dX11_serves_0 : decode cX11_serves 0 = .ok (.aload_n 0, 1) := q_aload_n0 (bat_get dg_X11_serves_0_0 0 rfl rfl)
theorem dX11_serves_1 : decode cX11_serves 1 = .ok (.getfield 85, 3) := q_getfield (bat_get dg_X11_serves_0_0 1 rfl rfl) rfl
theorem dX11_serves_4 : decode cX11_serves 4 = .ok (.aload_n 0, 1) := q_aload_n0 (bat_get dg_X11_serves_0_0 2 rfl rfl)
theorem dX11_serves_5 : decode cX11_serves 5 = .ok (.getfield 59, 3) := q_getfield (bat_get dg_X11_serves_0_0 3 rfl rfl) rfl
theorem dX11_serves_8 : decode cX11_serves 8 = .ok (.iload_n 2, 1) := q_iload_n2 (bat_get dg_X11_serves_0_0 4 rfl rfl)
theorem dX11_serves_9 : decode cX11_serves 9 = .ok (.iconst 0, 1) := q_iconst0 (bat_get dg_X11_serves_0_0 5 rfl rfl)
theorem dX11_serves_10 : decode cX11_serves 10 = .ok (.invokevirtual 230, 3) := q_invokevirtual (bat_get dg_X11_serves_0_0 6 rfl rfl) rfl
theorem dX11_serves_13 : decode cX11_serves 13 = .ok (.aload_n 0, 1) := q_aload_n0 (bat_get dg_X11_serves_0_0 7 rfl rfl)
theorem dX11_serves_14 : decode cX11_serves 14 = .ok (.getfield 85, 3) := q_getfield (bat_get dg_X11_serves_0_0 8 rfl rfl) rfl
theorem dX11_serves_17 : decode cX11_serves 17 = .ok (.invokevirtual 234, 3) := q_invokevirtual (bat_get dg_X11_serves_0_0 9 rfl rfl) rfl
theorem dX11_serves_20 : decode cX11_serves 20 = .ok (.ifCond .ne 5, 3) := q_ifCond_ne (bat_get dg_X11_serves_0_0 10 rfl rfl) rfl
theorem dX11_serves_25 : decode cX11_serves 25 = .ok (.iload_n 1, 1) := q_iload_n1 (bat_get dg_X11_serves_0_0 11 rfl rfl)
theorem dX11_serves_52 : decode cX11_serves 52 = .ok (.aload_n 0, 1) := q_aload_n0 (bat_get dg_X11_serves_0_0 12 rfl rfl)
theorem dX11_serves_53 : decode cX11_serves 53 = .ok (.getfield 85, 3) := q_getfield (bat_get dg_X11_serves_0_0 13 rfl rfl) rfl
theorem dX11_serves_56 : decode cX11_serves 56 = .ok (.iload_n 3, 1) := q_iload_n3 (bat_get dg_X11_serves_0_0 14 rfl rfl)
theorem dX11_serves_57 : decode cX11_serves 57 = .ok (.invokevirtual 262, 3) := q_invokevirtual (bat_get dg_X11_serves_0_0 15 rfl rfl) rfl
theorem dX11_serves_60 : decode cX11_serves 60 = .ok (.iconst 1, 1) := q_iconst1 (bat_get dg_X11_serves_0_0 16 rfl rfl)
theorem dX11_serves_61 : decode cX11_serves 61 = .ok (.iload 4, 2) := q_iload (bat_get dg_X11_serves_0_0 17 rfl rfl)
theorem dX11_serves_63 : decode cX11_serves 63 = .ok (.ishl, 1) := q_ishl (bat_get dg_X11_serves_0_0 18 rfl rfl)
theorem dX11_serves_64 : decode cX11_serves 64 = .ok (.if_icmp .ne 7, 3) := q_if_icmp_ne (bat_get dg_X11_serves_0_0 19 rfl rfl) rfl
theorem dX11_serves_71 : decode cX11_serves 71 = .ok (.iconst 0, 1) := q_iconst0 (bat_get dg_X11_serves_0_0 20 rfl rfl)
theorem dX11_serves_72 : decode cX11_serves 72 = .ok (.ireturn, 1) := q_ireturn (bat_get dg_X11_serves_0_0 21 rfl rfl)
theorem dX11_serves_67 : decode cX11_serves 67 = .ok (.iconst 1, 1) := q_iconst1 (bat_get dg_X11_serves_0_0 22 rfl rfl)
theorem dX11_serves_68 : decode cX11_serves 68 = .ok (.goto 4, 3) := q_goto (bat_get dg_X11_serves_0_0 23 rfl rfl) rfl
theorem dX11_serves_73 : decode cX11_serves 73 = .ok (.aload_n 0, 1) := q_aload_n0 (bat_get dg_X11_serves_0_0 24 rfl rfl)
theorem dX11_serves_74 : decode cX11_serves 74 = .ok (.iload_n 2, 1) := q_iload_n2 (bat_get dg_X11_serves_0_0 25 rfl rfl)
theorem dX11_serves_75 : decode cX11_serves 75 = .ok (.invokevirtual 334, 3) := q_invokevirtual (bat_get dg_X11_serves_0_0 26 rfl rfl) rfl
theorem dX11_serves_78 : decode cX11_serves 78 = .ok (.ireturn, 1) := q_ireturn (bat_get dg_X11_serves_0_0 27 rfl rfl)
theorem dX11_serves_79 : decode cX11_serves 79 = .ok (.iconst 1, 1) := q_iconst1 (bat_get dg_X11_serves_0_0 28 rfl rfl)
theorem dX11_serves_80 : decode cX11_serves 80 = .ok (.ireturn, 1) := q_ireturn (bat_get dg_X11_serves_0_0 29 rfl rfl)
theorem dX11_serves_23 : decode cX11_serves 23 = .ok (.iconst 0, 1) := q_iconst0 (bat_get dg_X11_serves_0_0 30 rfl rfl)
theorem dX11_serves_24 : decode cX11_serves 24 = .ok (.ireturn, 1) := q_ireturn (bat_get dg_X11_serves_0_0 31 rfl rfl)
theorem w_4_104 : (Cond.methodLink RX11 262 yX1_moodsOf) ∈ wsL_law := sk_mem (ck_4 _ (List.mem_of_getElem? (i := 104) rfl)) rfl
theorem w_4_105 : (Cond.instanceMethod yX1_moodsOf) ∈ wsL_law := sk_mem (ck_4 _ (List.mem_of_getElem? (i := 105) rfl)) rfl
theorem w_4_106 : (Cond.selects RX1 yX1_moodsOf yX1_moodsOf) ∈ wsL_law := sk_mem (ck_4 _ (List.mem_of_getElem? (i := 106) rfl)) rfl
theorem w_4_108 : (Cond.methodLink RX11 334 yX11_isAtRest) ∈ wsL_law := sk_mem (ck_4 _ (List.mem_of_getElem? (i := 108) rfl)) rfl
theorem w_4_110 : (Cond.instanceMethod yX11_isAtRest) ∈ wsL_law := sk_mem (ck_4 _ (List.mem_of_getElem? (i := 110) rfl)) rfl
theorem w_0_24 : (Cond.selects RX11 yX11_isAtRest yX11_isAtRest) ∈ wsL_law := sk_mem (ck_0 _ (List.mem_of_getElem? (i := 24) rfl)) rfl
theorem w_4_103 : (Cond.code yX11_serves cX11_serves 5 (some .boolean)) ∈ wsL_law := sk_mem (ck_4 _ (List.mem_of_getElem? (i := 103) rfl)) rfl
def om_17_1ffff : List Bool := true :: true :: true :: true :: true :: true :: true :: true :: true :: true :: true :: true :: true :: true :: true :: true :: true :: []
theorem hd_X1_moodsOf_1 : skD yX1_moodsOf 1 := by decide +kernel
theorem hd_X11_isAtRest_1 : skD yX11_isAtRest 1 := by decide +kernel
set_option maxHeartbeats 4000000 in
set_option maxRecDepth 100000 in
theorem c_x_serves (l : Launch) (D : va_G) (cI cJ cC cZ cS : ClassId) (x0 : Nat) (q : Nat → Nat) (hc : Int32) (dr : Int64) (sa : Nat → Nat) (ft : Nat → Int32) (fa : Nat → Int32) (fo : Nat → Int32) (fg : Nat → Int64) (fk : Nat → Int32) (dy : Nat) (mo : Nat) (wk : Int32) (mu : Int32) (ke : Int32) (fb : Nat → Int32) (fw : Nat → Int32) (gd : Nat) (gs : Nat) (e1 : Nat → Int32) (e2 : Nat → Int32) (e3 : Nat → Int32) (ra : Nat → Int32) (rc : Nat → Int32) (d : Nat) (a1 : Int32) (o : Int32) (w : Int32) (hsa : ∀ j, sa j ≤ 9) (hdy : dy ≤ 9) (hmo : mo ≤ 9) (hgd : gd ≤ 9) (hgs : gs ≤ 9) (hd : d < 9) : skM l yX11_serves cX11_serves 5 (some .boolean) 3 75 0 0 D (skT cI cJ cC cZ cS) [.ref x0, .int a1, .int o, .int (nI d), .int w] [(x0, .inr (11, [.ref (q 0), .ref (q 1), .ref (q 2), .ref (q 3), .ref (q 4), .ref (q 5), .ref (q 6), .ref (q 7), .ref (q 8), .ref (q 9), .ref (q 10), .ref (q 11), .ref (q 12), .ref (q 13), .ref (q 14), .int hc, .ref (q 16), .long dr])), (q 10, .inr (9, [.ref (q 61), .ref (q 62), .ref (q 63), .ref (q 64), .ref (q 65), .ref (q 66)])), (q 61, .inl (cI, 90, .inl (fun j => nI (sa j)))), (q 62, .inl (cI, 900, .inl ft)), (q 63, .inl (cI, 90, .inl fa)), (q 64, .inl (cI, 90, .inl fo)), (q 65, .inl (cJ, 90, .inr (.inl fg))), (q 66, .inl (cI, 9, .inl fk)), (q 7, .inr (7, [.ref (q 33), .ref (q 34), .int (nI dy), .int wk, .int (nI mo), .int mu, .int ke])), (q 33, .inl (cI, 9, .inl fb)), (q 34, .inl (cI, 9, .inl fw)), (q 11, .inr (1, [.ref (q 10), .ref (q 67), .ref (q 68), .ref (q 69), .ref (q 70), .ref (q 71), .ref (q 72), .int (nI gd), .int (nI gs)])), (q 67, .inl (cI, 90, .inl e1)), (q 68, .inl (cI, 9, .inl e2)), (q 69, .inl (cI, 10, .inl e3)), (q 12, .inl (cI, 9, .inl ra)), (q 13, .inl (cI, 9, .inl rc))] (skI D (skT cI cJ cC cZ cS) (fun (r : Int32) (u : va_W) => ∃ (gd2 : Nat), ∃ (gs2 : Nat), ∃ (b : Nat), ∃ (g1 : Nat → Int32), ∃ (g2 : Nat → Int32), ∃ (g3 : Nat → Int32), ∃ (ra2 : Nat → Int32), ∃ (rc2 : Nat → Int32), gd2 ≤ 9 ∧ gs2 ≤ 9 ∧ b ≤ 1 ∧ r = nI b ∧ u = [(x0, .inr (11, [.ref (q 0), .ref (q 1), .ref (q 2), .ref (q 3), .ref (q 4), .ref (q 5), .ref (q 6), .ref (q 7), .ref (q 8), .ref (q 9), .ref (q 10), .ref (q 11), .ref (q 12), .ref (q 13), .ref (q 14), .int hc, .ref (q 16), .long dr])), (q 10, .inr (9, [.ref (q 61), .ref (q 62), .ref (q 63), .ref (q 64), .ref (q 65), .ref (q 66)])), (q 61, .inl (cI, 90, .inl (fun j => nI (sa j)))), (q 62, .inl (cI, 900, .inl ft)), (q 63, .inl (cI, 90, .inl fa)), (q 64, .inl (cI, 90, .inl fo)), (q 65, .inl (cJ, 90, .inr (.inl fg))), (q 66, .inl (cI, 9, .inl fk)), (q 7, .inr (7, [.ref (q 33), .ref (q 34), .int (nI dy), .int wk, .int (nI mo), .int mu, .int ke])), (q 33, .inl (cI, 9, .inl fb)), (q 34, .inl (cI, 9, .inl fw)), (q 11, .inr (1, [.ref (q 10), .ref (q 67), .ref (q 68), .ref (q 69), .ref (q 70), .ref (q 71), .ref (q 72), .int (nI gd2), .int (nI gs2)])), (q 67, .inl (cI, 90, .inl g1)), (q 68, .inl (cI, 9, .inl g2)), (q 69, .inl (cI, 10, .inl g3)), (q 12, .inl (cI, 9, .inl ra2)), (q 13, .inl (cI, 9, .inl rc2))])) := by
  refine skM_of pf_X11_serves (Nat.le_of_ble_eq_true rfl) ?_
  intro p e s m below meth c A ls E hP hD hl
  refine skE_el E (fun hx hb hr hml hlocks hin hown hts hK hA => ?_)
  have hown : s.vm.findClass RX11 = some m.cls := hown
  have hS : va_S A s.heap s.heap [] := va_S.rf
  have hl : lv_has ls 5 [(0, .ref x0), (1, .int a1), (2, .int o), (3, .int (nI d)), (4, .int w)] := hl
  refine lv_aload_n hx hb dX11_serves_0 rfl (lv_at hl 0 rfl) ?_
  refine sk_get (v := .ref (q 11)) (C := RX11) (T := TX11) (N := 18) hx hb hts inlX11 hown hK hP 0 rfl rfl 11 (by decide) w_2_134 rfl dX11_serves_1 ?_
  refine lv_aload_n hx hb dX11_serves_4 rfl (lv_at hl 0 rfl) ?_
  refine sk_get (v := .ref (q 7)) (C := RX11) (T := TX11) (N := 18) hx hb hts inlX11 hown hK hP 0 rfl rfl 7 (by decide) w_2_130 rfl dX11_serves_5 ?_
  refine lv_iload_n hx hb dX11_serves_8 rfl (lv_at hl 2 rfl) ?_
  refine lv_iconst (v := 0) hx hb dX11_serves_9 (by decide) ?_
  refine sk_Vv (q0 := 0) (n := 3) (rest := []) (wr := fmR om_17_f938 _) ⟨hx, hb, hml, hown, hts⟩ hl.1 (c_lay l D cI cJ cC cZ cS q gd gs e1 e2 sa ft fa fo (q 7) (q 33) (q 34) dy mo wk mu ke fb fw 0 o hsa (by omega) (by omega) (by omega)) w_4_47 w_4_48 w_4_49 w_1_13 w_4_50 hd_X1_lay_3 ⟨⟨(Nat.le_of_ble_eq_true rfl), (Nat.le_of_ble_eq_true rfl)⟩, (Nat.le_of_ble_eq_true rfl), (Nat.le_of_ble_eq_true rfl)⟩ hK hP hD hS hA [11, 12, 13, 1, 2, 3, 4, 5, 8] (fmF om_17_f938 0) rfl (fm_R rfl rfl) (by decide +kernel) (fm_nF om_17_f938 0) (by decide +kernel) rfl rfl rfl rfl (Nat.le_of_ble_eq_true rfl) dX11_serves_10 (fun u H locs hw hP hD hS => ?_)
  refine exE hw (fun g1_1 hw1 => exE hw1 (fun g2_2 eu_3 => ?_))
  clear hw hw1
  refine o_mgqE (ux := [(q 10, .inr (9, [.ref (q 61), .ref (q 62), .ref (q 63), .ref (q 64), .ref (q 65), .ref (q 66)])), (q 61, .inl (cI, 90, .inl (fun j => nI (sa j)))), (q 62, .inl (cI, 900, .inl ft)), (q 63, .inl (cI, 90, .inl fa)), (q 64, .inl (cI, 90, .inl fo)), (q 7, .inr (7, [.ref (q 33), .ref (q 34), .int (nI dy), .int wk, .int (nI mo), .int mu, .int ke])), (q 11, .inr (1, [.ref (q 10), .ref (q 67), .ref (q 68), .ref (q 69), .ref (q 70), .ref (q 71), .ref (q 72), .int (nI dy), .int (nI mo)])), (q 67, .inl (cI, 90, .inl g1_1)), (q 68, .inl (cI, 9, .inl g2_2))]) (ws' := [(x0, .inr (11, [.ref (q 0), .ref (q 1), .ref (q 2), .ref (q 3), .ref (q 4), .ref (q 5), .ref (q 6), .ref (q 7), .ref (q 8), .ref (q 9), .ref (q 10), .ref (q 11), .ref (q 12), .ref (q 13), .ref (q 14), .int hc, .ref (q 16), .long dr])), (q 10, .inr (9, [.ref (q 61), .ref (q 62), .ref (q 63), .ref (q 64), .ref (q 65), .ref (q 66)])), (q 61, .inl (cI, 90, .inl (fun j => nI (sa j)))), (q 62, .inl (cI, 900, .inl ft)), (q 63, .inl (cI, 90, .inl fa)), (q 64, .inl (cI, 90, .inl fo)), (q 65, .inl (cJ, 90, .inr (.inl fg))), (q 66, .inl (cI, 9, .inl fk)), (q 7, .inr (7, [.ref (q 33), .ref (q 34), .int (nI dy), .int wk, .int (nI mo), .int mu, .int ke])), (q 33, .inl (cI, 9, .inl fb)), (q 34, .inl (cI, 9, .inl fw)), (q 11, .inr (1, [.ref (q 10), .ref (q 67), .ref (q 68), .ref (q 69), .ref (q 70), .ref (q 71), .ref (q 72), .int (nI dy), .int (nI mo)])), (q 67, .inl (cI, 90, .inl g1_1)), (q 68, .inl (cI, 9, .inl g2_2)), (q 69, .inl (cI, 10, .inl e3)), (q 12, .inl (cI, 9, .inl ra)), (q 13, .inl (cI, 9, .inl rc))]) eu_3 [3, 4, 5, 6, 7, 8, 0, 1, 2] (by decide +kernel) rfl hP hD rfl (fun hP hD => ?_)
  refine lv_aload_n hx hb dX11_serves_13 rfl (lv_at hl 0 rfl) ?_
  refine sk_get (v := .ref (q 11)) (C := RX11) (T := TX11) (N := 18) hx hb hts inlX11 hown hK hP 0 rfl rfl 11 (by decide) w_2_134 rfl dX11_serves_14 ?_
  refine sk_Vi (q0 := 0) (n := 0) (rest := []) (wr := fmR om_17_3c _) ⟨hx, hb, hml, hown, hts⟩ hl.1 (c_settle l D cI cJ cC cZ cS q dy mo g1_1 g2_2 e3 (by omega) (by omega)) w_4_53 w_4_54 w_4_55 w_1_13 w_4_56 hd_X1_settle_0 ⟨⟨(Nat.le_of_ble_eq_true rfl), (Nat.le_of_ble_eq_true rfl)⟩, (Nat.le_of_ble_eq_true rfl), (Nat.le_of_ble_eq_true rfl)⟩ hK hP hD hS hA (fmT om_17_3c 0) (fmF om_17_3c 0) (fm_C1 rfl rfl) (fm_R rfl rfl) (fm_nT om_17_3c 0) (fm_nF om_17_3c 0) (fm_di om_17_3c 0) rfl rfl rfl rfl (Nat.le_of_ble_eq_true rfl) dX11_serves_17 (fun r_6 u H locs hw hP hD hS => ?_)
  refine exE hw (fun b_4 hw1 => exE hw1 (fun g3_5 hw2 => anE hw2 (fun hb1_7 hw3 => anE hw3 (fun er_9 eu_8 => ?_))))
  clear hw hw1 hw2 hw3
  subst er_9
  refine o_mgE (ws' := [(x0, .inr (11, [.ref (q 0), .ref (q 1), .ref (q 2), .ref (q 3), .ref (q 4), .ref (q 5), .ref (q 6), .ref (q 7), .ref (q 8), .ref (q 9), .ref (q 10), .ref (q 11), .ref (q 12), .ref (q 13), .ref (q 14), .int hc, .ref (q 16), .long dr])), (q 10, .inr (9, [.ref (q 61), .ref (q 62), .ref (q 63), .ref (q 64), .ref (q 65), .ref (q 66)])), (q 61, .inl (cI, 90, .inl (fun j => nI (sa j)))), (q 62, .inl (cI, 900, .inl ft)), (q 63, .inl (cI, 90, .inl fa)), (q 64, .inl (cI, 90, .inl fo)), (q 65, .inl (cJ, 90, .inr (.inl fg))), (q 66, .inl (cI, 9, .inl fk)), (q 7, .inr (7, [.ref (q 33), .ref (q 34), .int (nI dy), .int wk, .int (nI mo), .int mu, .int ke])), (q 33, .inl (cI, 9, .inl fb)), (q 34, .inl (cI, 9, .inl fw)), (q 11, .inr (1, [.ref (q 10), .ref (q 67), .ref (q 68), .ref (q 69), .ref (q 70), .ref (q 71), .ref (q 72), .int (nI dy), .int (nI mo)])), (q 67, .inl (cI, 90, .inl g1_1)), (q 68, .inl (cI, 9, .inl g2_2)), (q 69, .inl (cI, 10, .inl g3_5)), (q 12, .inl (cI, 9, .inl ra)), (q 13, .inl (cI, 9, .inl rc))]) eu_8 hP hD rfl (fun hP hD => ?_)
  refine lv_if_ne (tgt := 25) hx hb dX11_serves_20 (by decide) (fun c_10 => ?_) (fun c_10 => ?_)
  · have c_10 : ¬ (b_4 = 0) := fun h => c_10 ((neq b_4 0 (by omega) (by omega)).mpr h)
    refine lv_iload_n hx hb dX11_serves_25 rfl (lv_at hl 1 rfl) ?_
    by_cases g_11 : a1 = 1
    · refine lv_lookup (off := 26) (tgt := 52) hx hb dX11_serves_26 (by decide) (by rw [g_11]; decide) (by decide) ?_
      refine lv_aload_n hx hb dX11_serves_52 rfl (lv_at hl 0 rfl) ?_
      refine sk_get (v := .ref (q 11)) (C := RX11) (T := TX11) (N := 18) hx hb hts inlX11 hown hK hP 0 rfl rfl 11 (by decide) w_2_134 rfl dX11_serves_53 ?_
      refine lv_iload_n hx hb dX11_serves_56 rfl (lv_at hl 3 rfl) ?_
      refine sk_Vi (q0 := 0) (n := 1) (rest := []) (wr := fmR om_17_3c _) ⟨hx, hb, hml, hown, hts⟩ hl.1 (c_moodsOf l D cI cJ cC cZ cS q dy mo g1_1 g2_2 g3_5 d (by omega) (by omega) (by omega)) w_4_104 w_4_105 w_4_106 w_1_13 w_4_107 hd_X1_moodsOf_1 ⟨⟨(Nat.le_of_ble_eq_true rfl), (Nat.le_of_ble_eq_true rfl)⟩, (Nat.le_of_ble_eq_true rfl), (Nat.le_of_ble_eq_true rfl)⟩ hK hP hD hS hA (fmT om_17_3c 0) (fmF om_17_3c 0) (fm_C1 rfl rfl) (fm_R rfl rfl) (fm_nT om_17_3c 0) (fm_nF om_17_3c 0) (fm_di om_17_3c 0) rfl rfl rfl rfl (Nat.le_of_ble_eq_true rfl) dX11_serves_57 (fun r_12 u H locs hw hP hD hS => ?_)
      refine o_mgE (ws' := [(x0, .inr (11, [.ref (q 0), .ref (q 1), .ref (q 2), .ref (q 3), .ref (q 4), .ref (q 5), .ref (q 6), .ref (q 7), .ref (q 8), .ref (q 9), .ref (q 10), .ref (q 11), .ref (q 12), .ref (q 13), .ref (q 14), .int hc, .ref (q 16), .long dr])), (q 10, .inr (9, [.ref (q 61), .ref (q 62), .ref (q 63), .ref (q 64), .ref (q 65), .ref (q 66)])), (q 61, .inl (cI, 90, .inl (fun j => nI (sa j)))), (q 62, .inl (cI, 900, .inl ft)), (q 63, .inl (cI, 90, .inl fa)), (q 64, .inl (cI, 90, .inl fo)), (q 65, .inl (cJ, 90, .inr (.inl fg))), (q 66, .inl (cI, 9, .inl fk)), (q 7, .inr (7, [.ref (q 33), .ref (q 34), .int (nI dy), .int wk, .int (nI mo), .int mu, .int ke])), (q 33, .inl (cI, 9, .inl fb)), (q 34, .inl (cI, 9, .inl fw)), (q 11, .inr (1, [.ref (q 10), .ref (q 67), .ref (q 68), .ref (q 69), .ref (q 70), .ref (q 71), .ref (q 72), .int (nI dy), .int (nI mo)])), (q 67, .inl (cI, 90, .inl g1_1)), (q 68, .inl (cI, 9, .inl g2_2)), (q 69, .inl (cI, 10, .inl g3_5)), (q 12, .inl (cI, 9, .inl ra)), (q 13, .inl (cI, 9, .inl rc))]) hw hP hD rfl (fun hP hD => ?_)
      refine lv_iconst (v := 1) hx hb dX11_serves_60 (by decide) ?_
      refine lv_iload hx hb dX11_serves_61 (lv_at hl 4 rfl) ?_
      refine lv_ishl hx hb dX11_serves_63 ?_
      refine lv_topi (fun v_13 ev_13 => ?_)
      refine lv_icmp_ne (tgt := 71) hx hb dX11_serves_64 (by decide) (fun c_14 => ?_) (fun c_14 => ?_)
      · skip
        refine lv_iconst (v := 0) hx hb dX11_serves_71 (by decide) ?_
        exact sk_iret hx hb hr rfl hlocks hK hP hD hS (⟨dy, mo, 0, g1_1, g2_2, g3_5, ra, rc, by omega, by omega, by omega, rfl, rfl⟩) (Nat.le_of_ble_eq_true rfl) (Nat.le_of_ble_eq_true rfl) dX11_serves_72
      · skip
        refine lv_iconst (v := 1) hx hb dX11_serves_67 (by decide) ?_
        refine lv_goto (tgt := 72) hx hb dX11_serves_68 (by decide) ?_
        exact sk_iret hx hb hr rfl hlocks hK hP hD hS (⟨dy, mo, 1, g1_1, g2_2, g3_5, ra, rc, by omega, by omega, by omega, rfl, rfl⟩) (Nat.le_of_ble_eq_true rfl) (Nat.le_of_ble_eq_true rfl) dX11_serves_72
    by_cases g_15 : a1 = 2
    · refine lv_lookup (off := 47) (tgt := 73) hx hb dX11_serves_26 (by decide) (by rw [g_15]; decide) (by decide) ?_
      refine lv_aload_n hx hb dX11_serves_73 rfl (lv_at hl 0 rfl) ?_
      refine lv_iload_n hx hb dX11_serves_74 rfl (lv_at hl 2 rfl) ?_
      refine sk_Vi (q0 := 0) (n := 1) (rest := []) (wr := fmR om_17_1ffff _) ⟨hx, hb, hml, hown, hts⟩ hl.1 (c_x_isAtRest l D cI cJ cC cZ cS x0 q hc dr sa ft fa fo fg fk dy mo wk mu ke fb fw mo g1_1 g2_2 g3_5 ra rc o hsa (by omega) (by omega) (by omega)) w_4_108 w_4_110 w_0_24 w_1_1 w_4_111 hd_X11_isAtRest_1 ⟨⟨(Nat.le_of_ble_eq_true rfl), (Nat.le_of_ble_eq_true rfl)⟩, (Nat.le_of_ble_eq_true rfl), (Nat.le_of_ble_eq_true rfl)⟩ hK hP hD hS hA (fmT om_17_1ffff 0) (fmF om_17_1ffff 0) (fm_C1 rfl rfl) (fm_R rfl rfl) (fm_nT om_17_1ffff 0) (fm_nF om_17_1ffff 0) (fm_di om_17_1ffff 0) rfl rfl rfl rfl (Nat.le_of_ble_eq_true rfl) dX11_serves_75 (fun r_24 u H locs hw hP hD hS => ?_)
      refine exE hw (fun gd2_16 hw1 => exE hw1 (fun gs2_17 hw2 => exE hw2 (fun b_18 hw3 => exE hw3 (fun g1_19 hw4 => exE hw4 (fun g2_20 hw5 => exE hw5 (fun g3_21 hw6 => exE hw6 (fun ra2_22 hw7 => exE hw7 (fun rc2_23 hw8 => anE hw8 (fun hgd2_25 hw9 => anE hw9 (fun hgs2_26 hw10 => anE hw10 (fun hb1_27 hw11 => anE hw11 (fun er_29 eu_28 => ?_))))))))))))
      clear hw hw1 hw2 hw3 hw4 hw5 hw6 hw7 hw8 hw9 hw10 hw11
      subst er_29
      refine o_mgE (ws' := [(x0, .inr (11, [.ref (q 0), .ref (q 1), .ref (q 2), .ref (q 3), .ref (q 4), .ref (q 5), .ref (q 6), .ref (q 7), .ref (q 8), .ref (q 9), .ref (q 10), .ref (q 11), .ref (q 12), .ref (q 13), .ref (q 14), .int hc, .ref (q 16), .long dr])), (q 10, .inr (9, [.ref (q 61), .ref (q 62), .ref (q 63), .ref (q 64), .ref (q 65), .ref (q 66)])), (q 61, .inl (cI, 90, .inl (fun j => nI (sa j)))), (q 62, .inl (cI, 900, .inl ft)), (q 63, .inl (cI, 90, .inl fa)), (q 64, .inl (cI, 90, .inl fo)), (q 65, .inl (cJ, 90, .inr (.inl fg))), (q 66, .inl (cI, 9, .inl fk)), (q 7, .inr (7, [.ref (q 33), .ref (q 34), .int (nI dy), .int wk, .int (nI mo), .int mu, .int ke])), (q 33, .inl (cI, 9, .inl fb)), (q 34, .inl (cI, 9, .inl fw)), (q 11, .inr (1, [.ref (q 10), .ref (q 67), .ref (q 68), .ref (q 69), .ref (q 70), .ref (q 71), .ref (q 72), .int (nI gd2_16), .int (nI gs2_17)])), (q 67, .inl (cI, 90, .inl g1_19)), (q 68, .inl (cI, 9, .inl g2_20)), (q 69, .inl (cI, 10, .inl g3_21)), (q 12, .inl (cI, 9, .inl ra2_22)), (q 13, .inl (cI, 9, .inl rc2_23))]) eu_28 hP hD rfl (fun hP hD => ?_)
      exact sk_iret hx hb hr (nbool b_18 (by omega)) hlocks hK hP hD hS (⟨gd2_16, gs2_17, b_18, g1_19, g2_20, g3_21, ra2_22, rc2_23, by omega, by omega, by omega, rfl, rfl⟩) (Nat.le_of_ble_eq_true rfl) (Nat.le_of_ble_eq_true rfl) dX11_serves_78
    refine lv_lookup (off := 53) (tgt := 79) hx hb dX11_serves_26 (by decide) (by rw [lv_osw g_11 (by decide)]; rw [lv_osw g_15 (by decide)]; rfl) (by decide) ?_
    refine lv_iconst (v := 1) hx hb dX11_serves_79 (by decide) ?_
    exact sk_iret hx hb hr rfl hlocks hK hP hD hS (⟨dy, mo, 1, g1_1, g2_2, g3_5, ra, rc, by omega, by omega, by omega, rfl, rfl⟩) (Nat.le_of_ble_eq_true rfl) (Nat.le_of_ble_eq_true rfl) dX11_serves_80
  · have c_10 : b_4 = 0 := (neq b_4 0 (by omega) (by omega)).mp c_10
    refine lv_iconst (v := 0) hx hb dX11_serves_23 (by decide) ?_
    exact sk_iret hx hb hr rfl hlocks hK hP hD hS (⟨dy, mo, 0, g1_1, g2_2, g3_5, ra, rc, by omega, by omega, by omega, rfl, rfl⟩) (Nat.le_of_ble_eq_true rfl) (Nat.le_of_ble_eq_true rfl) dX11_serves_24

