theorem dg_X11_end_0_0 : bqL cX11_end 0 [(0, [27]), (1, [155, 0, 14]), (15, [42]), (16, [3]), (17, [182, 0, 120]), (20, [172]), (4, [27]), (5, [42]), (6, [180, 0, 12]), (9, [180, 0, 110]), (12, [164, 0, 9]), (21, [42]), (22, [180, 0, 12]), (25, [27]), (26, [181, 0, 110]), (29, [4]), (30, [172])] = true := by decide +kernel
theorem dX11_end_0 : decode cX11_end 0 = .ok (.iload_n 1, 1) := q_iload_n1 (bat_get dg_X11_end_0_0 0 rfl rfl)
theorem dX11_end_1 : decode cX11_end 1 = .ok (.ifCond .lt 14, 3) := q_ifCond_lt (bat_get dg_X11_end_0_0 1 rfl rfl) rfl
theorem dX11_end_15 : decode cX11_end 15 = .ok (.aload_n 0, 1) := q_aload_n0 (bat_get dg_X11_end_0_0 2 rfl rfl)
theorem dX11_end_16 : decode cX11_end 16 = .ok (.iconst 0, 1) := q_iconst0 (bat_get dg_X11_end_0_0 3 rfl rfl)
theorem dX11_end_17 : decode cX11_end 17 = .ok (.invokevirtual 120, 3) := q_invokevirtual (bat_get dg_X11_end_0_0 4 rfl rfl) rfl
theorem dX11_end_20 : decode cX11_end 20 = .ok (.ireturn, 1) := q_ireturn (bat_get dg_X11_end_0_0 5 rfl rfl)
theorem dX11_end_4 : decode cX11_end 4 = .ok (.iload_n 1, 1) := q_iload_n1 (bat_get dg_X11_end_0_0 6 rfl rfl)
theorem dX11_end_5 : decode cX11_end 5 = .ok (.aload_n 0, 1) := q_aload_n0 (bat_get dg_X11_end_0_0 7 rfl rfl)
theorem dX11_end_6 : decode cX11_end 6 = .ok (.getfield 12, 3) := q_getfield (bat_get dg_X11_end_0_0 8 rfl rfl) rfl
theorem dX11_end_9 : decode cX11_end 9 = .ok (.getfield 110, 3) := q_getfield (bat_get dg_X11_end_0_0 9 rfl rfl) rfl
theorem dX11_end_12 : decode cX11_end 12 = .ok (.if_icmp .le 9, 3) := q_if_icmp_le (bat_get dg_X11_end_0_0 10 rfl rfl) rfl
theorem dX11_end_21 : decode cX11_end 21 = .ok (.aload_n 0, 1) := q_aload_n0 (bat_get dg_X11_end_0_0 11 rfl rfl)
theorem dX11_end_22 : decode cX11_end 22 = .ok (.getfield 12, 3) := q_getfield (bat_get dg_X11_end_0_0 12 rfl rfl) rfl
theorem dX11_end_25 : decode cX11_end 25 = .ok (.iload_n 1, 1) := q_iload_n1 (bat_get dg_X11_end_0_0 13 rfl rfl)
theorem dX11_end_26 : decode cX11_end 26 = .ok (.putfield 110, 3) := q_putfield (bat_get dg_X11_end_0_0 14 rfl rfl) rfl
theorem dX11_end_29 : decode cX11_end 29 = .ok (.iconst 1, 1) := q_iconst1 (bat_get dg_X11_end_0_0 15 rfl rfl)
theorem dX11_end_30 : decode cX11_end 30 = .ok (.ireturn, 1) := q_ireturn (bat_get dg_X11_end_0_0 16 rfl rfl)
theorem w_2_198 : (Cond.methodLink RX11 120 yX11_refuseIt) ∈ wsL_law := sk_mem (ck_2 _ (List.mem_of_getElem? (i := 198) rfl)) rfl
theorem w_2_200 : (Cond.instanceMethod yX11_refuseIt) ∈ wsL_law := sk_mem (ck_2 _ (List.mem_of_getElem? (i := 200) rfl)) rfl
theorem w_0_1 : (Cond.selects RX11 yX11_refuseIt yX11_refuseIt) ∈ wsL_law := sk_mem (ck_0 _ (List.mem_of_getElem? (i := 1) rfl)) rfl
theorem w_2_197 : (Cond.code yX11_end cX11_end 2 (some .boolean)) ∈ wsL_law := sk_mem (ck_2 _ (List.mem_of_getElem? (i := 197) rfl)) rfl
theorem hd_X11_refuseIt_1 : skD yX11_refuseIt 1 := by decide +kernel
set_option maxHeartbeats 4000000 in
set_option maxRecDepth 100000 in
theorem c_ky_end (l : Launch) (D : va_G) (cI cJ cC cZ cS : ClassId) (x0 : Nat) (q : Nat → Nat) (hc : Int32) (dr : Int64) (tl : Nat) (tb : Nat → Nat) (rf : Nat → Int32) (n : Int32) (htl : tl ≤ 1600) (htb : ∀ j, tb j ≤ 255) : skM l yX11_end cX11_end 2 (some .boolean) 1 21 0 0 D (skT cI cJ cC cZ cS) [.ref x0, .int n] [(x0, .inr (11, [.ref (q 0), .ref (q 1), .ref (q 2), .ref (q 3), .ref (q 4), .ref (q 5), .ref (q 6), .ref (q 7), .ref (q 8), .ref (q 9), .ref (q 10), .ref (q 11), .ref (q 12), .ref (q 13), .ref (q 14), .int hc, .ref (q 16), .long dr])), (q 0, .inr (10, [.ref (q 20), .int (nI tl)])), (q 20, .inl (cI, 1600, .inl (fun j => nI (tb j)))), (q 16, .inl (cI, 6, .inl rf))] (skI D (skT cI cJ cC cZ cS) (fun (r : Int32) (u : va_W) => ∃ (t2 : Nat), ∃ (rf2 : Nat → Int32), ((n < 0 ∧ t2 = tl ∧ r = 0) ∨ (∃ k : Nat, k < 2147483648 ∧ n = nI k ∧ ((k ≤ tl ∧ t2 = k ∧ r = 1) ∨ (tl < k ∧ t2 = tl ∧ r = 0)))) ∧ ((r = 1 ∧ rf2 = rf) ∨ (r = 0 ∧ rf2 = upd rf 0 (rf 0 + 1))) ∧ u = [(x0, .inr (11, [.ref (q 0), .ref (q 1), .ref (q 2), .ref (q 3), .ref (q 4), .ref (q 5), .ref (q 6), .ref (q 7), .ref (q 8), .ref (q 9), .ref (q 10), .ref (q 11), .ref (q 12), .ref (q 13), .ref (q 14), .int hc, .ref (q 16), .long dr])), (q 0, .inr (10, [.ref (q 20), .int (nI t2)])), (q 20, .inl (cI, 1600, .inl (fun j => nI (tb j)))), (q 16, .inl (cI, 6, .inl rf2))])) := by
  refine skM_of pf_X11_end (Nat.le_of_ble_eq_true rfl) ?_
  intro p e s m below meth c A ls E hP hD hl
  refine skE_el E (fun hx hb hr hml hlocks hin hown hts hK hA => ?_)
  have hown : s.vm.findClass RX11 = some m.cls := hown
  have hS : va_S A s.heap s.heap [] := va_S.rf
  have hl : lv_has ls 2 [(0, .ref x0), (1, .int n)] := hl
  refine lv_iload_n hx hb dX11_end_0 rfl (lv_at hl 1 rfl) ?_
  refine lv_if_lt (tgt := 15) hx hb dX11_end_1 (by decide) (fun c_1 => ?_) (fun c_1 => ?_)
  · skip
    refine lv_aload_n hx hb dX11_end_15 rfl (lv_at hl 0 rfl) ?_
    refine lv_iconst (v := 0) hx hb dX11_end_16 (by decide) ?_
    refine sk_Vi (q0 := 0) (n := 1) (rest := []) (wr := fmR om_4_9 _) ⟨hx, hb, hml, hown, hts⟩ hl.1 (c_kx_refuseIt l D cI cJ cC cZ cS x0 q hc dr 0 rf (by omega)) w_2_198 w_2_200 w_0_1 w_1_1 w_2_201 hd_X11_refuseIt_1 ⟨⟨(Nat.le_of_ble_eq_true rfl), (Nat.le_of_ble_eq_true rfl)⟩, (Nat.le_of_ble_eq_true rfl), (Nat.le_of_ble_eq_true rfl)⟩ hK hP hD hS hA (fmT om_4_9 0) (fmF om_4_9 0) (fm_C1 rfl rfl) (fm_R rfl rfl) (fm_nT om_4_9 0) (fm_nF om_4_9 0) (fm_di om_4_9 0) rfl rfl rfl rfl (Nat.le_of_ble_eq_true rfl) dX11_end_17 (fun r_3 u H locs hw hP hD hS => ?_)
    refine exE hw (fun rf2_2 hw1 => anE hw1 (fun hrf_4 hw2 => anE hw2 (fun er_6 eu_5 => ?_)))
    clear hw hw1 hw2
    subst er_6
    refine o_mgE (ws' := [(x0, .inr (11, [.ref (q 0), .ref (q 1), .ref (q 2), .ref (q 3), .ref (q 4), .ref (q 5), .ref (q 6), .ref (q 7), .ref (q 8), .ref (q 9), .ref (q 10), .ref (q 11), .ref (q 12), .ref (q 13), .ref (q 14), .int hc, .ref (q 16), .long dr])), (q 0, .inr (10, [.ref (q 20), .int (nI tl)])), (q 20, .inl (cI, 1600, .inl (fun j => nI (tb j)))), (q 16, .inl (cI, 6, .inl rf2_2))]) eu_5 hP hD rfl (fun hP hD => ?_)
    exact sk_iret hx hb hr rfl hlocks hK hP hD hS (⟨tl, rf2_2, Or.inl ⟨c_1, rfl, rfl⟩, Or.inr ⟨rfl, hrf_4⟩, rfl⟩) (Nat.le_of_ble_eq_true rfl) (Nat.le_of_ble_eq_true rfl) dX11_end_20
  · obtain ⟨k_7, hk_7, rfl⟩ := nof n c_1
    refine lv_iload_n hx hb dX11_end_4 rfl (lv_at hl 1 rfl) ?_
    refine lv_aload_n hx hb dX11_end_5 rfl (lv_at hl 0 rfl) ?_
    refine sk_get (v := .ref (q 0)) (C := RX11) (T := TX11) (N := 18) hx hb hts inlX11 hown hK hP 0 rfl rfl 0 (by decide) w_2_123 rfl dX11_end_6 ?_
    refine sk_get (v := .int (nI tl)) (C := RX10) (T := TX10) (N := 2) hx hb hts inlX10 hown hK hP 1 rfl rfl 1 (by decide) w_1_42 rfl dX11_end_9 ?_
    refine lv_icmp_le (tgt := 21) hx hb dX11_end_12 (by decide) (fun c_8 => ?_) (fun c_8 => ?_)
    · have c_8 : k_7 ≤ tl := (nle k_7 tl (by omega) (by omega)).mp c_8
      refine lv_aload_n hx hb dX11_end_21 rfl (lv_at hl 0 rfl) ?_
      refine sk_get (v := .ref (q 0)) (C := RX11) (T := TX11) (N := 18) hx hb hts inlX11 hown hK hP 0 rfl rfl 0 (by decide) w_2_123 rfl dX11_end_22 ?_
      refine lv_iload_n hx hb dX11_end_25 rfl (lv_at hl 1 rfl) ?_
      refine sk_put (ws' := [(x0, .inr (11, [.ref (q 0), .ref (q 1), .ref (q 2), .ref (q 3), .ref (q 4), .ref (q 5), .ref (q 6), .ref (q 7), .ref (q 8), .ref (q 9), .ref (q 10), .ref (q 11), .ref (q 12), .ref (q 13), .ref (q 14), .int hc, .ref (q 16), .long dr])), (q 0, .inr (10, [.ref (q 20), .int (nI k_7)])), (q 20, .inl (cI, 1600, .inl (fun j => nI (tb j)))), (q 16, .inl (cI, 6, .inl rf))]) (C := RX10) (T := TX10) (N := 2) (v := .int (nI k_7)) hx hb hts inlX10 tyX10 tyX10_ok nmX10 hown hK hP hD hS 1 rfl rfl 1 (by decide) w_1_42 rfl rfl rfl (Nat.le_of_ble_eq_true rfl) rfl dX11_end_26 (fun H locs hP hD hS => ?_)
      refine lv_iconst (v := 1) hx hb dX11_end_29 (by decide) ?_
      exact sk_iret hx hb hr rfl hlocks hK hP hD hS (⟨k_7, rf, Or.inr ⟨k_7, by omega, rfl, Or.inl ⟨by omega, rfl, rfl⟩⟩, Or.inl ⟨rfl, rfl⟩, rfl⟩) (Nat.le_of_ble_eq_true rfl) (Nat.le_of_ble_eq_true rfl) dX11_end_30
    · have c_8 : ¬ (k_7 ≤ tl) := fun h => c_8 ((nle k_7 tl (by omega) (by omega)).mpr h)
      refine lv_aload_n hx hb dX11_end_15 rfl (lv_at hl 0 rfl) ?_
      refine lv_iconst (v := 0) hx hb dX11_end_16 (by decide) ?_
      refine sk_Vi (q0 := 0) (n := 1) (rest := []) (wr := fmR om_4_9 _) ⟨hx, hb, hml, hown, hts⟩ hl.1 (c_kx_refuseIt l D cI cJ cC cZ cS x0 q hc dr 0 rf (by omega)) w_2_198 w_2_200 w_0_1 w_1_1 w_2_201 hd_X11_refuseIt_1 ⟨⟨(Nat.le_of_ble_eq_true rfl), (Nat.le_of_ble_eq_true rfl)⟩, (Nat.le_of_ble_eq_true rfl), (Nat.le_of_ble_eq_true rfl)⟩ hK hP hD hS hA (fmT om_4_9 0) (fmF om_4_9 0) (fm_C1 rfl rfl) (fm_R rfl rfl) (fm_nT om_4_9 0) (fm_nF om_4_9 0) (fm_di om_4_9 0) rfl rfl rfl rfl (Nat.le_of_ble_eq_true rfl) dX11_end_17 (fun r_10 u H locs hw hP hD hS => ?_)
      refine exE hw (fun rf2_9 hw1 => anE hw1 (fun hrf_11 hw2 => anE hw2 (fun er_13 eu_12 => ?_)))
      clear hw hw1 hw2
      subst er_13
      refine o_mgE (ws' := [(x0, .inr (11, [.ref (q 0), .ref (q 1), .ref (q 2), .ref (q 3), .ref (q 4), .ref (q 5), .ref (q 6), .ref (q 7), .ref (q 8), .ref (q 9), .ref (q 10), .ref (q 11), .ref (q 12), .ref (q 13), .ref (q 14), .int hc, .ref (q 16), .long dr])), (q 0, .inr (10, [.ref (q 20), .int (nI tl)])), (q 20, .inl (cI, 1600, .inl (fun j => nI (tb j)))), (q 16, .inl (cI, 6, .inl rf2_9))]) eu_12 hP hD rfl (fun hP hD => ?_)
      exact sk_iret hx hb hr rfl hlocks hK hP hD hS (⟨tl, rf2_9, Or.inr ⟨k_7, by omega, rfl, Or.inr ⟨by omega, rfl, rfl⟩⟩, Or.inr ⟨rfl, hrf_11⟩, rfl⟩) (Nat.le_of_ble_eq_true rfl) (Nat.le_of_ble_eq_true rfl) dX11_end_20
theorem dg_X11_seed_0_0 : bqL cX11_seed 0 [(0, [27]), (1, [156, 0, 9]), (10, [42]), (11, [27]), (12, [133]), (13, [181, 0, 106]), (16, [4]), (17, [172]), (4, [42]), (5, [8]), (6, [182, 0, 120]), (9, [172])] = true := by decide +kernel
theorem dX11_seed_0 : decode cX11_seed 0 = .ok (.iload_n 1, 1) := q_iload_n1 (bat_get dg_X11_seed_0_0 0 rfl rfl)
theorem dX11_seed_1 : decode cX11_seed 1 = .ok (.ifCond .ge 9, 3) := q_ifCond_ge (bat_get dg_X11_seed_0_0 1 rfl rfl) rfl
theorem dX11_seed_10 : decode cX11_seed 10 = .ok (.aload_n 0, 1) := q_aload_n0 (bat_get dg_X11_seed_0_0 2 rfl rfl)
theorem dX11_seed_11 : decode cX11_seed 11 = .ok (.iload_n 1, 1) := q_iload_n1 (bat_get dg_X11_seed_0_0 3 rfl rfl)
theorem dX11_seed_12 : decode cX11_seed 12 = .ok (.i2l, 1) := q_i2l (bat_get dg_X11_seed_0_0 4 rfl rfl)
theorem dX11_seed_13 : decode cX11_seed 13 = .ok (.putfield 106, 3) := q_putfield (bat_get dg_X11_seed_0_0 5 rfl rfl) rfl
theorem dX11_seed_16 : decode cX11_seed 16 = .ok (.iconst 1, 1) := q_iconst1 (bat_get dg_X11_seed_0_0 6 rfl rfl)
theorem dX11_seed_17 : decode cX11_seed 17 = .ok (.ireturn, 1) := q_ireturn (bat_get dg_X11_seed_0_0 7 rfl rfl)
theorem dX11_seed_4 : decode cX11_seed 4 = .ok (.aload_n 0, 1) := q_aload_n0 (bat_get dg_X11_seed_0_0 8 rfl rfl)
theorem dX11_seed_5 : decode cX11_seed 5 = .ok (.iconst 5, 1) := q_iconst5 (bat_get dg_X11_seed_0_0 9 rfl rfl)
theorem dX11_seed_6 : decode cX11_seed 6 = .ok (.invokevirtual 120, 3) := q_invokevirtual (bat_get dg_X11_seed_0_0 10 rfl rfl) rfl
theorem dX11_seed_9 : decode cX11_seed 9 = .ok (.ireturn, 1) := q_ireturn (bat_get dg_X11_seed_0_0 11 rfl rfl)
theorem w_5_58 : (Cond.code yX11_seed cX11_seed 2 (some .boolean)) ∈ wsL_law := sk_mem (ck_5 _ (List.mem_of_getElem? (i := 58) rfl)) rfl
set_option maxHeartbeats 4000000 in
set_option maxRecDepth 100000 in
theorem c_ky_seed (l : Launch) (D : va_G) (cI cJ cC cZ cS : ClassId) (x0 : Nat) (q : Nat → Nat) (hc : Int32) (sd : Nat) (rf : Nat → Int32) (n : Int32)  : skM l yX11_seed cX11_seed 2 (some .boolean) 1 21 0 0 D (skT cI cJ cC cZ cS) [.ref x0, .int n] [(x0, .inr (11, [.ref (q 0), .ref (q 1), .ref (q 2), .ref (q 3), .ref (q 4), .ref (q 5), .ref (q 6), .ref (q 7), .ref (q 8), .ref (q 9), .ref (q 10), .ref (q 11), .ref (q 12), .ref (q 13), .ref (q 14), .int hc, .ref (q 16), .long (Int64.ofNat sd)])), (q 16, .inl (cI, 6, .inl rf))] (skI D (skT cI cJ cC cZ cS) (fun (r : Int32) (u : va_W) => ∃ (sd2 : Nat), ∃ (rf2 : Nat → Int32), seedR sd rf n r sd2 rf2 ∧ u = [(x0, .inr (11, [.ref (q 0), .ref (q 1), .ref (q 2), .ref (q 3), .ref (q 4), .ref (q 5), .ref (q 6), .ref (q 7), .ref (q 8), .ref (q 9), .ref (q 10), .ref (q 11), .ref (q 12), .ref (q 13), .ref (q 14), .int hc, .ref (q 16), .long (Int64.ofNat sd2)])), (q 16, .inl (cI, 6, .inl rf2))])) := by
  refine skM_of pf_X11_seed (Nat.le_of_ble_eq_true rfl) ?_
  intro p e s m below meth c A ls E hP hD hl
  refine skE_el E (fun hx hb hr hml hlocks hin hown hts hK hA => ?_)
  have hown : s.vm.findClass RX11 = some m.cls := hown
  have hS : va_S A s.heap s.heap [] := va_S.rf
  have hl : lv_has ls 2 [(0, .ref x0), (1, .int n)] := hl
  refine lv_iload_n hx hb dX11_seed_0 rfl (lv_at hl 1 rfl) ?_
  refine lv_if_ge (tgt := 10) hx hb dX11_seed_1 (by decide) (fun c_1 => ?_) (fun c_1 => ?_)
  · obtain ⟨k_2, hk_2, rfl⟩ := nof' n c_1
    refine lv_aload_n hx hb dX11_seed_10 rfl (lv_at hl 0 rfl) ?_
    refine lv_iload_n hx hb dX11_seed_11 rfl (lv_at hl 1 rfl) ?_
    refine lv_i2l hx hb dX11_seed_12 rfl ?_
    refine sk_topl (Int64.ofNat k_2) (kx_i2l (by omega)) ?_
    refine sk_put (ws' := [(x0, .inr (11, [.ref (q 0), .ref (q 1), .ref (q 2), .ref (q 3), .ref (q 4), .ref (q 5), .ref (q 6), .ref (q 7), .ref (q 8), .ref (q 9), .ref (q 10), .ref (q 11), .ref (q 12), .ref (q 13), .ref (q 14), .int hc, .ref (q 16), .long (Int64.ofNat k_2)])), (q 16, .inl (cI, 6, .inl rf))]) (C := RX11) (T := TX11) (N := 18) (v := .long (Int64.ofNat k_2)) hx hb hts inlX11 tyX11 tyX11_ok nmX11 hown hK hP hD hS 0 rfl rfl 17 (by decide) w_2_140 rfl rfl rfl (Nat.le_of_ble_eq_true rfl) rfl dX11_seed_13 (fun H locs hP hD hS => ?_)
    refine lv_iconst (v := 1) hx hb dX11_seed_16 (by decide) ?_
    exact sk_iret hx hb hr rfl hlocks hK hP hD hS (⟨k_2, rf, kR_1 k_2 ⟨by omega, rfl⟩ ⟨rfl, rfl, rfl⟩, rfl⟩) (Nat.le_of_ble_eq_true rfl) (Nat.le_of_ble_eq_true rfl) dX11_seed_17
  · skip
    refine lv_aload_n hx hb dX11_seed_4 rfl (lv_at hl 0 rfl) ?_
    refine lv_iconst (v := 5) hx hb dX11_seed_5 (by decide) ?_
    refine sk_Vi (q0 := 0) (n := 1) (rest := []) (wr := fmR om_2_3 _) ⟨hx, hb, hml, hown, hts⟩ hl.1 (c_kx_refuseIt l D cI cJ cC cZ cS x0 q hc (Int64.ofNat sd) 5 rf (by omega)) w_2_198 w_2_200 w_0_1 w_1_1 w_2_201 hd_X11_refuseIt_1 ⟨⟨(Nat.le_of_ble_eq_true rfl), (Nat.le_of_ble_eq_true rfl)⟩, (Nat.le_of_ble_eq_true rfl), (Nat.le_of_ble_eq_true rfl)⟩ hK hP hD hS hA (fmT om_2_3 0) (fmF om_2_3 0) (fm_C1 rfl rfl) (fm_R rfl rfl) (fm_nT om_2_3 0) (fm_nF om_2_3 0) (fm_di om_2_3 0) rfl rfl rfl rfl (Nat.le_of_ble_eq_true rfl) dX11_seed_6 (fun r_4 u H locs hw hP hD hS => ?_)
    refine exE hw (fun rf2_3 hw1 => anE hw1 (fun hrf_5 hw2 => anE hw2 (fun er_7 eu_6 => ?_)))
    clear hw hw1 hw2
    subst er_7
    refine o_mgE (ws' := [(x0, .inr (11, [.ref (q 0), .ref (q 1), .ref (q 2), .ref (q 3), .ref (q 4), .ref (q 5), .ref (q 6), .ref (q 7), .ref (q 8), .ref (q 9), .ref (q 10), .ref (q 11), .ref (q 12), .ref (q 13), .ref (q 14), .int hc, .ref (q 16), .long (Int64.ofNat sd)])), (q 16, .inl (cI, 6, .inl rf2_3))]) eu_6 hP hD rfl (fun hP hD => ?_)
    exact sk_iret hx hb hr rfl hlocks hK hP hD hS (⟨sd, rf2_3, kR_0 (fun x hq => c_1 (by rw [hq.2]; exact nI_pos' (n := x) hq.1)) ⟨rfl, rfl, hrf_5⟩, rfl⟩) (Nat.le_of_ble_eq_true rfl) (Nat.le_of_ble_eq_true rfl) dX11_seed_9
theorem dg_X11_octet_0_0 : bqL cX11_octet 0 [(0, [27]), (1, [155, 0, 25]), (26, [2]), (27, [172]), (4, [27]), (5, [42]), (6, [180, 0, 18]), (9, [180, 0, 110]), (12, [162, 0, 14]), (15, [42]), (16, [180, 0, 18]), (19, [27]), (20, [182, 1, 12]), (23, [167, 0, 4])] = true := by decide +kernel
theorem dX11_octet_0 : decode cX11_octet 0 = .ok (.iload_n 1, 1) := q_iload_n1 (bat_get dg_X11_octet_0_0 0 rfl rfl)
theorem dX11_octet_1 : decode cX11_octet 1 = .ok (.ifCond .lt 25, 3) := q_ifCond_lt (bat_get dg_X11_octet_0_0 1 rfl rfl) rfl
theorem dX11_octet_26 : decode cX11_octet 26 = .ok (.iconst (-1), 1) := q_iconstm1 (bat_get dg_X11_octet_0_0 2 rfl rfl)
theorem dX11_octet_27 : decode cX11_octet 27 = .ok (.ireturn, 1) := q_ireturn (bat_get dg_X11_octet_0_0 3 rfl rfl)
theorem dX11_octet_4 : decode cX11_octet 4 = .ok (.iload_n 1, 1) := q_iload_n1 (bat_get dg_X11_octet_0_0 4 rfl rfl)
