theorem dg_X11_status_0_0 : bqL cX11_status 0 [(0, [27]), (1, [155, 0, 18]), (19, [2]), (20, [172]), (4, [27]), (5, [16, 6]), (7, [162, 0, 12]), (10, [42]), (11, [180, 0, 103]), (14, [27]), (15, [46]), (16, [167, 0, 4])] = true := by decide +kernel
theorem dX11_status_0 : decode cX11_status 0 = .ok (.iload_n 1, 1) := q_iload_n1 (bat_get dg_X11_status_0_0 0 rfl rfl)
theorem dX11_status_1 : decode cX11_status 1 = .ok (.ifCond .lt 18, 3) := q_ifCond_lt (bat_get dg_X11_status_0_0 1 rfl rfl) rfl
theorem dX11_status_19 : decode cX11_status 19 = .ok (.iconst (-1), 1) := q_iconstm1 (bat_get dg_X11_status_0_0 2 rfl rfl)
theorem dX11_status_20 : decode cX11_status 20 = .ok (.ireturn, 1) := q_ireturn (bat_get dg_X11_status_0_0 3 rfl rfl)
theorem dX11_status_4 : decode cX11_status 4 = .ok (.iload_n 1, 1) := q_iload_n1 (bat_get dg_X11_status_0_0 4 rfl rfl)
theorem dX11_status_5 : decode cX11_status 5 = .ok (.bipush 6, 2) := q_bipush (bat_get dg_X11_status_0_0 5 rfl rfl) rfl
theorem dX11_status_7 : decode cX11_status 7 = .ok (.if_icmp .ge 12, 3) := q_if_icmp_ge (bat_get dg_X11_status_0_0 6 rfl rfl) rfl
theorem dX11_status_10 : decode cX11_status 10 = .ok (.aload_n 0, 1) := q_aload_n0 (bat_get dg_X11_status_0_0 7 rfl rfl)
theorem dX11_status_11 : decode cX11_status 11 = .ok (.getfield 103, 3) := q_getfield (bat_get dg_X11_status_0_0 8 rfl rfl) rfl
theorem dX11_status_14 : decode cX11_status 14 = .ok (.iload_n 1, 1) := q_iload_n1 (bat_get dg_X11_status_0_0 9 rfl rfl)
theorem dX11_status_15 : decode cX11_status 15 = .ok (.iaload, 1) := q_iaload (bat_get dg_X11_status_0_0 10 rfl rfl)
theorem dX11_status_16 : decode cX11_status 16 = .ok (.goto 4, 3) := q_goto (bat_get dg_X11_status_0_0 11 rfl rfl) rfl
theorem w_5_148 : (Cond.code yX11_status cX11_status 2 (some .int)) ∈ wsL_law := sk_mem (ck_5 _ (List.mem_of_getElem? (i := 148) rfl)) rfl
set_option maxHeartbeats 4000000 in
set_option maxRecDepth 100000 in
theorem c_ky_status (l : Launch) (D : va_G) (cI cJ cC cZ cS : ClassId) (x0 : Nat) (q : Nat → Nat) (hc : Int32) (dr : Int64) (rf : Nat → Int32) (w : Int32)  : skM l yX11_status cX11_status 2 (some .int) 0 0 0 0 D (skT cI cJ cC cZ cS) [.ref x0, .int w] [(x0, .inr (11, [.ref (q 0), .ref (q 1), .ref (q 2), .ref (q 3), .ref (q 4), .ref (q 5), .ref (q 6), .ref (q 7), .ref (q 8), .ref (q 9), .ref (q 10), .ref (q 11), .ref (q 12), .ref (q 13), .ref (q 14), .int hc, .ref (q 16), .long dr])), (q 16, .inl (cI, 6, .inl rf))] (skI D (skT cI cJ cC cZ cS) (fun (r : Int32) (u : va_W) => statR rf w r ∧ u = [(x0, .inr (11, [.ref (q 0), .ref (q 1), .ref (q 2), .ref (q 3), .ref (q 4), .ref (q 5), .ref (q 6), .ref (q 7), .ref (q 8), .ref (q 9), .ref (q 10), .ref (q 11), .ref (q 12), .ref (q 13), .ref (q 14), .int hc, .ref (q 16), .long dr])), (q 16, .inl (cI, 6, .inl rf))])) := by
  refine skM_of pf_X11_status (Nat.le_of_ble_eq_true rfl) ?_
  intro p e s m below meth c A ls E hP hD hl
  refine skE_el E (fun hx hb hr hml hlocks hin hown hts hK hA => ?_)
  have hown : s.vm.findClass RX11 = some m.cls := hown
  have hS : va_S A s.heap s.heap [] := va_S.rf
  have hl : lv_has ls 2 [(0, .ref x0), (1, .int w)] := hl
  refine lv_iload_n hx hb dX11_status_0 rfl (lv_at hl 1 rfl) ?_
  refine lv_if_lt (tgt := 19) hx hb dX11_status_1 (by decide) (fun c_1 => ?_) (fun c_1 => ?_)
  · skip
    refine lv_iconst (v := (-1)) hx hb dX11_status_19 (by decide) ?_
    exact sk_iret hx hb hr rfl hlocks hK hP hD hS (⟨Or.inl ⟨kIn_neg c_1 (by decide), rfl⟩, rfl⟩) (Nat.le_of_ble_eq_true rfl) (Nat.le_of_ble_eq_true rfl) dX11_status_20
  · obtain ⟨k_2, hk_2, rfl⟩ := nof w c_1
    refine lv_iload_n hx hb dX11_status_4 rfl (lv_at hl 1 rfl) ?_
    refine lv_bipush (v := 6) hx hb dX11_status_5 (by decide) ?_
    refine lv_icmp_ge (tgt := 19) hx hb dX11_status_7 (by decide) (fun c_3 => ?_) (fun c_3 => ?_)
    · have c_3 : 6 ≤ k_2 := (nle 6 k_2 (by omega) (by omega)).mp c_3
      refine lv_iconst (v := (-1)) hx hb dX11_status_19 (by decide) ?_
      exact sk_iret hx hb hr rfl hlocks hK hP hD hS (⟨Or.inl ⟨kIn_ge (by omega) (by omega), rfl⟩, rfl⟩) (Nat.le_of_ble_eq_true rfl) (Nat.le_of_ble_eq_true rfl) dX11_status_20
    · have c_3 : ¬ (6 ≤ k_2) := fun h => c_3 ((nle 6 k_2 (by omega) (by omega)).mpr h)
      refine lv_aload_n hx hb dX11_status_10 rfl (lv_at hl 0 rfl) ?_
      refine sk_get (v := .ref (q 16)) (C := RX11) (T := TX11) (N := 18) hx hb hts inlX11 hown hK hP 0 rfl rfl 16 (by decide) w_2_139 rfl dX11_status_11 ?_
      refine lv_iload_n hx hb dX11_status_14 rfl (lv_at hl 1 rfl) ?_
      refine va_iald hx hb hK.1 hP 1 0 rfl rfl (vin k_2 6 (by omega) (by omega)) dX11_status_15 ?_
      refine sk_top (rf k_2) (by rw [nI_clamp (by omega)]) ?_
      refine lv_goto (tgt := 20) hx hb dX11_status_16 (by decide) ?_
      exact sk_iret hx hb hr rfl hlocks hK hP hD hS (⟨Or.inr ⟨k_2, by omega, rfl, rfl⟩, rfl⟩) (Nat.le_of_ble_eq_true rfl) (Nat.le_of_ble_eq_true rfl) dX11_status_20
theorem km_1 {b : Nat} {P : Prop} (h : (b = 1 ∧ P) ∨ (b = 0 ∧ ¬ P)) (e : ¬ b = 0) : P := h.elim (fun q => q.2) (fun q => absurd q.1 e)
theorem km_0 {b : Nat} {P : Prop} (h : (b = 1 ∧ P) ∨ (b = 0 ∧ ¬ P)) (e : b = 0) : ¬ P := h.elim (fun q => absurd (q.1.symm.trans e) (by decide)) (fun q => q.2)
theorem dX11_day_11 : decode cX11_day 11 = .ok (.tableswitch 62 0 2 #[25, 35, 45], 25) := by decide +kernel
theorem dg_X11_day_0_0 : bqL cX11_day 0 [(0, [42]), (1, [27]), (2, [182, 0, 170]), (5, [154, 0, 5]), (10, [28]), (36, [42]), (37, [180, 0, 59]), (40, [180, 0, 173]), (43, [27]), (44, [46]), (45, [172]), (46, [42]), (47, [180, 0, 59]), (50, [180, 0, 176]), (53, [27]), (54, [46]), (55, [172]), (56, [42]), (57, [180, 0, 59]), (60, [27]), (61, [182, 0, 179]), (64, [153, 0, 7]), (71, [3]), (72, [172]), (67, [4]), (68, [167, 0, 4]), (73, [2]), (74, [172]), (8, [2]), (9, [172])] = true := by decide +kernel
theorem dX11_day_0 : decode cX11_day 0 = .ok (.aload_n 0, 1) := q_aload_n0 (bat_get dg_X11_day_0_0 0 rfl rfl)
theorem dX11_day_1 : decode cX11_day 1 = .ok (.iload_n 1, 1) := q_iload_n1 (bat_get dg_X11_day_0_0 1 rfl rfl)
theorem dX11_day_2 : decode cX11_day 2 = .ok (.invokevirtual 170, 3) := q_invokevirtual (bat_get dg_X11_day_0_0 2 rfl rfl) rfl
theorem dX11_day_5 : decode cX11_day 5 = .ok (.ifCond .ne 5, 3) := q_ifCond_ne (bat_get dg_X11_day_0_0 3 rfl rfl) rfl
theorem dX11_day_10 : decode cX11_day 10 = .ok (.iload_n 2, 1) := q_iload_n2 (bat_get dg_X11_day_0_0 4 rfl rfl)
theorem dX11_day_36 : decode cX11_day 36 = .ok (.aload_n 0, 1) := q_aload_n0 (bat_get dg_X11_day_0_0 5 rfl rfl)
theorem dX11_day_37 : decode cX11_day 37 = .ok (.getfield 59, 3) := q_getfield (bat_get dg_X11_day_0_0 6 rfl rfl) rfl
theorem dX11_day_40 : decode cX11_day 40 = .ok (.getfield 173, 3) := q_getfield (bat_get dg_X11_day_0_0 7 rfl rfl) rfl
theorem dX11_day_43 : decode cX11_day 43 = .ok (.iload_n 1, 1) := q_iload_n1 (bat_get dg_X11_day_0_0 8 rfl rfl)
theorem dX11_day_44 : decode cX11_day 44 = .ok (.iaload, 1) := q_iaload (bat_get dg_X11_day_0_0 9 rfl rfl)
theorem dX11_day_45 : decode cX11_day 45 = .ok (.ireturn, 1) := q_ireturn (bat_get dg_X11_day_0_0 10 rfl rfl)
theorem dX11_day_46 : decode cX11_day 46 = .ok (.aload_n 0, 1) := q_aload_n0 (bat_get dg_X11_day_0_0 11 rfl rfl)
theorem dX11_day_47 : decode cX11_day 47 = .ok (.getfield 59, 3) := q_getfield (bat_get dg_X11_day_0_0 12 rfl rfl) rfl
theorem dX11_day_50 : decode cX11_day 50 = .ok (.getfield 176, 3) := q_getfield (bat_get dg_X11_day_0_0 13 rfl rfl) rfl
theorem dX11_day_53 : decode cX11_day 53 = .ok (.iload_n 1, 1) := q_iload_n1 (bat_get dg_X11_day_0_0 14 rfl rfl)
theorem dX11_day_54 : decode cX11_day 54 = .ok (.iaload, 1) := q_iaload (bat_get dg_X11_day_0_0 15 rfl rfl)
theorem dX11_day_55 : decode cX11_day 55 = .ok (.ireturn, 1) := q_ireturn (bat_get dg_X11_day_0_0 16 rfl rfl)
theorem dX11_day_56 : decode cX11_day 56 = .ok (.aload_n 0, 1) := q_aload_n0 (bat_get dg_X11_day_0_0 17 rfl rfl)
theorem dX11_day_57 : decode cX11_day 57 = .ok (.getfield 59, 3) := q_getfield (bat_get dg_X11_day_0_0 18 rfl rfl) rfl
theorem dX11_day_60 : decode cX11_day 60 = .ok (.iload_n 1, 1) := q_iload_n1 (bat_get dg_X11_day_0_0 19 rfl rfl)
theorem dX11_day_61 : decode cX11_day 61 = .ok (.invokevirtual 179, 3) := q_invokevirtual (bat_get dg_X11_day_0_0 20 rfl rfl) rfl
theorem dX11_day_64 : decode cX11_day 64 = .ok (.ifCond .eq 7, 3) := q_ifCond_eq (bat_get dg_X11_day_0_0 21 rfl rfl) rfl
theorem dX11_day_71 : decode cX11_day 71 = .ok (.iconst 0, 1) := q_iconst0 (bat_get dg_X11_day_0_0 22 rfl rfl)
theorem dX11_day_72 : decode cX11_day 72 = .ok (.ireturn, 1) := q_ireturn (bat_get dg_X11_day_0_0 23 rfl rfl)
theorem dX11_day_67 : decode cX11_day 67 = .ok (.iconst 1, 1) := q_iconst1 (bat_get dg_X11_day_0_0 24 rfl rfl)
theorem dX11_day_68 : decode cX11_day 68 = .ok (.goto 4, 3) := q_goto (bat_get dg_X11_day_0_0 25 rfl rfl) rfl
theorem dX11_day_73 : decode cX11_day 73 = .ok (.iconst (-1), 1) := q_iconstm1 (bat_get dg_X11_day_0_0 26 rfl rfl)
theorem dX11_day_74 : decode cX11_day 74 = .ok (.ireturn, 1) := q_ireturn (bat_get dg_X11_day_0_0 27 rfl rfl)
theorem dX11_day_8 : decode cX11_day 8 = .ok (.iconst (-1), 1) := q_iconstm1 (bat_get dg_X11_day_0_0 28 rfl rfl)
theorem dX11_day_9 : decode cX11_day 9 = .ok (.ireturn, 1) := q_ireturn (bat_get dg_X11_day_0_0 29 rfl rfl)
theorem w_3_189 : (Cond.code yX11_day cX11_day 3 (some .int)) ∈ wsL_law := sk_mem (ck_3 _ (List.mem_of_getElem? (i := 189) rfl)) rfl
def om_4_c : List Bool := true :: true :: false :: false :: []
def om_4_4 : List Bool := false :: true :: false :: false :: []
set_option maxHeartbeats 4000000 in
set_option maxRecDepth 100000 in
theorem c_ky_day (l : Launch) (D : va_G) (cI cJ cC cZ cS : ClassId) (x0 : Nat) (q : Nat → Nat) (hc : Int32) (dr : Int64) (dy : Nat) (wn : Nat) (mo : Nat) (ke : Nat) (mu : Int32) (fb : Nat → Int32) (fw : Nat → Int32) (Ba : Nat → Nat) (We : Nat → Nat) (U : Nat → Bool) (d : Int32) (w : Int32) (hdy : dy ≤ 9) (hmo : mo ≤ 9) (hfb : ∀ j, j < 9 → fb j = nI (Ba j)) (hfw : ∀ j, j < 9 → fw j = nI (We j)) (hB9 : ∀ j, Ba j ≤ 9) (hW9 : ∀ j, We j ≤ 9) (hU : muO U mu) : skM l yX11_day cX11_day 3 (some .int) 1 21 0 0 D (skT cI cJ cC cZ cS) [.ref x0, .int d, .int w] [(x0, .inr (11, [.ref (q 0), .ref (q 1), .ref (q 2), .ref (q 3), .ref (q 4), .ref (q 5), .ref (q 6), .ref (q 7), .ref (q 8), .ref (q 9), .ref (q 10), .ref (q 11), .ref (q 12), .ref (q 13), .ref (q 14), .int hc, .ref (q 16), .long dr])), (q 7, .inr (7, [.ref (q 33), .ref (q 34), .int (nI dy), .int (nI wn), .int (nI mo), .int mu, .int (nI ke)])), (q 33, .inl (cI, 9, .inl fb)), (q 34, .inl (cI, 9, .inl fw))] (skI D (skT cI cJ cC cZ cS) (fun (r : Int32) (u : va_W) => dayR dy Ba We U d w r ∧ u = [(x0, .inr (11, [.ref (q 0), .ref (q 1), .ref (q 2), .ref (q 3), .ref (q 4), .ref (q 5), .ref (q 6), .ref (q 7), .ref (q 8), .ref (q 9), .ref (q 10), .ref (q 11), .ref (q 12), .ref (q 13), .ref (q 14), .int hc, .ref (q 16), .long dr])), (q 7, .inr (7, [.ref (q 33), .ref (q 34), .int (nI dy), .int (nI wn), .int (nI mo), .int mu, .int (nI ke)])), (q 33, .inl (cI, 9, .inl fb)), (q 34, .inl (cI, 9, .inl fw))])) := by
  refine skM_of pf_X11_day (Nat.le_of_ble_eq_true rfl) ?_
  intro p e s m below meth c A ls E hP hD hl
  refine skE_el E (fun hx hb hr hml hlocks hin hown hts hK hA => ?_)
  have hown : s.vm.findClass RX11 = some m.cls := hown
  have hS : va_S A s.heap s.heap [] := va_S.rf
  have hl : lv_has ls 3 [(0, .ref x0), (1, .int d), (2, .int w)] := hl
  refine lv_aload_n hx hb dX11_day_0 rfl (lv_at hl 0 rfl) ?_
  refine lv_iload_n hx hb dX11_day_1 rfl (lv_at hl 1 rfl) ?_
  refine sk_Vi (q0 := 0) (n := 1) (rest := []) (wr := fmR om_4_c _) ⟨hx, hb, hml, hown, hts⟩ hl.1 (c_kx_isDay l D cI cJ cC cZ cS x0 q hc dr dy wn mo ke mu fb fw d (by omega)) w_3_190 w_3_192 w_0_14 w_1_1 w_3_193 hd_X11_isDay_1 ⟨⟨(Nat.le_of_ble_eq_true rfl), (Nat.le_of_ble_eq_true rfl)⟩, (Nat.le_of_ble_eq_true rfl), (Nat.le_of_ble_eq_true rfl)⟩ hK hP hD hS hA (fmT om_4_c 0) (fmF om_4_c 0) (fm_C1 rfl rfl) (fm_R rfl rfl) (fm_nT om_4_c 0) (fm_nF om_4_c 0) (fm_di om_4_c 0) rfl rfl rfl rfl (Nat.le_of_ble_eq_true rfl) dX11_day_2 (fun r_2 u H locs hw hP hD hS => ?_)
  refine exE hw (fun b_1 hw1 => anE hw1 (fun hb1_3 hw2 => anE hw2 (fun er_5 eu_4 => ?_)))
  clear hw hw1 hw2
  subst er_5
  refine o_mgE (ws' := [(x0, .inr (11, [.ref (q 0), .ref (q 1), .ref (q 2), .ref (q 3), .ref (q 4), .ref (q 5), .ref (q 6), .ref (q 7), .ref (q 8), .ref (q 9), .ref (q 10), .ref (q 11), .ref (q 12), .ref (q 13), .ref (q 14), .int hc, .ref (q 16), .long dr])), (q 7, .inr (7, [.ref (q 33), .ref (q 34), .int (nI dy), .int (nI wn), .int (nI mo), .int mu, .int (nI ke)])), (q 33, .inl (cI, 9, .inl fb)), (q 34, .inl (cI, 9, .inl fw))]) eu_4 hP hD rfl (fun hP hD => ?_)
  refine lv_if_ne (tgt := 10) hx hb dX11_day_5 (by decide) (fun c_6 => ?_) (fun c_6 => ?_)
  · have c_6 : ¬ (b_1 = 0) := fun h => c_6 ((neq b_1 0 (by omega) (by omega)).mpr h)
    obtain ⟨kd_7, hkd_7, rfl⟩ := rr_1 hb1_3 (by omega)
    refine lv_iload_n hx hb dX11_day_10 rfl (lv_at hl 2 rfl) ?_
    by_cases g_8 : w = 0
    · refine lv_tableIn (off := 25) (tgt := 36) hx hb dX11_day_11 (by rw [g_8]; decide) (by rw [g_8]; decide) (by rw [g_8]; rfl) (by decide) ?_
      refine lv_aload_n hx hb dX11_day_36 rfl (lv_at hl 0 rfl) ?_
      refine sk_get (v := .ref (q 7)) (C := RX11) (T := TX11) (N := 18) hx hb hts inlX11 hown hK hP 0 rfl rfl 7 (by decide) w_2_130 rfl dX11_day_37 ?_
      refine sk_get (v := .ref (q 33)) (C := RX7) (T := TX7) (N := 7) hx hb hts inlX7 hown hK hP 1 rfl rfl 0 (by decide) w_1_232 rfl dX11_day_40 ?_
      refine lv_iload_n hx hb dX11_day_43 rfl (lv_at hl 1 rfl) ?_
      refine va_iald hx hb hK.1 hP 2 0 rfl rfl (vin kd_7 9 (by omega) (by omega)) dX11_day_44 ?_
      refine sk_top (nI (Ba kd_7)) (by rw [nI_clamp (by omega)]; exact hfb _ (by omega)) ?_
      exact sk_iret hx hb hr rfl hlocks hK hP hD hS (⟨Or.inr ⟨kd_7, by omega, rfl, (by unfold dayV; rw [if_pos g_8])⟩, rfl⟩) (Nat.le_of_ble_eq_true rfl) (Nat.le_of_ble_eq_true rfl) dX11_day_45
    by_cases g_9 : w = 1
    · refine lv_tableIn (off := 35) (tgt := 46) hx hb dX11_day_11 (by rw [g_9]; decide) (by rw [g_9]; decide) (by rw [g_9]; rfl) (by decide) ?_
      refine lv_aload_n hx hb dX11_day_46 rfl (lv_at hl 0 rfl) ?_
      refine sk_get (v := .ref (q 7)) (C := RX11) (T := TX11) (N := 18) hx hb hts inlX11 hown hK hP 0 rfl rfl 7 (by decide) w_2_130 rfl dX11_day_47 ?_
      refine sk_get (v := .ref (q 34)) (C := RX7) (T := TX7) (N := 7) hx hb hts inlX7 hown hK hP 1 rfl rfl 1 (by decide) w_1_236 rfl dX11_day_50 ?_
      refine lv_iload_n hx hb dX11_day_53 rfl (lv_at hl 1 rfl) ?_
      refine va_iald hx hb hK.1 hP 3 0 rfl rfl (vin kd_7 9 (by omega) (by omega)) dX11_day_54 ?_
      refine sk_top (nI (We kd_7)) (by rw [nI_clamp (by omega)]; exact hfw _ (by omega)) ?_
      exact sk_iret hx hb hr rfl hlocks hK hP hD hS (⟨Or.inr ⟨kd_7, by omega, rfl, (by unfold dayV; rw [g_9, if_neg (by decide), if_pos rfl])⟩, rfl⟩) (Nat.le_of_ble_eq_true rfl) (Nat.le_of_ble_eq_true rfl) dX11_day_55
    by_cases g_10 : w = 2
    · refine lv_tableIn (off := 45) (tgt := 56) hx hb dX11_day_11 (by rw [g_10]; decide) (by rw [g_10]; decide) (by rw [g_10]; rfl) (by decide) ?_
      refine lv_aload_n hx hb dX11_day_56 rfl (lv_at hl 0 rfl) ?_
      refine sk_get (v := .ref (q 7)) (C := RX11) (T := TX11) (N := 18) hx hb hts inlX11 hown hK hP 0 rfl rfl 7 (by decide) w_2_130 rfl dX11_day_57 ?_
      refine lv_iload_n hx hb dX11_day_60 rfl (lv_at hl 1 rfl) ?_
      refine sk_Vi (q0 := 0) (n := 1) (rest := []) (wr := fmR om_4_4 _) ⟨hx, hb, hml, hown, hts⟩ hl.1 (c_kState_isMute l D cI cJ cC cZ cS (q 7) (q 33) (q 34) dy mo (nI wn) mu (nI ke) kd_7 U (by omega) hU) w_3_194 w_3_195 w_3_196 w_1_10 w_3_197 hd_X7_isMute_1 ⟨⟨(Nat.le_of_ble_eq_true rfl), (Nat.le_of_ble_eq_true rfl)⟩, (Nat.le_of_ble_eq_true rfl), (Nat.le_of_ble_eq_true rfl)⟩ hK hP hD hS hA (fmT om_4_4 0) (fmF om_4_4 0) (fm_C1 rfl rfl) (fm_R rfl rfl) (fm_nT om_4_4 0) (fm_nF om_4_4 0) (fm_di om_4_4 0) rfl rfl rfl rfl (Nat.le_of_ble_eq_true rfl) dX11_day_61 (fun r_12 u H locs hw hP hD hS => ?_)
      refine exE hw (fun b_11 hw1 => anE hw1 (fun hb1_13 hw2 => anE hw2 (fun er_15 eu_14 => ?_)))
      clear hw hw1 hw2
      subst er_15
      refine o_mgE (ws' := [(x0, .inr (11, [.ref (q 0), .ref (q 1), .ref (q 2), .ref (q 3), .ref (q 4), .ref (q 5), .ref (q 6), .ref (q 7), .ref (q 8), .ref (q 9), .ref (q 10), .ref (q 11), .ref (q 12), .ref (q 13), .ref (q 14), .int hc, .ref (q 16), .long dr])), (q 7, .inr (7, [.ref (q 33), .ref (q 34), .int (nI dy), .int (nI wn), .int (nI mo), .int mu, .int (nI ke)])), (q 33, .inl (cI, 9, .inl fb)), (q 34, .inl (cI, 9, .inl fw))]) eu_14 hP hD rfl (fun hP hD => ?_)
      refine lv_if_eq (tgt := 71) hx hb dX11_day_64 (by decide) (fun c_16 => ?_) (fun c_16 => ?_)
      · have c_16 : b_11 = 0 := (neq b_11 0 (by omega) (by omega)).mp c_16
        refine lv_iconst (v := 0) hx hb dX11_day_71 (by decide) ?_
        exact sk_iret hx hb hr rfl hlocks hK hP hD hS (⟨Or.inr ⟨kd_7, by omega, rfl, (by unfold dayV; rw [g_10, if_neg (by decide), if_neg (by decide), if_pos rfl, if_neg (km_0 hb1_13 (by omega))])⟩, rfl⟩) (Nat.le_of_ble_eq_true rfl) (Nat.le_of_ble_eq_true rfl) dX11_day_72
      · have c_16 : ¬ (b_11 = 0) := fun h => c_16 ((neq b_11 0 (by omega) (by omega)).mpr h)
        refine lv_iconst (v := 1) hx hb dX11_day_67 (by decide) ?_
        refine lv_goto (tgt := 72) hx hb dX11_day_68 (by decide) ?_
        exact sk_iret hx hb hr rfl hlocks hK hP hD hS (⟨Or.inr ⟨kd_7, by omega, rfl, (by unfold dayV; rw [g_10, if_neg (by decide), if_neg (by decide), if_pos rfl, if_pos (km_1 hb1_13 (by omega))])⟩, rfl⟩) (Nat.le_of_ble_eq_true rfl) (Nat.le_of_ble_eq_true rfl) dX11_day_72
    refine lv_tableOut (tgt := 73) hx hb dX11_day_11 (sk_out (n := 2) (by intro k hk; rcases (show k = 0 ∨ k = 1 ∨ k = 2 by omega) with rfl | rfl | rfl <;> assumption)) (by decide) ?_
    refine lv_iconst (v := (-1)) hx hb dX11_day_73 (by decide) ?_
    exact sk_iret hx hb hr rfl hlocks hK hP hD hS (⟨Or.inr ⟨kd_7, by omega, rfl, (by unfold dayV; rw [if_neg (by assumption), if_neg (by assumption), if_neg (by assumption)])⟩, rfl⟩) (Nat.le_of_ble_eq_true rfl) (Nat.le_of_ble_eq_true rfl) dX11_day_74
  · have c_6 : b_1 = 0 := (neq b_1 0 (by omega) (by omega)).mp c_6
    refine lv_iconst (v := (-1)) hx hb dX11_day_8 (by decide) ?_
    exact sk_iret hx hb hr rfl hlocks hK hP hD hS (⟨Or.inl ⟨(rr_0 hb1_3 (by omega)), rfl⟩, rfl⟩) (Nat.le_of_ble_eq_true rfl) (Nat.le_of_ble_eq_true rfl) dX11_day_9

