set_option maxHeartbeats 4000000 in
set_option maxRecDepth 100000 in
theorem c_kx_isWordOfN (l : Launch) (D : va_G) (cI cJ cC cZ cS : ClassId) (x0 : Nat) (q : Nat → Nat) (hc : Int32) (dr : Int64) (dy : Nat) (wn : Nat) (mo : Nat) (ke : Nat) (mu : Int32) (fb : Nat → Int32) (fw : Nat → Int32) (aw : Nat) (cw : Nat) (U : Nat → Bool) (hdy : dy ≤ 9) (hU : muO U mu) (ha9 : aw ≤ 255) (hc9 : cw ≤ 255) : skM l yX11_isWordOf cX11_isWordOf 3 (some .boolean) 1 21 0 0 D (skT cI cJ cC cZ cS) [.ref x0, .int (nI aw), .int (nI cw)] [(x0, .inr (11, [.ref (q 0), .ref (q 1), .ref (q 2), .ref (q 3), .ref (q 4), .ref (q 5), .ref (q 6), .ref (q 7), .ref (q 8), .ref (q 9), .ref (q 10), .ref (q 11), .ref (q 12), .ref (q 13), .ref (q 14), .int hc, .ref (q 16), .long dr])), (q 7, .inr (7, [.ref (q 33), .ref (q 34), .int (nI dy), .int (nI wn), .int (nI mo), .int mu, .int (nI ke)]))] (skI D (skT cI cJ cC cZ cS) (fun (r : Int32) (u : va_W) => ∃ (b : Nat), ((b = 0 ∧ ¬ (aw < dy ∧ ¬ U aw = true ∧ cw < 10)) ∨ (b = 1 ∧ aw < dy ∧ ¬ U aw = true ∧ cw < 10)) ∧ r = nI b ∧ u = [(x0, .inr (11, [.ref (q 0), .ref (q 1), .ref (q 2), .ref (q 3), .ref (q 4), .ref (q 5), .ref (q 6), .ref (q 7), .ref (q 8), .ref (q 9), .ref (q 10), .ref (q 11), .ref (q 12), .ref (q 13), .ref (q 14), .int hc, .ref (q 16), .long dr])), (q 7, .inr (7, [.ref (q 33), .ref (q 34), .int (nI dy), .int (nI wn), .int (nI mo), .int mu, .int (nI ke)]))])) := by
  refine skM_of pf_X11_isWordOf (Nat.le_of_ble_eq_true rfl) ?_
  intro p e s m below meth c A ls E hP hD hl
  refine skE_el E (fun hx hb hr hml hlocks hin hown hts hK hA => ?_)
  have hown : s.vm.findClass RX11 = some m.cls := hown
  have hS : va_S A s.heap s.heap [] := va_S.rf
  have hl : lv_has ls 3 [(0, .ref x0), (1, .int (nI aw)), (2, .int (nI cw))] := hl
  refine lv_aload_n hx hb dX11_isWordOf_0 rfl (lv_at hl 0 rfl) ?_
  refine lv_iload_n hx hb dX11_isWordOf_1 rfl (lv_at hl 1 rfl) ?_
  refine sk_Vi (q0 := 0) (n := 1) (rest := []) (wr := fmR om_2_3 _) ⟨hx, hb, hml, hown, hts⟩ hl.1 (c_kx_isDay l D cI cJ cC cZ cS x0 q hc dr dy wn mo ke mu fb fw (nI aw) (by omega)) w_3_190 w_3_192 w_0_14 w_1_1 w_3_193 hd_X11_isDay_1 ⟨⟨(Nat.le_of_ble_eq_true rfl), (Nat.le_of_ble_eq_true rfl)⟩, (Nat.le_of_ble_eq_true rfl), (Nat.le_of_ble_eq_true rfl)⟩ hK hP hD hS hA (fmT om_2_3 0) (fmF om_2_3 0) (fm_C1 rfl rfl) (fm_R rfl rfl) (fm_nT om_2_3 0) (fm_nF om_2_3 0) (fm_di om_2_3 0) rfl rfl rfl rfl (Nat.le_of_ble_eq_true rfl) dX11_isWordOf_2 (fun r_2 u H locs hw hP hD hS => ?_)
  refine exE hw (fun b_1 hw1 => anE hw1 (fun hb1_3 hw2 => anE hw2 (fun er_5 eu_4 => ?_)))
  clear hw hw1 hw2
  subst er_5
  refine o_mgE (ws' := [(x0, .inr (11, [.ref (q 0), .ref (q 1), .ref (q 2), .ref (q 3), .ref (q 4), .ref (q 5), .ref (q 6), .ref (q 7), .ref (q 8), .ref (q 9), .ref (q 10), .ref (q 11), .ref (q 12), .ref (q 13), .ref (q 14), .int hc, .ref (q 16), .long dr])), (q 7, .inr (7, [.ref (q 33), .ref (q 34), .int (nI dy), .int (nI wn), .int (nI mo), .int mu, .int (nI ke)]))]) eu_4 hP hD rfl (fun hP hD => ?_)
  refine lv_if_eq (tgt := 30) hx hb dX11_isWordOf_5 (by decide) (fun c_6 => ?_) (fun c_6 => ?_)
  · have c_6 : b_1 = 0 := (neq b_1 0 (by omega) (by omega)).mp c_6
    refine lv_iconst (v := 0) hx hb dX11_isWordOf_30 (by decide) ?_
    exact sk_iret hx hb hr rfl hlocks hK hP hD hS (⟨0, Or.inl ⟨rfl, fun hq => (rr_0 hb1_3 (by omega)) ⟨aw, hq.1, rfl⟩⟩, rfl, rfl⟩) (Nat.le_of_ble_eq_true rfl) (Nat.le_of_ble_eq_true rfl) dX11_isWordOf_31
  · have c_6 : ¬ (b_1 = 0) := fun h => c_6 ((neq b_1 0 (by omega) (by omega)).mpr h)
    obtain ⟨kd_7, hkd_7, ekd_7⟩ := rr_1 hb1_3 (by omega)
    have ekd_7 := (neq aw kd_7 (by omega) (by omega)).mp ekd_7
    refine lv_aload_n hx hb dX11_isWordOf_8 rfl (lv_at hl 0 rfl) ?_
    refine sk_get (v := .ref (q 7)) (C := RX11) (T := TX11) (N := 18) hx hb hts inlX11 hown hK hP 0 rfl rfl 7 (by decide) w_2_130 rfl dX11_isWordOf_9 ?_
    refine lv_iload_n hx hb dX11_isWordOf_12 rfl (lv_at hl 1 rfl) ?_
    refine sk_Vi (q0 := 0) (n := 1) (rest := []) (wr := fmR om_2_1 _) ⟨hx, hb, hml, hown, hts⟩ hl.1 (c_kState_isMute l D cI cJ cC cZ cS (q 7) (q 33) (q 34) dy mo (nI wn) mu (nI ke) aw U (by omega) hU) w_3_194 w_3_195 w_3_196 w_1_10 w_3_197 hd_X7_isMute_1 ⟨⟨(Nat.le_of_ble_eq_true rfl), (Nat.le_of_ble_eq_true rfl)⟩, (Nat.le_of_ble_eq_true rfl), (Nat.le_of_ble_eq_true rfl)⟩ hK hP hD hS hA (fmT om_2_1 0) (fmF om_2_1 0) (fm_C1 rfl rfl) (fm_R rfl rfl) (fm_nT om_2_1 0) (fm_nF om_2_1 0) (fm_di om_2_1 0) rfl rfl rfl rfl (Nat.le_of_ble_eq_true rfl) dX11_isWordOf_13 (fun r_9 u H locs hw hP hD hS => ?_)
    refine exE hw (fun b_8 hw1 => anE hw1 (fun hb1_10 hw2 => anE hw2 (fun er_12 eu_11 => ?_)))
    clear hw hw1 hw2
    subst er_12
    refine o_mgE (ws' := [(x0, .inr (11, [.ref (q 0), .ref (q 1), .ref (q 2), .ref (q 3), .ref (q 4), .ref (q 5), .ref (q 6), .ref (q 7), .ref (q 8), .ref (q 9), .ref (q 10), .ref (q 11), .ref (q 12), .ref (q 13), .ref (q 14), .int hc, .ref (q 16), .long dr])), (q 7, .inr (7, [.ref (q 33), .ref (q 34), .int (nI dy), .int (nI wn), .int (nI mo), .int mu, .int (nI ke)]))]) eu_11 hP hD rfl (fun hP hD => ?_)
    refine lv_if_ne (tgt := 30) hx hb dX11_isWordOf_16 (by decide) (fun c_13 => ?_) (fun c_13 => ?_)
    · have c_13 : ¬ (b_8 = 0) := fun h => c_13 ((neq b_8 0 (by omega) (by omega)).mpr h)
      refine lv_iconst (v := 0) hx hb dX11_isWordOf_30 (by decide) ?_
      exact sk_iret hx hb hr rfl hlocks hK hP hD hS (⟨0, Or.inl ⟨rfl, fun hq => hq.2.1 (km_1 hb1_10 (by omega))⟩, rfl, rfl⟩) (Nat.le_of_ble_eq_true rfl) (Nat.le_of_ble_eq_true rfl) dX11_isWordOf_31
    · have c_13 : b_8 = 0 := (neq b_8 0 (by omega) (by omega)).mp c_13
      refine lv_iload_n hx hb dX11_isWordOf_19 rfl (lv_at hl 2 rfl) ?_
      refine sk_Si (n := 1) (rest := []) (wr := [(x0, .inr (11, [.ref (q 0), .ref (q 1), .ref (q 2), .ref (q 3), .ref (q 4), .ref (q 5), .ref (q 6), .ref (q 7), .ref (q 8), .ref (q 9), .ref (q 10), .ref (q 11), .ref (q 12), .ref (q 13), .ref (q 14), .int hc, .ref (q 16), .long dr])), (q 7, .inr (7, [.ref (q 33), .ref (q 34), .int (nI dy), .int (nI wn), .int (nI mo), .int mu, .int (nI ke)]))]) ⟨hx, hb, hml, hown, hts⟩ hl.1 (c_kx_isDigit l D cI cJ cC cZ cS (nI cw)) w_3_202 w_3_203 w_1_1 w_3_204 hd_X11_isDigit_1 ⟨⟨(Nat.le_of_ble_eq_true rfl), (Nat.le_of_ble_eq_true rfl)⟩, (Nat.le_of_ble_eq_true rfl), (Nat.le_of_ble_eq_true rfl)⟩ hK hP hD hS hA [] [0, 1] rfl rfl (by decide +kernel) (by decide +kernel) (by decide +kernel) rfl rfl (Nat.le_of_ble_eq_true rfl) dX11_isWordOf_20 (fun r_15 u H locs hw hP hD hS => ?_)
      obtain ⟨b_14, hb1_16, rfl, rfl⟩ := hw
      refine o_re (ws' := [(x0, .inr (11, [.ref (q 0), .ref (q 1), .ref (q 2), .ref (q 3), .ref (q 4), .ref (q 5), .ref (q 6), .ref (q 7), .ref (q 8), .ref (q 9), .ref (q 10), .ref (q 11), .ref (q 12), .ref (q 13), .ref (q 14), .int hc, .ref (q 16), .long dr])), (q 7, .inr (7, [.ref (q 33), .ref (q 34), .int (nI dy), .int (nI wn), .int (nI mo), .int mu, .int (nI ke)]))]) hP hD rfl (fun hP hD => ?_)
      refine lv_if_eq (tgt := 30) hx hb dX11_isWordOf_23 (by decide) (fun c_17 => ?_) (fun c_17 => ?_)
      · have c_17 : b_14 = 0 := (neq b_14 0 (by omega) (by omega)).mp c_17
        refine lv_iconst (v := 0) hx hb dX11_isWordOf_30 (by decide) ?_
        exact sk_iret hx hb hr rfl hlocks hK hP hD hS (⟨0, Or.inl ⟨rfl, fun hq => (rr_0 hb1_16 (by omega)) ⟨cw, hq.2.2, rfl⟩⟩, rfl, rfl⟩) (Nat.le_of_ble_eq_true rfl) (Nat.le_of_ble_eq_true rfl) dX11_isWordOf_31
      · have c_17 : ¬ (b_14 = 0) := fun h => c_17 ((neq b_14 0 (by omega) (by omega)).mpr h)
        obtain ⟨kd_18, hkd_18, ekd_18⟩ := rr_1 hb1_16 (by omega)
        have ekd_18 := (neq cw kd_18 (by omega) (by omega)).mp ekd_18
        refine lv_iconst (v := 1) hx hb dX11_isWordOf_26 (by decide) ?_
        refine lv_goto (tgt := 31) hx hb dX11_isWordOf_27 (by decide) ?_
        exact sk_iret hx hb hr rfl hlocks hK hP hD hS (⟨1, Or.inr ⟨rfl, by omega, km_0 hb1_10 (by omega), by omega⟩, rfl, rfl⟩) (Nat.le_of_ble_eq_true rfl) (Nat.le_of_ble_eq_true rfl) dX11_isWordOf_31
theorem dg_X11_tellsRows_0_0 : bqL cX11_tellsRows 0 [(0, [42]), (1, [180, 0, 12]), (4, [180, 0, 110]), (7, [5]), (8, [161, 0, 27]), (35, [3]), (36, [172]), (11, [42]), (12, [180, 0, 12]), (15, [180, 0, 110]), (18, [16, 32]), (20, [163, 0, 15]), (23, [42]), (24, [180, 0, 12]), (27, [180, 0, 110]), (30, [5]), (31, [112]), (32, [153, 0, 5]), (37, [3]), (38, [60]), (39, [27]), (40, [42]), (41, [180, 0, 12]), (44, [180, 0, 110]), (47, [162, 0, 36]), (83, [4]), (84, [172]), (50, [42]), (51, [42]), (52, [180, 0, 12]), (55, [27]), (56, [182, 1, 12]), (59, [42]), (60, [180, 0, 12]), (63, [27]), (64, [4]), (65, [96]), (66, [182, 1, 12]), (69, [182, 0, 255]), (72, [154, 0, 5])] = true := by decide +kernel
theorem dX11_tellsRows_0 : decode cX11_tellsRows 0 = .ok (.aload_n 0, 1) := q_aload_n0 (bat_get dg_X11_tellsRows_0_0 0 rfl rfl)
theorem dX11_tellsRows_1 : decode cX11_tellsRows 1 = .ok (.getfield 12, 3) := q_getfield (bat_get dg_X11_tellsRows_0_0 1 rfl rfl) rfl
theorem dX11_tellsRows_4 : decode cX11_tellsRows 4 = .ok (.getfield 110, 3) := q_getfield (bat_get dg_X11_tellsRows_0_0 2 rfl rfl) rfl
theorem dX11_tellsRows_7 : decode cX11_tellsRows 7 = .ok (.iconst 2, 1) := q_iconst2 (bat_get dg_X11_tellsRows_0_0 3 rfl rfl)
theorem dX11_tellsRows_8 : decode cX11_tellsRows 8 = .ok (.if_icmp .lt 27, 3) := q_if_icmp_lt (bat_get dg_X11_tellsRows_0_0 4 rfl rfl) rfl
theorem dX11_tellsRows_35 : decode cX11_tellsRows 35 = .ok (.iconst 0, 1) := q_iconst0 (bat_get dg_X11_tellsRows_0_0 5 rfl rfl)
theorem dX11_tellsRows_36 : decode cX11_tellsRows 36 = .ok (.ireturn, 1) := q_ireturn (bat_get dg_X11_tellsRows_0_0 6 rfl rfl)
theorem dX11_tellsRows_11 : decode cX11_tellsRows 11 = .ok (.aload_n 0, 1) := q_aload_n0 (bat_get dg_X11_tellsRows_0_0 7 rfl rfl)
theorem dX11_tellsRows_12 : decode cX11_tellsRows 12 = .ok (.getfield 12, 3) := q_getfield (bat_get dg_X11_tellsRows_0_0 8 rfl rfl) rfl
theorem dX11_tellsRows_15 : decode cX11_tellsRows 15 = .ok (.getfield 110, 3) := q_getfield (bat_get dg_X11_tellsRows_0_0 9 rfl rfl) rfl
theorem dX11_tellsRows_18 : decode cX11_tellsRows 18 = .ok (.bipush 32, 2) := q_bipush (bat_get dg_X11_tellsRows_0_0 10 rfl rfl) rfl
theorem dX11_tellsRows_20 : decode cX11_tellsRows 20 = .ok (.if_icmp .gt 15, 3) := q_if_icmp_gt (bat_get dg_X11_tellsRows_0_0 11 rfl rfl) rfl
theorem dX11_tellsRows_23 : decode cX11_tellsRows 23 = .ok (.aload_n 0, 1) := q_aload_n0 (bat_get dg_X11_tellsRows_0_0 12 rfl rfl)
theorem dX11_tellsRows_24 : decode cX11_tellsRows 24 = .ok (.getfield 12, 3) := q_getfield (bat_get dg_X11_tellsRows_0_0 13 rfl rfl) rfl
theorem dX11_tellsRows_27 : decode cX11_tellsRows 27 = .ok (.getfield 110, 3) := q_getfield (bat_get dg_X11_tellsRows_0_0 14 rfl rfl) rfl
theorem dX11_tellsRows_30 : decode cX11_tellsRows 30 = .ok (.iconst 2, 1) := q_iconst2 (bat_get dg_X11_tellsRows_0_0 15 rfl rfl)
theorem dX11_tellsRows_31 : decode cX11_tellsRows 31 = .ok (.irem, 1) := q_irem (bat_get dg_X11_tellsRows_0_0 16 rfl rfl)
theorem dX11_tellsRows_32 : decode cX11_tellsRows 32 = .ok (.ifCond .eq 5, 3) := q_ifCond_eq (bat_get dg_X11_tellsRows_0_0 17 rfl rfl) rfl
theorem dX11_tellsRows_37 : decode cX11_tellsRows 37 = .ok (.iconst 0, 1) := q_iconst0 (bat_get dg_X11_tellsRows_0_0 18 rfl rfl)
theorem dX11_tellsRows_38 : decode cX11_tellsRows 38 = .ok (.istore_n 1, 1) := q_istore_n1 (bat_get dg_X11_tellsRows_0_0 19 rfl rfl)
theorem dX11_tellsRows_39 : decode cX11_tellsRows 39 = .ok (.iload_n 1, 1) := q_iload_n1 (bat_get dg_X11_tellsRows_0_0 20 rfl rfl)
theorem dX11_tellsRows_40 : decode cX11_tellsRows 40 = .ok (.aload_n 0, 1) := q_aload_n0 (bat_get dg_X11_tellsRows_0_0 21 rfl rfl)
theorem dX11_tellsRows_41 : decode cX11_tellsRows 41 = .ok (.getfield 12, 3) := q_getfield (bat_get dg_X11_tellsRows_0_0 22 rfl rfl) rfl
theorem dX11_tellsRows_44 : decode cX11_tellsRows 44 = .ok (.getfield 110, 3) := q_getfield (bat_get dg_X11_tellsRows_0_0 23 rfl rfl) rfl
theorem dX11_tellsRows_47 : decode cX11_tellsRows 47 = .ok (.if_icmp .ge 36, 3) := q_if_icmp_ge (bat_get dg_X11_tellsRows_0_0 24 rfl rfl) rfl
theorem dX11_tellsRows_83 : decode cX11_tellsRows 83 = .ok (.iconst 1, 1) := q_iconst1 (bat_get dg_X11_tellsRows_0_0 25 rfl rfl)
theorem dX11_tellsRows_84 : decode cX11_tellsRows 84 = .ok (.ireturn, 1) := q_ireturn (bat_get dg_X11_tellsRows_0_0 26 rfl rfl)
theorem dX11_tellsRows_50 : decode cX11_tellsRows 50 = .ok (.aload_n 0, 1) := q_aload_n0 (bat_get dg_X11_tellsRows_0_0 27 rfl rfl)
theorem dX11_tellsRows_51 : decode cX11_tellsRows 51 = .ok (.aload_n 0, 1) := q_aload_n0 (bat_get dg_X11_tellsRows_0_0 28 rfl rfl)
theorem dX11_tellsRows_52 : decode cX11_tellsRows 52 = .ok (.getfield 12, 3) := q_getfield (bat_get dg_X11_tellsRows_0_0 29 rfl rfl) rfl
theorem dX11_tellsRows_55 : decode cX11_tellsRows 55 = .ok (.iload_n 1, 1) := q_iload_n1 (bat_get dg_X11_tellsRows_0_0 30 rfl rfl)
theorem dX11_tellsRows_56 : decode cX11_tellsRows 56 = .ok (.invokevirtual 268, 3) := q_invokevirtual (bat_get dg_X11_tellsRows_0_0 31 rfl rfl) rfl
theorem dX11_tellsRows_59 : decode cX11_tellsRows 59 = .ok (.aload_n 0, 1) := q_aload_n0 (bat_get dg_X11_tellsRows_0_0 32 rfl rfl)
theorem dX11_tellsRows_60 : decode cX11_tellsRows 60 = .ok (.getfield 12, 3) := q_getfield (bat_get dg_X11_tellsRows_0_0 33 rfl rfl) rfl
theorem dX11_tellsRows_63 : decode cX11_tellsRows 63 = .ok (.iload_n 1, 1) := q_iload_n1 (bat_get dg_X11_tellsRows_0_0 34 rfl rfl)
theorem dX11_tellsRows_64 : decode cX11_tellsRows 64 = .ok (.iconst 1, 1) := q_iconst1 (bat_get dg_X11_tellsRows_0_0 35 rfl rfl)
theorem dX11_tellsRows_65 : decode cX11_tellsRows 65 = .ok (.iadd, 1) := q_iadd (bat_get dg_X11_tellsRows_0_0 36 rfl rfl)
theorem dX11_tellsRows_66 : decode cX11_tellsRows 66 = .ok (.invokevirtual 268, 3) := q_invokevirtual (bat_get dg_X11_tellsRows_0_0 37 rfl rfl) rfl
theorem dX11_tellsRows_69 : decode cX11_tellsRows 69 = .ok (.invokevirtual 255, 3) := q_invokevirtual (bat_get dg_X11_tellsRows_0_0 38 rfl rfl) rfl
theorem dX11_tellsRows_72 : decode cX11_tellsRows 72 = .ok (.ifCond .ne 5, 3) := q_ifCond_ne (bat_get dg_X11_tellsRows_0_0 39 rfl rfl) rfl
theorem dg_X11_tellsRows_75_77 : bqL cX11_tellsRows 75 [(2, [132, 1, 2]), (5, [167, 255, 215]), (0, [3]), (1, [172])] = true := by decide +kernel
theorem dX11_tellsRows_77 : decode cX11_tellsRows 77 = .ok (.iinc 1 2, 3) := q_iinc (bat_get dg_X11_tellsRows_75_77 0 rfl rfl) rfl
theorem dX11_tellsRows_80 : decode cX11_tellsRows 80 = .ok (.goto (-41), 3) := q_goto (bat_get dg_X11_tellsRows_75_77 1 rfl rfl) rfl
theorem dX11_tellsRows_75 : decode cX11_tellsRows 75 = .ok (.iconst 0, 1) := q_iconst0 (bat_get dg_X11_tellsRows_75_77 2 rfl rfl)
theorem dX11_tellsRows_76 : decode cX11_tellsRows 76 = .ok (.ireturn, 1) := q_ireturn (bat_get dg_X11_tellsRows_75_77 3 rfl rfl)
theorem w_4_213 : (Cond.code yX11_tellsRows cX11_tellsRows 2 (some .boolean)) ∈ wsL_law := sk_mem (ck_4 _ (List.mem_of_getElem? (i := 213) rfl)) rfl
set_option maxHeartbeats 4000000 in
set_option maxRecDepth 100000 in
theorem c_kx_tellsRows (l : Launch) (D : va_G) (cI cJ cC cZ cS : ClassId) (x0 : Nat) (q : Nat → Nat) (hc : Int32) (dr : Int64) (tl : Nat) (tb : Nat → Nat) (dy : Nat) (wn : Nat) (mo : Nat) (ke : Nat) (mu : Int32) (fb : Nat → Int32) (fw : Nat → Int32) (U : Nat → Bool) (htl : tl ≤ 1600) (htb : ∀ j, tb j ≤ 255) (hdy : dy ≤ 9) (hmo : mo ≤ 9) (hU : muO U mu) : skM l yX11_tellsRows cX11_tellsRows 2 (some .boolean) 2 43 0 0 D (skT cI cJ cC cZ cS) [.ref x0] [(x0, .inr (11, [.ref (q 0), .ref (q 1), .ref (q 2), .ref (q 3), .ref (q 4), .ref (q 5), .ref (q 6), .ref (q 7), .ref (q 8), .ref (q 9), .ref (q 10), .ref (q 11), .ref (q 12), .ref (q 13), .ref (q 14), .int hc, .ref (q 16), .long dr])), (q 0, .inr (10, [.ref (q 20), .int (nI tl)])), (q 20, .inl (cI, 1600, .inl (fun j => nI (tb j)))), (q 7, .inr (7, [.ref (q 33), .ref (q 34), .int (nI dy), .int (nI wn), .int (nI mo), .int mu, .int (nI ke)]))] (skI D (skT cI cJ cC cZ cS) (fun (r : Int32) (u : va_W) => ∃ (b : Nat), ((b = 0 ∧ ¬ (2 ≤ tl ∧ tl ≤ 32 ∧ tl % 2 = 0 ∧ hrC dy U tb tl)) ∨ (b = 1 ∧ 2 ≤ tl ∧ tl ≤ 32 ∧ tl % 2 = 0 ∧ hrC dy U tb tl)) ∧ r = nI b ∧ u = [(x0, .inr (11, [.ref (q 0), .ref (q 1), .ref (q 2), .ref (q 3), .ref (q 4), .ref (q 5), .ref (q 6), .ref (q 7), .ref (q 8), .ref (q 9), .ref (q 10), .ref (q 11), .ref (q 12), .ref (q 13), .ref (q 14), .int hc, .ref (q 16), .long dr])), (q 0, .inr (10, [.ref (q 20), .int (nI tl)])), (q 20, .inl (cI, 1600, .inl (fun j => nI (tb j)))), (q 7, .inr (7, [.ref (q 33), .ref (q 34), .int (nI dy), .int (nI wn), .int (nI mo), .int mu, .int (nI ke)]))])) := by
  refine skM_of pf_X11_tellsRows (Nat.le_of_ble_eq_true rfl) ?_
  intro p e s m below meth c A ls E hP hD hl
  refine skE_el E (fun hx hb hr hml hlocks hin hown hts hK hA => ?_)
  have hown : s.vm.findClass RX11 = some m.cls := hown
  have hS : va_S A s.heap s.heap [] := va_S.rf
  have hl : lv_has ls 2 [(0, .ref x0)] := hl
  refine lv_aload_n hx hb dX11_tellsRows_0 rfl (lv_at hl 0 rfl) ?_
  refine sk_get (v := .ref (q 0)) (C := RX11) (T := TX11) (N := 18) hx hb hts inlX11 hown hK hP 0 rfl rfl 0 (by decide) w_2_123 rfl dX11_tellsRows_1 ?_
  refine sk_get (v := .int (nI tl)) (C := RX10) (T := TX10) (N := 2) hx hb hts inlX10 hown hK hP 1 rfl rfl 1 (by decide) w_1_42 rfl dX11_tellsRows_4 ?_
  refine lv_iconst (v := 2) hx hb dX11_tellsRows_7 (by decide) ?_
  refine lv_icmp_lt (tgt := 35) hx hb dX11_tellsRows_8 (by decide) (fun c_1 => ?_) (fun c_1 => ?_)
  · have c_1 : tl < 2 := (nlt tl 2 (by omega) (by omega)).mp c_1
    refine lv_iconst (v := 0) hx hb dX11_tellsRows_35 (by decide) ?_
    exact sk_iret hx hb hr rfl hlocks hK hP hD hS (⟨0, Or.inl ⟨rfl, fun hq => by have h1 := hq.1; have h2 := hq.2.1; have h3 := hq.2.2.1; omega⟩, rfl, rfl⟩) (Nat.le_of_ble_eq_true rfl) (Nat.le_of_ble_eq_true rfl) dX11_tellsRows_36
  · have c_1 : ¬ (tl < 2) := fun h => c_1 ((nlt tl 2 (by omega) (by omega)).mpr h)
    refine lv_aload_n hx hb dX11_tellsRows_11 rfl (lv_at hl 0 rfl) ?_
    refine sk_get (v := .ref (q 0)) (C := RX11) (T := TX11) (N := 18) hx hb hts inlX11 hown hK hP 0 rfl rfl 0 (by decide) w_2_123 rfl dX11_tellsRows_12 ?_
    refine sk_get (v := .int (nI tl)) (C := RX10) (T := TX10) (N := 2) hx hb hts inlX10 hown hK hP 1 rfl rfl 1 (by decide) w_1_42 rfl dX11_tellsRows_15 ?_
    refine lv_bipush (v := 32) hx hb dX11_tellsRows_18 (by decide) ?_
    refine lv_icmp_gt (tgt := 35) hx hb dX11_tellsRows_20 (by decide) (fun c_2 => ?_) (fun c_2 => ?_)
    · have c_2 : 32 < tl := (nlt 32 tl (by omega) (by omega)).mp c_2
      refine lv_iconst (v := 0) hx hb dX11_tellsRows_35 (by decide) ?_
      exact sk_iret hx hb hr rfl hlocks hK hP hD hS (⟨0, Or.inl ⟨rfl, fun hq => by have h1 := hq.1; have h2 := hq.2.1; have h3 := hq.2.2.1; omega⟩, rfl, rfl⟩) (Nat.le_of_ble_eq_true rfl) (Nat.le_of_ble_eq_true rfl) dX11_tellsRows_36
    · have c_2 : ¬ (32 < tl) := fun h => c_2 ((nlt 32 tl (by omega) (by omega)).mpr h)
      refine lv_aload_n hx hb dX11_tellsRows_23 rfl (lv_at hl 0 rfl) ?_
      refine sk_get (v := .ref (q 0)) (C := RX11) (T := TX11) (N := 18) hx hb hts inlX11 hown hK hP 0 rfl rfl 0 (by decide) w_2_123 rfl dX11_tellsRows_24 ?_
      refine sk_get (v := .int (nI tl)) (C := RX10) (T := TX10) (N := 2) hx hb hts inlX10 hown hK hP 1 rfl rfl 1 (by decide) w_1_42 rfl dX11_tellsRows_27 ?_
      refine lv_iconst (v := 2) hx hb dX11_tellsRows_30 (by decide) ?_
      refine lv_irem hx hb dX11_tellsRows_31 (by decide) ?_
      refine sk_top (nI (tl % 2)) (nrem tl 2 (by omega) (by omega) (by omega)) ?_
      refine lv_if_eq (tgt := 37) hx hb dX11_tellsRows_32 (by decide) (fun c_3 => ?_) (fun c_3 => ?_)
      · have c_3 : tl % 2 = 0 := (neq (tl % 2) 0 (by omega) (by omega)).mp c_3
        refine lv_iconst (v := 0) hx hb dX11_tellsRows_37 (by decide) ?_
        refine lv_istore_n (lv' := [(1, .int 0), (0, .ref x0)]) hx hb dX11_tellsRows_38 rfl hl (by decide) rfl (fun ls hl => ?_)
        have lp_4 : ∀ (n_5 : Nat) (i : Nat) (H : Heap) (locs : List Loc) (ls : Array Slot), 1602 - i < n_5 → (i ≤ 33) → (i % 2 = 0) → (hrC dy U tb i) → va_P D vwCl [(x0, .inr (11, [.ref (q 0), .ref (q 1), .ref (q 2), .ref (q 3), .ref (q 4), .ref (q 5), .ref (q 6), .ref (q 7), .ref (q 8), .ref (q 9), .ref (q 10), .ref (q 11), .ref (q 12), .ref (q 13), .ref (q 14), .int hc, .ref (q 16), .long dr])), (q 0, .inr (10, [.ref (q 20), .int (nI tl)])), (q 20, .inl (cI, 1600, .inl (fun j => nI (tb j)))), (q 7, .inr (7, [.ref (q 33), .ref (q 34), .int (nI dy), .int (nI wn), .int (nI mo), .int mu, .int (nI ke)]))] H → va_D A [(x0, .inr (11, [.ref (q 0), .ref (q 1), .ref (q 2), .ref (q 3), .ref (q 4), .ref (q 5), .ref (q 6), .ref (q 7), .ref (q 8), .ref (q 9), .ref (q 10), .ref (q 11), .ref (q 12), .ref (q 13), .ref (q 14), .int hc, .ref (q 16), .long dr])), (q 0, .inr (10, [.ref (q 20), .int (nI tl)])), (q 20, .inl (cI, 1600, .inl (fun j => nI (tb j)))), (q 7, .inr (7, [.ref (q 33), .ref (q 34), .int (nI dy), .int (nI wn), .int (nI mo), .int mu, .int (nI ke)]))] → va_S A s.heap H locs → lv_has ls 2 [(1, .int (nI i)), (0, .ref x0)] → W p l e { frames := 2, cells := 0, slots := 0, locals := 43 } s m ([.ref x0] : List Value).toArray below meth c H locs 0 0 (MQ below (skI D (skT cI cJ cC cZ cS) (fun (r : Int32) (u : va_W) => ∃ (b : Nat), ((b = 0 ∧ ¬ (2 ≤ tl ∧ tl ≤ 32 ∧ tl % 2 = 0 ∧ hrC dy U tb tl)) ∨ (b = 1 ∧ 2 ≤ tl ∧ tl ≤ 32 ∧ tl % 2 = 0 ∧ hrC dy U tb tl)) ∧ r = nI b ∧ u = [(x0, .inr (11, [.ref (q 0), .ref (q 1), .ref (q 2), .ref (q 3), .ref (q 4), .ref (q 5), .ref (q 6), .ref (q 7), .ref (q 8), .ref (q 9), .ref (q 10), .ref (q 11), .ref (q 12), .ref (q 13), .ref (q 14), .int hc, .ref (q 16), .long dr])), (q 0, .inr (10, [.ref (q 20), .int (nI tl)])), (q 20, .inl (cI, 1600, .inl (fun j => nI (tb j)))), (q 7, .inr (7, [.ref (q 33), .ref (q 34), .int (nI dy), .int (nI wn), .int (nI mo), .int mu, .int (nI ke)]))]) A) ([.ref x0] : List Value).toArray s 0 0 A) (F0 m 39 ls []) := by
          intro n_5
          induction n_5 with
          | zero => intro i H locs ls hm; exact absurd hm (Nat.not_lt_zero _)
          | succ n_5 ih_lp_4 =>
            intro i H locs ls hm hi hi2 hrc hP hD hS hl
            refine lv_iload_n hx hb dX11_tellsRows_39 rfl (lv_at hl 0 rfl) ?_
            refine lv_aload_n hx hb dX11_tellsRows_40 rfl (lv_at hl 1 rfl) ?_
            refine sk_get (v := .ref (q 0)) (C := RX11) (T := TX11) (N := 18) hx hb hts inlX11 hown hK hP 0 rfl rfl 0 (by decide) w_2_123 rfl dX11_tellsRows_41 ?_
            refine sk_get (v := .int (nI tl)) (C := RX10) (T := TX10) (N := 2) hx hb hts inlX10 hown hK hP 1 rfl rfl 1 (by decide) w_1_42 rfl dX11_tellsRows_44 ?_
            refine lv_icmp_ge (tgt := 83) hx hb dX11_tellsRows_47 (by decide) (fun c_6 => ?_) (fun c_6 => ?_)
            · have c_6 : tl ≤ i := (nle tl i (by omega) (by omega)).mp c_6
              refine lv_iconst (v := 1) hx hb dX11_tellsRows_83 (by decide) ?_
              exact sk_iret hx hb hr rfl hlocks hK hP hD hS (⟨1, Or.inr ⟨rfl, by omega, by omega, by omega, hrC_e hrc (by omega)⟩, rfl, rfl⟩) (Nat.le_of_ble_eq_true rfl) (Nat.le_of_ble_eq_true rfl) dX11_tellsRows_84
            · have c_6 : ¬ (tl ≤ i) := fun h => c_6 ((nle tl i (by omega) (by omega)).mpr h)
              refine lv_aload_n hx hb dX11_tellsRows_50 rfl (lv_at hl 1 rfl) ?_
              refine lv_aload_n hx hb dX11_tellsRows_51 rfl (lv_at hl 1 rfl) ?_
              refine sk_get (v := .ref (q 0)) (C := RX11) (T := TX11) (N := 18) hx hb hts inlX11 hown hK hP 0 rfl rfl 0 (by decide) w_2_123 rfl dX11_tellsRows_52 ?_
              refine lv_iload_n hx hb dX11_tellsRows_55 rfl (lv_at hl 0 rfl) ?_
              refine sk_Vi (q0 := 0) (n := 1) (rest := [.ref x0]) (wr := fmR om_4_6 _) ⟨hx, hb, hml, hown, hts⟩ hl.1 (c_eTape_left_1600 l D cI cJ cC cZ cS (q 0) (q 20) tl tb i (by omega) htb (by omega)) w_4_214 w_4_215 w_4_216 w_1_2 w_4_217 hd_X10_left_1 ⟨⟨(Nat.le_of_ble_eq_true rfl), (Nat.le_of_ble_eq_true rfl)⟩, (Nat.le_of_ble_eq_true rfl), (Nat.le_of_ble_eq_true rfl)⟩ hK hP hD hS hA (fmT om_4_6 0) (fmF om_4_6 0) (fm_C1 rfl rfl) (fm_R rfl rfl) (fm_nT om_4_6 0) (fm_nF om_4_6 0) (fm_di om_4_6 0) rfl rfl rfl rfl (Nat.le_of_ble_eq_true rfl) dX11_tellsRows_56 (fun r_7 u H locs hw hP hD hS => ?_)
              refine anE hw (fun hv_8 hw1 => anE hw1 (fun er_10 eu_9 => ?_))
              clear hw hw1
              subst er_10
              refine o_mgE (ws' := [(x0, .inr (11, [.ref (q 0), .ref (q 1), .ref (q 2), .ref (q 3), .ref (q 4), .ref (q 5), .ref (q 6), .ref (q 7), .ref (q 8), .ref (q 9), .ref (q 10), .ref (q 11), .ref (q 12), .ref (q 13), .ref (q 14), .int hc, .ref (q 16), .long dr])), (q 0, .inr (10, [.ref (q 20), .int (nI tl)])), (q 20, .inl (cI, 1600, .inl (fun j => nI (tb j)))), (q 7, .inr (7, [.ref (q 33), .ref (q 34), .int (nI dy), .int (nI wn), .int (nI mo), .int mu, .int (nI ke)]))]) eu_9 hP hD rfl (fun hP hD => ?_)
              refine lv_aload_n hx hb dX11_tellsRows_59 rfl (lv_at hl 1 rfl) ?_
              refine sk_get (v := .ref (q 0)) (C := RX11) (T := TX11) (N := 18) hx hb hts inlX11 hown hK hP 0 rfl rfl 0 (by decide) w_2_123 rfl dX11_tellsRows_60 ?_
              refine lv_iload_n hx hb dX11_tellsRows_63 rfl (lv_at hl 0 rfl) ?_
              refine lv_iconst (v := 1) hx hb dX11_tellsRows_64 (by decide) ?_
              refine lv_iadd hx hb dX11_tellsRows_65 ?_
              refine sk_top (nI (i + 1)) (nI_add i 1) ?_
              refine sk_Vi (q0 := 0) (n := 1) (rest := [.int (nI (tb i)), .ref x0]) (wr := fmR om_4_6 _) ⟨hx, hb, hml, hown, hts⟩ hl.1 (c_eTape_left_1600 l D cI cJ cC cZ cS (q 0) (q 20) tl tb (i + 1) (by omega) htb (by omega)) w_4_214 w_4_215 w_4_216 w_1_2 w_4_217 hd_X10_left_1 ⟨⟨(Nat.le_of_ble_eq_true rfl), (Nat.le_of_ble_eq_true rfl)⟩, (Nat.le_of_ble_eq_true rfl), (Nat.le_of_ble_eq_true rfl)⟩ hK hP hD hS hA (fmT om_4_6 0) (fmF om_4_6 0) (fm_C1 rfl rfl) (fm_R rfl rfl) (fm_nT om_4_6 0) (fm_nF om_4_6 0) (fm_di om_4_6 0) rfl rfl rfl rfl (Nat.le_of_ble_eq_true rfl) dX11_tellsRows_66 (fun r_11 u H locs hw hP hD hS => ?_)
              refine anE hw (fun hv_12 hw1 => anE hw1 (fun er_14 eu_13 => ?_))
              clear hw hw1
              subst er_14
              refine o_mgE (ws' := [(x0, .inr (11, [.ref (q 0), .ref (q 1), .ref (q 2), .ref (q 3), .ref (q 4), .ref (q 5), .ref (q 6), .ref (q 7), .ref (q 8), .ref (q 9), .ref (q 10), .ref (q 11), .ref (q 12), .ref (q 13), .ref (q 14), .int hc, .ref (q 16), .long dr])), (q 0, .inr (10, [.ref (q 20), .int (nI tl)])), (q 20, .inl (cI, 1600, .inl (fun j => nI (tb j)))), (q 7, .inr (7, [.ref (q 33), .ref (q 34), .int (nI dy), .int (nI wn), .int (nI mo), .int mu, .int (nI ke)]))]) eu_13 hP hD rfl (fun hP hD => ?_)
              refine sk_Vi (q0 := 0) (n := 2) (rest := []) (wr := fmR om_4_9 _) ⟨hx, hb, hml, hown, hts⟩ hl.1 (c_kx_isWordOfN l D cI cJ cC cZ cS x0 q hc dr dy wn mo ke mu fb fw (tb i) (tb (i + 1)) U (by omega) hU (by omega) (by omega)) w_4_186 w_4_188 w_0_27 w_1_1 w_4_189 hd_X11_isWordOf_2 ⟨⟨(Nat.le_of_ble_eq_true rfl), (Nat.le_of_ble_eq_true rfl)⟩, (Nat.le_of_ble_eq_true rfl), (Nat.le_of_ble_eq_true rfl)⟩ hK hP hD hS hA (fmT om_4_9 0) (fmF om_4_9 0) (fm_C1 rfl rfl) (fm_R rfl rfl) (fm_nT om_4_9 0) (fm_nF om_4_9 0) (fm_di om_4_9 0) rfl rfl rfl rfl (Nat.le_of_ble_eq_true rfl) dX11_tellsRows_69 (fun r_16 u H locs hw hP hD hS => ?_)
              refine exE hw (fun b_15 hw1 => anE hw1 (fun hwo_17 hw2 => anE hw2 (fun er_19 eu_18 => ?_)))
              clear hw hw1 hw2
              subst er_19
              refine o_mgE (ws' := [(x0, .inr (11, [.ref (q 0), .ref (q 1), .ref (q 2), .ref (q 3), .ref (q 4), .ref (q 5), .ref (q 6), .ref (q 7), .ref (q 8), .ref (q 9), .ref (q 10), .ref (q 11), .ref (q 12), .ref (q 13), .ref (q 14), .int hc, .ref (q 16), .long dr])), (q 0, .inr (10, [.ref (q 20), .int (nI tl)])), (q 20, .inl (cI, 1600, .inl (fun j => nI (tb j)))), (q 7, .inr (7, [.ref (q 33), .ref (q 34), .int (nI dy), .int (nI wn), .int (nI mo), .int mu, .int (nI ke)]))]) eu_18 hP hD rfl (fun hP hD => ?_)
              refine lv_if_ne (tgt := 77) hx hb dX11_tellsRows_72 (by decide) (fun c_20 => ?_) (fun c_20 => ?_)
              · have c_20 : ¬ (b_15 = 0) := fun h => c_20 ((neq b_15 0 (by omega) (by omega)).mpr h)
                refine lv_iinc (v := nI (i + 2)) (lv' := [(1, .int (nI (i + 2))), (0, .ref x0)]) hx hb dX11_tellsRows_77 hl (k := 0) rfl (ninc i 2 (by decide)) (by decide) rfl (fun ls hl => ?_)
                refine lv_goto (tgt := 39) hx hb dX11_tellsRows_80 (by decide) ?_
                exact ih_lp_4 (i + 2) _ _ _ (by omega) (by omega) (by omega) (hrC_s hrc hi2 (rr_1 hwo_17 (by omega))) hP hD hS (lv_sub hl [0, 1] rfl)
              · have c_20 : b_15 = 0 := (neq b_15 0 (by omega) (by omega)).mp c_20
                refine lv_iconst (v := 0) hx hb dX11_tellsRows_75 (by decide) ?_
                exact sk_iret hx hb hr rfl hlocks hK hP hD hS (⟨0, Or.inl ⟨rfl, fun hq => hrC_n hi2 (by omega) (rr_0 hwo_17 (by omega)) hq.2.2.2⟩, rfl, rfl⟩) (Nat.le_of_ble_eq_true rfl) (Nat.le_of_ble_eq_true rfl) dX11_tellsRows_76
        exact lp_4 (1602 - 0 + 1) 0 _ _ _ (Nat.lt_succ_self _) (by omega) (by omega) (hrC_0 _ _ _) hP hD hS (lv_sub hl [0, 1] rfl)
      · have c_3 : ¬ (tl % 2 = 0) := fun h => c_3 ((neq (tl % 2) 0 (by omega) (by omega)).mpr h)
        refine lv_iconst (v := 0) hx hb dX11_tellsRows_35 (by decide) ?_
        exact sk_iret hx hb hr rfl hlocks hK hP hD hS (⟨0, Or.inl ⟨rfl, fun hq => by have h1 := hq.1; have h2 := hq.2.1; have h3 := hq.2.2.1; omega⟩, rfl, rfl⟩) (Nat.le_of_ble_eq_true rfl) (Nat.le_of_ble_eq_true rfl) dX11_tellsRows_36
