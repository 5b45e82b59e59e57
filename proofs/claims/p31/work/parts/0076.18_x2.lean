set_option maxHeartbeats 4000000 in
set_option maxRecDepth 100000 in
theorem c_erd_opens (l : Launch) (D : va_G) (cI cJ cC cZ cS : ClassId) (zk zv : Nat) (zf : Value) (q : Nat → Nat) (xa : Nat) (xv : Int32) (xo : Nat) (xt : Int32) (xz : Nat) (xf : Int32) (xp : Int32) (tl : Nat) (tb : Nat → Nat) (w : Int32) (og : Except Err Cur) (hxa : xa ≤ 1600) (hxz : xz ≤ 1600) (htl : tl ≤ 1600) (htb : ∀ j, tb j ≤ 255) (hwr : ¬ w = -1 ∧ ¬ w = -2) (hxo : xo ≤ 6) (hO : rdO tb tl og xa xv xt xz xf xp) : skMZ zk zv zf l yX6_opens cX6_opens 2 (some .boolean) 6 131 0 0 D (skT cI cJ cC cZ cS) [.ref (q 2), .int w] [(q 2, .inr (6, [.ref (q 0), .int (nI xa), .int xv, .int (nI xo), .int xt, .int (nI xz), .int xf, .int xp])), (q 0, .inr (10, [.ref (q 20), .int (nI tl)])), (q 20, .inl (cI, 1600, .inl (fun j => nI (tb j))))] (skI D (skT cI cJ cC cZ cS) (fun (r : Int32) (u : va_W) => ∃ (xa2 : Nat), ∃ (xv2 : Int32), ∃ (xt2 : Int32), ∃ (xz2 : Nat), ∃ (xf2 : Int32), ∃ (xp2 : Int32), ∃ (b : Nat), xa2 ≤ 1600 ∧ xz2 ≤ 1600 ∧ ((b = 0 ∧ (xt = w → xo = 6)) ∨ (b = 1 ∧ xo + 1 ≤ 6 ∧ xt = w)) ∧ rdO tb tl (bindR og (opF tb tl w xo)) xa2 xv2 xt2 xz2 xf2 xp2 ∧ r = nI b ∧ u = [(q 2, .inr (6, [.ref (q 0), .int (nI xa2), .int xv2, .int (nI (xo + b)), .int xt2, .int (nI xz2), .int xf2, .int xp2])), (q 0, .inr (10, [.ref (q 20), .int (nI tl)])), (q 20, .inl (cI, 1600, .inl (fun j => nI (tb j))))])) := by
  refine skMZ_of pf_X6_opens (Nat.le_of_ble_eq_true rfl) ?_
  intro p e s m below meth c A ls E hP hD hZ hl
  refine skE_el E (fun hx hb hr hml hlocks hin hown hts hK hA => ?_)
  have hown : s.vm.findClass RX6 = some m.cls := hown
  have hS : va_S A s.heap s.heap [] := va_S.rf
  have hl : lv_has ls 2 [(0, .ref (q 2)), (1, .int w)] := hl
  refine lv_aload_n hx hb dX6_opens_0 rfl (lv_at hl 0 rfl) ?_
  refine sk_get (v := .int xt) (C := RX6) (T := TX6) (N := 8) hx hb hts inlX6 hown hK hP 0 rfl rfl 4 (by decide) w_1_60 rfl dX6_opens_1 ?_
  refine lv_iload_n hx hb dX6_opens_4 rfl (lv_at hl 1 rfl) ?_
  refine lv_icmp_eq (tgt := 14) hx hb dX6_opens_5 (by decide) (fun c_1 => ?_) (fun c_1 => ?_)
  · skip
    refine lv_aload_n hx hb dX6_opens_14 rfl (lv_at hl 0 rfl) ?_
    refine sk_get (v := .int (nI xo)) (C := RX6) (T := TX6) (N := 8) hx hb hts inlX6 hown hK hP 0 rfl rfl 3 (by decide) w_1_59 rfl dX6_opens_15 ?_
    refine lv_bipush (v := 6) hx hb dX6_opens_18 (by decide) ?_
    refine lv_icmp_lt (tgt := 34) hx hb dX6_opens_20 (by decide) (fun c_2 => ?_) (fun c_2 => ?_)
    · have c_2 : xo < 6 := (nlt xo 6 (by omega) (by omega)).mp c_2
      refine lv_aload_n hx hb dX6_opens_34 rfl (lv_at hl 0 rfl) ?_
      refine lv_dup hx hb dX6_opens_35 rfl ?_
      refine sk_get (v := .int (nI xo)) (C := RX6) (T := TX6) (N := 8) hx hb hts inlX6 hown hK hP 0 rfl rfl 3 (by decide) w_1_59 rfl dX6_opens_36 ?_
      refine lv_iconst (v := 1) hx hb dX6_opens_39 (by decide) ?_
      refine lv_iadd hx hb dX6_opens_40 ?_
      refine sk_top (nI (xo + 1)) (nI_add xo 1) ?_
      refine sk_put (ws' := [(q 2, .inr (6, [.ref (q 0), .int (nI xa), .int xv, .int (nI (xo + 1)), .int xt, .int (nI xz), .int xf, .int xp])), (q 0, .inr (10, [.ref (q 20), .int (nI tl)])), (q 20, .inl (cI, 1600, .inl (fun j => nI (tb j))))]) (C := RX6) (T := TX6) (N := 8) (v := .int (nI (xo + 1))) hx hb hts inlX6 tyX6 tyX6_ok nmX6 hown hK hP hD hS 0 rfl rfl 3 (by decide) w_1_59 rfl rfl rfl (Nat.le_of_ble_eq_true rfl) rfl dX6_opens_41 (fun H locs hP hD hS => ?_)
      refine lv_aload_n hx hb dX6_opens_44 rfl (lv_at hl 0 rfl) ?_
      refine sk_VvZ (q0 := 0) (n := 0) (rest := []) (wr := fmR om_3_7 _) ⟨hx, hb, hml, hown, hts⟩ hl.1 (c_erd_step l D cI cJ cC cZ cS zk zv zf q xa xv (xo + 1) xt xz xf xp tl tb (bindR og (beF tb tl)) (by omega) (by omega) (by omega) htb (rd_st htb hO (by rw [c_1]; exact hwr))) w_2_225 w_2_226 w_2_227 w_1_4 w_2_228 hd_X6_step_0 ⟨⟨(Nat.le_of_ble_eq_true rfl), (Nat.le_of_ble_eq_true rfl)⟩, (Nat.le_of_ble_eq_true rfl), (Nat.le_of_ble_eq_true rfl)⟩ hK hP hD hS hZ hA (fmT om_3_7 0) (fmF om_3_7 0) (fm_C1 rfl rfl) (fm_R rfl rfl) (fm_nT om_3_7 0) (fm_nF om_3_7 0) (fm_di om_3_7 0) rfl rfl rfl rfl (Nat.le_of_ble_eq_true rfl) dX6_opens_45 (fun u H locs hw hP hD hS => ?_)
      refine exE hw (fun xa2_3 hw1 => exE hw1 (fun xv2_4 hw2 => exE hw2 (fun xt2_5 hw3 => exE hw3 (fun xz2_6 hw4 => anE hw4 (fun hxa2_7 hw5 => anE hw5 (fun hxz2_8 hw6 => anE hw6 (fun hO2_9 eu_10 => ?_)))))))
      clear hw hw1 hw2 hw3 hw4 hw5 hw6
      refine o_mgE (ws' := [(q 2, .inr (6, [.ref (q 0), .int (nI xa2_3), .int xv2_4, .int (nI (xo + 1)), .int xt2_5, .int (nI xz2_6), .int xf, .int xp])), (q 0, .inr (10, [.ref (q 20), .int (nI tl)])), (q 20, .inl (cI, 1600, .inl (fun j => nI (tb j))))]) eu_10 hP hD rfl (fun hP hD => ?_)
      rw [stF_nx] at hO2_9
      refine lv_iconst (v := 1) hx hb dX6_opens_48 (by decide) ?_
      exact sk_iret hx hb hr rfl hlocks hK hP hD hS (⟨xa2_3, xv2_4, xt2_5, xz2_6, xf, xp, 1, by omega, by omega, Or.inr ⟨rfl, by omega, c_1⟩, op_1 hO c_1 (by omega) hO2_9, rfl, rfl⟩) (Nat.le_of_ble_eq_true rfl) (Nat.le_of_ble_eq_true rfl) dX6_opens_49
    · have c_2 : ¬ (xo < 6) := fun h => c_2 ((nlt xo 6 (by omega) (by omega)).mpr h)
      refine lv_aload_n hx hb dX6_opens_23 rfl (lv_at hl 0 rfl) ?_
      refine lv_iconst (v := 4) hx hb dX6_opens_24 (by decide) ?_
      refine lv_aload_n hx hb dX6_opens_25 rfl (lv_at hl 0 rfl) ?_
      refine sk_get (v := .int (nI xz)) (C := RX6) (T := TX6) (N := 8) hx hb hts inlX6 hown hK hP 0 rfl rfl 5 (by decide) w_1_64 rfl dX6_opens_26 ?_
      refine sk_Vv (q0 := 0) (n := 2) (rest := []) (wr := fmR om_3_4 _) ⟨hx, hb, hml, hown, hts⟩ hl.1 (c_erd_fail l D cI cJ cC cZ cS q xa xv xo xt xz xf xp tl tb 4 xz og (by omega) (by omega) (by omega) hO) w_3_58 w_3_59 w_3_60 w_1_4 w_3_61 hd_X6_fail_2 ⟨⟨(Nat.le_of_ble_eq_true rfl), (Nat.le_of_ble_eq_true rfl)⟩, (Nat.le_of_ble_eq_true rfl), (Nat.le_of_ble_eq_true rfl)⟩ hK hP hD hS hA (fmT om_3_4 0) (fmF om_3_4 0) (fm_C1 rfl rfl) (fm_R rfl rfl) (fm_nT om_3_4 0) (fm_nF om_3_4 0) (fm_di om_3_4 0) rfl rfl rfl rfl (Nat.le_of_ble_eq_true rfl) dX6_opens_29 (fun u H locs hw hP hD hS => ?_)
      refine exE hw (fun xf2_11 hw1 => exE hw1 (fun xp2_12 hw2 => anE hw2 (fun hO2_13 eu_14 => ?_)))
      clear hw hw1 hw2
      refine o_mgE (ws' := [(q 2, .inr (6, [.ref (q 0), .int (nI xa), .int xv, .int (nI xo), .int (-2), .int (nI xz), .int xf2_11, .int xp2_12])), (q 0, .inr (10, [.ref (q 20), .int (nI tl)])), (q 20, .inl (cI, 1600, .inl (fun j => nI (tb j))))]) eu_14 hP hD rfl (fun hP hD => ?_)
      refine lv_iconst (v := 0) hx hb dX6_opens_32 (by decide) ?_
      exact sk_iret hx hb hr rfl hlocks hK hP hD hS (⟨xa, xv, (-2), xz, xf2_11, xp2_12, 0, by omega, by omega, Or.inl ⟨rfl, fun _ => by omega⟩, op_2 hO c_1 (by omega) hO2_13, rfl, rfl⟩) (Nat.le_of_ble_eq_true rfl) (Nat.le_of_ble_eq_true rfl) dX6_opens_33
  · skip
    refine lv_aload_n hx hb dX6_opens_8 rfl (lv_at hl 0 rfl) ?_
    refine sk_Vv (q0 := 0) (n := 0) (rest := []) (wr := fmR om_3_4 _) ⟨hx, hb, hml, hown, hts⟩ hl.1 (c_erd_failHere l D cI cJ cC cZ cS q xa xv xo xt xz xf xp tl tb og (by omega) hO) w_3_54 w_3_55 w_3_56 w_1_4 w_3_57 hd_X6_failHere_0 ⟨⟨(Nat.le_of_ble_eq_true rfl), (Nat.le_of_ble_eq_true rfl)⟩, (Nat.le_of_ble_eq_true rfl), (Nat.le_of_ble_eq_true rfl)⟩ hK hP hD hS hA (fmT om_3_4 0) (fmF om_3_4 0) (fm_C1 rfl rfl) (fm_R rfl rfl) (fm_nT om_3_4 0) (fm_nF om_3_4 0) (fm_di om_3_4 0) rfl rfl rfl rfl (Nat.le_of_ble_eq_true rfl) dX6_opens_9 (fun u H locs hw hP hD hS => ?_)
    refine exE hw (fun xf2_15 hw1 => exE hw1 (fun xp2_16 hw2 => anE hw2 (fun hO2_17 eu_18 => ?_)))
    clear hw hw1 hw2
    refine o_mgE (ws' := [(q 2, .inr (6, [.ref (q 0), .int (nI xa), .int xv, .int (nI xo), .int (-2), .int (nI xz), .int xf2_15, .int xp2_16])), (q 0, .inr (10, [.ref (q 20), .int (nI tl)])), (q 20, .inl (cI, 1600, .inl (fun j => nI (tb j))))]) eu_18 hP hD rfl (fun hP hD => ?_)
    refine lv_iconst (v := 0) hx hb dX6_opens_12 (by decide) ?_
    exact sk_iret hx hb hr rfl hlocks hK hP hD hS (⟨xa, xv, (-2), xz, xf2_15, xp2_16, 0, by omega, by omega, Or.inl ⟨rfl, fun hq => absurd hq c_1⟩, op_3 hO c_1 hO2_17, rfl, rfl⟩) (Nat.le_of_ble_eq_true rfl) (Nat.le_of_ble_eq_true rfl) dX6_opens_13
set_option maxHeartbeats 4000000 in
set_option maxRecDepth 100000 in
theorem c_erd_shuts (l : Launch) (D : va_G) (cI cJ cC cZ cS : ClassId) (q : Nat → Nat) (xa : Nat) (xv : Int32) (xo : Nat) (xt : Int32) (xz : Nat) (xf : Int32) (xp : Int32) (hxo : 1 ≤ xo) (hxo6 : xo ≤ 6) : skM l yX6_shuts cX6_shuts 1 none 0 0 0 0 D (skT cI cJ cC cZ cS) [.ref (q 2)] [(q 2, .inr (6, [.ref (q 0), .int (nI xa), .int xv, .int (nI xo), .int xt, .int (nI xz), .int xf, .int xp]))] (skV D (skT cI cJ cC cZ cS) (fun (u : va_W) => u = [(q 2, .inr (6, [.ref (q 0), .int (nI xa), .int xv, .int (nI (xo - 1)), .int xt, .int (nI xz), .int xf, .int xp]))])) := by
  refine skM_of pf_X6_shuts (Nat.le_of_ble_eq_true rfl) ?_
  intro p e s m below meth c A ls E hP hD hl
  refine skE_el E (fun hx hb hr hml hlocks hin hown hts hK hA => ?_)
  have hown : s.vm.findClass RX6 = some m.cls := hown
  have hS : va_S A s.heap s.heap [] := va_S.rf
  have hl : lv_has ls 1 [(0, .ref (q 2))] := hl
  refine lv_aload_n hx hb dX6_shuts_0 rfl (lv_at hl 0 rfl) ?_
  refine lv_dup hx hb dX6_shuts_1 rfl ?_
  refine sk_get (v := .int (nI xo)) (C := RX6) (T := TX6) (N := 8) hx hb hts inlX6 hown hK hP 0 rfl rfl 3 (by decide) w_1_59 rfl dX6_shuts_2 ?_
  refine lv_iconst (v := 1) hx hb dX6_shuts_5 (by decide) ?_
  refine lv_isub hx hb dX6_shuts_6 ?_
  refine sk_top (nI (xo - 1)) (nsub xo 1 (by omega)) ?_
  refine sk_put (ws' := [(q 2, .inr (6, [.ref (q 0), .int (nI xa), .int xv, .int (nI (xo - 1)), .int xt, .int (nI xz), .int xf, .int xp]))]) (C := RX6) (T := TX6) (N := 8) (v := .int (nI (xo - 1))) hx hb hts inlX6 tyX6 tyX6_ok nmX6 hown hK hP hD hS 0 rfl rfl 3 (by decide) w_1_59 rfl rfl rfl (Nat.le_of_ble_eq_true rfl) rfl dX6_shuts_7 (fun H locs hP hD hS => ?_)
  exact sk_vret hx hb hr hlocks hK hP hD hS rfl (Nat.le_of_ble_eq_true rfl) (Nat.le_of_ble_eq_true rfl) dX6_shuts_10

