set_option maxHeartbeats 4000000 in
set_option maxRecDepth 100000 in
theorem c_erd_begin (l : Launch) (D : va_G) (cI cJ cC cZ cS : ClassId) (zk zv : Nat) (zf : Value) (q : Nat → Nat) (xa : Nat) (xv : Int32) (xo : Nat) (xt : Int32) (xz : Nat) (xf : Int32) (xp : Int32) (tl : Nat) (tb : Nat → Nat) (hxa : xa ≤ 1600) (hxz : xz ≤ 1600) (htl : tl ≤ 1600) (htb : ∀ j, tb j ≤ 255) : skMZ zk zv zf l yX6_begin cX6_begin 1 none 6 131 0 0 D (skT cI cJ cC cZ cS) [.ref (q 2)] [(q 2, .inr (6, [.ref (q 0), .int (nI xa), .int xv, .int (nI xo), .int xt, .int (nI xz), .int xf, .int xp])), (q 0, .inr (10, [.ref (q 20), .int (nI tl)])), (q 20, .inl (cI, 1600, .inl (fun j => nI (tb j))))] (skV D (skT cI cJ cC cZ cS) (fun (u : va_W) => ∃ (xa2 : Nat), ∃ (xv2 : Int32), ∃ (xt2 : Int32), ∃ (xz2 : Nat), xa2 ≤ 1600 ∧ xz2 ≤ 1600 ∧ rdO tb tl (.ok (sk tb tl 0, false)) xa2 xv2 xt2 xz2 0 (-1) ∧ u = [(q 2, .inr (6, [.ref (q 0), .int (nI xa2), .int xv2, .int 0, .int xt2, .int (nI xz2), .int 0, .int (-1)])), (q 0, .inr (10, [.ref (q 20), .int (nI tl)])), (q 20, .inl (cI, 1600, .inl (fun j => nI (tb j))))])) := by
  refine skMZ_of pf_X6_begin (Nat.le_of_ble_eq_true rfl) ?_
  intro p e s m below meth c A ls E hP hD hZ hl
  refine skE_el E (fun hx hb hr hml hlocks hin hown hts hK hA => ?_)
  have hown : s.vm.findClass RX6 = some m.cls := hown
  have hS : va_S A s.heap s.heap [] := va_S.rf
  have hl : lv_has ls 1 [(0, .ref (q 2))] := hl
  refine lv_aload_n hx hb dX6_begin_0 rfl (lv_at hl 0 rfl) ?_
  refine lv_iconst (v := 0) hx hb dX6_begin_1 (by decide) ?_
  refine sk_put (ws' := [(q 2, .inr (6, [.ref (q 0), .int 0, .int xv, .int (nI xo), .int xt, .int (nI xz), .int xf, .int xp])), (q 0, .inr (10, [.ref (q 20), .int (nI tl)])), (q 20, .inl (cI, 1600, .inl (fun j => nI (tb j))))]) (C := RX6) (T := TX6) (N := 8) (v := .int 0) hx hb hts inlX6 tyX6 tyX6_ok nmX6 hown hK hP hD hS 0 rfl rfl 1 (by decide) w_1_57 rfl rfl rfl (Nat.le_of_ble_eq_true rfl) rfl dX6_begin_2 (fun H locs hP hD hS => ?_)
  refine lv_aload_n hx hb dX6_begin_5 rfl (lv_at hl 0 rfl) ?_
  refine lv_iconst (v := 0) hx hb dX6_begin_6 (by decide) ?_
  refine sk_put (ws' := [(q 2, .inr (6, [.ref (q 0), .int 0, .int xv, .int 0, .int xt, .int (nI xz), .int xf, .int xp])), (q 0, .inr (10, [.ref (q 20), .int (nI tl)])), (q 20, .inl (cI, 1600, .inl (fun j => nI (tb j))))]) (C := RX6) (T := TX6) (N := 8) (v := .int 0) hx hb hts inlX6 tyX6 tyX6_ok nmX6 hown hK hP hD hS 0 rfl rfl 3 (by decide) w_1_59 rfl rfl rfl (Nat.le_of_ble_eq_true rfl) rfl dX6_begin_7 (fun H locs hP hD hS => ?_)
  refine lv_aload_n hx hb dX6_begin_10 rfl (lv_at hl 0 rfl) ?_
  refine lv_iconst (v := 0) hx hb dX6_begin_11 (by decide) ?_
  refine sk_put (ws' := [(q 2, .inr (6, [.ref (q 0), .int 0, .int xv, .int 0, .int xt, .int (nI xz), .int 0, .int xp])), (q 0, .inr (10, [.ref (q 20), .int (nI tl)])), (q 20, .inl (cI, 1600, .inl (fun j => nI (tb j))))]) (C := RX6) (T := TX6) (N := 8) (v := .int 0) hx hb hts inlX6 tyX6 tyX6_ok nmX6 hown hK hP hD hS 0 rfl rfl 6 (by decide) w_1_66 rfl rfl rfl (Nat.le_of_ble_eq_true rfl) rfl dX6_begin_12 (fun H locs hP hD hS => ?_)
  refine lv_aload_n hx hb dX6_begin_15 rfl (lv_at hl 0 rfl) ?_
  refine lv_iconst (v := (-1)) hx hb dX6_begin_16 (by decide) ?_
  refine sk_put (ws' := [(q 2, .inr (6, [.ref (q 0), .int 0, .int xv, .int 0, .int xt, .int (nI xz), .int 0, .int (-1)])), (q 0, .inr (10, [.ref (q 20), .int (nI tl)])), (q 20, .inl (cI, 1600, .inl (fun j => nI (tb j))))]) (C := RX6) (T := TX6) (N := 8) (v := .int (-1)) hx hb hts inlX6 tyX6 tyX6_ok nmX6 hown hK hP hD hS 0 rfl rfl 7 (by decide) w_1_69 rfl rfl rfl (Nat.le_of_ble_eq_true rfl) rfl dX6_begin_17 (fun H locs hP hD hS => ?_)
  refine lv_aload_n hx hb dX6_begin_20 rfl (lv_at hl 0 rfl) ?_
  refine lv_iconst (v := (-1)) hx hb dX6_begin_21 (by decide) ?_
  refine sk_put (ws' := [(q 2, .inr (6, [.ref (q 0), .int 0, .int xv, .int 0, .int (-1), .int (nI xz), .int 0, .int (-1)])), (q 0, .inr (10, [.ref (q 20), .int (nI tl)])), (q 20, .inl (cI, 1600, .inl (fun j => nI (tb j))))]) (C := RX6) (T := TX6) (N := 8) (v := .int (-1)) hx hb hts inlX6 tyX6 tyX6_ok nmX6 hown hK hP hD hS 0 rfl rfl 4 (by decide) w_1_60 rfl rfl rfl (Nat.le_of_ble_eq_true rfl) rfl dX6_begin_22 (fun H locs hP hD hS => ?_)
  refine lv_aload_n hx hb dX6_begin_25 rfl (lv_at hl 0 rfl) ?_
  refine sk_VvZ (q0 := 0) (n := 0) (rest := []) (wr := fmR om_3_7 _) ⟨hx, hb, hml, hown, hts⟩ hl.1 (c_erd_step l D cI cJ cC cZ cS zk zv zf q 0 xv 0 (-1) xz 0 (-1) tl tb (.ok (0, false)) (by omega) (by omega) (by omega) htb (st_0 tb tl)) w_2_225 w_2_226 w_2_227 w_1_4 w_2_228 hd_X6_step_0 ⟨⟨(Nat.le_of_ble_eq_true rfl), (Nat.le_of_ble_eq_true rfl)⟩, (Nat.le_of_ble_eq_true rfl), (Nat.le_of_ble_eq_true rfl)⟩ hK hP hD hS hZ hA (fmT om_3_7 0) (fmF om_3_7 0) (fm_C1 rfl rfl) (fm_R rfl rfl) (fm_nT om_3_7 0) (fm_nF om_3_7 0) (fm_di om_3_7 0) rfl rfl rfl rfl (Nat.le_of_ble_eq_true rfl) dX6_begin_26 (fun u H locs hw hP hD hS => ?_)
  refine exE hw (fun xa2_1 hw1 => exE hw1 (fun xv2_2 hw2 => exE hw2 (fun xt2_3 hw3 => exE hw3 (fun xz2_4 hw4 => anE hw4 (fun hxa2_5 hw5 => anE hw5 (fun hxz2_6 hw6 => anE hw6 (fun hO2_7 eu_8 => ?_)))))))
  clear hw hw1 hw2 hw3 hw4 hw5 hw6
  refine o_mgE (ws' := [(q 2, .inr (6, [.ref (q 0), .int (nI xa2_1), .int xv2_2, .int 0, .int xt2_3, .int (nI xz2_4), .int 0, .int (-1)])), (q 0, .inr (10, [.ref (q 20), .int (nI tl)])), (q 20, .inl (cI, 1600, .inl (fun j => nI (tb j))))]) eu_8 hP hD rfl (fun hP hD => ?_)
  exact sk_vret hx hb hr hlocks hK hP hD hS (⟨xa2_1, xv2_2, xt2_3, xz2_4, by omega, by omega, hO2_7, rfl⟩) (Nat.le_of_ble_eq_true rfl) (Nat.le_of_ble_eq_true rfl) dX6_begin_29
set_option maxHeartbeats 4000000 in
set_option maxRecDepth 100000 in
theorem c_erd_needs (l : Launch) (D : va_G) (cI cJ cC cZ cS : ClassId) (zk zv : Nat) (zf : Value) (q : Nat → Nat) (xa : Nat) (xv : Int32) (xo : Nat) (xt : Int32) (xz : Nat) (xf : Int32) (xp : Int32) (tl : Nat) (tb : Nat → Nat) (w : Int32) (og : Except Err Cur) (hxa : xa ≤ 1600) (hxz : xz ≤ 1600) (htl : tl ≤ 1600) (htb : ∀ j, tb j ≤ 255) (hwr : ¬ w = -1 ∧ ¬ w = -2) (hO : rdO tb tl og xa xv xt xz xf xp) : skMZ zk zv zf l yX6_needs cX6_needs 2 none 6 131 0 0 D (skT cI cJ cC cZ cS) [.ref (q 2), .int w] [(q 2, .inr (6, [.ref (q 0), .int (nI xa), .int xv, .int (nI xo), .int xt, .int (nI xz), .int xf, .int xp])), (q 0, .inr (10, [.ref (q 20), .int (nI tl)])), (q 20, .inl (cI, 1600, .inl (fun j => nI (tb j))))] (skV D (skT cI cJ cC cZ cS) (fun (u : va_W) => ∃ (xa2 : Nat), ∃ (xv2 : Int32), ∃ (xt2 : Int32), ∃ (xz2 : Nat), ∃ (xf2 : Int32), ∃ (xp2 : Int32), xa2 ≤ 1600 ∧ xz2 ≤ 1600 ∧ rdO tb tl (bindR og (tkF tb tl w)) xa2 xv2 xt2 xz2 xf2 xp2 ∧ u = [(q 2, .inr (6, [.ref (q 0), .int (nI xa2), .int xv2, .int (nI xo), .int xt2, .int (nI xz2), .int xf2, .int xp2])), (q 0, .inr (10, [.ref (q 20), .int (nI tl)])), (q 20, .inl (cI, 1600, .inl (fun j => nI (tb j))))])) := by
  refine skMZ_of pf_X6_needs (Nat.le_of_ble_eq_true rfl) ?_
  intro p e s m below meth c A ls E hP hD hZ hl
  refine skE_el E (fun hx hb hr hml hlocks hin hown hts hK hA => ?_)
  have hown : s.vm.findClass RX6 = some m.cls := hown
  have hS : va_S A s.heap s.heap [] := va_S.rf
  have hl : lv_has ls 2 [(0, .ref (q 2)), (1, .int w)] := hl
  refine lv_aload_n hx hb dX6_needs_0 rfl (lv_at hl 0 rfl) ?_
  refine sk_get (v := .int xt) (C := RX6) (T := TX6) (N := 8) hx hb hts inlX6 hown hK hP 0 rfl rfl 4 (by decide) w_1_60 rfl dX6_needs_1 ?_
  refine lv_iload_n hx hb dX6_needs_4 rfl (lv_at hl 1 rfl) ?_
  refine lv_icmp_ne (tgt := 15) hx hb dX6_needs_5 (by decide) (fun c_1 => ?_) (fun c_1 => ?_)
  · skip
    refine lv_aload_n hx hb dX6_needs_15 rfl (lv_at hl 0 rfl) ?_
    refine sk_Vv (q0 := 0) (n := 0) (rest := []) (wr := fmR om_3_4 _) ⟨hx, hb, hml, hown, hts⟩ hl.1 (c_erd_failHere l D cI cJ cC cZ cS q xa xv xo xt xz xf xp tl tb og (by omega) hO) w_3_54 w_3_55 w_3_56 w_1_4 w_3_57 hd_X6_failHere_0 ⟨⟨(Nat.le_of_ble_eq_true rfl), (Nat.le_of_ble_eq_true rfl)⟩, (Nat.le_of_ble_eq_true rfl), (Nat.le_of_ble_eq_true rfl)⟩ hK hP hD hS hA (fmT om_3_4 0) (fmF om_3_4 0) (fm_C1 rfl rfl) (fm_R rfl rfl) (fm_nT om_3_4 0) (fm_nF om_3_4 0) (fm_di om_3_4 0) rfl rfl rfl rfl (Nat.le_of_ble_eq_true rfl) dX6_needs_16 (fun u H locs hw hP hD hS => ?_)
    refine exE hw (fun xf2_2 hw1 => exE hw1 (fun xp2_3 hw2 => anE hw2 (fun hO2_4 eu_5 => ?_)))
    clear hw hw1 hw2
    refine o_mgE (ws' := [(q 2, .inr (6, [.ref (q 0), .int (nI xa), .int xv, .int (nI xo), .int (-2), .int (nI xz), .int xf2_2, .int xp2_3])), (q 0, .inr (10, [.ref (q 20), .int (nI tl)])), (q 20, .inl (cI, 1600, .inl (fun j => nI (tb j))))]) eu_5 hP hD rfl (fun hP hD => ?_)
    exact sk_vret hx hb hr hlocks hK hP hD hS (⟨xa, xv, (-2), xz, xf2_2, xp2_3, by omega, by omega, nd_f hO c_1 hO2_4, rfl⟩) (Nat.le_of_ble_eq_true rfl) (Nat.le_of_ble_eq_true rfl) dX6_needs_19
  · skip
    refine lv_aload_n hx hb dX6_needs_8 rfl (lv_at hl 0 rfl) ?_
    refine sk_VvZ (q0 := 0) (n := 0) (rest := []) (wr := fmR om_3_7 _) ⟨hx, hb, hml, hown, hts⟩ hl.1 (c_erd_step l D cI cJ cC cZ cS zk zv zf q xa xv xo xt xz xf xp tl tb (bindR og (beF tb tl)) (by omega) (by omega) (by omega) htb (rd_st htb hO (by rw [c_1]; exact hwr))) w_2_225 w_2_226 w_2_227 w_1_4 w_2_228 hd_X6_step_0 ⟨⟨(Nat.le_of_ble_eq_true rfl), (Nat.le_of_ble_eq_true rfl)⟩, (Nat.le_of_ble_eq_true rfl), (Nat.le_of_ble_eq_true rfl)⟩ hK hP hD hS hZ hA (fmT om_3_7 0) (fmF om_3_7 0) (fm_C1 rfl rfl) (fm_R rfl rfl) (fm_nT om_3_7 0) (fm_nF om_3_7 0) (fm_di om_3_7 0) rfl rfl rfl rfl (Nat.le_of_ble_eq_true rfl) dX6_needs_9 (fun u H locs hw hP hD hS => ?_)
    refine exE hw (fun xa2_6 hw1 => exE hw1 (fun xv2_7 hw2 => exE hw2 (fun xt2_8 hw3 => exE hw3 (fun xz2_9 hw4 => anE hw4 (fun hxa2_10 hw5 => anE hw5 (fun hxz2_11 hw6 => anE hw6 (fun hO2_12 eu_13 => ?_)))))))
    clear hw hw1 hw2 hw3 hw4 hw5 hw6
    refine o_mgE (ws' := [(q 2, .inr (6, [.ref (q 0), .int (nI xa2_6), .int xv2_7, .int (nI xo), .int xt2_8, .int (nI xz2_9), .int xf, .int xp])), (q 0, .inr (10, [.ref (q 20), .int (nI tl)])), (q 20, .inl (cI, 1600, .inl (fun j => nI (tb j))))]) eu_13 hP hD rfl (fun hP hD => ?_)
    rw [stF_nx] at hO2_12
    refine lv_goto (tgt := 19) hx hb dX6_needs_12 (by decide) ?_
    exact sk_vret hx hb hr hlocks hK hP hD hS (⟨xa2_6, xv2_7, xt2_8, xz2_9, xf, xp, by omega, by omega, nd_t hO c_1 hO2_12, rfl⟩) (Nat.le_of_ble_eq_true rfl) (Nat.le_of_ble_eq_true rfl) dX6_needs_19
set_option maxHeartbeats 4000000 in
set_option maxRecDepth 100000 in
theorem c_erd_takes (l : Launch) (D : va_G) (cI cJ cC cZ cS : ClassId) (zk zv : Nat) (zf : Value) (q : Nat → Nat) (xa : Nat) (xv : Int32) (xo : Nat) (xt : Int32) (xz : Nat) (xf : Int32) (xp : Int32) (tl : Nat) (tb : Nat → Nat) (w : Int32) (og : Except Err Cur) (hxa : xa ≤ 1600) (hxz : xz ≤ 1600) (htl : tl ≤ 1600) (htb : ∀ j, tb j ≤ 255) (hwr : ¬ w = -1 ∧ ¬ w = -2) (hO : rdO tb tl og xa xv xt xz xf xp) : skMZ zk zv zf l yX6_takes cX6_takes 2 (some .boolean) 6 131 0 0 D (skT cI cJ cC cZ cS) [.ref (q 2), .int w] [(q 2, .inr (6, [.ref (q 0), .int (nI xa), .int xv, .int (nI xo), .int xt, .int (nI xz), .int xf, .int xp])), (q 0, .inr (10, [.ref (q 20), .int (nI tl)])), (q 20, .inl (cI, 1600, .inl (fun j => nI (tb j))))] (skI D (skT cI cJ cC cZ cS) (fun (r : Int32) (u : va_W) => ∃ (xa2 : Nat), ∃ (xv2 : Int32), ∃ (xt2 : Int32), ∃ (xz2 : Nat), ∃ (xf2 : Int32), ∃ (xp2 : Int32), ∃ (b : Nat), xa2 ≤ 1600 ∧ xz2 ≤ 1600 ∧ b ≤ 1 ∧ ((b = 0 ∧ ¬ xt = w ∧ rdO tb tl og xa2 xv2 xt2 xz2 xf2 xp2) ∨ (b = 1 ∧ xt = w ∧ rdO tb tl (bindR og (nxF tb tl)) xa2 xv2 xt2 xz2 xf2 xp2)) ∧ r = nI b ∧ u = [(q 2, .inr (6, [.ref (q 0), .int (nI xa2), .int xv2, .int (nI xo), .int xt2, .int (nI xz2), .int xf2, .int xp2])), (q 0, .inr (10, [.ref (q 20), .int (nI tl)])), (q 20, .inl (cI, 1600, .inl (fun j => nI (tb j))))])) := by
  refine skMZ_of pf_X6_takes (Nat.le_of_ble_eq_true rfl) ?_
  intro p e s m below meth c A ls E hP hD hZ hl
  refine skE_el E (fun hx hb hr hml hlocks hin hown hts hK hA => ?_)
  have hown : s.vm.findClass RX6 = some m.cls := hown
  have hS : va_S A s.heap s.heap [] := va_S.rf
  have hl : lv_has ls 2 [(0, .ref (q 2)), (1, .int w)] := hl
  refine lv_aload_n hx hb dX6_takes_0 rfl (lv_at hl 0 rfl) ?_
  refine sk_get (v := .int xt) (C := RX6) (T := TX6) (N := 8) hx hb hts inlX6 hown hK hP 0 rfl rfl 4 (by decide) w_1_60 rfl dX6_takes_1 ?_
  refine lv_iload_n hx hb dX6_takes_4 rfl (lv_at hl 1 rfl) ?_
  refine lv_icmp_eq (tgt := 10) hx hb dX6_takes_5 (by decide) (fun c_1 => ?_) (fun c_1 => ?_)
  · skip
    refine lv_aload_n hx hb dX6_takes_10 rfl (lv_at hl 0 rfl) ?_
    refine sk_VvZ (q0 := 0) (n := 0) (rest := []) (wr := fmR om_3_7 _) ⟨hx, hb, hml, hown, hts⟩ hl.1 (c_erd_step l D cI cJ cC cZ cS zk zv zf q xa xv xo xt xz xf xp tl tb (bindR og (beF tb tl)) (by omega) (by omega) (by omega) htb (rd_st htb hO (by rw [c_1]; exact hwr))) w_2_225 w_2_226 w_2_227 w_1_4 w_2_228 hd_X6_step_0 ⟨⟨(Nat.le_of_ble_eq_true rfl), (Nat.le_of_ble_eq_true rfl)⟩, (Nat.le_of_ble_eq_true rfl), (Nat.le_of_ble_eq_true rfl)⟩ hK hP hD hS hZ hA (fmT om_3_7 0) (fmF om_3_7 0) (fm_C1 rfl rfl) (fm_R rfl rfl) (fm_nT om_3_7 0) (fm_nF om_3_7 0) (fm_di om_3_7 0) rfl rfl rfl rfl (Nat.le_of_ble_eq_true rfl) dX6_takes_11 (fun u H locs hw hP hD hS => ?_)
    refine exE hw (fun xa2_2 hw1 => exE hw1 (fun xv2_3 hw2 => exE hw2 (fun xt2_4 hw3 => exE hw3 (fun xz2_5 hw4 => anE hw4 (fun hxa2_6 hw5 => anE hw5 (fun hxz2_7 hw6 => anE hw6 (fun hO2_8 eu_9 => ?_)))))))
    clear hw hw1 hw2 hw3 hw4 hw5 hw6
    refine o_mgE (ws' := [(q 2, .inr (6, [.ref (q 0), .int (nI xa2_2), .int xv2_3, .int (nI xo), .int xt2_4, .int (nI xz2_5), .int xf, .int xp])), (q 0, .inr (10, [.ref (q 20), .int (nI tl)])), (q 20, .inl (cI, 1600, .inl (fun j => nI (tb j))))]) eu_9 hP hD rfl (fun hP hD => ?_)
    rw [stF_nx] at hO2_8
    refine lv_iconst (v := 1) hx hb dX6_takes_14 (by decide) ?_
    exact sk_iret hx hb hr rfl hlocks hK hP hD hS (⟨xa2_2, xv2_3, xt2_4, xz2_5, xf, xp, 1, by omega, by omega, by omega, (Or.inr ⟨rfl, c_1, hO2_8⟩), rfl, rfl⟩) (Nat.le_of_ble_eq_true rfl) (Nat.le_of_ble_eq_true rfl) dX6_takes_15
  · skip
    refine lv_iconst (v := 0) hx hb dX6_takes_8 (by decide) ?_
    exact sk_iret hx hb hr rfl hlocks hK hP hD hS (⟨xa, xv, xt, xz, xf, xp, 0, by omega, by omega, by omega, (Or.inl ⟨rfl, c_1, hO⟩), rfl, rfl⟩) (Nat.le_of_ble_eq_true rfl) (Nat.le_of_ble_eq_true rfl) dX6_takes_9
set_option maxHeartbeats 4000000 in
set_option maxRecDepth 100000 in
theorem c_erd_takeNumber (l : Launch) (D : va_G) (cI cJ cC cZ cS : ClassId) (zk zv : Nat) (zf : Value) (q : Nat → Nat) (xa : Nat) (xv : Int32) (xo : Nat) (xt : Int32) (xz : Nat) (xf : Int32) (xp : Int32) (tl : Nat) (tb : Nat → Nat) (lo : Nat) (hi : Nat) (og : Except Err Cur) (hxa : xa ≤ 1600) (hxz : xz ≤ 1600) (htl : tl ≤ 1600) (htb : ∀ j, tb j ≤ 255) (hlo : lo ≤ hi) (hhi : hi ≤ 9999) (hO : rdO tb tl og xa xv xt xz xf xp) : skMZ zk zv zf l yX6_takeNumber cX6_takeNumber 4 (some .int) 6 131 0 0 D (skT cI cJ cC cZ cS) [.ref (q 2), .int (nI lo), .int (nI hi)] [(q 2, .inr (6, [.ref (q 0), .int (nI xa), .int xv, .int (nI xo), .int xt, .int (nI xz), .int xf, .int xp])), (q 0, .inr (10, [.ref (q 20), .int (nI tl)])), (q 20, .inl (cI, 1600, .inl (fun j => nI (tb j))))] (skI D (skT cI cJ cC cZ cS) (fun (r : Int32) (u : va_W) => ∃ (xa2 : Nat), ∃ (xv2 : Int32), ∃ (xt2 : Int32), ∃ (xz2 : Nat), ∃ (xf2 : Int32), ∃ (xp2 : Int32), ∃ (v : Nat), xa2 ≤ 1600 ∧ xz2 ≤ 1600 ∧ lo ≤ v ∧ v ≤ hi ∧ nvO tb tl lo hi og v ∧ rdO tb tl (bindR og (nmF tb tl lo hi)) xa2 xv2 xt2 xz2 xf2 xp2 ∧ r = nI v ∧ u = [(q 2, .inr (6, [.ref (q 0), .int (nI xa2), .int xv2, .int (nI xo), .int xt2, .int (nI xz2), .int xf2, .int xp2])), (q 0, .inr (10, [.ref (q 20), .int (nI tl)])), (q 20, .inl (cI, 1600, .inl (fun j => nI (tb j))))])) := by
  refine skMZ_of pf_X6_takeNumber (Nat.le_of_ble_eq_true rfl) ?_
  intro p e s m below meth c A ls E hP hD hZ hl
  refine skE_el E (fun hx hb hr hml hlocks hin hown hts hK hA => ?_)
  have hown : s.vm.findClass RX6 = some m.cls := hown
  have hS : va_S A s.heap s.heap [] := va_S.rf
  have hl : lv_has ls 4 [(0, .ref (q 2)), (1, .int (nI lo)), (2, .int (nI hi))] := hl
  refine lv_aload_n hx hb dX6_takeNumber_0 rfl (lv_at hl 0 rfl) ?_
  refine sk_get (v := .int xv) (C := RX6) (T := TX6) (N := 8) hx hb hts inlX6 hown hK hP 0 rfl rfl 2 (by decide) w_1_58 rfl dX6_takeNumber_1 ?_
  refine lv_istore_n (lv' := [(3, .int xv), (0, .ref (q 2)), (1, .int (nI lo)), (2, .int (nI hi))]) hx hb dX6_takeNumber_4 rfl hl (by decide) rfl (fun ls hl => ?_)
  refine lv_aload_n hx hb dX6_takeNumber_5 rfl (lv_at hl 1 rfl) ?_
  refine sk_get (v := .int xt) (C := RX6) (T := TX6) (N := 8) hx hb hts inlX6 hown hK hP 0 rfl rfl 4 (by decide) w_1_60 rfl dX6_takeNumber_6 ?_
  refine lv_bipush (v := (-3)) hx hb dX6_takeNumber_9 (by decide) ?_
  refine lv_icmp_eq (tgt := 20) hx hb dX6_takeNumber_11 (by decide) (fun c_1 => ?_) (fun c_1 => ?_)
  · have hnc := nm_c htb hO c_1
    have hzle := hnc.2.1
    have hnl := numV_le tb tl xz
    obtain rfl := hnc.1
    refine lv_aload_n hx hb dX6_takeNumber_20 rfl (lv_at hl 1 rfl) ?_
    refine sk_get (v := .int (nI xa)) (C := RX6) (T := TX6) (N := 8) hx hb hts inlX6 hown hK hP 0 rfl rfl 1 (by decide) w_1_57 rfl dX6_takeNumber_21 ?_
    refine lv_aload_n hx hb dX6_takeNumber_24 rfl (lv_at hl 1 rfl) ?_
    refine sk_get (v := .int (nI xz)) (C := RX6) (T := TX6) (N := 8) hx hb hts inlX6 hown hK hP 0 rfl rfl 5 (by decide) w_1_64 rfl dX6_takeNumber_25 ?_
    refine lv_isub hx hb dX6_takeNumber_28 ?_
    refine sk_top (nI (xa - xz)) (nsub xa xz (by omega)) ?_
    refine lv_iconst (v := 4) hx hb dX6_takeNumber_29 (by decide) ?_
    refine lv_icmp_le (tgt := 46) hx hb dX6_takeNumber_30 (by decide) (fun c_2 => ?_) (fun c_2 => ?_)
    · have c_2 : xa - xz ≤ 4 := (nle (xa - xz) 4 (by omega) (by omega)).mp c_2
      refine lv_iload_n hx hb dX6_takeNumber_46 rfl (lv_at hl 0 rfl) ?_
      refine lv_iload_n hx hb dX6_takeNumber_47 rfl (lv_at hl 2 rfl) ?_
      refine lv_icmp_lt (tgt := 56) hx hb dX6_takeNumber_48 (by decide) (fun c_3 => ?_) (fun c_3 => ?_)
      · have c_3 : numV tb tl xz < lo := (nlt (numV tb tl xz) lo (by omega) (by omega)).mp c_3
        refine lv_aload_n hx hb dX6_takeNumber_56 rfl (lv_at hl 1 rfl) ?_
        refine lv_iconst (v := 2) hx hb dX6_takeNumber_57 (by decide) ?_
        refine lv_aload_n hx hb dX6_takeNumber_58 rfl (lv_at hl 1 rfl) ?_
        refine sk_get (v := .int (nI xz)) (C := RX6) (T := TX6) (N := 8) hx hb hts inlX6 hown hK hP 0 rfl rfl 5 (by decide) w_1_64 rfl dX6_takeNumber_59 ?_
        refine sk_Vv (q0 := 0) (n := 2) (rest := []) (wr := fmR om_3_4 _) ⟨hx, hb, hml, hown, hts⟩ hl.1 (c_erd_fail l D cI cJ cC cZ cS q xa (nI (numV tb tl xz)) xo xt xz xf xp tl tb 2 xz og (by omega) (by omega) (by omega) hO) w_3_58 w_3_59 w_3_60 w_1_4 w_3_61 hd_X6_fail_2 ⟨⟨(Nat.le_of_ble_eq_true rfl), (Nat.le_of_ble_eq_true rfl)⟩, (Nat.le_of_ble_eq_true rfl), (Nat.le_of_ble_eq_true rfl)⟩ hK hP hD hS hA (fmT om_3_4 0) (fmF om_3_4 0) (fm_C1 rfl rfl) (fm_R rfl rfl) (fm_nT om_3_4 0) (fm_nF om_3_4 0) (fm_di om_3_4 0) rfl rfl rfl rfl (Nat.le_of_ble_eq_true rfl) dX6_takeNumber_62 (fun u H locs hw hP hD hS => ?_)
        refine exE hw (fun xf2_4 hw1 => exE hw1 (fun xp2_5 hw2 => anE hw2 (fun hO2_6 eu_7 => ?_)))
        clear hw hw1 hw2
        refine o_mgE (ws' := [(q 2, .inr (6, [.ref (q 0), .int (nI xa), .int (nI (numV tb tl xz)), .int (nI xo), .int (-2), .int (nI xz), .int xf2_4, .int xp2_5])), (q 0, .inr (10, [.ref (q 20), .int (nI tl)])), (q 20, .inl (cI, 1600, .inl (fun j => nI (tb j))))]) eu_7 hP hD rfl (fun hP hD => ?_)
        refine lv_iload_n hx hb dX6_takeNumber_65 rfl (lv_at hl 2 rfl) ?_
        exact sk_iret hx hb hr rfl hlocks hK hP hD hS (⟨xa, nI (numV tb tl xz), (-2), xz, xf2_4, xp2_5, lo, by omega, by omega, by omega, by omega, nv_no (nm_3 htb hO c_1 (by omega) (by omega) hO2_6) (er_f hO2_6 (fun _ => ⟨_, rfl⟩)), nm_3 htb hO c_1 (by omega) (by omega) hO2_6, rfl, rfl⟩) (Nat.le_of_ble_eq_true rfl) (Nat.le_of_ble_eq_true rfl) dX6_takeNumber_66
      · have c_3 : ¬ (numV tb tl xz < lo) := fun h => c_3 ((nlt (numV tb tl xz) lo (by omega) (by omega)).mpr h)
        refine lv_iload_n hx hb dX6_takeNumber_51 rfl (lv_at hl 0 rfl) ?_
        refine lv_iload_n hx hb dX6_takeNumber_52 rfl (lv_at hl 3 rfl) ?_
        refine lv_icmp_le (tgt := 67) hx hb dX6_takeNumber_53 (by decide) (fun c_8 => ?_) (fun c_8 => ?_)
        · have c_8 : numV tb tl xz ≤ hi := (nle (numV tb tl xz) hi (by omega) (by omega)).mp c_8
          refine lv_aload_n hx hb dX6_takeNumber_67 rfl (lv_at hl 1 rfl) ?_
          refine sk_VvZ (q0 := 0) (n := 0) (rest := []) (wr := fmR om_3_7 _) ⟨hx, hb, hml, hown, hts⟩ hl.1 (c_erd_step l D cI cJ cC cZ cS zk zv zf q xa (nI (numV tb tl xz)) xo xt xz xf xp tl tb (bindR og (beF tb tl)) (by omega) (by omega) (by omega) htb (rd_st htb hO ⟨by rw [c_1]; decide, by rw [c_1]; decide⟩)) w_2_225 w_2_226 w_2_227 w_1_4 w_2_228 hd_X6_step_0 ⟨⟨(Nat.le_of_ble_eq_true rfl), (Nat.le_of_ble_eq_true rfl)⟩, (Nat.le_of_ble_eq_true rfl), (Nat.le_of_ble_eq_true rfl)⟩ hK hP hD hS hZ hA (fmT om_3_7 0) (fmF om_3_7 0) (fm_C1 rfl rfl) (fm_R rfl rfl) (fm_nT om_3_7 0) (fm_nF om_3_7 0) (fm_di om_3_7 0) rfl rfl rfl rfl (Nat.le_of_ble_eq_true rfl) dX6_takeNumber_68 (fun u H locs hw hP hD hS => ?_)
          refine exE hw (fun xa2_9 hw1 => exE hw1 (fun xv2_10 hw2 => exE hw2 (fun xt2_11 hw3 => exE hw3 (fun xz2_12 hw4 => anE hw4 (fun hxa2_13 hw5 => anE hw5 (fun hxz2_14 hw6 => anE hw6 (fun hO2_15 eu_16 => ?_)))))))
          clear hw hw1 hw2 hw3 hw4 hw5 hw6
          refine o_mgE (ws' := [(q 2, .inr (6, [.ref (q 0), .int (nI xa2_9), .int xv2_10, .int (nI xo), .int xt2_11, .int (nI xz2_12), .int xf, .int xp])), (q 0, .inr (10, [.ref (q 20), .int (nI tl)])), (q 20, .inl (cI, 1600, .inl (fun j => nI (tb j))))]) eu_16 hP hD rfl (fun hP hD => ?_)
          rw [stF_nx] at hO2_15
          refine lv_iload_n hx hb dX6_takeNumber_71 rfl (lv_at hl 0 rfl) ?_
          exact sk_iret hx hb hr rfl hlocks hK hP hD hS (⟨xa2_9, xv2_10, xt2_11, xz2_12, xf, xp, numV tb tl xz, by omega, by omega, by omega, by omega, nv_yes htb hO c_1 (by omega), nm_4 htb hO c_1 (by omega) (by omega) hO2_15, rfl, rfl⟩) (Nat.le_of_ble_eq_true rfl) (Nat.le_of_ble_eq_true rfl) dX6_takeNumber_72
        · have c_8 : ¬ (numV tb tl xz ≤ hi) := fun h => c_8 ((nle (numV tb tl xz) hi (by omega) (by omega)).mpr h)
          refine lv_aload_n hx hb dX6_takeNumber_56 rfl (lv_at hl 1 rfl) ?_
          refine lv_iconst (v := 2) hx hb dX6_takeNumber_57 (by decide) ?_
          refine lv_aload_n hx hb dX6_takeNumber_58 rfl (lv_at hl 1 rfl) ?_
          refine sk_get (v := .int (nI xz)) (C := RX6) (T := TX6) (N := 8) hx hb hts inlX6 hown hK hP 0 rfl rfl 5 (by decide) w_1_64 rfl dX6_takeNumber_59 ?_
          refine sk_Vv (q0 := 0) (n := 2) (rest := []) (wr := fmR om_3_4 _) ⟨hx, hb, hml, hown, hts⟩ hl.1 (c_erd_fail l D cI cJ cC cZ cS q xa (nI (numV tb tl xz)) xo xt xz xf xp tl tb 2 xz og (by omega) (by omega) (by omega) hO) w_3_58 w_3_59 w_3_60 w_1_4 w_3_61 hd_X6_fail_2 ⟨⟨(Nat.le_of_ble_eq_true rfl), (Nat.le_of_ble_eq_true rfl)⟩, (Nat.le_of_ble_eq_true rfl), (Nat.le_of_ble_eq_true rfl)⟩ hK hP hD hS hA (fmT om_3_4 0) (fmF om_3_4 0) (fm_C1 rfl rfl) (fm_R rfl rfl) (fm_nT om_3_4 0) (fm_nF om_3_4 0) (fm_di om_3_4 0) rfl rfl rfl rfl (Nat.le_of_ble_eq_true rfl) dX6_takeNumber_62 (fun u H locs hw hP hD hS => ?_)
          refine exE hw (fun xf2_17 hw1 => exE hw1 (fun xp2_18 hw2 => anE hw2 (fun hO2_19 eu_20 => ?_)))
          clear hw hw1 hw2
          refine o_mgE (ws' := [(q 2, .inr (6, [.ref (q 0), .int (nI xa), .int (nI (numV tb tl xz)), .int (nI xo), .int (-2), .int (nI xz), .int xf2_17, .int xp2_18])), (q 0, .inr (10, [.ref (q 20), .int (nI tl)])), (q 20, .inl (cI, 1600, .inl (fun j => nI (tb j))))]) eu_20 hP hD rfl (fun hP hD => ?_)
          refine lv_iload_n hx hb dX6_takeNumber_65 rfl (lv_at hl 2 rfl) ?_
          exact sk_iret hx hb hr rfl hlocks hK hP hD hS (⟨xa, nI (numV tb tl xz), (-2), xz, xf2_17, xp2_18, lo, by omega, by omega, by omega, by omega, nv_no (nm_3 htb hO c_1 (by omega) (by omega) hO2_19) (er_f hO2_19 (fun _ => ⟨_, rfl⟩)), nm_3 htb hO c_1 (by omega) (by omega) hO2_19, rfl, rfl⟩) (Nat.le_of_ble_eq_true rfl) (Nat.le_of_ble_eq_true rfl) dX6_takeNumber_66
    · have c_2 : ¬ (xa - xz ≤ 4) := fun h => c_2 ((nle (xa - xz) 4 (by omega) (by omega)).mpr h)
      refine lv_aload_n hx hb dX6_takeNumber_33 rfl (lv_at hl 1 rfl) ?_
      refine lv_iconst (v := 1) hx hb dX6_takeNumber_34 (by decide) ?_
      refine lv_aload_n hx hb dX6_takeNumber_35 rfl (lv_at hl 1 rfl) ?_
      refine sk_get (v := .int (nI xz)) (C := RX6) (T := TX6) (N := 8) hx hb hts inlX6 hown hK hP 0 rfl rfl 5 (by decide) w_1_64 rfl dX6_takeNumber_36 ?_
      refine lv_iconst (v := 4) hx hb dX6_takeNumber_39 (by decide) ?_
      refine lv_iadd hx hb dX6_takeNumber_40 ?_
      refine sk_top (nI (xz + 4)) (nI_add xz 4) ?_
      refine sk_Vv (q0 := 0) (n := 2) (rest := []) (wr := fmR om_3_4 _) ⟨hx, hb, hml, hown, hts⟩ hl.1 (c_erd_fail l D cI cJ cC cZ cS q xa (nI (numV tb tl xz)) xo xt xz xf xp tl tb 1 (xz + 4) og (by omega) (by omega) (by omega) hO) w_3_58 w_3_59 w_3_60 w_1_4 w_3_61 hd_X6_fail_2 ⟨⟨(Nat.le_of_ble_eq_true rfl), (Nat.le_of_ble_eq_true rfl)⟩, (Nat.le_of_ble_eq_true rfl), (Nat.le_of_ble_eq_true rfl)⟩ hK hP hD hS hA (fmT om_3_4 0) (fmF om_3_4 0) (fm_C1 rfl rfl) (fm_R rfl rfl) (fm_nT om_3_4 0) (fm_nF om_3_4 0) (fm_di om_3_4 0) rfl rfl rfl rfl (Nat.le_of_ble_eq_true rfl) dX6_takeNumber_41 (fun u H locs hw hP hD hS => ?_)
      refine exE hw (fun xf2_21 hw1 => exE hw1 (fun xp2_22 hw2 => anE hw2 (fun hO2_23 eu_24 => ?_)))
      clear hw hw1 hw2
      refine o_mgE (ws' := [(q 2, .inr (6, [.ref (q 0), .int (nI xa), .int (nI (numV tb tl xz)), .int (nI xo), .int (-2), .int (nI xz), .int xf2_21, .int xp2_22])), (q 0, .inr (10, [.ref (q 20), .int (nI tl)])), (q 20, .inl (cI, 1600, .inl (fun j => nI (tb j))))]) eu_24 hP hD rfl (fun hP hD => ?_)
      refine lv_iload_n hx hb dX6_takeNumber_44 rfl (lv_at hl 2 rfl) ?_
      exact sk_iret hx hb hr rfl hlocks hK hP hD hS (⟨xa, nI (numV tb tl xz), (-2), xz, xf2_21, xp2_22, lo, by omega, by omega, by omega, by omega, nv_no (nm_2 htb hO c_1 (by omega) hO2_23) (er_f hO2_23 (fun _ => ⟨_, rfl⟩)), nm_2 htb hO c_1 (by omega) hO2_23, rfl, rfl⟩) (Nat.le_of_ble_eq_true rfl) (Nat.le_of_ble_eq_true rfl) dX6_takeNumber_45
  · skip
    refine lv_aload_n hx hb dX6_takeNumber_14 rfl (lv_at hl 1 rfl) ?_
    refine sk_Vv (q0 := 0) (n := 0) (rest := []) (wr := fmR om_3_4 _) ⟨hx, hb, hml, hown, hts⟩ hl.1 (c_erd_failHere l D cI cJ cC cZ cS q xa xv xo xt xz xf xp tl tb og (by omega) hO) w_3_54 w_3_55 w_3_56 w_1_4 w_3_57 hd_X6_failHere_0 ⟨⟨(Nat.le_of_ble_eq_true rfl), (Nat.le_of_ble_eq_true rfl)⟩, (Nat.le_of_ble_eq_true rfl), (Nat.le_of_ble_eq_true rfl)⟩ hK hP hD hS hA (fmT om_3_4 0) (fmF om_3_4 0) (fm_C1 rfl rfl) (fm_R rfl rfl) (fm_nT om_3_4 0) (fm_nF om_3_4 0) (fm_di om_3_4 0) rfl rfl rfl rfl (Nat.le_of_ble_eq_true rfl) dX6_takeNumber_15 (fun u H locs hw hP hD hS => ?_)
    refine exE hw (fun xf2_25 hw1 => exE hw1 (fun xp2_26 hw2 => anE hw2 (fun hO2_27 eu_28 => ?_)))
    clear hw hw1 hw2
    refine o_mgE (ws' := [(q 2, .inr (6, [.ref (q 0), .int (nI xa), .int xv, .int (nI xo), .int (-2), .int (nI xz), .int xf2_25, .int xp2_26])), (q 0, .inr (10, [.ref (q 20), .int (nI tl)])), (q 20, .inl (cI, 1600, .inl (fun j => nI (tb j))))]) eu_28 hP hD rfl (fun hP hD => ?_)
    refine lv_iload_n hx hb dX6_takeNumber_18 rfl (lv_at hl 2 rfl) ?_
    exact sk_iret hx hb hr rfl hlocks hK hP hD hS (⟨xa, xv, (-2), xz, xf2_25, xp2_26, lo, by omega, by omega, by omega, by omega, nv_no (nm_1 htb hO c_1 hO2_27) (er_f hO2_27 (fun _ => ⟨_, rfl⟩)), nm_1 htb hO c_1 hO2_27, rfl, rfl⟩) (Nat.le_of_ble_eq_true rfl) (Nat.le_of_ble_eq_true rfl) dX6_takeNumber_19
