set_option maxHeartbeats 4000000 in
set_option maxRecDepth 100000 in
theorem c_erd_begin (l : Launch) (D : va_G) (cI cJ cC cZ cS : ClassId) (zk zv : Nat) (zf : Value) (q : Nat → Nat) (xa : Nat) (xv : Int32) (xo : Nat) (xt : Int32) (xz : Nat) (xf : Int32) (xp : Int32) (tl : Nat) (tb : Nat → Nat) (hxa : xa ≤ 1600) (hxz : xz ≤ 1600) (htl : tl ≤ 1600) (htb : ∀ j, tb j ≤ 255) : skMZ zk zv zf l yX6_begin cX6_begin 1 none 6 131 0 0 D (skT cI cJ cC cZ cS) [.ref (q 2)] [(q 2, .inr (6, [.ref (q 0), .int (nI xa), .int xv, .int (nI xo), .int xt, .int (nI xz), .int xf, .int xp])), (q 0, .inr (10, [.ref (q 20), .int (nI tl)])), (q 20, .inl (cI, 1600, .inl (fun j => nI (tb j))))] (skV D (skT cI cJ cC cZ cS) (fun (u : va_W) => ∃ (xa2 : Nat), ∃ (xv2 : Int32), ∃ (xt2 : Int32), ∃ (xz2 : Nat), xa2 ≤ 1600 ∧ xz2 ≤ 1600 ∧ rdO tb tl (.ok (sk tb tl 0, false)) xa2 xv2 xt2 xz2 0 (-1) ∧ u = [(q 2, .inr (6, [.ref (q 0), .int (nI xa2), .int xv2, .int 0, .int xt2, .int (nI xz2), .int 0, .int (-1)])), (q 0, .inr (10, [.ref (q 20), .int (nI tl)])), (q 20, .inl (cI, 1600, .inl (fun j => nI (tb j))))])) := by
  refine skMZ_of (by decide +kernel) (Nat.le_of_ble_eq_true rfl) ?_
  intro p e s m below meth c A ls E hP hD hZ hl
  obtain ⟨hx, hb, hr, hml, hlocks, hin, hown, hts, hK, hA⟩ := E
  have hown : s.vm.findClass RX6 = some m.cls := hown
  have hS : va_S A s.heap s.heap [] := va_S.rf
  have hl : lv_has ls 1 [(0, .ref (q 2))] := hl
  refine lv_aload_n hx hb dX6_begin_0 rfl (lv_at hl 0 rfl) ?_
  refine lv_iconst (v := 0) hx hb dX6_begin_1 (by decide) ?_
  refine sk_put (ws' := [(q 2, .inr (6, [.ref (q 0), .int 0, .int xv, .int (nI xo), .int xt, .int (nI xz), .int xf, .int xp])), (q 0, .inr (10, [.ref (q 20), .int (nI tl)])), (q 20, .inl (cI, 1600, .inl (fun j => nI (tb j))))]) (C := RX6) (T := TX6) (N := 8) (v := .int 0) hx hb hts inlX6 tyX6 tyX6_ok nmX6 hown hK hP hD hS 0 rfl rfl 1 (by decide) w_1_57 rfl rfl rfl (Nat.le_of_ble_eq_true rfl) rfl dX6_begin_2 (fun H locs hP hD hS => ?_)
  refine lv_aload_n hx hb dX6_begin_5 rfl (lv_at hl 0 rfl) ?_
  refine lv_iconst (v := 0) hx hb dX6_begin_6 (by decide) ?_
  refine sk_put (ws' := [(q 2, .inr (6, [.ref (q 0), .int 0, .int xv, .int 0, .int xt, .int (nI xz), .int xf, .int xp])), (q 0, .inr (10, [.ref (q 20), .int (nI tl)])), (q 20, .inl (cI, 1600, .inl (fun j => nI (tb j))))]) (C := RX6) (T := TX6) (N := 8) (v := .int 0) hx hb hts inlX6 tyX6 tyX6_ok nmX6 hown hK hP hD hS 0 rfl rfl 3 (by decide) w_1_59 rfl rfl rfl (Nat.le_of_ble_eq_true rfl) rfl dX6_begin_7 (fun H locs hP hD hS => ?_)
  refine lv_aload_n hx hb dX6_begin_10 rfl (lv_at hl 0 rfl) ?_
  refine lv_iconst (v := 0) hx hb dX6_begin_11 (by decide) ?_
  refine sk_put (ws' := [(q 2, .inr (6, [.ref (q 0), .int 0, .int xv, .int 0, .int xt, .int (nI xz), .int 0, .int xp])), (q 0, .inr (10, [.ref (q 20), .int (nI tl)])), (q 20, .inl (cI, 1600, .inl (fun j => nI (tb j))))]) (C := RX6) (T := TX6) (N := 8) (v := .int 0) hx hb hts inlX6 tyX6 tyX6_ok nmX6 hown hK hP hD hS 0 rfl rfl 6 (by decide) w_1_66 rfl rfl rfl (Nat.le_of_ble_eq_true rfl) rfl dX6_begin_12 (fun H locs hP hD hS => ?_)
  refine lv_aload_n hx hb dX6_begin_15 rfl (lv_at hl 0 rfl) ?_
  refine lv_iconst (v := (-1)) hx hb dX6_begin_16 (by decide) ?_
  refine sk_put (ws' := [(q 2, .inr (6, [.ref (q 0), .int 0, .int xv, .int 0, .int xt, .int (nI xz), .int 0, .int (-1)])), (q 0, .inr (10, [.ref (q 20), .int (nI tl)])), (q 20, .inl (cI, 1600, .inl (fun j => nI (tb j))))]) (C := RX6) (T := TX6) (N := 8) (v := .int (-1)) hx hb hts inlX6 tyX6 tyX6_ok nmX6 hown hK hP hD hS 0 rfl rfl 7 (by decide) w_1_69 rfl rfl rfl (Nat.le_of_ble_eq_true rfl) rfl dX6_begin_17 (fun H locs hP hD hS => ?_)
  refine lv_aload_n hx hb dX6_begin_20 rfl (lv_at hl 0 rfl) ?_
  refine lv_iconst (v := (-1)) hx hb dX6_begin_21 (by decide) ?_
  refine sk_put (ws' := [(q 2, .inr (6, [.ref (q 0), .int 0, .int xv, .int 0, .int (-1), .int (nI xz), .int 0, .int (-1)])), (q 0, .inr (10, [.ref (q 20), .int (nI tl)])), (q 20, .inl (cI, 1600, .inl (fun j => nI (tb j))))]) (C := RX6) (T := TX6) (N := 8) (v := .int (-1)) hx hb hts inlX6 tyX6 tyX6_ok nmX6 hown hK hP hD hS 0 rfl rfl 4 (by decide) w_1_60 rfl rfl rfl (Nat.le_of_ble_eq_true rfl) rfl dX6_begin_22 (fun H locs hP hD hS => ?_)
  refine lv_aload_n hx hb dX6_begin_25 rfl (lv_at hl 0 rfl) ?_
  refine sk_VvZ (q0 := 0) (n := 0) (rest := []) (wr := []) ⟨hx, hb, hml, hown, hts⟩ hl.1 (c_erd_step l D cI cJ cC cZ cS zk zv zf q 0 xv 0 (-1) xz 0 (-1) tl tb (.ok (0, false)) (by omega) (by omega) (by omega) htb (st_0 tb tl)) w_2_225 w_2_226 w_2_227 w_1_4 w_2_228 (by decide +kernel) ⟨⟨(Nat.le_of_ble_eq_true rfl), (Nat.le_of_ble_eq_true rfl)⟩, (Nat.le_of_ble_eq_true rfl), (Nat.le_of_ble_eq_true rfl)⟩ hK hP hD hS hZ hA [0, 1, 2] [] rfl rfl (by decide +kernel) (by decide +kernel) (by decide +kernel) rfl rfl rfl rfl (Nat.le_of_ble_eq_true rfl) dX6_begin_26 (fun u H locs hw hP hD hS => ?_)
  obtain ⟨xa2_1, xv2_2, xt2_3, xz2_4, hxa2_5, hxz2_6, hO2_7, rfl⟩ := hw
  have hP : va_P D vwCl [(q 2, .inr (6, [.ref (q 0), .int (nI xa2_1), .int xv2_2, .int 0, .int xt2_3, .int (nI xz2_4), .int 0, .int (-1)])), (q 0, .inr (10, [.ref (q 20), .int (nI tl)])), (q 20, .inl (cI, 1600, .inl (fun j => nI (tb j))))] H := hP
  have hD : va_D A [(q 2, .inr (6, [.ref (q 0), .int (nI xa2_1), .int xv2_2, .int 0, .int xt2_3, .int (nI xz2_4), .int 0, .int (-1)])), (q 0, .inr (10, [.ref (q 20), .int (nI tl)])), (q 20, .inl (cI, 1600, .inl (fun j => nI (tb j))))] := hD
  exact sk_vret hx hb hr hlocks hK hP hD hS (⟨xa2_1, xv2_2, xt2_3, xz2_4, by omega, by omega, hO2_7, rfl⟩) (Nat.le_of_ble_eq_true rfl) (Nat.le_of_ble_eq_true rfl) dX6_begin_29
set_option maxHeartbeats 4000000 in
set_option maxRecDepth 100000 in
theorem c_erd_needs (l : Launch) (D : va_G) (cI cJ cC cZ cS : ClassId) (zk zv : Nat) (zf : Value) (q : Nat → Nat) (xa : Nat) (xv : Int32) (xo : Nat) (xt : Int32) (xz : Nat) (xf : Int32) (xp : Int32) (tl : Nat) (tb : Nat → Nat) (w : Int32) (og : Except Err Cur) (hxa : xa ≤ 1600) (hxz : xz ≤ 1600) (htl : tl ≤ 1600) (htb : ∀ j, tb j ≤ 255) (hwr : ¬ w = -1 ∧ ¬ w = -2) (hO : rdO tb tl og xa xv xt xz xf xp) : skMZ zk zv zf l yX6_needs cX6_needs 2 none 6 131 0 0 D (skT cI cJ cC cZ cS) [.ref (q 2), .int w] [(q 2, .inr (6, [.ref (q 0), .int (nI xa), .int xv, .int (nI xo), .int xt, .int (nI xz), .int xf, .int xp])), (q 0, .inr (10, [.ref (q 20), .int (nI tl)])), (q 20, .inl (cI, 1600, .inl (fun j => nI (tb j))))] (skV D (skT cI cJ cC cZ cS) (fun (u : va_W) => ∃ (xa2 : Nat), ∃ (xv2 : Int32), ∃ (xt2 : Int32), ∃ (xz2 : Nat), ∃ (xf2 : Int32), ∃ (xp2 : Int32), xa2 ≤ 1600 ∧ xz2 ≤ 1600 ∧ rdO tb tl (bindR og (tkF tb tl w)) xa2 xv2 xt2 xz2 xf2 xp2 ∧ u = [(q 2, .inr (6, [.ref (q 0), .int (nI xa2), .int xv2, .int (nI xo), .int xt2, .int (nI xz2), .int xf2, .int xp2])), (q 0, .inr (10, [.ref (q 20), .int (nI tl)])), (q 20, .inl (cI, 1600, .inl (fun j => nI (tb j))))])) := by
  refine skMZ_of (by decide +kernel) (Nat.le_of_ble_eq_true rfl) ?_
  intro p e s m below meth c A ls E hP hD hZ hl
  obtain ⟨hx, hb, hr, hml, hlocks, hin, hown, hts, hK, hA⟩ := E
  have hown : s.vm.findClass RX6 = some m.cls := hown
  have hS : va_S A s.heap s.heap [] := va_S.rf
  have hl : lv_has ls 2 [(0, .ref (q 2)), (1, .int w)] := hl
  refine lv_aload_n hx hb dX6_needs_0 rfl (lv_at hl 0 rfl) ?_
  refine sk_get (v := .int xt) (C := RX6) (T := TX6) (N := 8) hx hb hts inlX6 hown hK hP 0 rfl rfl 4 (by decide) w_1_60 rfl dX6_needs_1 ?_
  refine lv_iload_n hx hb dX6_needs_4 rfl (lv_at hl 1 rfl) ?_
  refine lv_icmp_ne (tgt := 15) hx hb dX6_needs_5 (by decide) (fun c_1 => ?_) (fun c_1 => ?_)
  · skip
    refine lv_aload_n hx hb dX6_needs_15 rfl (lv_at hl 0 rfl) ?_
    refine sk_Vv (q0 := 0) (n := 0) (rest := []) (wr := [(q 0, .inr (10, [.ref (q 20), .int (nI tl)])), (q 20, .inl (cI, 1600, .inl (fun j => nI (tb j))))]) ⟨hx, hb, hml, hown, hts⟩ hl.1 (c_erd_failHere l D cI cJ cC cZ cS q xa xv xo xt xz xf xp tl tb og (by omega) hO) w_3_54 w_3_55 w_3_56 w_1_4 w_3_57 (by decide +kernel) ⟨⟨(Nat.le_of_ble_eq_true rfl), (Nat.le_of_ble_eq_true rfl)⟩, (Nat.le_of_ble_eq_true rfl), (Nat.le_of_ble_eq_true rfl)⟩ hK hP hD hS hA [0] [1, 2] rfl rfl (by decide +kernel) (by decide +kernel) (by decide +kernel) rfl rfl rfl rfl (Nat.le_of_ble_eq_true rfl) dX6_needs_16 (fun u H locs hw hP hD hS => ?_)
    obtain ⟨xf2_2, xp2_3, hO2_4, rfl⟩ := hw
    have hP : va_P D vwCl [(q 0, .inr (10, [.ref (q 20), .int (nI tl)])), (q 20, .inl (cI, 1600, .inl (fun j => nI (tb j)))), (q 2, .inr (6, [.ref (q 0), .int (nI xa), .int xv, .int (nI xo), .int (-2), .int (nI xz), .int xf2_2, .int xp2_3]))] H := hP
    have hD : va_D A [(q 0, .inr (10, [.ref (q 20), .int (nI tl)])), (q 20, .inl (cI, 1600, .inl (fun j => nI (tb j)))), (q 2, .inr (6, [.ref (q 0), .int (nI xa), .int xv, .int (nI xo), .int (-2), .int (nI xz), .int xf2_2, .int xp2_3]))] := hD
    have hP := hP.sub (ws' := [(q 2, .inr (6, [.ref (q 0), .int (nI xa), .int xv, .int (nI xo), .int (-2), .int (nI xz), .int xf2_2, .int xp2_3])), (q 0, .inr (10, [.ref (q 20), .int (nI tl)])), (q 20, .inl (cI, 1600, .inl (fun j => nI (tb j))))]) [2, 0, 1] rfl
    have hD := hD.sub (ws' := [(q 2, .inr (6, [.ref (q 0), .int (nI xa), .int xv, .int (nI xo), .int (-2), .int (nI xz), .int xf2_2, .int xp2_3])), (q 0, .inr (10, [.ref (q 20), .int (nI tl)])), (q 20, .inl (cI, 1600, .inl (fun j => nI (tb j))))]) [2, 0, 1] (by decide +kernel) rfl
    exact sk_vret hx hb hr hlocks hK hP hD hS (⟨xa, xv, (-2), xz, xf2_2, xp2_3, by omega, by omega, nd_f hO c_1 hO2_4, rfl⟩) (Nat.le_of_ble_eq_true rfl) (Nat.le_of_ble_eq_true rfl) dX6_needs_19
  · skip
    refine lv_aload_n hx hb dX6_needs_8 rfl (lv_at hl 0 rfl) ?_
    refine sk_VvZ (q0 := 0) (n := 0) (rest := []) (wr := []) ⟨hx, hb, hml, hown, hts⟩ hl.1 (c_erd_step l D cI cJ cC cZ cS zk zv zf q xa xv xo xt xz xf xp tl tb (bindR og (beF tb tl)) (by omega) (by omega) (by omega) htb (rd_st htb hO (by rw [c_1]; exact hwr))) w_2_225 w_2_226 w_2_227 w_1_4 w_2_228 (by decide +kernel) ⟨⟨(Nat.le_of_ble_eq_true rfl), (Nat.le_of_ble_eq_true rfl)⟩, (Nat.le_of_ble_eq_true rfl), (Nat.le_of_ble_eq_true rfl)⟩ hK hP hD hS hZ hA [0, 1, 2] [] rfl rfl (by decide +kernel) (by decide +kernel) (by decide +kernel) rfl rfl rfl rfl (Nat.le_of_ble_eq_true rfl) dX6_needs_9 (fun u H locs hw hP hD hS => ?_)
    obtain ⟨xa2_5, xv2_6, xt2_7, xz2_8, hxa2_9, hxz2_10, hO2_11, rfl⟩ := hw
    have hP : va_P D vwCl [(q 2, .inr (6, [.ref (q 0), .int (nI xa2_5), .int xv2_6, .int (nI xo), .int xt2_7, .int (nI xz2_8), .int xf, .int xp])), (q 0, .inr (10, [.ref (q 20), .int (nI tl)])), (q 20, .inl (cI, 1600, .inl (fun j => nI (tb j))))] H := hP
    have hD : va_D A [(q 2, .inr (6, [.ref (q 0), .int (nI xa2_5), .int xv2_6, .int (nI xo), .int xt2_7, .int (nI xz2_8), .int xf, .int xp])), (q 0, .inr (10, [.ref (q 20), .int (nI tl)])), (q 20, .inl (cI, 1600, .inl (fun j => nI (tb j))))] := hD
    rw [stF_nx] at hO2_11
    refine lv_goto (tgt := 19) hx hb dX6_needs_12 (by decide) ?_
    exact sk_vret hx hb hr hlocks hK hP hD hS (⟨xa2_5, xv2_6, xt2_7, xz2_8, xf, xp, by omega, by omega, nd_t hO c_1 hO2_11, rfl⟩) (Nat.le_of_ble_eq_true rfl) (Nat.le_of_ble_eq_true rfl) dX6_needs_19
set_option maxHeartbeats 4000000 in
set_option maxRecDepth 100000 in
theorem c_erd_takes (l : Launch) (D : va_G) (cI cJ cC cZ cS : ClassId) (zk zv : Nat) (zf : Value) (q : Nat → Nat) (xa : Nat) (xv : Int32) (xo : Nat) (xt : Int32) (xz : Nat) (xf : Int32) (xp : Int32) (tl : Nat) (tb : Nat → Nat) (w : Int32) (og : Except Err Cur) (hxa : xa ≤ 1600) (hxz : xz ≤ 1600) (htl : tl ≤ 1600) (htb : ∀ j, tb j ≤ 255) (hwr : ¬ w = -1 ∧ ¬ w = -2) (hO : rdO tb tl og xa xv xt xz xf xp) : skMZ zk zv zf l yX6_takes cX6_takes 2 (some .boolean) 6 131 0 0 D (skT cI cJ cC cZ cS) [.ref (q 2), .int w] [(q 2, .inr (6, [.ref (q 0), .int (nI xa), .int xv, .int (nI xo), .int xt, .int (nI xz), .int xf, .int xp])), (q 0, .inr (10, [.ref (q 20), .int (nI tl)])), (q 20, .inl (cI, 1600, .inl (fun j => nI (tb j))))] (skI D (skT cI cJ cC cZ cS) (fun (r : Int32) (u : va_W) => ∃ (xa2 : Nat), ∃ (xv2 : Int32), ∃ (xt2 : Int32), ∃ (xz2 : Nat), ∃ (xf2 : Int32), ∃ (xp2 : Int32), ∃ (b : Nat), xa2 ≤ 1600 ∧ xz2 ≤ 1600 ∧ b ≤ 1 ∧ ((b = 0 ∧ ¬ xt = w ∧ rdO tb tl og xa2 xv2 xt2 xz2 xf2 xp2) ∨ (b = 1 ∧ xt = w ∧ rdO tb tl (bindR og (nxF tb tl)) xa2 xv2 xt2 xz2 xf2 xp2)) ∧ r = nI b ∧ u = [(q 2, .inr (6, [.ref (q 0), .int (nI xa2), .int xv2, .int (nI xo), .int xt2, .int (nI xz2), .int xf2, .int xp2])), (q 0, .inr (10, [.ref (q 20), .int (nI tl)])), (q 20, .inl (cI, 1600, .inl (fun j => nI (tb j))))])) := by
  refine skMZ_of (by decide +kernel) (Nat.le_of_ble_eq_true rfl) ?_
  intro p e s m below meth c A ls E hP hD hZ hl
  obtain ⟨hx, hb, hr, hml, hlocks, hin, hown, hts, hK, hA⟩ := E
  have hown : s.vm.findClass RX6 = some m.cls := hown
  have hS : va_S A s.heap s.heap [] := va_S.rf
  have hl : lv_has ls 2 [(0, .ref (q 2)), (1, .int w)] := hl
  refine lv_aload_n hx hb dX6_takes_0 rfl (lv_at hl 0 rfl) ?_
  refine sk_get (v := .int xt) (C := RX6) (T := TX6) (N := 8) hx hb hts inlX6 hown hK hP 0 rfl rfl 4 (by decide) w_1_60 rfl dX6_takes_1 ?_
  refine lv_iload_n hx hb dX6_takes_4 rfl (lv_at hl 1 rfl) ?_
  refine lv_icmp_eq (tgt := 10) hx hb dX6_takes_5 (by decide) (fun c_1 => ?_) (fun c_1 => ?_)
  · skip
    refine lv_aload_n hx hb dX6_takes_10 rfl (lv_at hl 0 rfl) ?_
    refine sk_VvZ (q0 := 0) (n := 0) (rest := []) (wr := []) ⟨hx, hb, hml, hown, hts⟩ hl.1 (c_erd_step l D cI cJ cC cZ cS zk zv zf q xa xv xo xt xz xf xp tl tb (bindR og (beF tb tl)) (by omega) (by omega) (by omega) htb (rd_st htb hO (by rw [c_1]; exact hwr))) w_2_225 w_2_226 w_2_227 w_1_4 w_2_228 (by decide +kernel) ⟨⟨(Nat.le_of_ble_eq_true rfl), (Nat.le_of_ble_eq_true rfl)⟩, (Nat.le_of_ble_eq_true rfl), (Nat.le_of_ble_eq_true rfl)⟩ hK hP hD hS hZ hA [0, 1, 2] [] rfl rfl (by decide +kernel) (by decide +kernel) (by decide +kernel) rfl rfl rfl rfl (Nat.le_of_ble_eq_true rfl) dX6_takes_11 (fun u H locs hw hP hD hS => ?_)
    obtain ⟨xa2_2, xv2_3, xt2_4, xz2_5, hxa2_6, hxz2_7, hO2_8, rfl⟩ := hw
    have hP : va_P D vwCl [(q 2, .inr (6, [.ref (q 0), .int (nI xa2_2), .int xv2_3, .int (nI xo), .int xt2_4, .int (nI xz2_5), .int xf, .int xp])), (q 0, .inr (10, [.ref (q 20), .int (nI tl)])), (q 20, .inl (cI, 1600, .inl (fun j => nI (tb j))))] H := hP
    have hD : va_D A [(q 2, .inr (6, [.ref (q 0), .int (nI xa2_2), .int xv2_3, .int (nI xo), .int xt2_4, .int (nI xz2_5), .int xf, .int xp])), (q 0, .inr (10, [.ref (q 20), .int (nI tl)])), (q 20, .inl (cI, 1600, .inl (fun j => nI (tb j))))] := hD
    rw [stF_nx] at hO2_8
    refine lv_iconst (v := 1) hx hb dX6_takes_14 (by decide) ?_
    exact sk_iret hx hb hr rfl hlocks hK hP hD hS (⟨xa2_2, xv2_3, xt2_4, xz2_5, xf, xp, 1, by omega, by omega, by omega, (Or.inr ⟨rfl, c_1, hO2_8⟩), rfl, rfl⟩) (Nat.le_of_ble_eq_true rfl) (Nat.le_of_ble_eq_true rfl) dX6_takes_15
  · skip
    refine lv_iconst (v := 0) hx hb dX6_takes_8 (by decide) ?_
    exact sk_iret hx hb hr rfl hlocks hK hP hD hS (⟨xa, xv, xt, xz, xf, xp, 0, by omega, by omega, by omega, (Or.inl ⟨rfl, c_1, hO⟩), rfl, rfl⟩) (Nat.le_of_ble_eq_true rfl) (Nat.le_of_ble_eq_true rfl) dX6_takes_9
set_option maxHeartbeats 4000000 in
set_option maxRecDepth 100000 in
theorem c_erd_takeNumber (l : Launch) (D : va_G) (cI cJ cC cZ cS : ClassId) (zk zv : Nat) (zf : Value) (q : Nat → Nat) (xa : Nat) (xv : Int32) (xo : Nat) (xt : Int32) (xz : Nat) (xf : Int32) (xp : Int32) (tl : Nat) (tb : Nat → Nat) (lo : Nat) (hi : Nat) (og : Except Err Cur) (hxa : xa ≤ 1600) (hxz : xz ≤ 1600) (htl : tl ≤ 1600) (htb : ∀ j, tb j ≤ 255) (hlo : lo ≤ hi) (hhi : hi ≤ 9999) (hO : rdO tb tl og xa xv xt xz xf xp) : skMZ zk zv zf l yX6_takeNumber cX6_takeNumber 4 (some .int) 6 131 0 0 D (skT cI cJ cC cZ cS) [.ref (q 2), .int (nI lo), .int (nI hi)] [(q 2, .inr (6, [.ref (q 0), .int (nI xa), .int xv, .int (nI xo), .int xt, .int (nI xz), .int xf, .int xp])), (q 0, .inr (10, [.ref (q 20), .int (nI tl)])), (q 20, .inl (cI, 1600, .inl (fun j => nI (tb j))))] (skI D (skT cI cJ cC cZ cS) (fun (r : Int32) (u : va_W) => ∃ (xa2 : Nat), ∃ (xv2 : Int32), ∃ (xt2 : Int32), ∃ (xz2 : Nat), ∃ (xf2 : Int32), ∃ (xp2 : Int32), ∃ (v : Nat), xa2 ≤ 1600 ∧ xz2 ≤ 1600 ∧ lo ≤ v ∧ v ≤ hi ∧ nvO tb tl lo hi og v ∧ rdO tb tl (bindR og (nmF tb tl lo hi)) xa2 xv2 xt2 xz2 xf2 xp2 ∧ r = nI v ∧ u = [(q 2, .inr (6, [.ref (q 0), .int (nI xa2), .int xv2, .int (nI xo), .int xt2, .int (nI xz2), .int xf2, .int xp2])), (q 0, .inr (10, [.ref (q 20), .int (nI tl)])), (q 20, .inl (cI, 1600, .inl (fun j => nI (tb j))))])) := by
  refine skMZ_of (by decide +kernel) (Nat.le_of_ble_eq_true rfl) ?_
  intro p e s m below meth c A ls E hP hD hZ hl
  obtain ⟨hx, hb, hr, hml, hlocks, hin, hown, hts, hK, hA⟩ := E
  have hown : s.vm.findClass RX6 = some m.cls := hown
  have hS : va_S A s.heap s.heap [] := va_S.rf
  have hl : lv_has ls 4 [(0, .ref (q 2)), (1, .int (nI lo)), (2, .int (nI hi))] := hl
  refine lv_aload_n hx hb dX6_takeNumber_0 rfl (lv_at hl 0 rfl) ?_
  refine sk_get (v := .int xv) (C := RX6) (T := TX6) (N := 8) hx hb hts inlX6 hown hK hP 0 rfl rfl 2 (by decide) w_1_58 rfl dX6_takeNumber_1 ?_
  refine lv_istore_n (lv' := [(3, .int xv), (0, .ref (q 2)), (1, .int (nI lo)), (2, .int (nI hi))]) hx hb dX6_takeNumber_4 rfl hl (by decide) rfl (fun ls hl => ?_)
  refine lv_aload_n hx hb dX6_takeNumber_5 rfl (lv_at hl 1 rfl) ?_
  refine sk_get (v := .int xt) (C := RX6) (T := TX6) (N := 8) hx hb hts inlX6 hown hK hP 0 rfl rfl 4 (by decide) w_1_60 rfl dX6_takeNumber_6 ?_
  refine lv_bipush (v := (-3)) hx hb dX6_takeNumber_9 (by decide) ?_
  refine lv_icmp_eq (tgt := 20) hx hb dX6_takeNumber_11 (by decide) (fun c_1 => ?_) (fun c_1 => ?_)
  · have hnc := nm_c htb hO c_1
    have hzle := hnc.2.1
    have hnl := numV_le tb tl xz
    obtain rfl := hnc.1
    refine lv_aload_n hx hb dX6_takeNumber_20 rfl (lv_at hl 1 rfl) ?_
    refine sk_get (v := .int (nI xa)) (C := RX6) (T := TX6) (N := 8) hx hb hts inlX6 hown hK hP 0 rfl rfl 1 (by decide) w_1_57 rfl dX6_takeNumber_21 ?_
    refine lv_aload_n hx hb dX6_takeNumber_24 rfl (lv_at hl 1 rfl) ?_
    refine sk_get (v := .int (nI xz)) (C := RX6) (T := TX6) (N := 8) hx hb hts inlX6 hown hK hP 0 rfl rfl 5 (by decide) w_1_64 rfl dX6_takeNumber_25 ?_
    refine lv_isub hx hb dX6_takeNumber_28 ?_
    refine sk_top (nI (xa - xz)) (nsub xa xz (by omega)) ?_
    refine lv_iconst (v := 4) hx hb dX6_takeNumber_29 (by decide) ?_
    refine lv_icmp_le (tgt := 46) hx hb dX6_takeNumber_30 (by decide) (fun c_2 => ?_) (fun c_2 => ?_)
    · have c_2 : xa - xz ≤ 4 := (nle (xa - xz) 4 (by omega) (by omega)).mp c_2
      refine lv_iload_n hx hb dX6_takeNumber_46 rfl (lv_at hl 0 rfl) ?_
      refine lv_iload_n hx hb dX6_takeNumber_47 rfl (lv_at hl 2 rfl) ?_
      refine lv_icmp_lt (tgt := 56) hx hb dX6_takeNumber_48 (by decide) (fun c_3 => ?_) (fun c_3 => ?_)
      · have c_3 : numV tb tl xz < lo := (nlt (numV tb tl xz) lo (by omega) (by omega)).mp c_3
        refine lv_aload_n hx hb dX6_takeNumber_56 rfl (lv_at hl 1 rfl) ?_
        refine lv_iconst (v := 2) hx hb dX6_takeNumber_57 (by decide) ?_
        refine lv_aload_n hx hb dX6_takeNumber_58 rfl (lv_at hl 1 rfl) ?_
        refine sk_get (v := .int (nI xz)) (C := RX6) (T := TX6) (N := 8) hx hb hts inlX6 hown hK hP 0 rfl rfl 5 (by decide) w_1_64 rfl dX6_takeNumber_59 ?_
        refine sk_Vv (q0 := 0) (n := 2) (rest := []) (wr := [(q 0, .inr (10, [.ref (q 20), .int (nI tl)])), (q 20, .inl (cI, 1600, .inl (fun j => nI (tb j))))]) ⟨hx, hb, hml, hown, hts⟩ hl.1 (c_erd_fail l D cI cJ cC cZ cS q xa (nI (numV tb tl xz)) xo xt xz xf xp tl tb 2 xz og (by omega) (by omega) (by omega) hO) w_3_58 w_3_59 w_3_60 w_1_4 w_3_61 (by decide +kernel) ⟨⟨(Nat.le_of_ble_eq_true rfl), (Nat.le_of_ble_eq_true rfl)⟩, (Nat.le_of_ble_eq_true rfl), (Nat.le_of_ble_eq_true rfl)⟩ hK hP hD hS hA [0] [1, 2] rfl rfl (by decide +kernel) (by decide +kernel) (by decide +kernel) rfl rfl rfl rfl (Nat.le_of_ble_eq_true rfl) dX6_takeNumber_62 (fun u H locs hw hP hD hS => ?_)
        obtain ⟨xf2_4, xp2_5, hO2_6, rfl⟩ := hw
        have hP : va_P D vwCl [(q 0, .inr (10, [.ref (q 20), .int (nI tl)])), (q 20, .inl (cI, 1600, .inl (fun j => nI (tb j)))), (q 2, .inr (6, [.ref (q 0), .int (nI xa), .int (nI (numV tb tl xz)), .int (nI xo), .int (-2), .int (nI xz), .int xf2_4, .int xp2_5]))] H := hP
        have hD : va_D A [(q 0, .inr (10, [.ref (q 20), .int (nI tl)])), (q 20, .inl (cI, 1600, .inl (fun j => nI (tb j)))), (q 2, .inr (6, [.ref (q 0), .int (nI xa), .int (nI (numV tb tl xz)), .int (nI xo), .int (-2), .int (nI xz), .int xf2_4, .int xp2_5]))] := hD
        refine lv_iload_n hx hb dX6_takeNumber_65 rfl (lv_at hl 2 rfl) ?_
        have hP := hP.sub (ws' := [(q 2, .inr (6, [.ref (q 0), .int (nI xa), .int (nI (numV tb tl xz)), .int (nI xo), .int (-2), .int (nI xz), .int xf2_4, .int xp2_5])), (q 0, .inr (10, [.ref (q 20), .int (nI tl)])), (q 20, .inl (cI, 1600, .inl (fun j => nI (tb j))))]) [2, 0, 1] rfl
        have hD := hD.sub (ws' := [(q 2, .inr (6, [.ref (q 0), .int (nI xa), .int (nI (numV tb tl xz)), .int (nI xo), .int (-2), .int (nI xz), .int xf2_4, .int xp2_5])), (q 0, .inr (10, [.ref (q 20), .int (nI tl)])), (q 20, .inl (cI, 1600, .inl (fun j => nI (tb j))))]) [2, 0, 1] (by decide +kernel) rfl
        exact sk_iret hx hb hr rfl hlocks hK hP hD hS (⟨xa, nI (numV tb tl xz), (-2), xz, xf2_4, xp2_5, lo, by omega, by omega, by omega, by omega, nv_no (nm_3 htb hO c_1 (by omega) (by omega) hO2_6) (er_f hO2_6 (fun _ => ⟨_, rfl⟩)), nm_3 htb hO c_1 (by omega) (by omega) hO2_6, rfl, rfl⟩) (Nat.le_of_ble_eq_true rfl) (Nat.le_of_ble_eq_true rfl) dX6_takeNumber_66
      · have c_3 : ¬ (numV tb tl xz < lo) := fun h => c_3 ((nlt (numV tb tl xz) lo (by omega) (by omega)).mpr h)
        refine lv_iload_n hx hb dX6_takeNumber_51 rfl (lv_at hl 0 rfl) ?_
        refine lv_iload_n hx hb dX6_takeNumber_52 rfl (lv_at hl 3 rfl) ?_
        refine lv_icmp_le (tgt := 67) hx hb dX6_takeNumber_53 (by decide) (fun c_7 => ?_) (fun c_7 => ?_)
        · have c_7 : numV tb tl xz ≤ hi := (nle (numV tb tl xz) hi (by omega) (by omega)).mp c_7
          refine lv_aload_n hx hb dX6_takeNumber_67 rfl (lv_at hl 1 rfl) ?_
          refine sk_VvZ (q0 := 0) (n := 0) (rest := []) (wr := []) ⟨hx, hb, hml, hown, hts⟩ hl.1 (c_erd_step l D cI cJ cC cZ cS zk zv zf q xa (nI (numV tb tl xz)) xo xt xz xf xp tl tb (bindR og (beF tb tl)) (by omega) (by omega) (by omega) htb (rd_st htb hO ⟨by rw [c_1]; decide, by rw [c_1]; decide⟩)) w_2_225 w_2_226 w_2_227 w_1_4 w_2_228 (by decide +kernel) ⟨⟨(Nat.le_of_ble_eq_true rfl), (Nat.le_of_ble_eq_true rfl)⟩, (Nat.le_of_ble_eq_true rfl), (Nat.le_of_ble_eq_true rfl)⟩ hK hP hD hS hZ hA [0, 1, 2] [] rfl rfl (by decide +kernel) (by decide +kernel) (by decide +kernel) rfl rfl rfl rfl (Nat.le_of_ble_eq_true rfl) dX6_takeNumber_68 (fun u H locs hw hP hD hS => ?_)
          obtain ⟨xa2_8, xv2_9, xt2_10, xz2_11, hxa2_12, hxz2_13, hO2_14, rfl⟩ := hw
          have hP : va_P D vwCl [(q 2, .inr (6, [.ref (q 0), .int (nI xa2_8), .int xv2_9, .int (nI xo), .int xt2_10, .int (nI xz2_11), .int xf, .int xp])), (q 0, .inr (10, [.ref (q 20), .int (nI tl)])), (q 20, .inl (cI, 1600, .inl (fun j => nI (tb j))))] H := hP
          have hD : va_D A [(q 2, .inr (6, [.ref (q 0), .int (nI xa2_8), .int xv2_9, .int (nI xo), .int xt2_10, .int (nI xz2_11), .int xf, .int xp])), (q 0, .inr (10, [.ref (q 20), .int (nI tl)])), (q 20, .inl (cI, 1600, .inl (fun j => nI (tb j))))] := hD
          rw [stF_nx] at hO2_14
          refine lv_iload_n hx hb dX6_takeNumber_71 rfl (lv_at hl 0 rfl) ?_
          exact sk_iret hx hb hr rfl hlocks hK hP hD hS (⟨xa2_8, xv2_9, xt2_10, xz2_11, xf, xp, numV tb tl xz, by omega, by omega, by omega, by omega, nv_yes htb hO c_1 (by omega), nm_4 htb hO c_1 (by omega) (by omega) hO2_14, rfl, rfl⟩) (Nat.le_of_ble_eq_true rfl) (Nat.le_of_ble_eq_true rfl) dX6_takeNumber_72
        · have c_7 : ¬ (numV tb tl xz ≤ hi) := fun h => c_7 ((nle (numV tb tl xz) hi (by omega) (by omega)).mpr h)
          refine lv_aload_n hx hb dX6_takeNumber_56 rfl (lv_at hl 1 rfl) ?_
          refine lv_iconst (v := 2) hx hb dX6_takeNumber_57 (by decide) ?_
          refine lv_aload_n hx hb dX6_takeNumber_58 rfl (lv_at hl 1 rfl) ?_
          refine sk_get (v := .int (nI xz)) (C := RX6) (T := TX6) (N := 8) hx hb hts inlX6 hown hK hP 0 rfl rfl 5 (by decide) w_1_64 rfl dX6_takeNumber_59 ?_
          refine sk_Vv (q0 := 0) (n := 2) (rest := []) (wr := [(q 0, .inr (10, [.ref (q 20), .int (nI tl)])), (q 20, .inl (cI, 1600, .inl (fun j => nI (tb j))))]) ⟨hx, hb, hml, hown, hts⟩ hl.1 (c_erd_fail l D cI cJ cC cZ cS q xa (nI (numV tb tl xz)) xo xt xz xf xp tl tb 2 xz og (by omega) (by omega) (by omega) hO) w_3_58 w_3_59 w_3_60 w_1_4 w_3_61 (by decide +kernel) ⟨⟨(Nat.le_of_ble_eq_true rfl), (Nat.le_of_ble_eq_true rfl)⟩, (Nat.le_of_ble_eq_true rfl), (Nat.le_of_ble_eq_true rfl)⟩ hK hP hD hS hA [0] [1, 2] rfl rfl (by decide +kernel) (by decide +kernel) (by decide +kernel) rfl rfl rfl rfl (Nat.le_of_ble_eq_true rfl) dX6_takeNumber_62 (fun u H locs hw hP hD hS => ?_)
          obtain ⟨xf2_15, xp2_16, hO2_17, rfl⟩ := hw
          have hP : va_P D vwCl [(q 0, .inr (10, [.ref (q 20), .int (nI tl)])), (q 20, .inl (cI, 1600, .inl (fun j => nI (tb j)))), (q 2, .inr (6, [.ref (q 0), .int (nI xa), .int (nI (numV tb tl xz)), .int (nI xo), .int (-2), .int (nI xz), .int xf2_15, .int xp2_16]))] H := hP
          have hD : va_D A [(q 0, .inr (10, [.ref (q 20), .int (nI tl)])), (q 20, .inl (cI, 1600, .inl (fun j => nI (tb j)))), (q 2, .inr (6, [.ref (q 0), .int (nI xa), .int (nI (numV tb tl xz)), .int (nI xo), .int (-2), .int (nI xz), .int xf2_15, .int xp2_16]))] := hD
          refine lv_iload_n hx hb dX6_takeNumber_65 rfl (lv_at hl 2 rfl) ?_
          have hP := hP.sub (ws' := [(q 2, .inr (6, [.ref (q 0), .int (nI xa), .int (nI (numV tb tl xz)), .int (nI xo), .int (-2), .int (nI xz), .int xf2_15, .int xp2_16])), (q 0, .inr (10, [.ref (q 20), .int (nI tl)])), (q 20, .inl (cI, 1600, .inl (fun j => nI (tb j))))]) [2, 0, 1] rfl
          have hD := hD.sub (ws' := [(q 2, .inr (6, [.ref (q 0), .int (nI xa), .int (nI (numV tb tl xz)), .int (nI xo), .int (-2), .int (nI xz), .int xf2_15, .int xp2_16])), (q 0, .inr (10, [.ref (q 20), .int (nI tl)])), (q 20, .inl (cI, 1600, .inl (fun j => nI (tb j))))]) [2, 0, 1] (by decide +kernel) rfl
          exact sk_iret hx hb hr rfl hlocks hK hP hD hS (⟨xa, nI (numV tb tl xz), (-2), xz, xf2_15, xp2_16, lo, by omega, by omega, by omega, by omega, nv_no (nm_3 htb hO c_1 (by omega) (by omega) hO2_17) (er_f hO2_17 (fun _ => ⟨_, rfl⟩)), nm_3 htb hO c_1 (by omega) (by omega) hO2_17, rfl, rfl⟩) (Nat.le_of_ble_eq_true rfl) (Nat.le_of_ble_eq_true rfl) dX6_takeNumber_66
    · have c_2 : ¬ (xa - xz ≤ 4) := fun h => c_2 ((nle (xa - xz) 4 (by omega) (by omega)).mpr h)
      refine lv_aload_n hx hb dX6_takeNumber_33 rfl (lv_at hl 1 rfl) ?_
      refine lv_iconst (v := 1) hx hb dX6_takeNumber_34 (by decide) ?_
      refine lv_aload_n hx hb dX6_takeNumber_35 rfl (lv_at hl 1 rfl) ?_
      refine sk_get (v := .int (nI xz)) (C := RX6) (T := TX6) (N := 8) hx hb hts inlX6 hown hK hP 0 rfl rfl 5 (by decide) w_1_64 rfl dX6_takeNumber_36 ?_
      refine lv_iconst (v := 4) hx hb dX6_takeNumber_39 (by decide) ?_
      refine lv_iadd hx hb dX6_takeNumber_40 ?_
      refine sk_top (nI (xz + 4)) (nI_add xz 4) ?_
      refine sk_Vv (q0 := 0) (n := 2) (rest := []) (wr := [(q 0, .inr (10, [.ref (q 20), .int (nI tl)])), (q 20, .inl (cI, 1600, .inl (fun j => nI (tb j))))]) ⟨hx, hb, hml, hown, hts⟩ hl.1 (c_erd_fail l D cI cJ cC cZ cS q xa (nI (numV tb tl xz)) xo xt xz xf xp tl tb 1 (xz + 4) og (by omega) (by omega) (by omega) hO) w_3_58 w_3_59 w_3_60 w_1_4 w_3_61 (by decide +kernel) ⟨⟨(Nat.le_of_ble_eq_true rfl), (Nat.le_of_ble_eq_true rfl)⟩, (Nat.le_of_ble_eq_true rfl), (Nat.le_of_ble_eq_true rfl)⟩ hK hP hD hS hA [0] [1, 2] rfl rfl (by decide +kernel) (by decide +kernel) (by decide +kernel) rfl rfl rfl rfl (Nat.le_of_ble_eq_true rfl) dX6_takeNumber_41 (fun u H locs hw hP hD hS => ?_)
      obtain ⟨xf2_18, xp2_19, hO2_20, rfl⟩ := hw
      have hP : va_P D vwCl [(q 0, .inr (10, [.ref (q 20), .int (nI tl)])), (q 20, .inl (cI, 1600, .inl (fun j => nI (tb j)))), (q 2, .inr (6, [.ref (q 0), .int (nI xa), .int (nI (numV tb tl xz)), .int (nI xo), .int (-2), .int (nI xz), .int xf2_18, .int xp2_19]))] H := hP
      have hD : va_D A [(q 0, .inr (10, [.ref (q 20), .int (nI tl)])), (q 20, .inl (cI, 1600, .inl (fun j => nI (tb j)))), (q 2, .inr (6, [.ref (q 0), .int (nI xa), .int (nI (numV tb tl xz)), .int (nI xo), .int (-2), .int (nI xz), .int xf2_18, .int xp2_19]))] := hD
      refine lv_iload_n hx hb dX6_takeNumber_44 rfl (lv_at hl 2 rfl) ?_
      have hP := hP.sub (ws' := [(q 2, .inr (6, [.ref (q 0), .int (nI xa), .int (nI (numV tb tl xz)), .int (nI xo), .int (-2), .int (nI xz), .int xf2_18, .int xp2_19])), (q 0, .inr (10, [.ref (q 20), .int (nI tl)])), (q 20, .inl (cI, 1600, .inl (fun j => nI (tb j))))]) [2, 0, 1] rfl
      have hD := hD.sub (ws' := [(q 2, .inr (6, [.ref (q 0), .int (nI xa), .int (nI (numV tb tl xz)), .int (nI xo), .int (-2), .int (nI xz), .int xf2_18, .int xp2_19])), (q 0, .inr (10, [.ref (q 20), .int (nI tl)])), (q 20, .inl (cI, 1600, .inl (fun j => nI (tb j))))]) [2, 0, 1] (by decide +kernel) rfl
      exact sk_iret hx hb hr rfl hlocks hK hP hD hS (⟨xa, nI (numV tb tl xz), (-2), xz, xf2_18, xp2_19, lo, by omega, by omega, by omega, by omega, nv_no (nm_2 htb hO c_1 (by omega) hO2_20) (er_f hO2_20 (fun _ => ⟨_, rfl⟩)), nm_2 htb hO c_1 (by omega) hO2_20, rfl, rfl⟩) (Nat.le_of_ble_eq_true rfl) (Nat.le_of_ble_eq_true rfl) dX6_takeNumber_45
  · skip
    refine lv_aload_n hx hb dX6_takeNumber_14 rfl (lv_at hl 1 rfl) ?_
    refine sk_Vv (q0 := 0) (n := 0) (rest := []) (wr := [(q 0, .inr (10, [.ref (q 20), .int (nI tl)])), (q 20, .inl (cI, 1600, .inl (fun j => nI (tb j))))]) ⟨hx, hb, hml, hown, hts⟩ hl.1 (c_erd_failHere l D cI cJ cC cZ cS q xa xv xo xt xz xf xp tl tb og (by omega) hO) w_3_54 w_3_55 w_3_56 w_1_4 w_3_57 (by decide +kernel) ⟨⟨(Nat.le_of_ble_eq_true rfl), (Nat.le_of_ble_eq_true rfl)⟩, (Nat.le_of_ble_eq_true rfl), (Nat.le_of_ble_eq_true rfl)⟩ hK hP hD hS hA [0] [1, 2] rfl rfl (by decide +kernel) (by decide +kernel) (by decide +kernel) rfl rfl rfl rfl (Nat.le_of_ble_eq_true rfl) dX6_takeNumber_15 (fun u H locs hw hP hD hS => ?_)
    obtain ⟨xf2_21, xp2_22, hO2_23, rfl⟩ := hw
    have hP : va_P D vwCl [(q 0, .inr (10, [.ref (q 20), .int (nI tl)])), (q 20, .inl (cI, 1600, .inl (fun j => nI (tb j)))), (q 2, .inr (6, [.ref (q 0), .int (nI xa), .int xv, .int (nI xo), .int (-2), .int (nI xz), .int xf2_21, .int xp2_22]))] H := hP
    have hD : va_D A [(q 0, .inr (10, [.ref (q 20), .int (nI tl)])), (q 20, .inl (cI, 1600, .inl (fun j => nI (tb j)))), (q 2, .inr (6, [.ref (q 0), .int (nI xa), .int xv, .int (nI xo), .int (-2), .int (nI xz), .int xf2_21, .int xp2_22]))] := hD
    refine lv_iload_n hx hb dX6_takeNumber_18 rfl (lv_at hl 2 rfl) ?_
    have hP := hP.sub (ws' := [(q 2, .inr (6, [.ref (q 0), .int (nI xa), .int xv, .int (nI xo), .int (-2), .int (nI xz), .int xf2_21, .int xp2_22])), (q 0, .inr (10, [.ref (q 20), .int (nI tl)])), (q 20, .inl (cI, 1600, .inl (fun j => nI (tb j))))]) [2, 0, 1] rfl
    have hD := hD.sub (ws' := [(q 2, .inr (6, [.ref (q 0), .int (nI xa), .int xv, .int (nI xo), .int (-2), .int (nI xz), .int xf2_21, .int xp2_22])), (q 0, .inr (10, [.ref (q 20), .int (nI tl)])), (q 20, .inl (cI, 1600, .inl (fun j => nI (tb j))))]) [2, 0, 1] (by decide +kernel) rfl
    exact sk_iret hx hb hr rfl hlocks hK hP hD hS (⟨xa, xv, (-2), xz, xf2_21, xp2_22, lo, by omega, by omega, by omega, by omega, nv_no (nm_1 htb hO c_1 hO2_23) (er_f hO2_23 (fun _ => ⟨_, rfl⟩)), nm_1 htb hO c_1 hO2_23, rfl, rfl⟩) (Nat.le_of_ble_eq_true rfl) (Nat.le_of_ble_eq_true rfl) dX6_takeNumber_19
set_option maxHeartbeats 4000000 in
set_option maxRecDepth 100000 in
theorem c_erd_opens (l : Launch) (D : va_G) (cI cJ cC cZ cS : ClassId) (zk zv : Nat) (zf : Value) (q : Nat → Nat) (xa : Nat) (xv : Int32) (xo : Nat) (xt : Int32) (xz : Nat) (xf : Int32) (xp : Int32) (tl : Nat) (tb : Nat → Nat) (w : Int32) (og : Except Err Cur) (hxa : xa ≤ 1600) (hxz : xz ≤ 1600) (htl : tl ≤ 1600) (htb : ∀ j, tb j ≤ 255) (hwr : ¬ w = -1 ∧ ¬ w = -2) (hxo : xo ≤ 6) (hO : rdO tb tl og xa xv xt xz xf xp) : skMZ zk zv zf l yX6_opens cX6_opens 2 (some .boolean) 6 131 0 0 D (skT cI cJ cC cZ cS) [.ref (q 2), .int w] [(q 2, .inr (6, [.ref (q 0), .int (nI xa), .int xv, .int (nI xo), .int xt, .int (nI xz), .int xf, .int xp])), (q 0, .inr (10, [.ref (q 20), .int (nI tl)])), (q 20, .inl (cI, 1600, .inl (fun j => nI (tb j))))] (skI D (skT cI cJ cC cZ cS) (fun (r : Int32) (u : va_W) => ∃ (xa2 : Nat), ∃ (xv2 : Int32), ∃ (xt2 : Int32), ∃ (xz2 : Nat), ∃ (xf2 : Int32), ∃ (xp2 : Int32), ∃ (b : Nat), xa2 ≤ 1600 ∧ xz2 ≤ 1600 ∧ ((b = 0 ∧ (xt = w → xo = 6)) ∨ (b = 1 ∧ xo + 1 ≤ 6 ∧ xt = w)) ∧ rdO tb tl (bindR og (opF tb tl w xo)) xa2 xv2 xt2 xz2 xf2 xp2 ∧ r = nI b ∧ u = [(q 2, .inr (6, [.ref (q 0), .int (nI xa2), .int xv2, .int (nI (xo + b)), .int xt2, .int (nI xz2), .int xf2, .int xp2])), (q 0, .inr (10, [.ref (q 20), .int (nI tl)])), (q 20, .inl (cI, 1600, .inl (fun j => nI (tb j))))])) := by
  refine skMZ_of (by decide +kernel) (Nat.le_of_ble_eq_true rfl) ?_
  intro p e s m below meth c A ls E hP hD hZ hl
  obtain ⟨hx, hb, hr, hml, hlocks, hin, hown, hts, hK, hA⟩ := E
  have hown : s.vm.findClass RX6 = some m.cls := hown
  have hS : va_S A s.heap s.heap [] := va_S.rf
  have hl : lv_has ls 2 [(0, .ref (q 2)), (1, .int w)] := hl
  refine lv_aload_n hx hb dX6_opens_0 rfl (lv_at hl 0 rfl) ?_
  refine sk_get (v := .int xt) (C := RX6) (T := TX6) (N := 8) hx hb hts inlX6 hown hK hP 0 rfl rfl 4 (by decide) w_1_60 rfl dX6_opens_1 ?_
  refine lv_iload_n hx hb dX6_opens_4 rfl (lv_at hl 1 rfl) ?_
  refine lv_icmp_eq (tgt := 14) hx hb dX6_opens_5 (by decide) (fun c_1 => ?_) (fun c_1 => ?_)
  · skip
    refine lv_aload_n hx hb dX6_opens_14 rfl (lv_at hl 0 rfl) ?_
    refine sk_get (v := .int (nI xo)) (C := RX6) (T := TX6) (N := 8) hx hb hts inlX6 hown hK hP 0 rfl rfl 3 (by decide) w_1_59 rfl dX6_opens_15 ?_
    refine lv_bipush (v := 6) hx hb dX6_opens_18 (by decide) ?_
    refine lv_icmp_lt (tgt := 34) hx hb dX6_opens_20 (by decide) (fun c_2 => ?_) (fun c_2 => ?_)
    · have c_2 : xo < 6 := (nlt xo 6 (by omega) (by omega)).mp c_2
      refine lv_aload_n hx hb dX6_opens_34 rfl (lv_at hl 0 rfl) ?_
      refine lv_dup hx hb dX6_opens_35 rfl ?_
      refine sk_get (v := .int (nI xo)) (C := RX6) (T := TX6) (N := 8) hx hb hts inlX6 hown hK hP 0 rfl rfl 3 (by decide) w_1_59 rfl dX6_opens_36 ?_
      refine lv_iconst (v := 1) hx hb dX6_opens_39 (by decide) ?_
      refine lv_iadd hx hb dX6_opens_40 ?_
      refine sk_top (nI (xo + 1)) (nI_add xo 1) ?_
      refine sk_put (ws' := [(q 2, .inr (6, [.ref (q 0), .int (nI xa), .int xv, .int (nI (xo + 1)), .int xt, .int (nI xz), .int xf, .int xp])), (q 0, .inr (10, [.ref (q 20), .int (nI tl)])), (q 20, .inl (cI, 1600, .inl (fun j => nI (tb j))))]) (C := RX6) (T := TX6) (N := 8) (v := .int (nI (xo + 1))) hx hb hts inlX6 tyX6 tyX6_ok nmX6 hown hK hP hD hS 0 rfl rfl 3 (by decide) w_1_59 rfl rfl rfl (Nat.le_of_ble_eq_true rfl) rfl dX6_opens_41 (fun H locs hP hD hS => ?_)
      refine lv_aload_n hx hb dX6_opens_44 rfl (lv_at hl 0 rfl) ?_
      refine sk_VvZ (q0 := 0) (n := 0) (rest := []) (wr := []) ⟨hx, hb, hml, hown, hts⟩ hl.1 (c_erd_step l D cI cJ cC cZ cS zk zv zf q xa xv (xo + 1) xt xz xf xp tl tb (bindR og (beF tb tl)) (by omega) (by omega) (by omega) htb (rd_st htb hO (by rw [c_1]; exact hwr))) w_2_225 w_2_226 w_2_227 w_1_4 w_2_228 (by decide +kernel) ⟨⟨(Nat.le_of_ble_eq_true rfl), (Nat.le_of_ble_eq_true rfl)⟩, (Nat.le_of_ble_eq_true rfl), (Nat.le_of_ble_eq_true rfl)⟩ hK hP hD hS hZ hA [0, 1, 2] [] rfl rfl (by decide +kernel) (by decide +kernel) (by decide +kernel) rfl rfl rfl rfl (Nat.le_of_ble_eq_true rfl) dX6_opens_45 (fun u H locs hw hP hD hS => ?_)
      obtain ⟨xa2_3, xv2_4, xt2_5, xz2_6, hxa2_7, hxz2_8, hO2_9, rfl⟩ := hw
      have hP : va_P D vwCl [(q 2, .inr (6, [.ref (q 0), .int (nI xa2_3), .int xv2_4, .int (nI (xo + 1)), .int xt2_5, .int (nI xz2_6), .int xf, .int xp])), (q 0, .inr (10, [.ref (q 20), .int (nI tl)])), (q 20, .inl (cI, 1600, .inl (fun j => nI (tb j))))] H := hP
      have hD : va_D A [(q 2, .inr (6, [.ref (q 0), .int (nI xa2_3), .int xv2_4, .int (nI (xo + 1)), .int xt2_5, .int (nI xz2_6), .int xf, .int xp])), (q 0, .inr (10, [.ref (q 20), .int (nI tl)])), (q 20, .inl (cI, 1600, .inl (fun j => nI (tb j))))] := hD
      rw [stF_nx] at hO2_9
      refine lv_iconst (v := 1) hx hb dX6_opens_48 (by decide) ?_
      exact sk_iret hx hb hr rfl hlocks hK hP hD hS (⟨xa2_3, xv2_4, xt2_5, xz2_6, xf, xp, 1, by omega, by omega, Or.inr ⟨rfl, by omega, c_1⟩, op_1 hO c_1 (by omega) hO2_9, rfl, rfl⟩) (Nat.le_of_ble_eq_true rfl) (Nat.le_of_ble_eq_true rfl) dX6_opens_49
    · have c_2 : ¬ (xo < 6) := fun h => c_2 ((nlt xo 6 (by omega) (by omega)).mpr h)
      refine lv_aload_n hx hb dX6_opens_23 rfl (lv_at hl 0 rfl) ?_
      refine lv_iconst (v := 4) hx hb dX6_opens_24 (by decide) ?_
      refine lv_aload_n hx hb dX6_opens_25 rfl (lv_at hl 0 rfl) ?_
      refine sk_get (v := .int (nI xz)) (C := RX6) (T := TX6) (N := 8) hx hb hts inlX6 hown hK hP 0 rfl rfl 5 (by decide) w_1_64 rfl dX6_opens_26 ?_
      refine sk_Vv (q0 := 0) (n := 2) (rest := []) (wr := [(q 0, .inr (10, [.ref (q 20), .int (nI tl)])), (q 20, .inl (cI, 1600, .inl (fun j => nI (tb j))))]) ⟨hx, hb, hml, hown, hts⟩ hl.1 (c_erd_fail l D cI cJ cC cZ cS q xa xv xo xt xz xf xp tl tb 4 xz og (by omega) (by omega) (by omega) hO) w_3_58 w_3_59 w_3_60 w_1_4 w_3_61 (by decide +kernel) ⟨⟨(Nat.le_of_ble_eq_true rfl), (Nat.le_of_ble_eq_true rfl)⟩, (Nat.le_of_ble_eq_true rfl), (Nat.le_of_ble_eq_true rfl)⟩ hK hP hD hS hA [0] [1, 2] rfl rfl (by decide +kernel) (by decide +kernel) (by decide +kernel) rfl rfl rfl rfl (Nat.le_of_ble_eq_true rfl) dX6_opens_29 (fun u H locs hw hP hD hS => ?_)
      obtain ⟨xf2_10, xp2_11, hO2_12, rfl⟩ := hw
      have hP : va_P D vwCl [(q 0, .inr (10, [.ref (q 20), .int (nI tl)])), (q 20, .inl (cI, 1600, .inl (fun j => nI (tb j)))), (q 2, .inr (6, [.ref (q 0), .int (nI xa), .int xv, .int (nI xo), .int (-2), .int (nI xz), .int xf2_10, .int xp2_11]))] H := hP
      have hD : va_D A [(q 0, .inr (10, [.ref (q 20), .int (nI tl)])), (q 20, .inl (cI, 1600, .inl (fun j => nI (tb j)))), (q 2, .inr (6, [.ref (q 0), .int (nI xa), .int xv, .int (nI xo), .int (-2), .int (nI xz), .int xf2_10, .int xp2_11]))] := hD
      refine lv_iconst (v := 0) hx hb dX6_opens_32 (by decide) ?_
      have hP := hP.sub (ws' := [(q 2, .inr (6, [.ref (q 0), .int (nI xa), .int xv, .int (nI xo), .int (-2), .int (nI xz), .int xf2_10, .int xp2_11])), (q 0, .inr (10, [.ref (q 20), .int (nI tl)])), (q 20, .inl (cI, 1600, .inl (fun j => nI (tb j))))]) [2, 0, 1] rfl
      have hD := hD.sub (ws' := [(q 2, .inr (6, [.ref (q 0), .int (nI xa), .int xv, .int (nI xo), .int (-2), .int (nI xz), .int xf2_10, .int xp2_11])), (q 0, .inr (10, [.ref (q 20), .int (nI tl)])), (q 20, .inl (cI, 1600, .inl (fun j => nI (tb j))))]) [2, 0, 1] (by decide +kernel) rfl
      exact sk_iret hx hb hr rfl hlocks hK hP hD hS (⟨xa, xv, (-2), xz, xf2_10, xp2_11, 0, by omega, by omega, Or.inl ⟨rfl, fun _ => by omega⟩, op_2 hO c_1 (by omega) hO2_12, rfl, rfl⟩) (Nat.le_of_ble_eq_true rfl) (Nat.le_of_ble_eq_true rfl) dX6_opens_33
  · skip
    refine lv_aload_n hx hb dX6_opens_8 rfl (lv_at hl 0 rfl) ?_
    refine sk_Vv (q0 := 0) (n := 0) (rest := []) (wr := [(q 0, .inr (10, [.ref (q 20), .int (nI tl)])), (q 20, .inl (cI, 1600, .inl (fun j => nI (tb j))))]) ⟨hx, hb, hml, hown, hts⟩ hl.1 (c_erd_failHere l D cI cJ cC cZ cS q xa xv xo xt xz xf xp tl tb og (by omega) hO) w_3_54 w_3_55 w_3_56 w_1_4 w_3_57 (by decide +kernel) ⟨⟨(Nat.le_of_ble_eq_true rfl), (Nat.le_of_ble_eq_true rfl)⟩, (Nat.le_of_ble_eq_true rfl), (Nat.le_of_ble_eq_true rfl)⟩ hK hP hD hS hA [0] [1, 2] rfl rfl (by decide +kernel) (by decide +kernel) (by decide +kernel) rfl rfl rfl rfl (Nat.le_of_ble_eq_true rfl) dX6_opens_9 (fun u H locs hw hP hD hS => ?_)
    obtain ⟨xf2_13, xp2_14, hO2_15, rfl⟩ := hw
    have hP : va_P D vwCl [(q 0, .inr (10, [.ref (q 20), .int (nI tl)])), (q 20, .inl (cI, 1600, .inl (fun j => nI (tb j)))), (q 2, .inr (6, [.ref (q 0), .int (nI xa), .int xv, .int (nI xo), .int (-2), .int (nI xz), .int xf2_13, .int xp2_14]))] H := hP
    have hD : va_D A [(q 0, .inr (10, [.ref (q 20), .int (nI tl)])), (q 20, .inl (cI, 1600, .inl (fun j => nI (tb j)))), (q 2, .inr (6, [.ref (q 0), .int (nI xa), .int xv, .int (nI xo), .int (-2), .int (nI xz), .int xf2_13, .int xp2_14]))] := hD
    refine lv_iconst (v := 0) hx hb dX6_opens_12 (by decide) ?_
    have hP := hP.sub (ws' := [(q 2, .inr (6, [.ref (q 0), .int (nI xa), .int xv, .int (nI xo), .int (-2), .int (nI xz), .int xf2_13, .int xp2_14])), (q 0, .inr (10, [.ref (q 20), .int (nI tl)])), (q 20, .inl (cI, 1600, .inl (fun j => nI (tb j))))]) [2, 0, 1] rfl
    have hD := hD.sub (ws' := [(q 2, .inr (6, [.ref (q 0), .int (nI xa), .int xv, .int (nI xo), .int (-2), .int (nI xz), .int xf2_13, .int xp2_14])), (q 0, .inr (10, [.ref (q 20), .int (nI tl)])), (q 20, .inl (cI, 1600, .inl (fun j => nI (tb j))))]) [2, 0, 1] (by decide +kernel) rfl
    exact sk_iret hx hb hr rfl hlocks hK hP hD hS (⟨xa, xv, (-2), xz, xf2_13, xp2_14, 0, by omega, by omega, Or.inl ⟨rfl, fun hq => absurd hq c_1⟩, op_3 hO c_1 hO2_15, rfl, rfl⟩) (Nat.le_of_ble_eq_true rfl) (Nat.le_of_ble_eq_true rfl) dX6_opens_13
set_option maxHeartbeats 4000000 in
set_option maxRecDepth 100000 in
theorem c_erd_shuts (l : Launch) (D : va_G) (cI cJ cC cZ cS : ClassId) (q : Nat → Nat) (xa : Nat) (xv : Int32) (xo : Nat) (xt : Int32) (xz : Nat) (xf : Int32) (xp : Int32) (hxo : 1 ≤ xo) (hxo6 : xo ≤ 6) : skM l yX6_shuts cX6_shuts 1 none 0 0 0 0 D (skT cI cJ cC cZ cS) [.ref (q 2)] [(q 2, .inr (6, [.ref (q 0), .int (nI xa), .int xv, .int (nI xo), .int xt, .int (nI xz), .int xf, .int xp]))] (skV D (skT cI cJ cC cZ cS) (fun (u : va_W) => u = [(q 2, .inr (6, [.ref (q 0), .int (nI xa), .int xv, .int (nI (xo - 1)), .int xt, .int (nI xz), .int xf, .int xp]))])) := by
  refine skM_of (by decide +kernel) (Nat.le_of_ble_eq_true rfl) ?_
  intro p e s m below meth c A ls E hP hD hl
  obtain ⟨hx, hb, hr, hml, hlocks, hin, hown, hts, hK, hA⟩ := E
  have hown : s.vm.findClass RX6 = some m.cls := hown
  have hS : va_S A s.heap s.heap [] := va_S.rf
  have hl : lv_has ls 1 [(0, .ref (q 2))] := hl
  refine lv_aload_n hx hb dX6_shuts_0 rfl (lv_at hl 0 rfl) ?_
  refine lv_dup hx hb dX6_shuts_1 rfl ?_
  refine sk_get (v := .int (nI xo)) (C := RX6) (T := TX6) (N := 8) hx hb hts inlX6 hown hK hP 0 rfl rfl 3 (by decide) w_1_59 rfl dX6_shuts_2 ?_
  refine lv_iconst (v := 1) hx hb dX6_shuts_5 (by decide) ?_
  refine lv_isub hx hb dX6_shuts_6 ?_
  refine sk_top (nI (xo - 1)) (nsub xo 1 (by omega)) ?_
  refine sk_put (ws' := [(q 2, .inr (6, [.ref (q 0), .int (nI xa), .int xv, .int (nI (xo - 1)), .int xt, .int (nI xz), .int xf, .int xp]))]) (C := RX6) (T := TX6) (N := 8) (v := .int (nI (xo - 1))) hx hb hts inlX6 tyX6 tyX6_ok nmX6 hown hK hP hD hS 0 rfl rfl 3 (by decide) w_1_59 rfl rfl rfl (Nat.le_of_ble_eq_true rfl) rfl dX6_shuts_7 (fun H locs hP hD hS => ?_)
  exact sk_vret hx hb hr hlocks hK hP hD hS rfl (Nat.le_of_ble_eq_true rfl) (Nat.le_of_ble_eq_true rfl) dX6_shuts_10
set_option maxHeartbeats 4000000 in
set_option maxRecDepth 100000 in
theorem c_eCode_addX (l : Launch) (D : va_G) (cI cJ cC cZ cS : ClassId) (h0 : Nat) (k1 : Nat) (k2 : Nat) (k3 : Nat) (k4 : Nat) (cl : Nat) (mw : Nat) (f1 : Nat → Int32) (o : Int32) (og : Res) (v : Nat) (hcl : cl ≤ 1600) (hmw : mw ≤ 1) (hv : o = cm v) (hv2 : v ≤ 10999) (hC : coO og cl mw f1) (hroom : ∀ r, og = .ok r → r.2.length < 1600) : skM l yX0_add cX0_add 2 none 0 0 0 0 D (skT cI cJ cC cZ cS) [.ref h0, .int o] [(h0, .inr (0, [.ref k1, .ref k2, .ref k3, .ref k4, .int (nI cl), .int (nI mw)])), (k1, .inl (cI, 1600, .inl f1))] (skV D (skT cI cJ cC cZ cS) (fun (u : va_W) => ∃ (c2 : Nat), ∃ (w2 : Nat), ∃ (g1 : Nat → Int32), c2 ≤ 1600 ∧ w2 ≤ 1 ∧ coO (ad og v) c2 w2 g1 ∧ u = [(h0, .inr (0, [.ref k1, .ref k2, .ref k3, .ref k4, .int (nI c2), .int (nI w2)])), (k1, .inl (cI, 1600, .inl g1))])) := by
  refine skM_of (by decide +kernel) (Nat.le_of_ble_eq_true rfl) ?_
  intro p e s m below meth c A ls E hP hD hl
  obtain ⟨hx, hb, hr, hml, hlocks, hin, hown, hts, hK, hA⟩ := E
  have hown : s.vm.findClass RX0 = some m.cls := hown
  have hS : va_S A s.heap s.heap [] := va_S.rf
  have hl : lv_has ls 2 [(0, .ref h0), (1, .int o)] := hl
  refine lv_aload_n hx hb dX0_add_0 rfl (lv_at hl 0 rfl) ?_
  refine sk_get (v := .int (nI cl)) (C := RX0) (T := TX0) (N := 6) hx hb hts inlX0 hown hK hP 0 rfl rfl 4 (by decide) w_1_133 rfl dX0_add_1 ?_
  refine lv_aload_n hx hb dX0_add_4 rfl (lv_at hl 0 rfl) ?_
  refine sk_get (v := .ref k1) (C := RX0) (T := TX0) (N := 6) hx hb hts inlX0 hown hK hP 0 rfl rfl 0 (by decide) w_1_129 rfl dX0_add_5 ?_
  refine va_alen (v := 1600) hx hb hK.1 hP 1 0 rfl rfl rfl dX0_add_8 ?_
  refine lv_icmp_ge (tgt := 32) hx hb dX0_add_9 (by decide) (fun c_1 => ?_) (fun c_1 => ?_)
  · have c_1 : 1600 ≤ cl := (nle 1600 cl (by omega) (by omega)).mp c_1
    refine lv_aload_n hx hb dX0_add_32 rfl (lv_at hl 0 rfl) ?_
    refine lv_dup hx hb dX0_add_33 rfl ?_
    refine sk_get (v := .int (nI mw)) (C := RX0) (T := TX0) (N := 6) hx hb hts inlX0 hown hK hP 0 rfl rfl 5 (by decide) w_1_136 rfl dX0_add_34 ?_
    refine lv_iload_n hx hb dX0_add_37 rfl (lv_at hl 1 rfl) ?_
    refine lv_sipush (v := 10004) hx hb dX0_add_38 (by decide) ?_
    refine lv_icmp_ne (tgt := 48) hx hb dX0_add_41 (by decide) (fun c_2 => ?_) (fun c_2 => ?_)
    · skip
      refine lv_iconst (v := 0) hx hb dX0_add_48 (by decide) ?_
      refine lv_ior hx hb dX0_add_49 ?_
      refine sk_top (nI (max mw 0)) (nor1 mw 0 (by omega) (by omega)) ?_
      refine sk_put (ws' := [(h0, .inr (0, [.ref k1, .ref k2, .ref k3, .ref k4, .int (nI cl), .int (nI (max mw 0))])), (k1, .inl (cI, 1600, .inl f1))]) (C := RX0) (T := TX0) (N := 6) (v := .int (nI (max mw 0))) hx hb hts inlX0 tyX0 tyX0_ok nmX0 hown hK hP hD hS 0 rfl rfl 5 (by decide) w_1_136 rfl (nbool (max mw 0) (by omega)) (nfitb (max mw 0) (by omega)) (Nat.le_of_ble_eq_true rfl) rfl dX0_add_50 (fun H locs hP hD hS => ?_)
      exact sk_vret hx hb hr hlocks hK hP hD hS (⟨cl, max mw 0, f1, by omega, by omega, co_full hC hroom (by omega), rfl⟩) (Nat.le_of_ble_eq_true rfl) (Nat.le_of_ble_eq_true rfl) dX0_add_53
    · skip
      refine lv_iconst (v := 1) hx hb dX0_add_44 (by decide) ?_
      refine lv_goto (tgt := 49) hx hb dX0_add_45 (by decide) ?_
      refine lv_ior hx hb dX0_add_49 ?_
      refine sk_top (nI (max mw 1)) (nor1 mw 1 (by omega) (by omega)) ?_
      refine sk_put (ws' := [(h0, .inr (0, [.ref k1, .ref k2, .ref k3, .ref k4, .int (nI cl), .int (nI (max mw 1))])), (k1, .inl (cI, 1600, .inl f1))]) (C := RX0) (T := TX0) (N := 6) (v := .int (nI (max mw 1))) hx hb hts inlX0 tyX0 tyX0_ok nmX0 hown hK hP hD hS 0 rfl rfl 5 (by decide) w_1_136 rfl (nbool (max mw 1) (by omega)) (nfitb (max mw 1) (by omega)) (Nat.le_of_ble_eq_true rfl) rfl dX0_add_50 (fun H locs hP hD hS => ?_)
      exact sk_vret hx hb hr hlocks hK hP hD hS (⟨cl, max mw 1, f1, by omega, by omega, co_full hC hroom (by omega), rfl⟩) (Nat.le_of_ble_eq_true rfl) (Nat.le_of_ble_eq_true rfl) dX0_add_53
  · have c_1 : ¬ (1600 ≤ cl) := fun h => c_1 ((nle 1600 cl (by omega) (by omega)).mpr h)
    refine lv_aload_n hx hb dX0_add_12 rfl (lv_at hl 0 rfl) ?_
    refine sk_get (v := .ref k1) (C := RX0) (T := TX0) (N := 6) hx hb hts inlX0 hown hK hP 0 rfl rfl 0 (by decide) w_1_129 rfl dX0_add_13 ?_
    refine lv_aload_n hx hb dX0_add_16 rfl (lv_at hl 0 rfl) ?_
    refine sk_get (v := .int (nI cl)) (C := RX0) (T := TX0) (N := 6) hx hb hts inlX0 hown hK hP 0 rfl rfl 4 (by decide) w_1_133 rfl dX0_add_17 ?_
    refine lv_iload_n hx hb dX0_add_20 rfl (lv_at hl 1 rfl) ?_
    refine sk_iast (ws' := [(h0, .inr (0, [.ref k1, .ref k2, .ref k3, .ref k4, .int (nI cl), .int (nI mw)])), (k1, .inl (cI, 1600, .inl (upd f1 (nI cl).toNatClampNeg o)))]) hx hb hK hP hD hS 1 0 rfl rfl (vin cl 1600 (by omega) (by omega)) rfl dX0_add_21 (fun H locs hP hD hS => ?_)
    refine lv_aload_n hx hb dX0_add_22 rfl (lv_at hl 0 rfl) ?_
    refine lv_dup hx hb dX0_add_23 rfl ?_
    refine sk_get (v := .int (nI cl)) (C := RX0) (T := TX0) (N := 6) hx hb hts inlX0 hown hK hP 0 rfl rfl 4 (by decide) w_1_133 rfl dX0_add_24 ?_
    refine lv_iconst (v := 1) hx hb dX0_add_27 (by decide) ?_
    refine lv_iadd hx hb dX0_add_28 ?_
    refine sk_top (nI (cl + 1)) (nI_add cl 1) ?_
    refine sk_put (ws' := [(h0, .inr (0, [.ref k1, .ref k2, .ref k3, .ref k4, .int (nI (cl + 1)), .int (nI mw)])), (k1, .inl (cI, 1600, .inl (upd f1 (nI cl).toNatClampNeg o)))]) (C := RX0) (T := TX0) (N := 6) (v := .int (nI (cl + 1))) hx hb hts inlX0 tyX0 tyX0_ok nmX0 hown hK hP hD hS 0 rfl rfl 4 (by decide) w_1_133 rfl rfl rfl (Nat.le_of_ble_eq_true rfl) rfl dX0_add_29 (fun H locs hP hD hS => ?_)
    refine lv_aload_n hx hb dX0_add_32 rfl (lv_at hl 0 rfl) ?_
    refine lv_dup hx hb dX0_add_33 rfl ?_
    refine sk_get (v := .int (nI mw)) (C := RX0) (T := TX0) (N := 6) hx hb hts inlX0 hown hK hP 0 rfl rfl 5 (by decide) w_1_136 rfl dX0_add_34 ?_
    refine lv_iload_n hx hb dX0_add_37 rfl (lv_at hl 1 rfl) ?_
    refine lv_sipush (v := 10004) hx hb dX0_add_38 (by decide) ?_
    refine lv_icmp_ne (tgt := 48) hx hb dX0_add_41 (by decide) (fun c_3 => ?_) (fun c_3 => ?_)
    · skip
      refine lv_iconst (v := 0) hx hb dX0_add_48 (by decide) ?_
      refine lv_ior hx hb dX0_add_49 ?_
      refine sk_top (nI (max mw 0)) (nor1 mw 0 (by omega) (by omega)) ?_
      refine sk_put (ws' := [(h0, .inr (0, [.ref k1, .ref k2, .ref k3, .ref k4, .int (nI (cl + 1)), .int (nI (max mw 0))])), (k1, .inl (cI, 1600, .inl (upd f1 (nI cl).toNatClampNeg o)))]) (C := RX0) (T := TX0) (N := 6) (v := .int (nI (max mw 0))) hx hb hts inlX0 tyX0 tyX0_ok nmX0 hown hK hP hD hS 0 rfl rfl 5 (by decide) w_1_136 rfl (nbool (max mw 0) (by omega)) (nfitb (max mw 0) (by omega)) (Nat.le_of_ble_eq_true rfl) rfl dX0_add_50 (fun H locs hP hD hS => ?_)
      exact sk_vret hx hb hr hlocks hK hP hD hS (⟨cl + 1, max mw 0, upd f1 (nI cl).toNatClampNeg o, by omega, by omega, co_ad hC hv hv2 (by omega) (or_n hmw c_3), rfl⟩) (Nat.le_of_ble_eq_true rfl) (Nat.le_of_ble_eq_true rfl) dX0_add_53
    · skip
      refine lv_iconst (v := 1) hx hb dX0_add_44 (by decide) ?_
      refine lv_goto (tgt := 49) hx hb dX0_add_45 (by decide) ?_
      refine lv_ior hx hb dX0_add_49 ?_
      refine sk_top (nI (max mw 1)) (nor1 mw 1 (by omega) (by omega)) ?_
      refine sk_put (ws' := [(h0, .inr (0, [.ref k1, .ref k2, .ref k3, .ref k4, .int (nI (cl + 1)), .int (nI (max mw 1))])), (k1, .inl (cI, 1600, .inl (upd f1 (nI cl).toNatClampNeg o)))]) (C := RX0) (T := TX0) (N := 6) (v := .int (nI (max mw 1))) hx hb hts inlX0 tyX0 tyX0_ok nmX0 hown hK hP hD hS 0 rfl rfl 5 (by decide) w_1_136 rfl (nbool (max mw 1) (by omega)) (nfitb (max mw 1) (by omega)) (Nat.le_of_ble_eq_true rfl) rfl dX0_add_50 (fun H locs hP hD hS => ?_)
      exact sk_vret hx hb hr hlocks hK hP hD hS (⟨cl + 1, max mw 1, upd f1 (nI cl).toNatClampNeg o, by omega, by omega, co_ad hC hv hv2 (by omega) (or_w hmw c_3), rfl⟩) (Nat.le_of_ble_eq_true rfl) (Nat.le_of_ble_eq_true rfl) dX0_add_53
set_option maxHeartbeats 4000000 in
set_option maxRecDepth 100000 in
theorem c_enameInLock (l : Launch) (D : va_G) (cI cJ cC cZ cS : ClassId) (u0 : Nat) (kn : Nat) (q : Nat → Nat) (o : Int32) (hkn1 : kn ≤ 1) : skM l yX8_nameInLock cX8_nameInLock 2 (some .int) 0 0 0 0 D (skT cI cJ cC cZ cS) [.ref u0, .int o] [(u0, .inr (8, [.ref (q 2), .int (nI kn)]))] (skI D (skT cI cJ cC cZ cS) (fun (r : Int32) (u : va_W) => nmO kn o r ∧ u = [(u0, .inr (8, [.ref (q 2), .int (nI kn)]))])) := by
  refine skM_of (by decide +kernel) (Nat.le_of_ble_eq_true rfl) ?_
  intro p e s m below meth c A ls E hP hD hl
  obtain ⟨hx, hb, hr, hml, hlocks, hin, hown, hts, hK, hA⟩ := E
  have hown : s.vm.findClass RX8 = some m.cls := hown
  have hS : va_S A s.heap s.heap [] := va_S.rf
  have hl : lv_has ls 2 [(0, .ref u0), (1, .int o)] := hl
  refine lv_iload_n hx hb dX8_nameInLock_0 rfl (lv_at hl 1 rfl) ?_
  by_cases g_1 : o = 258
  · refine lv_tableIn (off := 67) (tgt := 68) hx hb dX8_nameInLock_1 (by rw [g_1]; decide) (by rw [g_1]; decide) (by rw [g_1]; rfl) (by decide) ?_
    refine lv_sipush (v := 10001) hx hb dX8_nameInLock_68 (by decide) ?_
    exact sk_iret hx hb hr rfl hlocks hK hP hD hS (⟨by rw [g_1]; exact nl_258 (by omega), rfl⟩) (Nat.le_of_ble_eq_true rfl) (Nat.le_of_ble_eq_true rfl) dX8_nameInLock_71
  by_cases g_2 : o = 259
  · refine lv_tableIn (off := 71) (tgt := 72) hx hb dX8_nameInLock_1 (by rw [g_2]; decide) (by rw [g_2]; decide) (by rw [g_2]; rfl) (by decide) ?_
    refine lv_sipush (v := 10002) hx hb dX8_nameInLock_72 (by decide) ?_
    exact sk_iret hx hb hr rfl hlocks hK hP hD hS (⟨by rw [g_2]; exact nl_259 (by omega), rfl⟩) (Nat.le_of_ble_eq_true rfl) (Nat.le_of_ble_eq_true rfl) dX8_nameInLock_75
  by_cases g_3 : o = 260
  · refine lv_tableIn (off := 115) (tgt := 116) hx hb dX8_nameInLock_1 (by rw [g_3]; decide) (by rw [g_3]; decide) (by rw [g_3]; rfl) (by decide) ?_
    refine lv_iconst (v := (-1)) hx hb dX8_nameInLock_116 (by decide) ?_
    exact sk_iret hx hb hr rfl hlocks hK hP hD hS (⟨by rw [g_3]; exact nl_260 (by omega), rfl⟩) (Nat.le_of_ble_eq_true rfl) (Nat.le_of_ble_eq_true rfl) dX8_nameInLock_117
  by_cases g_4 : o = 261
  · refine lv_tableIn (off := 115) (tgt := 116) hx hb dX8_nameInLock_1 (by rw [g_4]; decide) (by rw [g_4]; decide) (by rw [g_4]; rfl) (by decide) ?_
    refine lv_iconst (v := (-1)) hx hb dX8_nameInLock_116 (by decide) ?_
    exact sk_iret hx hb hr rfl hlocks hK hP hD hS (⟨by rw [g_4]; exact nl_261 (by omega), rfl⟩) (Nat.le_of_ble_eq_true rfl) (Nat.le_of_ble_eq_true rfl) dX8_nameInLock_117
  by_cases g_5 : o = 262
  · refine lv_tableIn (off := 115) (tgt := 116) hx hb dX8_nameInLock_1 (by rw [g_5]; decide) (by rw [g_5]; decide) (by rw [g_5]; rfl) (by decide) ?_
    refine lv_iconst (v := (-1)) hx hb dX8_nameInLock_116 (by decide) ?_
    exact sk_iret hx hb hr rfl hlocks hK hP hD hS (⟨by rw [g_5]; exact nl_262 (by omega), rfl⟩) (Nat.le_of_ble_eq_true rfl) (Nat.le_of_ble_eq_true rfl) dX8_nameInLock_117
  by_cases g_6 : o = 263
  · refine lv_tableIn (off := 115) (tgt := 116) hx hb dX8_nameInLock_1 (by rw [g_6]; decide) (by rw [g_6]; decide) (by rw [g_6]; rfl) (by decide) ?_
    refine lv_iconst (v := (-1)) hx hb dX8_nameInLock_116 (by decide) ?_
    exact sk_iret hx hb hr rfl hlocks hK hP hD hS (⟨by rw [g_6]; exact nl_263 (by omega), rfl⟩) (Nat.le_of_ble_eq_true rfl) (Nat.le_of_ble_eq_true rfl) dX8_nameInLock_117
  by_cases g_7 : o = 264
  · refine lv_tableIn (off := 115) (tgt := 116) hx hb dX8_nameInLock_1 (by rw [g_7]; decide) (by rw [g_7]; decide) (by rw [g_7]; rfl) (by decide) ?_
    refine lv_iconst (v := (-1)) hx hb dX8_nameInLock_116 (by decide) ?_
    exact sk_iret hx hb hr rfl hlocks hK hP hD hS (⟨by rw [g_7]; exact nl_264 (by omega), rfl⟩) (Nat.le_of_ble_eq_true rfl) (Nat.le_of_ble_eq_true rfl) dX8_nameInLock_117
  by_cases g_8 : o = 265
  · refine lv_tableIn (off := 63) (tgt := 64) hx hb dX8_nameInLock_1 (by rw [g_8]; decide) (by rw [g_8]; decide) (by rw [g_8]; rfl) (by decide) ?_
    refine lv_sipush (v := 10000) hx hb dX8_nameInLock_64 (by decide) ?_
    exact sk_iret hx hb hr rfl hlocks hK hP hD hS (⟨by rw [g_8]; exact nl_265 (by omega), rfl⟩) (Nat.le_of_ble_eq_true rfl) (Nat.le_of_ble_eq_true rfl) dX8_nameInLock_67
  by_cases g_9 : o = 266
  · refine lv_tableIn (off := 75) (tgt := 76) hx hb dX8_nameInLock_1 (by rw [g_9]; decide) (by rw [g_9]; decide) (by rw [g_9]; rfl) (by decide) ?_
    refine lv_sipush (v := 10003) hx hb dX8_nameInLock_76 (by decide) ?_
    exact sk_iret hx hb hr rfl hlocks hK hP hD hS (⟨by rw [g_9]; exact nl_266 (by omega), rfl⟩) (Nat.le_of_ble_eq_true rfl) (Nat.le_of_ble_eq_true rfl) dX8_nameInLock_79
  by_cases g_10 : o = 267
  · refine lv_tableIn (off := 79) (tgt := 80) hx hb dX8_nameInLock_1 (by rw [g_10]; decide) (by rw [g_10]; decide) (by rw [g_10]; rfl) (by decide) ?_
    refine lv_sipush (v := 10004) hx hb dX8_nameInLock_80 (by decide) ?_
    exact sk_iret hx hb hr rfl hlocks hK hP hD hS (⟨by rw [g_10]; exact nl_267 (by omega), rfl⟩) (Nat.le_of_ble_eq_true rfl) (Nat.le_of_ble_eq_true rfl) dX8_nameInLock_83
  by_cases g_11 : o = 268
  · refine lv_tableIn (off := 83) (tgt := 84) hx hb dX8_nameInLock_1 (by rw [g_11]; decide) (by rw [g_11]; decide) (by rw [g_11]; rfl) (by decide) ?_
    refine lv_aload_n hx hb dX8_nameInLock_84 rfl (lv_at hl 0 rfl) ?_
    refine sk_get (v := .int (nI kn)) (C := RX8) (T := TX8) (N := 2) hx hb hts inlX8 hown hK hP 0 rfl rfl 1 (by decide) w_1_101 rfl dX8_nameInLock_85 ?_
    refine lv_iconst (v := 1) hx hb dX8_nameInLock_88 (by decide) ?_
    refine lv_icmp_ne (tgt := 98) hx hb dX8_nameInLock_89 (by decide) (fun c_12 => ?_) (fun c_12 => ?_)
    · have c_12 : ¬ (kn = 1) := fun h => c_12 ((neq kn 1 (by omega) (by omega)).mpr h)
      refine lv_iconst (v := (-1)) hx hb dX8_nameInLock_98 (by decide) ?_
      exact sk_iret hx hb hr rfl hlocks hK hP hD hS (⟨by rw [g_11]; exact nl_268n (by omega), rfl⟩) (Nat.le_of_ble_eq_true rfl) (Nat.le_of_ble_eq_true rfl) dX8_nameInLock_99
    · have c_12 : kn = 1 := (neq kn 1 (by omega) (by omega)).mp c_12
      refine lv_sipush (v := 10005) hx hb dX8_nameInLock_92 (by decide) ?_
      refine lv_goto (tgt := 99) hx hb dX8_nameInLock_95 (by decide) ?_
      exact sk_iret hx hb hr rfl hlocks hK hP hD hS (⟨by rw [g_11]; exact nl_268y (by omega), rfl⟩) (Nat.le_of_ble_eq_true rfl) (Nat.le_of_ble_eq_true rfl) dX8_nameInLock_99
  by_cases g_13 : o = 269
  · refine lv_tableIn (off := 99) (tgt := 100) hx hb dX8_nameInLock_1 (by rw [g_13]; decide) (by rw [g_13]; decide) (by rw [g_13]; rfl) (by decide) ?_
    refine lv_aload_n hx hb dX8_nameInLock_100 rfl (lv_at hl 0 rfl) ?_
    refine sk_get (v := .int (nI kn)) (C := RX8) (T := TX8) (N := 2) hx hb hts inlX8 hown hK hP 0 rfl rfl 1 (by decide) w_1_101 rfl dX8_nameInLock_101 ?_
    refine lv_iconst (v := 1) hx hb dX8_nameInLock_104 (by decide) ?_
    refine lv_icmp_ne (tgt := 114) hx hb dX8_nameInLock_105 (by decide) (fun c_14 => ?_) (fun c_14 => ?_)
    · have c_14 : ¬ (kn = 1) := fun h => c_14 ((neq kn 1 (by omega) (by omega)).mpr h)
      refine lv_iconst (v := (-1)) hx hb dX8_nameInLock_114 (by decide) ?_
      exact sk_iret hx hb hr rfl hlocks hK hP hD hS (⟨by rw [g_13]; exact nl_269n (by omega), rfl⟩) (Nat.le_of_ble_eq_true rfl) (Nat.le_of_ble_eq_true rfl) dX8_nameInLock_115
    · have c_14 : kn = 1 := (neq kn 1 (by omega) (by omega)).mp c_14
      refine lv_sipush (v := 10006) hx hb dX8_nameInLock_108 (by decide) ?_
      refine lv_goto (tgt := 115) hx hb dX8_nameInLock_111 (by decide) ?_
      exact sk_iret hx hb hr rfl hlocks hK hP hD hS (⟨by rw [g_13]; exact nl_269y (by omega), rfl⟩) (Nat.le_of_ble_eq_true rfl) (Nat.le_of_ble_eq_true rfl) dX8_nameInLock_115
  refine lv_tableOut (tgt := 116) hx hb dX8_nameInLock_1 (sk_out2 258 269 (by intro k hk1 hk2; rcases (show k = 258 ∨ k = 259 ∨ k = 260 ∨ k = 261 ∨ k = 262 ∨ k = 263 ∨ k = 264 ∨ k = 265 ∨ k = 266 ∨ k = 267 ∨ k = 268 ∨ k = 269 by omega) with rfl | rfl | rfl | rfl | rfl | rfl | rfl | rfl | rfl | rfl | rfl | rfl <;> assumption)) (by decide) ?_
  refine lv_iconst (v := (-1)) hx hb dX8_nameInLock_116 (by decide) ?_
  exact sk_iret hx hb hr rfl hlocks hK hP hD hS (⟨nl_def (by omega) (by assumption) (by assumption) (by assumption) (by assumption) (by assumption) (by assumption) (by assumption), rfl⟩) (Nat.le_of_ble_eq_true rfl) (Nat.le_of_ble_eq_true rfl) dX8_nameInLock_117
set_option maxHeartbeats 4000000 in
set_option maxRecDepth 100000 in
theorem c_enameInQuestion (l : Launch) (D : va_G) (cI cJ cC cZ cS : ClassId) (o : Int32)  : skM l yX8_nameInQuestion cX8_nameInQuestion 1 (some .int) 0 0 0 0 D (skT cI cJ cC cZ cS) [.int o] [] (skI D (skT cI cJ cC cZ cS) (fun (r : Int32) (u : va_W) => nmO 2 o r ∧ u = [])) := by
  refine skM_of (by decide +kernel) (Nat.le_of_ble_eq_true rfl) ?_
  intro p e s m below meth c A ls E hP hD hl
  obtain ⟨hx, hb, hr, hml, hlocks, hin, hown, hts, hK, hA⟩ := E
  have hown : s.vm.findClass RX8 = some m.cls := hown
  have hS : va_S A s.heap s.heap [] := va_S.rf
  have hl : lv_has ls 1 [(0, .int o)] := hl
  refine lv_iload_n hx hb dX8_nameInQuestion_0 rfl (lv_at hl 0 rfl) ?_
  by_cases g_1 : o = 258
  · refine lv_tableIn (off := 75) (tgt := 76) hx hb dX8_nameInQuestion_1 (by rw [g_1]; decide) (by rw [g_1]; decide) (by rw [g_1]; rfl) (by decide) ?_
    refine lv_sipush (v := 10001) hx hb dX8_nameInQuestion_76 (by decide) ?_
    exact sk_iret hx hb hr rfl hlocks hK hP hD hS (⟨by rw [g_1]; exact nq_258 rfl, rfl⟩) (Nat.le_of_ble_eq_true rfl) (Nat.le_of_ble_eq_true rfl) dX8_nameInQuestion_79
  by_cases g_2 : o = 259
  · refine lv_tableIn (off := 79) (tgt := 80) hx hb dX8_nameInQuestion_1 (by rw [g_2]; decide) (by rw [g_2]; decide) (by rw [g_2]; rfl) (by decide) ?_
    refine lv_sipush (v := 10002) hx hb dX8_nameInQuestion_80 (by decide) ?_
    exact sk_iret hx hb hr rfl hlocks hK hP hD hS (⟨by rw [g_2]; exact nq_259 rfl, rfl⟩) (Nat.le_of_ble_eq_true rfl) (Nat.le_of_ble_eq_true rfl) dX8_nameInQuestion_83
  by_cases g_3 : o = 260
  · refine lv_tableIn (off := 83) (tgt := 84) hx hb dX8_nameInQuestion_1 (by rw [g_3]; decide) (by rw [g_3]; decide) (by rw [g_3]; rfl) (by decide) ?_
    refine lv_sipush (v := 10007) hx hb dX8_nameInQuestion_84 (by decide) ?_
    exact sk_iret hx hb hr rfl hlocks hK hP hD hS (⟨by rw [g_3]; exact nq_260 rfl, rfl⟩) (Nat.le_of_ble_eq_true rfl) (Nat.le_of_ble_eq_true rfl) dX8_nameInQuestion_87
  by_cases g_4 : o = 261
  · refine lv_tableIn (off := 95) (tgt := 96) hx hb dX8_nameInQuestion_1 (by rw [g_4]; decide) (by rw [g_4]; decide) (by rw [g_4]; rfl) (by decide) ?_
    refine lv_iconst (v := (-1)) hx hb dX8_nameInQuestion_96 (by decide) ?_
    exact sk_iret hx hb hr rfl hlocks hK hP hD hS (⟨by rw [g_4]; exact nq_261 rfl, rfl⟩) (Nat.le_of_ble_eq_true rfl) (Nat.le_of_ble_eq_true rfl) dX8_nameInQuestion_97
  by_cases g_5 : o = 262
  · refine lv_tableIn (off := 95) (tgt := 96) hx hb dX8_nameInQuestion_1 (by rw [g_5]; decide) (by rw [g_5]; decide) (by rw [g_5]; rfl) (by decide) ?_
    refine lv_iconst (v := (-1)) hx hb dX8_nameInQuestion_96 (by decide) ?_
    exact sk_iret hx hb hr rfl hlocks hK hP hD hS (⟨by rw [g_5]; exact nq_262 rfl, rfl⟩) (Nat.le_of_ble_eq_true rfl) (Nat.le_of_ble_eq_true rfl) dX8_nameInQuestion_97
  by_cases g_6 : o = 263
  · refine lv_tableIn (off := 95) (tgt := 96) hx hb dX8_nameInQuestion_1 (by rw [g_6]; decide) (by rw [g_6]; decide) (by rw [g_6]; rfl) (by decide) ?_
    refine lv_iconst (v := (-1)) hx hb dX8_nameInQuestion_96 (by decide) ?_
    exact sk_iret hx hb hr rfl hlocks hK hP hD hS (⟨by rw [g_6]; exact nq_263 rfl, rfl⟩) (Nat.le_of_ble_eq_true rfl) (Nat.le_of_ble_eq_true rfl) dX8_nameInQuestion_97
  by_cases g_7 : o = 264
  · refine lv_tableIn (off := 95) (tgt := 96) hx hb dX8_nameInQuestion_1 (by rw [g_7]; decide) (by rw [g_7]; decide) (by rw [g_7]; rfl) (by decide) ?_
    refine lv_iconst (v := (-1)) hx hb dX8_nameInQuestion_96 (by decide) ?_
    exact sk_iret hx hb hr rfl hlocks hK hP hD hS (⟨by rw [g_7]; exact nq_264 rfl, rfl⟩) (Nat.le_of_ble_eq_true rfl) (Nat.le_of_ble_eq_true rfl) dX8_nameInQuestion_97
  by_cases g_8 : o = 265
  · refine lv_tableIn (off := 95) (tgt := 96) hx hb dX8_nameInQuestion_1 (by rw [g_8]; decide) (by rw [g_8]; decide) (by rw [g_8]; rfl) (by decide) ?_
    refine lv_iconst (v := (-1)) hx hb dX8_nameInQuestion_96 (by decide) ?_
    exact sk_iret hx hb hr rfl hlocks hK hP hD hS (⟨by rw [g_8]; exact nq_265 rfl, rfl⟩) (Nat.le_of_ble_eq_true rfl) (Nat.le_of_ble_eq_true rfl) dX8_nameInQuestion_97
  by_cases g_9 : o = 266
  · refine lv_tableIn (off := 95) (tgt := 96) hx hb dX8_nameInQuestion_1 (by rw [g_9]; decide) (by rw [g_9]; decide) (by rw [g_9]; rfl) (by decide) ?_
    refine lv_iconst (v := (-1)) hx hb dX8_nameInQuestion_96 (by decide) ?_
    exact sk_iret hx hb hr rfl hlocks hK hP hD hS (⟨by rw [g_9]; exact nq_266 rfl, rfl⟩) (Nat.le_of_ble_eq_true rfl) (Nat.le_of_ble_eq_true rfl) dX8_nameInQuestion_97
  by_cases g_10 : o = 267
  · refine lv_tableIn (off := 91) (tgt := 92) hx hb dX8_nameInQuestion_1 (by rw [g_10]; decide) (by rw [g_10]; decide) (by rw [g_10]; rfl) (by decide) ?_
    refine lv_sipush (v := 10004) hx hb dX8_nameInQuestion_92 (by decide) ?_
    exact sk_iret hx hb hr rfl hlocks hK hP hD hS (⟨by rw [g_10]; exact nq_267 rfl, rfl⟩) (Nat.le_of_ble_eq_true rfl) (Nat.le_of_ble_eq_true rfl) dX8_nameInQuestion_95
  by_cases g_11 : o = 268
  · refine lv_tableIn (off := 95) (tgt := 96) hx hb dX8_nameInQuestion_1 (by rw [g_11]; decide) (by rw [g_11]; decide) (by rw [g_11]; rfl) (by decide) ?_
    refine lv_iconst (v := (-1)) hx hb dX8_nameInQuestion_96 (by decide) ?_
    exact sk_iret hx hb hr rfl hlocks hK hP hD hS (⟨by rw [g_11]; exact nq_268 rfl, rfl⟩) (Nat.le_of_ble_eq_true rfl) (Nat.le_of_ble_eq_true rfl) dX8_nameInQuestion_97
  by_cases g_12 : o = 269
  · refine lv_tableIn (off := 95) (tgt := 96) hx hb dX8_nameInQuestion_1 (by rw [g_12]; decide) (by rw [g_12]; decide) (by rw [g_12]; rfl) (by decide) ?_
    refine lv_iconst (v := (-1)) hx hb dX8_nameInQuestion_96 (by decide) ?_
    exact sk_iret hx hb hr rfl hlocks hK hP hD hS (⟨by rw [g_12]; exact nq_269 rfl, rfl⟩) (Nat.le_of_ble_eq_true rfl) (Nat.le_of_ble_eq_true rfl) dX8_nameInQuestion_97
  by_cases g_13 : o = 270
  · refine lv_tableIn (off := 71) (tgt := 72) hx hb dX8_nameInQuestion_1 (by rw [g_13]; decide) (by rw [g_13]; decide) (by rw [g_13]; rfl) (by decide) ?_
    refine lv_sipush (v := 10003) hx hb dX8_nameInQuestion_72 (by decide) ?_
    exact sk_iret hx hb hr rfl hlocks hK hP hD hS (⟨by rw [g_13]; exact nq_270 rfl, rfl⟩) (Nat.le_of_ble_eq_true rfl) (Nat.le_of_ble_eq_true rfl) dX8_nameInQuestion_75
  by_cases g_14 : o = 271
  · refine lv_tableIn (off := 87) (tgt := 88) hx hb dX8_nameInQuestion_1 (by rw [g_14]; decide) (by rw [g_14]; decide) (by rw [g_14]; rfl) (by decide) ?_
    refine lv_sipush (v := 10008) hx hb dX8_nameInQuestion_88 (by decide) ?_
    exact sk_iret hx hb hr rfl hlocks hK hP hD hS (⟨by rw [g_14]; exact nq_271 rfl, rfl⟩) (Nat.le_of_ble_eq_true rfl) (Nat.le_of_ble_eq_true rfl) dX8_nameInQuestion_91
  refine lv_tableOut (tgt := 96) hx hb dX8_nameInQuestion_1 (sk_out2 258 271 (by intro k hk1 hk2; rcases (show k = 258 ∨ k = 259 ∨ k = 260 ∨ k = 261 ∨ k = 262 ∨ k = 263 ∨ k = 264 ∨ k = 265 ∨ k = 266 ∨ k = 267 ∨ k = 268 ∨ k = 269 ∨ k = 270 ∨ k = 271 by omega) with rfl | rfl | rfl | rfl | rfl | rfl | rfl | rfl | rfl | rfl | rfl | rfl | rfl | rfl <;> assumption)) (by decide) ?_
  refine lv_iconst (v := (-1)) hx hb dX8_nameInQuestion_96 (by decide) ?_
  exact sk_iret hx hb hr rfl hlocks hK hP hD hS (⟨nq_def (by assumption) (by assumption) (by assumption) (by assumption) (by assumption) (by assumption), rfl⟩) (Nat.le_of_ble_eq_true rfl) (Nat.le_of_ble_eq_true rfl) dX8_nameInQuestion_97
def CT_ereadSum (l : Launch) (D : va_G) (cI cJ cC cZ cS : ClassId) (zk zv : Nat) (zf : Value) (dd : Nat) : Prop := ∀ (q : Nat → Nat) (u0 : Nat) (kn : Nat) (xa : Nat) (xv : Int32) (xo : Nat) (xt : Int32) (xz : Nat) (xf : Int32) (xp : Int32) (tl : Nat) (tb : Nat → Nat) (h0 : Nat) (k1 : Nat) (k2 : Nat) (k3 : Nat) (k4 : Nat) (cl : Nat) (mw : Nat) (f1 : Nat → Int32) (og : Res) (hxa : xa ≤ 1600) (hxz : xz ≤ 1600) (htl : tl ≤ 1600) (htb : ∀ j, tb j ≤ 255) (hcl : cl ≤ 1600) (hmw : mw ≤ 1) (hkn : kn ≤ 2) (hdd : xo + dd = 6) (hO : rsO tb tl og xa xv xt xz xf xp cl mw f1) (hlen : lenO og), skMZ zk zv zf l yX8_readSum cX8_readSum 4 none (23 + 5 * dd) (675 + 100 * dd) 0 0 D (skT cI cJ cC cZ cS) [.ref u0, .ref h0] [(u0, .inr (8, [.ref (q 2), .int (nI kn)])), (q 2, .inr (6, [.ref (q 0), .int (nI xa), .int xv, .int (nI xo), .int xt, .int (nI xz), .int xf, .int xp])), (q 0, .inr (10, [.ref (q 20), .int (nI tl)])), (q 20, .inl (cI, 1600, .inl (fun j => nI (tb j)))), (h0, .inr (0, [.ref k1, .ref k2, .ref k3, .ref k4, .int (nI cl), .int (nI mw)])), (k1, .inl (cI, 1600, .inl f1))] (skV D (skT cI cJ cC cZ cS) (fun (u : va_W) => ∃ (xa2 : Nat), ∃ (xv2 : Int32), ∃ (xt2 : Int32), ∃ (xz2 : Nat), ∃ (xf2 : Int32), ∃ (xp2 : Int32), ∃ (c2 : Nat), ∃ (w2 : Nat), ∃ (g1 : Nat → Int32), xa2 ≤ 1600 ∧ xz2 ≤ 1600 ∧ c2 ≤ 1600 ∧ w2 ≤ 1 ∧ rsO tb tl (bindR og (apF (sumOf tb tl (rdPart tb tl kn dd)))) xa2 xv2 xt2 xz2 xf2 xp2 c2 w2 g1 ∧ u = [(u0, .inr (8, [.ref (q 2), .int (nI kn)])), (q 2, .inr (6, [.ref (q 0), .int (nI xa2), .int xv2, .int (nI xo), .int xt2, .int (nI xz2), .int xf2, .int xp2])), (q 0, .inr (10, [.ref (q 20), .int (nI tl)])), (q 20, .inl (cI, 1600, .inl (fun j => nI (tb j)))), (h0, .inr (0, [.ref k1, .ref k2, .ref k3, .ref k4, .int (nI c2), .int (nI w2)])), (k1, .inl (cI, 1600, .inl g1))]))
def CT_ereadPart (l : Launch) (D : va_G) (cI cJ cC cZ cS : ClassId) (zk zv : Nat) (zf : Value) (dd : Nat) : Prop := ∀ (q : Nat → Nat) (u0 : Nat) (kn : Nat) (xa : Nat) (xv : Int32) (xo : Nat) (xt : Int32) (xz : Nat) (xf : Int32) (xp : Int32) (tl : Nat) (tb : Nat → Nat) (h0 : Nat) (k1 : Nat) (k2 : Nat) (k3 : Nat) (k4 : Nat) (cl : Nat) (mw : Nat) (f1 : Nat → Int32) (og : Res) (hxa : xa ≤ 1600) (hxz : xz ≤ 1600) (htl : tl ≤ 1600) (htb : ∀ j, tb j ≤ 255) (hcl : cl ≤ 1600) (hmw : mw ≤ 1) (hkn : kn ≤ 2) (hdd : xo + dd = 6) (hO : rsO tb tl og xa xv xt xz xf xp cl mw f1) (hlen : lenO og), skMZ zk zv zf l yX8_readPart cX8_readPart 4 none (21 + 5 * dd) (625 + 100 * dd) 0 0 D (skT cI cJ cC cZ cS) [.ref u0, .ref h0] [(u0, .inr (8, [.ref (q 2), .int (nI kn)])), (q 2, .inr (6, [.ref (q 0), .int (nI xa), .int xv, .int (nI xo), .int xt, .int (nI xz), .int xf, .int xp])), (q 0, .inr (10, [.ref (q 20), .int (nI tl)])), (q 20, .inl (cI, 1600, .inl (fun j => nI (tb j)))), (h0, .inr (0, [.ref k1, .ref k2, .ref k3, .ref k4, .int (nI cl), .int (nI mw)])), (k1, .inl (cI, 1600, .inl f1))] (skV D (skT cI cJ cC cZ cS) (fun (u : va_W) => ∃ (xa2 : Nat), ∃ (xv2 : Int32), ∃ (xt2 : Int32), ∃ (xz2 : Nat), ∃ (xf2 : Int32), ∃ (xp2 : Int32), ∃ (c2 : Nat), ∃ (w2 : Nat), ∃ (g1 : Nat → Int32), xa2 ≤ 1600 ∧ xz2 ≤ 1600 ∧ c2 ≤ 1600 ∧ w2 ≤ 1 ∧ rsO tb tl (bindR og (apF (rdPart tb tl kn dd))) xa2 xv2 xt2 xz2 xf2 xp2 c2 w2 g1 ∧ u = [(u0, .inr (8, [.ref (q 2), .int (nI kn)])), (q 2, .inr (6, [.ref (q 0), .int (nI xa2), .int xv2, .int (nI xo), .int xt2, .int (nI xz2), .int xf2, .int xp2])), (q 0, .inr (10, [.ref (q 20), .int (nI tl)])), (q 20, .inl (cI, 1600, .inl (fun j => nI (tb j)))), (h0, .inr (0, [.ref k1, .ref k2, .ref k3, .ref k4, .int (nI c2), .int (nI w2)])), (k1, .inl (cI, 1600, .inl g1))]))
def CT_ereadPair (l : Launch) (D : va_G) (cI cJ cC cZ cS : ClassId) (zk zv : Nat) (zf : Value) (dd : Nat) : Prop := ∀ (q : Nat → Nat) (u0 : Nat) (kn : Nat) (xa : Nat) (xv : Int32) (xo : Nat) (xt : Int32) (xz : Nat) (xf : Int32) (xp : Int32) (tl : Nat) (tb : Nat → Nat) (h0 : Nat) (k1 : Nat) (k2 : Nat) (k3 : Nat) (k4 : Nat) (cl : Nat) (mw : Nat) (f1 : Nat → Int32) (og : Res) (o : Int32) (v : Nat) (hxa : xa ≤ 1600) (hxz : xz ≤ 1600) (htl : tl ≤ 1600) (htb : ∀ j, tb j ≤ 255) (hcl : cl ≤ 1600) (hmw : mw ≤ 1) (hkn : kn ≤ 2) (hdd : xo + dd = 6) (hO : rsO tb tl og xa xv xt xz xf xp cl mw f1) (hlen : lenO og) (hv : o = cm v) (hv2 : v ≤ 10999), skMZ zk zv zf l yX8_readPair cX8_readPair 3 none (20 + 5 * dd) (600 + 100 * dd) 0 0 D (skT cI cJ cC cZ cS) [.ref u0, .ref h0, .int o] [(u0, .inr (8, [.ref (q 2), .int (nI kn)])), (q 2, .inr (6, [.ref (q 0), .int (nI xa), .int xv, .int (nI xo), .int xt, .int (nI xz), .int xf, .int xp])), (q 0, .inr (10, [.ref (q 20), .int (nI tl)])), (q 20, .inl (cI, 1600, .inl (fun j => nI (tb j)))), (h0, .inr (0, [.ref k1, .ref k2, .ref k3, .ref k4, .int (nI cl), .int (nI mw)])), (k1, .inl (cI, 1600, .inl f1))] (skV D (skT cI cJ cC cZ cS) (fun (u : va_W) => ∃ (xa2 : Nat), ∃ (xv2 : Int32), ∃ (xt2 : Int32), ∃ (xz2 : Nat), ∃ (xf2 : Int32), ∃ (xp2 : Int32), ∃ (c2 : Nat), ∃ (w2 : Nat), ∃ (g1 : Nat → Int32), xa2 ≤ 1600 ∧ xz2 ≤ 1600 ∧ c2 ≤ 1600 ∧ w2 ≤ 1 ∧ rsO tb tl (bindR og (apF (pairP tb tl kn v dd))) xa2 xv2 xt2 xz2 xf2 xp2 c2 w2 g1 ∧ u = [(u0, .inr (8, [.ref (q 2), .int (nI kn)])), (q 2, .inr (6, [.ref (q 0), .int (nI xa2), .int xv2, .int (nI xo), .int xt2, .int (nI xz2), .int xf2, .int xp2])), (q 0, .inr (10, [.ref (q 20), .int (nI tl)])), (q 20, .inl (cI, 1600, .inl (fun j => nI (tb j)))), (h0, .inr (0, [.ref k1, .ref k2, .ref k3, .ref k4, .int (nI c2), .int (nI w2)])), (k1, .inl (cI, 1600, .inl g1))]))
def CT_ereadProduct (l : Launch) (D : va_G) (cI cJ cC cZ cS : ClassId) (zk zv : Nat) (zf : Value) (dd : Nat) : Prop := ∀ (q : Nat → Nat) (u0 : Nat) (kn : Nat) (xa : Nat) (xv : Int32) (xo : Nat) (xt : Int32) (xz : Nat) (xf : Int32) (xp : Int32) (tl : Nat) (tb : Nat → Nat) (h0 : Nat) (k1 : Nat) (k2 : Nat) (k3 : Nat) (k4 : Nat) (cl : Nat) (mw : Nat) (f1 : Nat → Int32) (og : Res) (hxa : xa ≤ 1600) (hxz : xz ≤ 1600) (htl : tl ≤ 1600) (htb : ∀ j, tb j ≤ 255) (hcl : cl ≤ 1600) (hmw : mw ≤ 1) (hkn : kn ≤ 2) (hdd : xo + dd = 6) (hO : rsO tb tl og xa xv xt xz xf xp cl mw f1) (hlen : lenO og), skMZ zk zv zf l yX8_readProduct cX8_readProduct 4 none (22 + 5 * dd) (650 + 100 * dd) 0 0 D (skT cI cJ cC cZ cS) [.ref u0, .ref h0] [(u0, .inr (8, [.ref (q 2), .int (nI kn)])), (q 2, .inr (6, [.ref (q 0), .int (nI xa), .int xv, .int (nI xo), .int xt, .int (nI xz), .int xf, .int xp])), (q 0, .inr (10, [.ref (q 20), .int (nI tl)])), (q 20, .inl (cI, 1600, .inl (fun j => nI (tb j)))), (h0, .inr (0, [.ref k1, .ref k2, .ref k3, .ref k4, .int (nI cl), .int (nI mw)])), (k1, .inl (cI, 1600, .inl f1))] (skV D (skT cI cJ cC cZ cS) (fun (u : va_W) => ∃ (xa2 : Nat), ∃ (xv2 : Int32), ∃ (xt2 : Int32), ∃ (xz2 : Nat), ∃ (xf2 : Int32), ∃ (xp2 : Int32), ∃ (c2 : Nat), ∃ (w2 : Nat), ∃ (g1 : Nat → Int32), xa2 ≤ 1600 ∧ xz2 ≤ 1600 ∧ c2 ≤ 1600 ∧ w2 ≤ 1 ∧ rsO tb tl (bindR og (apF (prodOf tb tl (rdPart tb tl kn dd)))) xa2 xv2 xt2 xz2 xf2 xp2 c2 w2 g1 ∧ u = [(u0, .inr (8, [.ref (q 2), .int (nI kn)])), (q 2, .inr (6, [.ref (q 0), .int (nI xa2), .int xv2, .int (nI xo), .int xt2, .int (nI xz2), .int xf2, .int xp2])), (q 0, .inr (10, [.ref (q 20), .int (nI tl)])), (q 20, .inl (cI, 1600, .inl (fun j => nI (tb j)))), (h0, .inr (0, [.ref k1, .ref k2, .ref k3, .ref k4, .int (nI c2), .int (nI w2)])), (k1, .inl (cI, 1600, .inl g1))]))
set_option maxHeartbeats 4000000 in
set_option maxRecDepth 100000 in
theorem c_ereadPair (l : Launch) (D : va_G) (cI cJ cC cZ cS : ClassId) (zk zv : Nat) (zf : Value) (dd : Nat) (hs : ∀ d, d + 1 = dd → CT_ereadSum l D cI cJ cC cZ cS zk zv zf d) : CT_ereadPair l D cI cJ cC cZ cS zk zv zf dd := by
  intro q u0 kn xa xv xo xt xz xf xp tl tb h0 k1 k2 k3 k4 cl mw f1 og o v hxa hxz htl htb hcl hmw hkn hdd hO hlen hv hv2
  refine skMZ_of (by decide +kernel) (Nat.le_of_ble_eq_true rfl) ?_
  intro p e s m below meth c A ls E hP hD hZ hl
  obtain ⟨hx, hb, hr, hml, hlocks, hin, hown, hts, hK, hA⟩ := E
  have hown : s.vm.findClass RX8 = some m.cls := hown
  have hS : va_S A s.heap s.heap [] := va_S.rf
  have hl : lv_has ls 3 [(0, .ref u0), (1, .ref h0), (2, .int o)] := hl
  refine lv_aload_n hx hb dX8_readPair_0 rfl (lv_at hl 0 rfl) ?_
  refine sk_get (v := .ref (q 2)) (C := RX8) (T := TX8) (N := 2) hx hb hts inlX8 hown hK hP 0 rfl rfl 0 (by decide) w_1_100 rfl dX8_readPair_1 ?_
  refine lv_bipush (v := 40) hx hb dX8_readPair_4 (by decide) ?_
  refine sk_ViZ (q0 := 0) (n := 1) (rest := []) (wr := [(u0, .inr (8, [.ref (q 2), .int (nI kn)])), (h0, .inr (0, [.ref k1, .ref k2, .ref k3, .ref k4, .int (nI cl), .int (nI mw)])), (k1, .inl (cI, 1600, .inl f1))]) ⟨hx, hb, hml, hown, hts⟩ hl.1 (c_erd_opens l D cI cJ cC cZ cS zk zv zf q xa xv xo xt xz xf xp tl tb 40 (rc og) (by omega) (by omega) (by omega) htb (by decide) (by omega) (hO).1) w_3_101 w_3_102 w_3_103 w_1_4 w_3_104 (by decide +kernel) ⟨⟨(by dsimp only; omega), (by dsimp only; omega)⟩, (by dsimp only; omega), (by dsimp only; omega)⟩ hK hP hD hS hZ hA [1, 2, 3] [0, 4, 5] rfl rfl (by decide +kernel) (by decide +kernel) (by decide +kernel) rfl rfl rfl rfl (Nat.le_of_ble_eq_true rfl) dX8_readPair_6 (fun r_8 u H locs hw hP hD hS => ?_)
  obtain ⟨xa2_1, xv2_2, xt2_3, xz2_4, xf2_5, xp2_6, b_7, hxa2_9, hxz2_10, hb1_11, hO2_12, rfl, rfl⟩ := hw
  have hP : va_P D vwCl [(u0, .inr (8, [.ref (q 2), .int (nI kn)])), (h0, .inr (0, [.ref k1, .ref k2, .ref k3, .ref k4, .int (nI cl), .int (nI mw)])), (k1, .inl (cI, 1600, .inl f1)), (q 2, .inr (6, [.ref (q 0), .int (nI xa2_1), .int xv2_2, .int (nI (xo + b_7)), .int xt2_3, .int (nI xz2_4), .int xf2_5, .int xp2_6])), (q 0, .inr (10, [.ref (q 20), .int (nI tl)])), (q 20, .inl (cI, 1600, .inl (fun j => nI (tb j))))] H := hP
  have hD : va_D A [(u0, .inr (8, [.ref (q 2), .int (nI kn)])), (h0, .inr (0, [.ref k1, .ref k2, .ref k3, .ref k4, .int (nI cl), .int (nI mw)])), (k1, .inl (cI, 1600, .inl f1)), (q 2, .inr (6, [.ref (q 0), .int (nI xa2_1), .int xv2_2, .int (nI (xo + b_7)), .int xt2_3, .int (nI xz2_4), .int xf2_5, .int xp2_6])), (q 0, .inr (10, [.ref (q 20), .int (nI tl)])), (q 20, .inl (cI, 1600, .inl (fun j => nI (tb j))))] := hD
  have hO_13 := rs_bd hO hO2_12
  have hL_14 := lenS_op (n := tl) (w := 40) (xo := xo) htb (by decide) hlen
  refine lv_if_eq (tgt := 52) hx hb dX8_readPair_9 (by decide) (fun c_15 => ?_) (fun c_15 => ?_)
  · have c_15 : b_7 = 0 := (neq b_7 0 (by omega) (by omega)).mp c_15
    obtain rfl : b_7 = 0 := by omega
    have hP := hP.sub (ws' := [(u0, .inr (8, [.ref (q 2), .int (nI kn)])), (q 2, .inr (6, [.ref (q 0), .int (nI xa2_1), .int xv2_2, .int (nI (xo + 0)), .int xt2_3, .int (nI xz2_4), .int xf2_5, .int xp2_6])), (q 0, .inr (10, [.ref (q 20), .int (nI tl)])), (q 20, .inl (cI, 1600, .inl (fun j => nI (tb j)))), (h0, .inr (0, [.ref k1, .ref k2, .ref k3, .ref k4, .int (nI cl), .int (nI mw)])), (k1, .inl (cI, 1600, .inl f1))]) [0, 3, 4, 5, 1, 2] rfl
    have hD := hD.sub (ws' := [(u0, .inr (8, [.ref (q 2), .int (nI kn)])), (q 2, .inr (6, [.ref (q 0), .int (nI xa2_1), .int xv2_2, .int (nI (xo + 0)), .int xt2_3, .int (nI xz2_4), .int xf2_5, .int xp2_6])), (q 0, .inr (10, [.ref (q 20), .int (nI tl)])), (q 20, .inl (cI, 1600, .inl (fun j => nI (tb j)))), (h0, .inr (0, [.ref k1, .ref k2, .ref k3, .ref k4, .int (nI cl), .int (nI mw)])), (k1, .inl (cI, 1600, .inl f1))]) [0, 3, 4, 5, 1, 2] (by decide +kernel) rfl
    exact sk_vret hx hb hr hlocks hK hP hD hS (⟨xa2_1, xv2_2, xt2_3, xz2_4, xf2_5, xp2_6, cl, mw, f1, by omega, by omega, by omega, by omega, by rw [← p_pair0 (v := v) (xo := xo) htb hO (rr_0 hb1_11 (by omega)) hdd]; exact hO_13, rfl⟩) (Nat.le_of_ble_eq_true rfl) (Nat.le_of_ble_eq_true rfl) dX8_readPair_52
  · have c_15 : ¬ (b_7 = 0) := fun h => c_15 ((neq b_7 0 (by omega) (by omega)).mpr h)
    have hxo1 := (rr_1 hb1_11 (by omega)).1
    obtain rfl : b_7 = 1 := by omega
    refine lv_aload_n hx hb dX8_readPair_12 rfl (lv_at hl 0 rfl) ?_
    refine lv_aload_n hx hb dX8_readPair_13 rfl (lv_at hl 1 rfl) ?_
    refine sk_VvZ (q0 := 0) (n := 1) (rest := []) (wr := []) ⟨hx, hb, hml, hown, hts⟩ hl.1 (hs (dd - 1) (by omega) q u0 kn xa2_1 xv2_2 (xo + 1) xt2_3 xz2_4 xf2_5 xp2_6 tl tb h0 k1 k2 k3 k4 cl mw f1 (bd og (opF tb tl 40 xo)) (by omega) (by omega) (by omega) htb (by omega) (by omega) (by omega) (by omega) hO_13 (lenO_S hL_14)) w_3_84 w_3_86 w_0_6 w_1_6 w_3_87 (by decide +kernel) ⟨⟨(by dsimp only; omega), (by dsimp only; omega)⟩, (by dsimp only; omega), (by dsimp only; omega)⟩ hK hP hD hS hZ hA [0, 3, 4, 5, 1, 2] [] rfl rfl (by decide +kernel) (by decide +kernel) (by decide +kernel) rfl rfl rfl rfl (Nat.le_of_ble_eq_true rfl) dX8_readPair_14 (fun u H locs hw hP hD hS => ?_)
    obtain ⟨xa2_16, xv2_17, xt2_18, xz2_19, xf2_20, xp2_21, c2_22, w2_23, g1_24, hxa2_25, hxz2_26, hc2_27, hw2_28, hO2_29, rfl⟩ := hw
    have hP : va_P D vwCl [(u0, .inr (8, [.ref (q 2), .int (nI kn)])), (q 2, .inr (6, [.ref (q 0), .int (nI xa2_16), .int xv2_17, .int (nI (xo + 1)), .int xt2_18, .int (nI xz2_19), .int xf2_20, .int xp2_21])), (q 0, .inr (10, [.ref (q 20), .int (nI tl)])), (q 20, .inl (cI, 1600, .inl (fun j => nI (tb j)))), (h0, .inr (0, [.ref k1, .ref k2, .ref k3, .ref k4, .int (nI c2_22), .int (nI w2_23)])), (k1, .inl (cI, 1600, .inl g1_24))] H := hP
    have hD : va_D A [(u0, .inr (8, [.ref (q 2), .int (nI kn)])), (q 2, .inr (6, [.ref (q 0), .int (nI xa2_16), .int xv2_17, .int (nI (xo + 1)), .int xt2_18, .int (nI xz2_19), .int xf2_20, .int xp2_21])), (q 0, .inr (10, [.ref (q 20), .int (nI tl)])), (q 20, .inl (cI, 1600, .inl (fun j => nI (tb j)))), (h0, .inr (0, [.ref k1, .ref k2, .ref k3, .ref k4, .int (nI c2_22), .int (nI w2_23)])), (k1, .inl (cI, 1600, .inl g1_24))] := hD
    have hL_30 := lenS_ap (len_sum (tb := tb) (n := tl) (len_part (tb := tb) (n := tl) (kind := kn) (dd - 1))) hL_14
    refine lv_aload_n hx hb dX8_readPair_17 rfl (lv_at hl 0 rfl) ?_
    refine sk_get (v := .ref (q 2)) (C := RX8) (T := TX8) (N := 2) hx hb hts inlX8 hown hK hP 0 rfl rfl 0 (by decide) w_1_100 rfl dX8_readPair_18 ?_
    refine lv_bipush (v := 44) hx hb dX8_readPair_21 (by decide) ?_
    refine sk_VvZ (q0 := 0) (n := 1) (rest := []) (wr := [(u0, .inr (8, [.ref (q 2), .int (nI kn)])), (h0, .inr (0, [.ref k1, .ref k2, .ref k3, .ref k4, .int (nI c2_22), .int (nI w2_23)])), (k1, .inl (cI, 1600, .inl g1_24))]) ⟨hx, hb, hml, hown, hts⟩ hl.1 (c_erd_needs l D cI cJ cC cZ cS zk zv zf q xa2_16 xv2_17 (xo + 1) xt2_18 xz2_19 xf2_20 xp2_21 tl tb 44 (rc (bindR (bd og (opF tb tl 40 xo)) (apF (sumOf tb tl (rdPart tb tl kn (dd - 1)))))) (by omega) (by omega) (by omega) htb (by decide) (hO2_29).1) w_3_109 w_3_51 w_3_52 w_1_4 w_3_53 (by decide +kernel) ⟨⟨(by dsimp only; omega), (by dsimp only; omega)⟩, (by dsimp only; omega), (by dsimp only; omega)⟩ hK hP hD hS hZ hA [1, 2, 3] [0, 4, 5] rfl rfl (by decide +kernel) (by decide +kernel) (by decide +kernel) rfl rfl rfl rfl (Nat.le_of_ble_eq_true rfl) dX8_readPair_23 (fun u H locs hw hP hD hS => ?_)
    obtain ⟨xa2_31, xv2_32, xt2_33, xz2_34, xf2_35, xp2_36, hxa2_37, hxz2_38, hO2_39, rfl⟩ := hw
    have hP : va_P D vwCl [(u0, .inr (8, [.ref (q 2), .int (nI kn)])), (h0, .inr (0, [.ref k1, .ref k2, .ref k3, .ref k4, .int (nI c2_22), .int (nI w2_23)])), (k1, .inl (cI, 1600, .inl g1_24)), (q 2, .inr (6, [.ref (q 0), .int (nI xa2_31), .int xv2_32, .int (nI (xo + 1)), .int xt2_33, .int (nI xz2_34), .int xf2_35, .int xp2_36])), (q 0, .inr (10, [.ref (q 20), .int (nI tl)])), (q 20, .inl (cI, 1600, .inl (fun j => nI (tb j))))] H := hP
    have hD : va_D A [(u0, .inr (8, [.ref (q 2), .int (nI kn)])), (h0, .inr (0, [.ref k1, .ref k2, .ref k3, .ref k4, .int (nI c2_22), .int (nI w2_23)])), (k1, .inl (cI, 1600, .inl g1_24)), (q 2, .inr (6, [.ref (q 0), .int (nI xa2_31), .int xv2_32, .int (nI (xo + 1)), .int xt2_33, .int (nI xz2_34), .int xf2_35, .int xp2_36])), (q 0, .inr (10, [.ref (q 20), .int (nI tl)])), (q 20, .inl (cI, 1600, .inl (fun j => nI (tb j))))] := hD
    have hO_40 := rs_bd hO2_29 hO2_39
    have hL_41 := lenS_bd (fwd_tk (tb := tb) (n := tl) (w := 44)) hL_30
    refine lv_aload_n hx hb dX8_readPair_26 rfl (lv_at hl 0 rfl) ?_
    refine lv_aload_n hx hb dX8_readPair_27 rfl (lv_at hl 1 rfl) ?_
    refine sk_VvZ (q0 := 0) (n := 1) (rest := []) (wr := []) ⟨hx, hb, hml, hown, hts⟩ hl.1 (hs (dd - 1) (by omega) q u0 kn xa2_31 xv2_32 (xo + 1) xt2_33 xz2_34 xf2_35 xp2_36 tl tb h0 k1 k2 k3 k4 c2_22 w2_23 g1_24 (bd (bindR (bd og (opF tb tl 40 xo)) (apF (sumOf tb tl (rdPart tb tl kn (dd - 1))))) (tkF tb tl 44)) (by omega) (by omega) (by omega) htb (by omega) (by omega) (by omega) (by omega) hO_40 (lenO_S hL_41)) w_3_84 w_3_86 w_0_6 w_1_6 w_3_87 (by decide +kernel) ⟨⟨(by dsimp only; omega), (by dsimp only; omega)⟩, (by dsimp only; omega), (by dsimp only; omega)⟩ hK hP hD hS hZ hA [0, 3, 4, 5, 1, 2] [] rfl rfl (by decide +kernel) (by decide +kernel) (by decide +kernel) rfl rfl rfl rfl (Nat.le_of_ble_eq_true rfl) dX8_readPair_28 (fun u H locs hw hP hD hS => ?_)
    obtain ⟨xa2_42, xv2_43, xt2_44, xz2_45, xf2_46, xp2_47, c2_48, w2_49, g1_50, hxa2_51, hxz2_52, hc2_53, hw2_54, hO2_55, rfl⟩ := hw
    have hP : va_P D vwCl [(u0, .inr (8, [.ref (q 2), .int (nI kn)])), (q 2, .inr (6, [.ref (q 0), .int (nI xa2_42), .int xv2_43, .int (nI (xo + 1)), .int xt2_44, .int (nI xz2_45), .int xf2_46, .int xp2_47])), (q 0, .inr (10, [.ref (q 20), .int (nI tl)])), (q 20, .inl (cI, 1600, .inl (fun j => nI (tb j)))), (h0, .inr (0, [.ref k1, .ref k2, .ref k3, .ref k4, .int (nI c2_48), .int (nI w2_49)])), (k1, .inl (cI, 1600, .inl g1_50))] H := hP
    have hD : va_D A [(u0, .inr (8, [.ref (q 2), .int (nI kn)])), (q 2, .inr (6, [.ref (q 0), .int (nI xa2_42), .int xv2_43, .int (nI (xo + 1)), .int xt2_44, .int (nI xz2_45), .int xf2_46, .int xp2_47])), (q 0, .inr (10, [.ref (q 20), .int (nI tl)])), (q 20, .inl (cI, 1600, .inl (fun j => nI (tb j)))), (h0, .inr (0, [.ref k1, .ref k2, .ref k3, .ref k4, .int (nI c2_48), .int (nI w2_49)])), (k1, .inl (cI, 1600, .inl g1_50))] := hD
    have hL_56 := lenS_ap (len_sum (tb := tb) (n := tl) (len_part (tb := tb) (n := tl) (kind := kn) (dd - 1))) hL_41
    refine lv_aload_n hx hb dX8_readPair_31 rfl (lv_at hl 0 rfl) ?_
    refine sk_get (v := .ref (q 2)) (C := RX8) (T := TX8) (N := 2) hx hb hts inlX8 hown hK hP 0 rfl rfl 0 (by decide) w_1_100 rfl dX8_readPair_32 ?_
    refine sk_Vv (q0 := 0) (n := 0) (rest := []) (wr := [(u0, .inr (8, [.ref (q 2), .int (nI kn)])), (q 0, .inr (10, [.ref (q 20), .int (nI tl)])), (q 20, .inl (cI, 1600, .inl (fun j => nI (tb j)))), (h0, .inr (0, [.ref k1, .ref k2, .ref k3, .ref k4, .int (nI c2_48), .int (nI w2_49)])), (k1, .inl (cI, 1600, .inl g1_50))]) ⟨hx, hb, hml, hown, hts⟩ hl.1 (c_erd_shuts l D cI cJ cC cZ cS q xa2_42 xv2_43 (xo + 1) xt2_44 xz2_45 xf2_46 xp2_47 (by omega) (by omega)) w_3_105 w_3_106 w_3_107 w_1_4 w_3_108 (by decide +kernel) ⟨⟨(by dsimp only; omega), (by dsimp only; omega)⟩, (by dsimp only; omega), (by dsimp only; omega)⟩ hK hP hD hS hA [1] [0, 2, 3, 4, 5] rfl rfl (by decide +kernel) (by decide +kernel) (by decide +kernel) rfl rfl rfl rfl (Nat.le_of_ble_eq_true rfl) dX8_readPair_35 (fun u H locs hw hP hD hS => ?_)
    obtain rfl := hw
    have hP : va_P D vwCl [(u0, .inr (8, [.ref (q 2), .int (nI kn)])), (q 0, .inr (10, [.ref (q 20), .int (nI tl)])), (q 20, .inl (cI, 1600, .inl (fun j => nI (tb j)))), (h0, .inr (0, [.ref k1, .ref k2, .ref k3, .ref k4, .int (nI c2_48), .int (nI w2_49)])), (k1, .inl (cI, 1600, .inl g1_50)), (q 2, .inr (6, [.ref (q 0), .int (nI xa2_42), .int xv2_43, .int (nI ((xo + 1) - 1)), .int xt2_44, .int (nI xz2_45), .int xf2_46, .int xp2_47]))] H := hP
    have hD : va_D A [(u0, .inr (8, [.ref (q 2), .int (nI kn)])), (q 0, .inr (10, [.ref (q 20), .int (nI tl)])), (q 20, .inl (cI, 1600, .inl (fun j => nI (tb j)))), (h0, .inr (0, [.ref k1, .ref k2, .ref k3, .ref k4, .int (nI c2_48), .int (nI w2_49)])), (k1, .inl (cI, 1600, .inl g1_50)), (q 2, .inr (6, [.ref (q 0), .int (nI xa2_42), .int xv2_43, .int (nI ((xo + 1) - 1)), .int xt2_44, .int (nI xz2_45), .int xf2_46, .int xp2_47]))] := hD
    refine lv_aload_n hx hb dX8_readPair_38 rfl (lv_at hl 0 rfl) ?_
    refine sk_get (v := .ref (q 2)) (C := RX8) (T := TX8) (N := 2) hx hb hts inlX8 hown hK hP 0 rfl rfl 0 (by decide) w_1_100 rfl dX8_readPair_39 ?_
    refine lv_bipush (v := 41) hx hb dX8_readPair_42 (by decide) ?_
    refine sk_VvZ (q0 := 0) (n := 1) (rest := []) (wr := [(u0, .inr (8, [.ref (q 2), .int (nI kn)])), (h0, .inr (0, [.ref k1, .ref k2, .ref k3, .ref k4, .int (nI c2_48), .int (nI w2_49)])), (k1, .inl (cI, 1600, .inl g1_50))]) ⟨hx, hb, hml, hown, hts⟩ hl.1 (c_erd_needs l D cI cJ cC cZ cS zk zv zf q xa2_42 xv2_43 ((xo + 1) - 1) xt2_44 xz2_45 xf2_46 xp2_47 tl tb 41 (rc (bindR (bd (bindR (bd og (opF tb tl 40 xo)) (apF (sumOf tb tl (rdPart tb tl kn (dd - 1))))) (tkF tb tl 44)) (apF (sumOf tb tl (rdPart tb tl kn (dd - 1)))))) (by omega) (by omega) (by omega) htb (by decide) (hO2_55).1) w_3_109 w_3_51 w_3_52 w_1_4 w_3_53 (by decide +kernel) ⟨⟨(by dsimp only; omega), (by dsimp only; omega)⟩, (by dsimp only; omega), (by dsimp only; omega)⟩ hK hP hD hS hZ hA [5, 1, 2] [0, 3, 4] rfl rfl (by decide +kernel) (by decide +kernel) (by decide +kernel) rfl rfl rfl rfl (Nat.le_of_ble_eq_true rfl) dX8_readPair_44 (fun u H locs hw hP hD hS => ?_)
    obtain ⟨xa2_57, xv2_58, xt2_59, xz2_60, xf2_61, xp2_62, hxa2_63, hxz2_64, hO2_65, rfl⟩ := hw
    have hP : va_P D vwCl [(u0, .inr (8, [.ref (q 2), .int (nI kn)])), (h0, .inr (0, [.ref k1, .ref k2, .ref k3, .ref k4, .int (nI c2_48), .int (nI w2_49)])), (k1, .inl (cI, 1600, .inl g1_50)), (q 2, .inr (6, [.ref (q 0), .int (nI xa2_57), .int xv2_58, .int (nI ((xo + 1) - 1)), .int xt2_59, .int (nI xz2_60), .int xf2_61, .int xp2_62])), (q 0, .inr (10, [.ref (q 20), .int (nI tl)])), (q 20, .inl (cI, 1600, .inl (fun j => nI (tb j))))] H := hP
    have hD : va_D A [(u0, .inr (8, [.ref (q 2), .int (nI kn)])), (h0, .inr (0, [.ref k1, .ref k2, .ref k3, .ref k4, .int (nI c2_48), .int (nI w2_49)])), (k1, .inl (cI, 1600, .inl g1_50)), (q 2, .inr (6, [.ref (q 0), .int (nI xa2_57), .int xv2_58, .int (nI ((xo + 1) - 1)), .int xt2_59, .int (nI xz2_60), .int xf2_61, .int xp2_62])), (q 0, .inr (10, [.ref (q 20), .int (nI tl)])), (q 20, .inl (cI, 1600, .inl (fun j => nI (tb j))))] := hD
    have hO_66 := rs_bd hO2_55 hO2_65
    have hL_67 := lenS_bd (fwd_tk (tb := tb) (n := tl) (w := 41)) hL_56
    refine lv_aload_n hx hb dX8_readPair_47 rfl (lv_at hl 1 rfl) ?_
    refine lv_iload_n hx hb dX8_readPair_48 rfl (lv_at hl 2 rfl) ?_
    refine sk_Vv (q0 := 0) (n := 1) (rest := []) (wr := [(u0, .inr (8, [.ref (q 2), .int (nI kn)])), (q 2, .inr (6, [.ref (q 0), .int (nI xa2_57), .int xv2_58, .int (nI ((xo + 1) - 1)), .int xt2_59, .int (nI xz2_60), .int xf2_61, .int xp2_62])), (q 0, .inr (10, [.ref (q 20), .int (nI tl)])), (q 20, .inl (cI, 1600, .inl (fun j => nI (tb j))))]) ⟨hx, hb, hml, hown, hts⟩ hl.1 (c_eCode_addX l D cI cJ cC cZ cS h0 k1 k2 k3 k4 c2_48 w2_49 g1_50 o (bd (bindR (bd (bindR (bd og (opF tb tl 40 xo)) (apF (sumOf tb tl (rdPart tb tl kn (dd - 1))))) (tkF tb tl 44)) (apF (sumOf tb tl (rdPart tb tl kn (dd - 1))))) (tkF tb tl 41)) v (by omega) (by omega) hv (by omega) (hO_66).2 (rm_S hO_66 htl hL_67)) w_3_97 w_3_98 w_3_99 w_1_8 w_3_100 (by decide +kernel) ⟨⟨(by dsimp only; omega), (by dsimp only; omega)⟩, (by dsimp only; omega), (by dsimp only; omega)⟩ hK hP hD hS hA [1, 2] [0, 3, 4, 5] rfl rfl (by decide +kernel) (by decide +kernel) (by decide +kernel) rfl rfl rfl rfl (Nat.le_of_ble_eq_true rfl) dX8_readPair_49 (fun u H locs hw hP hD hS => ?_)
    obtain ⟨c2_68, w2_69, g1_70, hc2_71, hw2_72, hO2_73, rfl⟩ := hw
    have hP : va_P D vwCl [(u0, .inr (8, [.ref (q 2), .int (nI kn)])), (q 2, .inr (6, [.ref (q 0), .int (nI xa2_57), .int xv2_58, .int (nI ((xo + 1) - 1)), .int xt2_59, .int (nI xz2_60), .int xf2_61, .int xp2_62])), (q 0, .inr (10, [.ref (q 20), .int (nI tl)])), (q 20, .inl (cI, 1600, .inl (fun j => nI (tb j)))), (h0, .inr (0, [.ref k1, .ref k2, .ref k3, .ref k4, .int (nI c2_68), .int (nI w2_69)])), (k1, .inl (cI, 1600, .inl g1_70))] H := hP
    have hD : va_D A [(u0, .inr (8, [.ref (q 2), .int (nI kn)])), (q 2, .inr (6, [.ref (q 0), .int (nI xa2_57), .int xv2_58, .int (nI ((xo + 1) - 1)), .int xt2_59, .int (nI xz2_60), .int xf2_61, .int xp2_62])), (q 0, .inr (10, [.ref (q 20), .int (nI tl)])), (q 20, .inl (cI, 1600, .inl (fun j => nI (tb j)))), (h0, .inr (0, [.ref k1, .ref k2, .ref k3, .ref k4, .int (nI c2_68), .int (nI w2_69)])), (k1, .inl (cI, 1600, .inl g1_70))] := hD
    have hO_74 := rs_ad hO_66 hO2_73
    have hL_75 := lenO_ad (v := v) hL_67
    exact sk_vret hx hb hr hlocks hK hP hD hS (⟨xa2_57, xv2_58, xt2_59, xz2_60, xf2_61, xp2_62, c2_68, w2_69, g1_70, by omega, by omega, by omega, by omega, by rw [← p_pair1 (xo := xo) htb hO (rr_1 hb1_11 (by omega)).2 (by omega) (by omega)]; exact hO_74, rfl⟩) (Nat.le_of_ble_eq_true rfl) (Nat.le_of_ble_eq_true rfl) dX8_readPair_52
theorem cm_m1 {k : Nat} (h : k < 10) : ¬ cm (40 + k) = -1 := by
  match k, h with
  | 0, _ => decide
  | 1, _ => decide
  | 2, _ => decide
  | 3, _ => decide
  | 4, _ => decide
  | 5, _ => decide
  | 6, _ => decide
  | 7, _ => decide
  | 8, _ => decide
  | 9, _ => decide
  | n + 10, h => exact absurd h (by omega)
set_option maxHeartbeats 4000000 in
set_option maxRecDepth 100000 in
theorem c_ereadPart (l : Launch) (D : va_G) (cI cJ cC cZ cS : ClassId) (zk zv : Nat) (zf : Value) (dd : Nat) (hs : ∀ d, d + 1 = dd → CT_ereadSum l D cI cJ cC cZ cS zk zv zf d) (hp : ∀ d, d + 1 = dd → CT_ereadPart l D cI cJ cC cZ cS zk zv zf d) (hq : CT_ereadPair l D cI cJ cC cZ cS zk zv zf dd) : CT_ereadPart l D cI cJ cC cZ cS zk zv zf dd := by
  intro q u0 kn xa xv xo xt xz xf xp tl tb h0 k1 k2 k3 k4 cl mw f1 og hxa hxz htl htb hcl hmw hkn hdd hO hlen
  refine skMZ_of (by decide +kernel) (Nat.le_of_ble_eq_true rfl) ?_
  intro p e s m below meth c A ls E hP hD hZ hl
  obtain ⟨hx, hb, hr, hml, hlocks, hin, hown, hts, hK, hA⟩ := E
  have hown : s.vm.findClass RX8 = some m.cls := hown
  have hS : va_S A s.heap s.heap [] := va_S.rf
  have hl : lv_has ls 4 [(0, .ref u0), (1, .ref h0)] := hl
  refine lv_aload_n hx hb dX8_readPart_0 rfl (lv_at hl 0 rfl) ?_
  refine sk_get (v := .ref (q 2)) (C := RX8) (T := TX8) (N := 2) hx hb hts inlX8 hown hK hP 0 rfl rfl 0 (by decide) w_1_100 rfl dX8_readPart_1 ?_
  refine sk_get (v := .int xt) (C := RX6) (T := TX6) (N := 8) hx hb hts inlX6 hown hK hP 1 rfl rfl 4 (by decide) w_1_63 rfl dX8_readPart_4 ?_
  refine lv_istore_n (lv' := [(2, .int xt), (0, .ref u0), (1, .ref h0)]) hx hb dX8_readPart_7 rfl hl (by decide) rfl (fun ls hl => ?_)
  refine lv_iload_n hx hb dX8_readPart_8 rfl (lv_at hl 0 rfl) ?_
  refine lv_bipush (v := (-3)) hx hb dX8_readPart_9 (by decide) ?_
  refine lv_icmp_ne (tgt := 32) hx hb dX8_readPart_11 (by decide) (fun c_1 => ?_) (fun c_1 => ?_)
  · skip
    refine lv_iload_n hx hb dX8_readPart_32 rfl (lv_at hl 0 rfl) ?_
    refine lv_bipush (v := 40) hx hb dX8_readPart_33 (by decide) ?_
    refine lv_icmp_ne (tgt := 74) hx hb dX8_readPart_35 (by decide) (fun c_2 => ?_) (fun c_2 => ?_)
    · skip
      refine lv_iload_n hx hb dX8_readPart_74 rfl (lv_at hl 0 rfl) ?_
      refine lv_sipush (v := 277) hx hb dX8_readPart_75 (by decide) ?_
      refine lv_icmp_eq (tgt := 88) hx hb dX8_readPart_78 (by decide) (fun c_3 => ?_) (fun c_3 => ?_)
      · skip
        refine lv_aload_n hx hb dX8_readPart_88 rfl (lv_at hl 1 rfl) ?_
        refine sk_get (v := .ref (q 2)) (C := RX8) (T := TX8) (N := 2) hx hb hts inlX8 hown hK hP 0 rfl rfl 0 (by decide) w_1_100 rfl dX8_readPart_89 ?_
        refine sk_VvZ (q0 := 0) (n := 0) (rest := []) (wr := [(u0, .inr (8, [.ref (q 2), .int (nI kn)])), (h0, .inr (0, [.ref k1, .ref k2, .ref k3, .ref k4, .int (nI cl), .int (nI mw)])), (k1, .inl (cI, 1600, .inl f1))]) ⟨hx, hb, hml, hown, hts⟩ hl.1 (c_erd_step l D cI cJ cC cZ cS zk zv zf q xa xv xo xt xz xf xp tl tb (bindR (rc og) (beF tb tl)) (by omega) (by omega) (by omega) htb (rd_st htb (hO).1 ⟨by rw [c_3]; decide, by rw [c_3]; decide⟩)) w_3_110 w_2_226 w_2_227 w_1_4 w_2_228 (by decide +kernel) ⟨⟨(by dsimp only; omega), (by dsimp only; omega)⟩, (by dsimp only; omega), (by dsimp only; omega)⟩ hK hP hD hS hZ hA [1, 2, 3] [0, 4, 5] rfl rfl (by decide +kernel) (by decide +kernel) (by decide +kernel) rfl rfl rfl rfl (Nat.le_of_ble_eq_true rfl) dX8_readPart_92 (fun u H locs hw hP hD hS => ?_)
        obtain ⟨xa2_4, xv2_5, xt2_6, xz2_7, hxa2_8, hxz2_9, hO2_10, rfl⟩ := hw
        have hP : va_P D vwCl [(u0, .inr (8, [.ref (q 2), .int (nI kn)])), (h0, .inr (0, [.ref k1, .ref k2, .ref k3, .ref k4, .int (nI cl), .int (nI mw)])), (k1, .inl (cI, 1600, .inl f1)), (q 2, .inr (6, [.ref (q 0), .int (nI xa2_4), .int xv2_5, .int (nI xo), .int xt2_6, .int (nI xz2_7), .int xf, .int xp])), (q 0, .inr (10, [.ref (q 20), .int (nI tl)])), (q 20, .inl (cI, 1600, .inl (fun j => nI (tb j))))] H := hP
        have hD : va_D A [(u0, .inr (8, [.ref (q 2), .int (nI kn)])), (h0, .inr (0, [.ref k1, .ref k2, .ref k3, .ref k4, .int (nI cl), .int (nI mw)])), (k1, .inl (cI, 1600, .inl f1)), (q 2, .inr (6, [.ref (q 0), .int (nI xa2_4), .int xv2_5, .int (nI xo), .int xt2_6, .int (nI xz2_7), .int xf, .int xp])), (q 0, .inr (10, [.ref (q 20), .int (nI tl)])), (q 20, .inl (cI, 1600, .inl (fun j => nI (tb j))))] := hD
        rw [stF_nx] at hO2_10
        have hO_11 := rs_bd hO hO2_10
        have hL_12 := lenS_nx htb hO ⟨by rw [c_3]; decide, by rw [c_3]; decide⟩ hlen
        refine lv_aload_n hx hb dX8_readPart_95 rfl (lv_at hl 1 rfl) ?_
        refine lv_aload_n hx hb dX8_readPart_96 rfl (lv_at hl 2 rfl) ?_
        refine lv_iload_n hx hb dX8_readPart_97 rfl (lv_at hl 0 rfl) ?_
        refine lv_sipush (v := 277) hx hb dX8_readPart_98 (by decide) ?_
        refine lv_icmp_ne (tgt := 110) hx hb dX8_readPart_101 (by decide) (fun c => absurd c_3 c) (fun c_13 => ?_)
        refine lv_sipush (v := 30004) hx hb dX8_readPart_104 (by decide) ?_
        refine lv_goto (tgt := 113) hx hb dX8_readPart_107 (by decide) ?_
        refine sk_VvZ (q0 := 0) (n := 2) (rest := []) (wr := []) ⟨hx, hb, hml, hown, hts⟩ hl.1 (hq q u0 kn xa2_4 xv2_5 xo xt2_6 xz2_7 xf xp tl tb h0 k1 k2 k3 k4 cl mw f1 (bd og (nxF tb tl)) 30004 5 (by omega) (by omega) (by omega) htb (by omega) (by omega) (by omega) (by omega) hO_11 (lenO_S hL_12) (by decide) (by omega)) w_3_111 w_3_113 w_0_9 w_1_6 w_3_114 (by decide +kernel) ⟨⟨(by dsimp only; omega), (by dsimp only; omega)⟩, (by dsimp only; omega), (by dsimp only; omega)⟩ hK hP hD hS hZ hA [0, 3, 4, 5, 1, 2] [] rfl rfl (by decide +kernel) (by decide +kernel) (by decide +kernel) rfl rfl rfl rfl (Nat.le_of_ble_eq_true rfl) dX8_readPart_113 (fun u H locs hw hP hD hS => ?_)
        obtain ⟨xa2_14, xv2_15, xt2_16, xz2_17, xf2_18, xp2_19, c2_20, w2_21, g1_22, hxa2_23, hxz2_24, hc2_25, hw2_26, hO2_27, rfl⟩ := hw
        have hP : va_P D vwCl [(u0, .inr (8, [.ref (q 2), .int (nI kn)])), (q 2, .inr (6, [.ref (q 0), .int (nI xa2_14), .int xv2_15, .int (nI xo), .int xt2_16, .int (nI xz2_17), .int xf2_18, .int xp2_19])), (q 0, .inr (10, [.ref (q 20), .int (nI tl)])), (q 20, .inl (cI, 1600, .inl (fun j => nI (tb j)))), (h0, .inr (0, [.ref k1, .ref k2, .ref k3, .ref k4, .int (nI c2_20), .int (nI w2_21)])), (k1, .inl (cI, 1600, .inl g1_22))] H := hP
        have hD : va_D A [(u0, .inr (8, [.ref (q 2), .int (nI kn)])), (q 2, .inr (6, [.ref (q 0), .int (nI xa2_14), .int xv2_15, .int (nI xo), .int xt2_16, .int (nI xz2_17), .int xf2_18, .int xp2_19])), (q 0, .inr (10, [.ref (q 20), .int (nI tl)])), (q 20, .inl (cI, 1600, .inl (fun j => nI (tb j)))), (h0, .inr (0, [.ref k1, .ref k2, .ref k3, .ref k4, .int (nI c2_20), .int (nI w2_21)])), (k1, .inl (cI, 1600, .inl g1_22))] := hD
        refine lv_goto (tgt := 217) hx hb dX8_readPart_116 (by decide) ?_
        exact sk_vret hx hb hr hlocks hK hP hD hS (⟨xa2_14, xv2_15, xt2_16, xz2_17, xf2_18, xp2_19, c2_20, w2_21, g1_22, by omega, by omega, by omega, by omega, by rw [← p_mm (v := 5) htb hO (Or.inl ⟨c_3, rfl⟩)]; exact hO2_27, rfl⟩) (Nat.le_of_ble_eq_true rfl) (Nat.le_of_ble_eq_true rfl) dX8_readPart_217
      · skip
        refine lv_iload_n hx hb dX8_readPart_81 rfl (lv_at hl 0 rfl) ?_
        refine lv_sipush (v := 278) hx hb dX8_readPart_82 (by decide) ?_
        refine lv_icmp_ne (tgt := 119) hx hb dX8_readPart_85 (by decide) (fun c_28 => ?_) (fun c_28 => ?_)
        · skip
          refine lv_iload_n hx hb dX8_readPart_119 rfl (lv_at hl 0 rfl) ?_
          refine lv_sipush (v := 272) hx hb dX8_readPart_120 (by decide) ?_
          refine lv_icmp_ne (tgt := 169) hx hb dX8_readPart_123 (by decide) (fun c_29 => ?_) (fun c_29 => ?_)
          · skip
            refine lv_aload_n hx hb dX8_readPart_169 rfl (lv_at hl 1 rfl) ?_
            refine sk_get (v := .int (nI kn)) (C := RX8) (T := TX8) (N := 2) hx hb hts inlX8 hown hK hP 0 rfl rfl 1 (by decide) w_1_101 rfl dX8_readPart_170 ?_
            refine lv_iconst (v := 2) hx hb dX8_readPart_173 (by decide) ?_
            refine lv_icmp_ne (tgt := 184) hx hb dX8_readPart_174 (by decide) (fun c_30 => ?_) (fun c_30 => ?_)
            · have c_30 : ¬ (kn = 2) := fun h => c_30 ((neq kn 2 (by omega) (by omega)).mpr h)
              refine lv_aload_n hx hb dX8_readPart_184 rfl (lv_at hl 1 rfl) ?_
              refine lv_iload_n hx hb dX8_readPart_185 rfl (lv_at hl 0 rfl) ?_
              refine sk_Vi (q0 := 0) (n := 1) (rest := []) (wr := [(q 2, .inr (6, [.ref (q 0), .int (nI xa), .int xv, .int (nI xo), .int xt, .int (nI xz), .int xf, .int xp])), (q 0, .inr (10, [.ref (q 20), .int (nI tl)])), (q 20, .inl (cI, 1600, .inl (fun j => nI (tb j)))), (h0, .inr (0, [.ref k1, .ref k2, .ref k3, .ref k4, .int (nI cl), .int (nI mw)])), (k1, .inl (cI, 1600, .inl f1))]) ⟨hx, hb, hml, hown, hts⟩ hl.1 (c_enameInLock l D cI cJ cC cZ cS u0 kn q xt (by omega)) w_3_118 w_3_120 w_0_10 w_1_6 w_3_121 (by decide +kernel) ⟨⟨(by dsimp only; omega), (by dsimp only; omega)⟩, (by dsimp only; omega), (by dsimp only; omega)⟩ hK hP hD hS hA [0] [1, 2, 3, 4, 5] rfl rfl (by decide +kernel) (by decide +kernel) (by decide +kernel) rfl rfl rfl rfl (Nat.le_of_ble_eq_true rfl) dX8_readPart_186 (fun r_31 u H locs hw hP hD hS => ?_)
              obtain ⟨hnm_32, rfl⟩ := hw
              have hP : va_P D vwCl [(q 2, .inr (6, [.ref (q 0), .int (nI xa), .int xv, .int (nI xo), .int xt, .int (nI xz), .int xf, .int xp])), (q 0, .inr (10, [.ref (q 20), .int (nI tl)])), (q 20, .inl (cI, 1600, .inl (fun j => nI (tb j)))), (h0, .inr (0, [.ref k1, .ref k2, .ref k3, .ref k4, .int (nI cl), .int (nI mw)])), (k1, .inl (cI, 1600, .inl f1)), (u0, .inr (8, [.ref (q 2), .int (nI kn)]))] H := hP
              have hD : va_D A [(q 2, .inr (6, [.ref (q 0), .int (nI xa), .int xv, .int (nI xo), .int xt, .int (nI xz), .int xf, .int xp])), (q 0, .inr (10, [.ref (q 20), .int (nI tl)])), (q 20, .inl (cI, 1600, .inl (fun j => nI (tb j)))), (h0, .inr (0, [.ref k1, .ref k2, .ref k3, .ref k4, .int (nI cl), .int (nI mw)])), (k1, .inl (cI, 1600, .inl f1)), (u0, .inr (8, [.ref (q 2), .int (nI kn)]))] := hD
              refine lv_istore_n (lv' := [(3, .int r_31), (2, .int xt), (0, .ref u0), (1, .ref h0)]) hx hb dX8_readPart_189 rfl hl (by decide) rfl (fun ls hl => ?_)
              refine lv_iload_n hx hb dX8_readPart_190 rfl (lv_at hl 0 rfl) ?_
              refine lv_iconst (v := (-1)) hx hb dX8_readPart_191 (by decide) ?_
              refine lv_icmp_ne (tgt := 205) hx hb dX8_readPart_192 (by decide) (fun c_33 => ?_) (fun c_33 => ?_)
              · obtain ⟨kx, hkxl, hkx, hkr⟩ := (hnm_32).resolve_left (fun hq => c_33 hq.1)
                refine lv_aload_n hx hb dX8_readPart_205 rfl (lv_at hl 3 rfl) ?_
                refine lv_iload_n hx hb dX8_readPart_206 rfl (lv_at hl 0 rfl) ?_
                refine sk_Vv (q0 := 0) (n := 1) (rest := []) (wr := [(q 2, .inr (6, [.ref (q 0), .int (nI xa), .int xv, .int (nI xo), .int xt, .int (nI xz), .int xf, .int xp])), (q 0, .inr (10, [.ref (q 20), .int (nI tl)])), (q 20, .inl (cI, 1600, .inl (fun j => nI (tb j)))), (u0, .inr (8, [.ref (q 2), .int (nI kn)]))]) ⟨hx, hb, hml, hown, hts⟩ hl.1 (c_eCode_addX l D cI cJ cC cZ cS h0 k1 k2 k3 k4 cl mw f1 r_31 og (40 + kx) (by omega) (by omega) hkr (by omega) (hO).2 (rm_w htb hO htl (nIx_real hkx) hlen)) w_3_97 w_3_98 w_3_99 w_1_8 w_3_100 (by decide +kernel) ⟨⟨(by dsimp only; omega), (by dsimp only; omega)⟩, (by dsimp only; omega), (by dsimp only; omega)⟩ hK hP hD hS hA [3, 4] [0, 1, 2, 5] rfl rfl (by decide +kernel) (by decide +kernel) (by decide +kernel) rfl rfl rfl rfl (Nat.le_of_ble_eq_true rfl) dX8_readPart_207 (fun u H locs hw hP hD hS => ?_)
                obtain ⟨c2_34, w2_35, g1_36, hc2_37, hw2_38, hO2_39, rfl⟩ := hw
                have hP : va_P D vwCl [(q 2, .inr (6, [.ref (q 0), .int (nI xa), .int xv, .int (nI xo), .int xt, .int (nI xz), .int xf, .int xp])), (q 0, .inr (10, [.ref (q 20), .int (nI tl)])), (q 20, .inl (cI, 1600, .inl (fun j => nI (tb j)))), (u0, .inr (8, [.ref (q 2), .int (nI kn)])), (h0, .inr (0, [.ref k1, .ref k2, .ref k3, .ref k4, .int (nI c2_34), .int (nI w2_35)])), (k1, .inl (cI, 1600, .inl g1_36))] H := hP
                have hD : va_D A [(q 2, .inr (6, [.ref (q 0), .int (nI xa), .int xv, .int (nI xo), .int xt, .int (nI xz), .int xf, .int xp])), (q 0, .inr (10, [.ref (q 20), .int (nI tl)])), (q 20, .inl (cI, 1600, .inl (fun j => nI (tb j)))), (u0, .inr (8, [.ref (q 2), .int (nI kn)])), (h0, .inr (0, [.ref k1, .ref k2, .ref k3, .ref k4, .int (nI c2_34), .int (nI w2_35)])), (k1, .inl (cI, 1600, .inl g1_36))] := hD
                have hO_40 := rs_ad hO hO2_39
                refine lv_aload_n hx hb dX8_readPart_210 rfl (lv_at hl 2 rfl) ?_
                refine sk_get (v := .ref (q 2)) (C := RX8) (T := TX8) (N := 2) hx hb hts inlX8 hown hK hP 3 rfl rfl 0 (by decide) w_1_100 rfl dX8_readPart_211 ?_
                refine sk_VvZ (q0 := 0) (n := 0) (rest := []) (wr := [(u0, .inr (8, [.ref (q 2), .int (nI kn)])), (h0, .inr (0, [.ref k1, .ref k2, .ref k3, .ref k4, .int (nI c2_34), .int (nI w2_35)])), (k1, .inl (cI, 1600, .inl g1_36))]) ⟨hx, hb, hml, hown, hts⟩ hl.1 (c_erd_step l D cI cJ cC cZ cS zk zv zf q xa xv xo xt xz xf xp tl tb (bindR (rc (ad og (40 + kx))) (beF tb tl)) (by omega) (by omega) (by omega) htb (rd_st htb (hO_40).1 (nIx_real hkx))) w_3_110 w_2_226 w_2_227 w_1_4 w_2_228 (by decide +kernel) ⟨⟨(by dsimp only; omega), (by dsimp only; omega)⟩, (by dsimp only; omega), (by dsimp only; omega)⟩ hK hP hD hS hZ hA [0, 1, 2] [3, 4, 5] rfl rfl (by decide +kernel) (by decide +kernel) (by decide +kernel) rfl rfl rfl rfl (Nat.le_of_ble_eq_true rfl) dX8_readPart_214 (fun u H locs hw hP hD hS => ?_)
                obtain ⟨xa2_41, xv2_42, xt2_43, xz2_44, hxa2_45, hxz2_46, hO2_47, rfl⟩ := hw
                have hP : va_P D vwCl [(u0, .inr (8, [.ref (q 2), .int (nI kn)])), (h0, .inr (0, [.ref k1, .ref k2, .ref k3, .ref k4, .int (nI c2_34), .int (nI w2_35)])), (k1, .inl (cI, 1600, .inl g1_36)), (q 2, .inr (6, [.ref (q 0), .int (nI xa2_41), .int xv2_42, .int (nI xo), .int xt2_43, .int (nI xz2_44), .int xf, .int xp])), (q 0, .inr (10, [.ref (q 20), .int (nI tl)])), (q 20, .inl (cI, 1600, .inl (fun j => nI (tb j))))] H := hP
                have hD : va_D A [(u0, .inr (8, [.ref (q 2), .int (nI kn)])), (h0, .inr (0, [.ref k1, .ref k2, .ref k3, .ref k4, .int (nI c2_34), .int (nI w2_35)])), (k1, .inl (cI, 1600, .inl g1_36)), (q 2, .inr (6, [.ref (q 0), .int (nI xa2_41), .int xv2_42, .int (nI xo), .int xt2_43, .int (nI xz2_44), .int xf, .int xp])), (q 0, .inr (10, [.ref (q 20), .int (nI tl)])), (q 20, .inl (cI, 1600, .inl (fun j => nI (tb j))))] := hD
                rw [stF_nx] at hO2_47
                have hO_48 := rs_bd hO_40 hO2_47
                have hP := hP.sub (ws' := [(u0, .inr (8, [.ref (q 2), .int (nI kn)])), (q 2, .inr (6, [.ref (q 0), .int (nI xa2_41), .int xv2_42, .int (nI xo), .int xt2_43, .int (nI xz2_44), .int xf, .int xp])), (q 0, .inr (10, [.ref (q 20), .int (nI tl)])), (q 20, .inl (cI, 1600, .inl (fun j => nI (tb j)))), (h0, .inr (0, [.ref k1, .ref k2, .ref k3, .ref k4, .int (nI c2_34), .int (nI w2_35)])), (k1, .inl (cI, 1600, .inl g1_36))]) [0, 3, 4, 5, 1, 2] rfl
                have hD := hD.sub (ws' := [(u0, .inr (8, [.ref (q 2), .int (nI kn)])), (q 2, .inr (6, [.ref (q 0), .int (nI xa2_41), .int xv2_42, .int (nI xo), .int xt2_43, .int (nI xz2_44), .int xf, .int xp])), (q 0, .inr (10, [.ref (q 20), .int (nI tl)])), (q 20, .inl (cI, 1600, .inl (fun j => nI (tb j)))), (h0, .inr (0, [.ref k1, .ref k2, .ref k3, .ref k4, .int (nI c2_34), .int (nI w2_35)])), (k1, .inl (cI, 1600, .inl g1_36))]) [0, 3, 4, 5, 1, 2] (by decide +kernel) rfl
                exact sk_vret hx hb hr hlocks hK hP hD hS (⟨xa2_41, xv2_42, xt2_43, xz2_44, xf, xp, c2_34, w2_35, g1_36, by omega, by omega, by omega, by omega, by rw [← p_name htb hO c_2 c_3 c_28 (fun hq => c_29 hq.2) hkx]; exact hO_48, rfl⟩) (Nat.le_of_ble_eq_true rfl) (Nat.le_of_ble_eq_true rfl) dX8_readPart_217
              · have hkx := ((hnm_32).resolve_right (fun hq => by obtain ⟨k9, h9, -, e9⟩ := hq; exact cm_m1 h9 (e9.symm.trans c_33))).2
                refine lv_aload_n hx hb dX8_readPart_195 rfl (lv_at hl 2 rfl) ?_
                refine sk_get (v := .ref (q 2)) (C := RX8) (T := TX8) (N := 2) hx hb hts inlX8 hown hK hP 5 rfl rfl 0 (by decide) w_1_100 rfl dX8_readPart_196 ?_
                refine sk_Vv (q0 := 0) (n := 0) (rest := []) (wr := [(q 0, .inr (10, [.ref (q 20), .int (nI tl)])), (q 20, .inl (cI, 1600, .inl (fun j => nI (tb j)))), (h0, .inr (0, [.ref k1, .ref k2, .ref k3, .ref k4, .int (nI cl), .int (nI mw)])), (k1, .inl (cI, 1600, .inl f1)), (u0, .inr (8, [.ref (q 2), .int (nI kn)]))]) ⟨hx, hb, hml, hown, hts⟩ hl.1 (c_erd_failHere l D cI cJ cC cZ cS q xa xv xo xt xz xf xp tl tb (rc og) (by omega) (hO).1) w_3_122 w_3_55 w_3_56 w_1_4 w_3_57 (by decide +kernel) ⟨⟨(by dsimp only; omega), (by dsimp only; omega)⟩, (by dsimp only; omega), (by dsimp only; omega)⟩ hK hP hD hS hA [0] [1, 2, 3, 4, 5] rfl rfl (by decide +kernel) (by decide +kernel) (by decide +kernel) rfl rfl rfl rfl (Nat.le_of_ble_eq_true rfl) dX8_readPart_199 (fun u H locs hw hP hD hS => ?_)
                obtain ⟨xf2_49, xp2_50, hO2_51, rfl⟩ := hw
                have hP : va_P D vwCl [(q 0, .inr (10, [.ref (q 20), .int (nI tl)])), (q 20, .inl (cI, 1600, .inl (fun j => nI (tb j)))), (h0, .inr (0, [.ref k1, .ref k2, .ref k3, .ref k4, .int (nI cl), .int (nI mw)])), (k1, .inl (cI, 1600, .inl f1)), (u0, .inr (8, [.ref (q 2), .int (nI kn)])), (q 2, .inr (6, [.ref (q 0), .int (nI xa), .int xv, .int (nI xo), .int (-2), .int (nI xz), .int xf2_49, .int xp2_50]))] H := hP
                have hD : va_D A [(q 0, .inr (10, [.ref (q 20), .int (nI tl)])), (q 20, .inl (cI, 1600, .inl (fun j => nI (tb j)))), (h0, .inr (0, [.ref k1, .ref k2, .ref k3, .ref k4, .int (nI cl), .int (nI mw)])), (k1, .inl (cI, 1600, .inl f1)), (u0, .inr (8, [.ref (q 2), .int (nI kn)])), (q 2, .inr (6, [.ref (q 0), .int (nI xa), .int xv, .int (nI xo), .int (-2), .int (nI xz), .int xf2_49, .int xp2_50]))] := hD
                have hO_52 := rs_bd hO hO2_51
                have hL_53 := lenO_bd (fwd_here (k := 1)) hlen
                refine lv_goto (tgt := 217) hx hb dX8_readPart_202 (by decide) ?_
                have hP := hP.sub (ws' := [(u0, .inr (8, [.ref (q 2), .int (nI kn)])), (q 2, .inr (6, [.ref (q 0), .int (nI xa), .int xv, .int (nI xo), .int (-2), .int (nI xz), .int xf2_49, .int xp2_50])), (q 0, .inr (10, [.ref (q 20), .int (nI tl)])), (q 20, .inl (cI, 1600, .inl (fun j => nI (tb j)))), (h0, .inr (0, [.ref k1, .ref k2, .ref k3, .ref k4, .int (nI cl), .int (nI mw)])), (k1, .inl (cI, 1600, .inl f1))]) [4, 5, 0, 1, 2, 3] rfl
                have hD := hD.sub (ws' := [(u0, .inr (8, [.ref (q 2), .int (nI kn)])), (q 2, .inr (6, [.ref (q 0), .int (nI xa), .int xv, .int (nI xo), .int (-2), .int (nI xz), .int xf2_49, .int xp2_50])), (q 0, .inr (10, [.ref (q 20), .int (nI tl)])), (q 20, .inl (cI, 1600, .inl (fun j => nI (tb j)))), (h0, .inr (0, [.ref k1, .ref k2, .ref k3, .ref k4, .int (nI cl), .int (nI mw)])), (k1, .inl (cI, 1600, .inl f1))]) [4, 5, 0, 1, 2, 3] (by decide +kernel) rfl
                exact sk_vret hx hb hr hlocks hK hP hD hS (⟨xa, xv, (-2), xz, xf2_49, xp2_50, cl, mw, f1, by omega, by omega, by omega, by omega, by rw [← p_none htb hO c_1 c_2 c_3 c_28 (fun hq => c_29 hq.2) hkx]; exact hO_52, rfl⟩) (Nat.le_of_ble_eq_true rfl) (Nat.le_of_ble_eq_true rfl) dX8_readPart_217
            · have c_30 : kn = 2 := (neq kn 2 (by omega) (by omega)).mp c_30
              refine lv_iload_n hx hb dX8_readPart_177 rfl (lv_at hl 0 rfl) ?_
              refine sk_Si (n := 1) (rest := []) (wr := [(u0, .inr (8, [.ref (q 2), .int (nI kn)])), (q 2, .inr (6, [.ref (q 0), .int (nI xa), .int xv, .int (nI xo), .int xt, .int (nI xz), .int xf, .int xp])), (q 0, .inr (10, [.ref (q 20), .int (nI tl)])), (q 20, .inl (cI, 1600, .inl (fun j => nI (tb j)))), (h0, .inr (0, [.ref k1, .ref k2, .ref k3, .ref k4, .int (nI cl), .int (nI mw)])), (k1, .inl (cI, 1600, .inl f1))]) ⟨hx, hb, hml, hown, hts⟩ hl.1 (c_enameInQuestion l D cI cJ cC cZ cS xt) w_3_115 w_3_116 w_1_6 w_3_117 (by decide +kernel) ⟨⟨(by dsimp only; omega), (by dsimp only; omega)⟩, (by dsimp only; omega), (by dsimp only; omega)⟩ hK hP hD hS hA [] [0, 1, 2, 3, 4, 5] rfl rfl (by decide +kernel) (by decide +kernel) (by decide +kernel) rfl rfl (Nat.le_of_ble_eq_true rfl) dX8_readPart_178 (fun r_54 u H locs hw hP hD hS => ?_)
              obtain ⟨hnm_55, rfl⟩ := hw
              have hP : va_P D vwCl [(u0, .inr (8, [.ref (q 2), .int (nI kn)])), (q 2, .inr (6, [.ref (q 0), .int (nI xa), .int xv, .int (nI xo), .int xt, .int (nI xz), .int xf, .int xp])), (q 0, .inr (10, [.ref (q 20), .int (nI tl)])), (q 20, .inl (cI, 1600, .inl (fun j => nI (tb j)))), (h0, .inr (0, [.ref k1, .ref k2, .ref k3, .ref k4, .int (nI cl), .int (nI mw)])), (k1, .inl (cI, 1600, .inl f1))] H := hP
              have hD : va_D A [(u0, .inr (8, [.ref (q 2), .int (nI kn)])), (q 2, .inr (6, [.ref (q 0), .int (nI xa), .int xv, .int (nI xo), .int xt, .int (nI xz), .int xf, .int xp])), (q 0, .inr (10, [.ref (q 20), .int (nI tl)])), (q 20, .inl (cI, 1600, .inl (fun j => nI (tb j)))), (h0, .inr (0, [.ref k1, .ref k2, .ref k3, .ref k4, .int (nI cl), .int (nI mw)])), (k1, .inl (cI, 1600, .inl f1))] := hD
              obtain rfl : kn = 2 := by omega
              refine lv_goto (tgt := 189) hx hb dX8_readPart_181 (by decide) ?_
              refine lv_istore_n (lv' := [(3, .int r_54), (2, .int xt), (0, .ref u0), (1, .ref h0)]) hx hb dX8_readPart_189 rfl hl (by decide) rfl (fun ls hl => ?_)
              refine lv_iload_n hx hb dX8_readPart_190 rfl (lv_at hl 0 rfl) ?_
              refine lv_iconst (v := (-1)) hx hb dX8_readPart_191 (by decide) ?_
              refine lv_icmp_ne (tgt := 205) hx hb dX8_readPart_192 (by decide) (fun c_56 => ?_) (fun c_56 => ?_)
              · obtain ⟨kx, hkxl, hkx, hkr⟩ := (hnm_55).resolve_left (fun hq => c_56 hq.1)
                refine lv_aload_n hx hb dX8_readPart_205 rfl (lv_at hl 3 rfl) ?_
                refine lv_iload_n hx hb dX8_readPart_206 rfl (lv_at hl 0 rfl) ?_
                refine sk_Vv (q0 := 0) (n := 1) (rest := []) (wr := [(u0, .inr (8, [.ref (q 2), .int 2])), (q 2, .inr (6, [.ref (q 0), .int (nI xa), .int xv, .int (nI xo), .int xt, .int (nI xz), .int xf, .int xp])), (q 0, .inr (10, [.ref (q 20), .int (nI tl)])), (q 20, .inl (cI, 1600, .inl (fun j => nI (tb j))))]) ⟨hx, hb, hml, hown, hts⟩ hl.1 (c_eCode_addX l D cI cJ cC cZ cS h0 k1 k2 k3 k4 cl mw f1 r_54 og (40 + kx) (by omega) (by omega) hkr (by omega) (hO).2 (rm_w htb hO htl (nIx_real hkx) hlen)) w_3_97 w_3_98 w_3_99 w_1_8 w_3_100 (by decide +kernel) ⟨⟨(by dsimp only; omega), (by dsimp only; omega)⟩, (by dsimp only; omega), (by dsimp only; omega)⟩ hK hP hD hS hA [4, 5] [0, 1, 2, 3] rfl rfl (by decide +kernel) (by decide +kernel) (by decide +kernel) rfl rfl rfl rfl (Nat.le_of_ble_eq_true rfl) dX8_readPart_207 (fun u H locs hw hP hD hS => ?_)
                obtain ⟨c2_57, w2_58, g1_59, hc2_60, hw2_61, hO2_62, rfl⟩ := hw
                have hP : va_P D vwCl [(u0, .inr (8, [.ref (q 2), .int 2])), (q 2, .inr (6, [.ref (q 0), .int (nI xa), .int xv, .int (nI xo), .int xt, .int (nI xz), .int xf, .int xp])), (q 0, .inr (10, [.ref (q 20), .int (nI tl)])), (q 20, .inl (cI, 1600, .inl (fun j => nI (tb j)))), (h0, .inr (0, [.ref k1, .ref k2, .ref k3, .ref k4, .int (nI c2_57), .int (nI w2_58)])), (k1, .inl (cI, 1600, .inl g1_59))] H := hP
                have hD : va_D A [(u0, .inr (8, [.ref (q 2), .int 2])), (q 2, .inr (6, [.ref (q 0), .int (nI xa), .int xv, .int (nI xo), .int xt, .int (nI xz), .int xf, .int xp])), (q 0, .inr (10, [.ref (q 20), .int (nI tl)])), (q 20, .inl (cI, 1600, .inl (fun j => nI (tb j)))), (h0, .inr (0, [.ref k1, .ref k2, .ref k3, .ref k4, .int (nI c2_57), .int (nI w2_58)])), (k1, .inl (cI, 1600, .inl g1_59))] := hD
                have hO_63 := rs_ad hO hO2_62
                refine lv_aload_n hx hb dX8_readPart_210 rfl (lv_at hl 2 rfl) ?_
                refine sk_get (v := .ref (q 2)) (C := RX8) (T := TX8) (N := 2) hx hb hts inlX8 hown hK hP 0 rfl rfl 0 (by decide) w_1_100 rfl dX8_readPart_211 ?_
                refine sk_VvZ (q0 := 0) (n := 0) (rest := []) (wr := [(u0, .inr (8, [.ref (q 2), .int 2])), (h0, .inr (0, [.ref k1, .ref k2, .ref k3, .ref k4, .int (nI c2_57), .int (nI w2_58)])), (k1, .inl (cI, 1600, .inl g1_59))]) ⟨hx, hb, hml, hown, hts⟩ hl.1 (c_erd_step l D cI cJ cC cZ cS zk zv zf q xa xv xo xt xz xf xp tl tb (bindR (rc (ad og (40 + kx))) (beF tb tl)) (by omega) (by omega) (by omega) htb (rd_st htb (hO_63).1 (nIx_real hkx))) w_3_110 w_2_226 w_2_227 w_1_4 w_2_228 (by decide +kernel) ⟨⟨(by dsimp only; omega), (by dsimp only; omega)⟩, (by dsimp only; omega), (by dsimp only; omega)⟩ hK hP hD hS hZ hA [1, 2, 3] [0, 4, 5] rfl rfl (by decide +kernel) (by decide +kernel) (by decide +kernel) rfl rfl rfl rfl (Nat.le_of_ble_eq_true rfl) dX8_readPart_214 (fun u H locs hw hP hD hS => ?_)
                obtain ⟨xa2_64, xv2_65, xt2_66, xz2_67, hxa2_68, hxz2_69, hO2_70, rfl⟩ := hw
                have hP : va_P D vwCl [(u0, .inr (8, [.ref (q 2), .int 2])), (h0, .inr (0, [.ref k1, .ref k2, .ref k3, .ref k4, .int (nI c2_57), .int (nI w2_58)])), (k1, .inl (cI, 1600, .inl g1_59)), (q 2, .inr (6, [.ref (q 0), .int (nI xa2_64), .int xv2_65, .int (nI xo), .int xt2_66, .int (nI xz2_67), .int xf, .int xp])), (q 0, .inr (10, [.ref (q 20), .int (nI tl)])), (q 20, .inl (cI, 1600, .inl (fun j => nI (tb j))))] H := hP
                have hD : va_D A [(u0, .inr (8, [.ref (q 2), .int 2])), (h0, .inr (0, [.ref k1, .ref k2, .ref k3, .ref k4, .int (nI c2_57), .int (nI w2_58)])), (k1, .inl (cI, 1600, .inl g1_59)), (q 2, .inr (6, [.ref (q 0), .int (nI xa2_64), .int xv2_65, .int (nI xo), .int xt2_66, .int (nI xz2_67), .int xf, .int xp])), (q 0, .inr (10, [.ref (q 20), .int (nI tl)])), (q 20, .inl (cI, 1600, .inl (fun j => nI (tb j))))] := hD
                rw [stF_nx] at hO2_70
                have hO_71 := rs_bd hO_63 hO2_70
                have hP := hP.sub (ws' := [(u0, .inr (8, [.ref (q 2), .int 2])), (q 2, .inr (6, [.ref (q 0), .int (nI xa2_64), .int xv2_65, .int (nI xo), .int xt2_66, .int (nI xz2_67), .int xf, .int xp])), (q 0, .inr (10, [.ref (q 20), .int (nI tl)])), (q 20, .inl (cI, 1600, .inl (fun j => nI (tb j)))), (h0, .inr (0, [.ref k1, .ref k2, .ref k3, .ref k4, .int (nI c2_57), .int (nI w2_58)])), (k1, .inl (cI, 1600, .inl g1_59))]) [0, 3, 4, 5, 1, 2] rfl
                have hD := hD.sub (ws' := [(u0, .inr (8, [.ref (q 2), .int 2])), (q 2, .inr (6, [.ref (q 0), .int (nI xa2_64), .int xv2_65, .int (nI xo), .int xt2_66, .int (nI xz2_67), .int xf, .int xp])), (q 0, .inr (10, [.ref (q 20), .int (nI tl)])), (q 20, .inl (cI, 1600, .inl (fun j => nI (tb j)))), (h0, .inr (0, [.ref k1, .ref k2, .ref k3, .ref k4, .int (nI c2_57), .int (nI w2_58)])), (k1, .inl (cI, 1600, .inl g1_59))]) [0, 3, 4, 5, 1, 2] (by decide +kernel) rfl
                exact sk_vret hx hb hr hlocks hK hP hD hS (⟨xa2_64, xv2_65, xt2_66, xz2_67, xf, xp, c2_57, w2_58, g1_59, by omega, by omega, by omega, by omega, by rw [← p_name htb hO c_2 c_3 c_28 (fun hq => c_29 hq.2) hkx]; exact hO_71, rfl⟩) (Nat.le_of_ble_eq_true rfl) (Nat.le_of_ble_eq_true rfl) dX8_readPart_217
              · have hkx := ((hnm_55).resolve_right (fun hq => by obtain ⟨k9, h9, -, e9⟩ := hq; exact cm_m1 h9 (e9.symm.trans c_56))).2
                refine lv_aload_n hx hb dX8_readPart_195 rfl (lv_at hl 2 rfl) ?_
                refine sk_get (v := .ref (q 2)) (C := RX8) (T := TX8) (N := 2) hx hb hts inlX8 hown hK hP 0 rfl rfl 0 (by decide) w_1_100 rfl dX8_readPart_196 ?_
                refine sk_Vv (q0 := 0) (n := 0) (rest := []) (wr := [(u0, .inr (8, [.ref (q 2), .int 2])), (q 0, .inr (10, [.ref (q 20), .int (nI tl)])), (q 20, .inl (cI, 1600, .inl (fun j => nI (tb j)))), (h0, .inr (0, [.ref k1, .ref k2, .ref k3, .ref k4, .int (nI cl), .int (nI mw)])), (k1, .inl (cI, 1600, .inl f1))]) ⟨hx, hb, hml, hown, hts⟩ hl.1 (c_erd_failHere l D cI cJ cC cZ cS q xa xv xo xt xz xf xp tl tb (rc og) (by omega) (hO).1) w_3_122 w_3_55 w_3_56 w_1_4 w_3_57 (by decide +kernel) ⟨⟨(by dsimp only; omega), (by dsimp only; omega)⟩, (by dsimp only; omega), (by dsimp only; omega)⟩ hK hP hD hS hA [1] [0, 2, 3, 4, 5] rfl rfl (by decide +kernel) (by decide +kernel) (by decide +kernel) rfl rfl rfl rfl (Nat.le_of_ble_eq_true rfl) dX8_readPart_199 (fun u H locs hw hP hD hS => ?_)
                obtain ⟨xf2_72, xp2_73, hO2_74, rfl⟩ := hw
                have hP : va_P D vwCl [(u0, .inr (8, [.ref (q 2), .int 2])), (q 0, .inr (10, [.ref (q 20), .int (nI tl)])), (q 20, .inl (cI, 1600, .inl (fun j => nI (tb j)))), (h0, .inr (0, [.ref k1, .ref k2, .ref k3, .ref k4, .int (nI cl), .int (nI mw)])), (k1, .inl (cI, 1600, .inl f1)), (q 2, .inr (6, [.ref (q 0), .int (nI xa), .int xv, .int (nI xo), .int (-2), .int (nI xz), .int xf2_72, .int xp2_73]))] H := hP
                have hD : va_D A [(u0, .inr (8, [.ref (q 2), .int 2])), (q 0, .inr (10, [.ref (q 20), .int (nI tl)])), (q 20, .inl (cI, 1600, .inl (fun j => nI (tb j)))), (h0, .inr (0, [.ref k1, .ref k2, .ref k3, .ref k4, .int (nI cl), .int (nI mw)])), (k1, .inl (cI, 1600, .inl f1)), (q 2, .inr (6, [.ref (q 0), .int (nI xa), .int xv, .int (nI xo), .int (-2), .int (nI xz), .int xf2_72, .int xp2_73]))] := hD
                have hO_75 := rs_bd hO hO2_74
                have hL_76 := lenO_bd (fwd_here (k := 1)) hlen
                refine lv_goto (tgt := 217) hx hb dX8_readPart_202 (by decide) ?_
                have hP := hP.sub (ws' := [(u0, .inr (8, [.ref (q 2), .int 2])), (q 2, .inr (6, [.ref (q 0), .int (nI xa), .int xv, .int (nI xo), .int (-2), .int (nI xz), .int xf2_72, .int xp2_73])), (q 0, .inr (10, [.ref (q 20), .int (nI tl)])), (q 20, .inl (cI, 1600, .inl (fun j => nI (tb j)))), (h0, .inr (0, [.ref k1, .ref k2, .ref k3, .ref k4, .int (nI cl), .int (nI mw)])), (k1, .inl (cI, 1600, .inl f1))]) [0, 5, 1, 2, 3, 4] rfl
                have hD := hD.sub (ws' := [(u0, .inr (8, [.ref (q 2), .int 2])), (q 2, .inr (6, [.ref (q 0), .int (nI xa), .int xv, .int (nI xo), .int (-2), .int (nI xz), .int xf2_72, .int xp2_73])), (q 0, .inr (10, [.ref (q 20), .int (nI tl)])), (q 20, .inl (cI, 1600, .inl (fun j => nI (tb j)))), (h0, .inr (0, [.ref k1, .ref k2, .ref k3, .ref k4, .int (nI cl), .int (nI mw)])), (k1, .inl (cI, 1600, .inl f1))]) [0, 5, 1, 2, 3, 4] (by decide +kernel) rfl
                exact sk_vret hx hb hr hlocks hK hP hD hS (⟨xa, xv, (-2), xz, xf2_72, xp2_73, cl, mw, f1, by omega, by omega, by omega, by omega, by rw [← p_none htb hO c_1 c_2 c_3 c_28 (fun hq => c_29 hq.2) hkx]; exact hO_75, rfl⟩) (Nat.le_of_ble_eq_true rfl) (Nat.le_of_ble_eq_true rfl) dX8_readPart_217
          · skip
            refine lv_aload_n hx hb dX8_readPart_126 rfl (lv_at hl 1 rfl) ?_
            refine sk_get (v := .int (nI kn)) (C := RX8) (T := TX8) (N := 2) hx hb hts inlX8 hown hK hP 0 rfl rfl 1 (by decide) w_1_101 rfl dX8_readPart_127 ?_
            refine lv_iconst (v := 2) hx hb dX8_readPart_130 (by decide) ?_
            refine lv_icmp_ne (tgt := 169) hx hb dX8_readPart_131 (by decide) (fun c_77 => ?_) (fun c_77 => ?_)
            · have c_77 : ¬ (kn = 2) := fun h => c_77 ((neq kn 2 (by omega) (by omega)).mpr h)
              refine lv_aload_n hx hb dX8_readPart_169 rfl (lv_at hl 1 rfl) ?_
              refine sk_get (v := .int (nI kn)) (C := RX8) (T := TX8) (N := 2) hx hb hts inlX8 hown hK hP 0 rfl rfl 1 (by decide) w_1_101 rfl dX8_readPart_170 ?_
              refine lv_iconst (v := 2) hx hb dX8_readPart_173 (by decide) ?_
              refine lv_icmp_ne (tgt := 184) hx hb dX8_readPart_174 (by decide) (fun c_78 => ?_) (fun c_78 => ?_)
              · have c_78 : ¬ (kn = 2) := fun h => c_78 ((neq kn 2 (by omega) (by omega)).mpr h)
                refine lv_aload_n hx hb dX8_readPart_184 rfl (lv_at hl 1 rfl) ?_
                refine lv_iload_n hx hb dX8_readPart_185 rfl (lv_at hl 0 rfl) ?_
                refine sk_Vi (q0 := 0) (n := 1) (rest := []) (wr := [(q 2, .inr (6, [.ref (q 0), .int (nI xa), .int xv, .int (nI xo), .int xt, .int (nI xz), .int xf, .int xp])), (q 0, .inr (10, [.ref (q 20), .int (nI tl)])), (q 20, .inl (cI, 1600, .inl (fun j => nI (tb j)))), (h0, .inr (0, [.ref k1, .ref k2, .ref k3, .ref k4, .int (nI cl), .int (nI mw)])), (k1, .inl (cI, 1600, .inl f1))]) ⟨hx, hb, hml, hown, hts⟩ hl.1 (c_enameInLock l D cI cJ cC cZ cS u0 kn q xt (by omega)) w_3_118 w_3_120 w_0_10 w_1_6 w_3_121 (by decide +kernel) ⟨⟨(by dsimp only; omega), (by dsimp only; omega)⟩, (by dsimp only; omega), (by dsimp only; omega)⟩ hK hP hD hS hA [0] [1, 2, 3, 4, 5] rfl rfl (by decide +kernel) (by decide +kernel) (by decide +kernel) rfl rfl rfl rfl (Nat.le_of_ble_eq_true rfl) dX8_readPart_186 (fun r_79 u H locs hw hP hD hS => ?_)
                obtain ⟨hnm_80, rfl⟩ := hw
                have hP : va_P D vwCl [(q 2, .inr (6, [.ref (q 0), .int (nI xa), .int xv, .int (nI xo), .int xt, .int (nI xz), .int xf, .int xp])), (q 0, .inr (10, [.ref (q 20), .int (nI tl)])), (q 20, .inl (cI, 1600, .inl (fun j => nI (tb j)))), (h0, .inr (0, [.ref k1, .ref k2, .ref k3, .ref k4, .int (nI cl), .int (nI mw)])), (k1, .inl (cI, 1600, .inl f1)), (u0, .inr (8, [.ref (q 2), .int (nI kn)]))] H := hP
                have hD : va_D A [(q 2, .inr (6, [.ref (q 0), .int (nI xa), .int xv, .int (nI xo), .int xt, .int (nI xz), .int xf, .int xp])), (q 0, .inr (10, [.ref (q 20), .int (nI tl)])), (q 20, .inl (cI, 1600, .inl (fun j => nI (tb j)))), (h0, .inr (0, [.ref k1, .ref k2, .ref k3, .ref k4, .int (nI cl), .int (nI mw)])), (k1, .inl (cI, 1600, .inl f1)), (u0, .inr (8, [.ref (q 2), .int (nI kn)]))] := hD
                refine lv_istore_n (lv' := [(3, .int r_79), (2, .int xt), (0, .ref u0), (1, .ref h0)]) hx hb dX8_readPart_189 rfl hl (by decide) rfl (fun ls hl => ?_)
                refine lv_iload_n hx hb dX8_readPart_190 rfl (lv_at hl 0 rfl) ?_
                refine lv_iconst (v := (-1)) hx hb dX8_readPart_191 (by decide) ?_
                refine lv_icmp_ne (tgt := 205) hx hb dX8_readPart_192 (by decide) (fun c_81 => ?_) (fun c_81 => ?_)
                · obtain ⟨kx, hkxl, hkx, hkr⟩ := (hnm_80).resolve_left (fun hq => c_81 hq.1)
                  refine lv_aload_n hx hb dX8_readPart_205 rfl (lv_at hl 3 rfl) ?_
                  refine lv_iload_n hx hb dX8_readPart_206 rfl (lv_at hl 0 rfl) ?_
                  refine sk_Vv (q0 := 0) (n := 1) (rest := []) (wr := [(q 2, .inr (6, [.ref (q 0), .int (nI xa), .int xv, .int (nI xo), .int xt, .int (nI xz), .int xf, .int xp])), (q 0, .inr (10, [.ref (q 20), .int (nI tl)])), (q 20, .inl (cI, 1600, .inl (fun j => nI (tb j)))), (u0, .inr (8, [.ref (q 2), .int (nI kn)]))]) ⟨hx, hb, hml, hown, hts⟩ hl.1 (c_eCode_addX l D cI cJ cC cZ cS h0 k1 k2 k3 k4 cl mw f1 r_79 og (40 + kx) (by omega) (by omega) hkr (by omega) (hO).2 (rm_w htb hO htl (nIx_real hkx) hlen)) w_3_97 w_3_98 w_3_99 w_1_8 w_3_100 (by decide +kernel) ⟨⟨(by dsimp only; omega), (by dsimp only; omega)⟩, (by dsimp only; omega), (by dsimp only; omega)⟩ hK hP hD hS hA [3, 4] [0, 1, 2, 5] rfl rfl (by decide +kernel) (by decide +kernel) (by decide +kernel) rfl rfl rfl rfl (Nat.le_of_ble_eq_true rfl) dX8_readPart_207 (fun u H locs hw hP hD hS => ?_)
                  obtain ⟨c2_82, w2_83, g1_84, hc2_85, hw2_86, hO2_87, rfl⟩ := hw
                  have hP : va_P D vwCl [(q 2, .inr (6, [.ref (q 0), .int (nI xa), .int xv, .int (nI xo), .int xt, .int (nI xz), .int xf, .int xp])), (q 0, .inr (10, [.ref (q 20), .int (nI tl)])), (q 20, .inl (cI, 1600, .inl (fun j => nI (tb j)))), (u0, .inr (8, [.ref (q 2), .int (nI kn)])), (h0, .inr (0, [.ref k1, .ref k2, .ref k3, .ref k4, .int (nI c2_82), .int (nI w2_83)])), (k1, .inl (cI, 1600, .inl g1_84))] H := hP
                  have hD : va_D A [(q 2, .inr (6, [.ref (q 0), .int (nI xa), .int xv, .int (nI xo), .int xt, .int (nI xz), .int xf, .int xp])), (q 0, .inr (10, [.ref (q 20), .int (nI tl)])), (q 20, .inl (cI, 1600, .inl (fun j => nI (tb j)))), (u0, .inr (8, [.ref (q 2), .int (nI kn)])), (h0, .inr (0, [.ref k1, .ref k2, .ref k3, .ref k4, .int (nI c2_82), .int (nI w2_83)])), (k1, .inl (cI, 1600, .inl g1_84))] := hD
                  have hO_88 := rs_ad hO hO2_87
                  refine lv_aload_n hx hb dX8_readPart_210 rfl (lv_at hl 2 rfl) ?_
                  refine sk_get (v := .ref (q 2)) (C := RX8) (T := TX8) (N := 2) hx hb hts inlX8 hown hK hP 3 rfl rfl 0 (by decide) w_1_100 rfl dX8_readPart_211 ?_
                  refine sk_VvZ (q0 := 0) (n := 0) (rest := []) (wr := [(u0, .inr (8, [.ref (q 2), .int (nI kn)])), (h0, .inr (0, [.ref k1, .ref k2, .ref k3, .ref k4, .int (nI c2_82), .int (nI w2_83)])), (k1, .inl (cI, 1600, .inl g1_84))]) ⟨hx, hb, hml, hown, hts⟩ hl.1 (c_erd_step l D cI cJ cC cZ cS zk zv zf q xa xv xo xt xz xf xp tl tb (bindR (rc (ad og (40 + kx))) (beF tb tl)) (by omega) (by omega) (by omega) htb (rd_st htb (hO_88).1 (nIx_real hkx))) w_3_110 w_2_226 w_2_227 w_1_4 w_2_228 (by decide +kernel) ⟨⟨(by dsimp only; omega), (by dsimp only; omega)⟩, (by dsimp only; omega), (by dsimp only; omega)⟩ hK hP hD hS hZ hA [0, 1, 2] [3, 4, 5] rfl rfl (by decide +kernel) (by decide +kernel) (by decide +kernel) rfl rfl rfl rfl (Nat.le_of_ble_eq_true rfl) dX8_readPart_214 (fun u H locs hw hP hD hS => ?_)
                  obtain ⟨xa2_89, xv2_90, xt2_91, xz2_92, hxa2_93, hxz2_94, hO2_95, rfl⟩ := hw
                  have hP : va_P D vwCl [(u0, .inr (8, [.ref (q 2), .int (nI kn)])), (h0, .inr (0, [.ref k1, .ref k2, .ref k3, .ref k4, .int (nI c2_82), .int (nI w2_83)])), (k1, .inl (cI, 1600, .inl g1_84)), (q 2, .inr (6, [.ref (q 0), .int (nI xa2_89), .int xv2_90, .int (nI xo), .int xt2_91, .int (nI xz2_92), .int xf, .int xp])), (q 0, .inr (10, [.ref (q 20), .int (nI tl)])), (q 20, .inl (cI, 1600, .inl (fun j => nI (tb j))))] H := hP
                  have hD : va_D A [(u0, .inr (8, [.ref (q 2), .int (nI kn)])), (h0, .inr (0, [.ref k1, .ref k2, .ref k3, .ref k4, .int (nI c2_82), .int (nI w2_83)])), (k1, .inl (cI, 1600, .inl g1_84)), (q 2, .inr (6, [.ref (q 0), .int (nI xa2_89), .int xv2_90, .int (nI xo), .int xt2_91, .int (nI xz2_92), .int xf, .int xp])), (q 0, .inr (10, [.ref (q 20), .int (nI tl)])), (q 20, .inl (cI, 1600, .inl (fun j => nI (tb j))))] := hD
                  rw [stF_nx] at hO2_95
                  have hO_96 := rs_bd hO_88 hO2_95
                  have hP := hP.sub (ws' := [(u0, .inr (8, [.ref (q 2), .int (nI kn)])), (q 2, .inr (6, [.ref (q 0), .int (nI xa2_89), .int xv2_90, .int (nI xo), .int xt2_91, .int (nI xz2_92), .int xf, .int xp])), (q 0, .inr (10, [.ref (q 20), .int (nI tl)])), (q 20, .inl (cI, 1600, .inl (fun j => nI (tb j)))), (h0, .inr (0, [.ref k1, .ref k2, .ref k3, .ref k4, .int (nI c2_82), .int (nI w2_83)])), (k1, .inl (cI, 1600, .inl g1_84))]) [0, 3, 4, 5, 1, 2] rfl
                  have hD := hD.sub (ws' := [(u0, .inr (8, [.ref (q 2), .int (nI kn)])), (q 2, .inr (6, [.ref (q 0), .int (nI xa2_89), .int xv2_90, .int (nI xo), .int xt2_91, .int (nI xz2_92), .int xf, .int xp])), (q 0, .inr (10, [.ref (q 20), .int (nI tl)])), (q 20, .inl (cI, 1600, .inl (fun j => nI (tb j)))), (h0, .inr (0, [.ref k1, .ref k2, .ref k3, .ref k4, .int (nI c2_82), .int (nI w2_83)])), (k1, .inl (cI, 1600, .inl g1_84))]) [0, 3, 4, 5, 1, 2] (by decide +kernel) rfl
                  exact sk_vret hx hb hr hlocks hK hP hD hS (⟨xa2_89, xv2_90, xt2_91, xz2_92, xf, xp, c2_82, w2_83, g1_84, by omega, by omega, by omega, by omega, by rw [← p_name htb hO c_2 c_3 c_28 (fun hq => absurd hq.1 (by omega)) hkx]; exact hO_96, rfl⟩) (Nat.le_of_ble_eq_true rfl) (Nat.le_of_ble_eq_true rfl) dX8_readPart_217
                · have hkx := ((hnm_80).resolve_right (fun hq => by obtain ⟨k9, h9, -, e9⟩ := hq; exact cm_m1 h9 (e9.symm.trans c_81))).2
                  refine lv_aload_n hx hb dX8_readPart_195 rfl (lv_at hl 2 rfl) ?_
                  refine sk_get (v := .ref (q 2)) (C := RX8) (T := TX8) (N := 2) hx hb hts inlX8 hown hK hP 5 rfl rfl 0 (by decide) w_1_100 rfl dX8_readPart_196 ?_
                  refine sk_Vv (q0 := 0) (n := 0) (rest := []) (wr := [(q 0, .inr (10, [.ref (q 20), .int (nI tl)])), (q 20, .inl (cI, 1600, .inl (fun j => nI (tb j)))), (h0, .inr (0, [.ref k1, .ref k2, .ref k3, .ref k4, .int (nI cl), .int (nI mw)])), (k1, .inl (cI, 1600, .inl f1)), (u0, .inr (8, [.ref (q 2), .int (nI kn)]))]) ⟨hx, hb, hml, hown, hts⟩ hl.1 (c_erd_failHere l D cI cJ cC cZ cS q xa xv xo xt xz xf xp tl tb (rc og) (by omega) (hO).1) w_3_122 w_3_55 w_3_56 w_1_4 w_3_57 (by decide +kernel) ⟨⟨(by dsimp only; omega), (by dsimp only; omega)⟩, (by dsimp only; omega), (by dsimp only; omega)⟩ hK hP hD hS hA [0] [1, 2, 3, 4, 5] rfl rfl (by decide +kernel) (by decide +kernel) (by decide +kernel) rfl rfl rfl rfl (Nat.le_of_ble_eq_true rfl) dX8_readPart_199 (fun u H locs hw hP hD hS => ?_)
                  obtain ⟨xf2_97, xp2_98, hO2_99, rfl⟩ := hw
                  have hP : va_P D vwCl [(q 0, .inr (10, [.ref (q 20), .int (nI tl)])), (q 20, .inl (cI, 1600, .inl (fun j => nI (tb j)))), (h0, .inr (0, [.ref k1, .ref k2, .ref k3, .ref k4, .int (nI cl), .int (nI mw)])), (k1, .inl (cI, 1600, .inl f1)), (u0, .inr (8, [.ref (q 2), .int (nI kn)])), (q 2, .inr (6, [.ref (q 0), .int (nI xa), .int xv, .int (nI xo), .int (-2), .int (nI xz), .int xf2_97, .int xp2_98]))] H := hP
                  have hD : va_D A [(q 0, .inr (10, [.ref (q 20), .int (nI tl)])), (q 20, .inl (cI, 1600, .inl (fun j => nI (tb j)))), (h0, .inr (0, [.ref k1, .ref k2, .ref k3, .ref k4, .int (nI cl), .int (nI mw)])), (k1, .inl (cI, 1600, .inl f1)), (u0, .inr (8, [.ref (q 2), .int (nI kn)])), (q 2, .inr (6, [.ref (q 0), .int (nI xa), .int xv, .int (nI xo), .int (-2), .int (nI xz), .int xf2_97, .int xp2_98]))] := hD
                  have hO_100 := rs_bd hO hO2_99
                  have hL_101 := lenO_bd (fwd_here (k := 1)) hlen
                  refine lv_goto (tgt := 217) hx hb dX8_readPart_202 (by decide) ?_
                  have hP := hP.sub (ws' := [(u0, .inr (8, [.ref (q 2), .int (nI kn)])), (q 2, .inr (6, [.ref (q 0), .int (nI xa), .int xv, .int (nI xo), .int (-2), .int (nI xz), .int xf2_97, .int xp2_98])), (q 0, .inr (10, [.ref (q 20), .int (nI tl)])), (q 20, .inl (cI, 1600, .inl (fun j => nI (tb j)))), (h0, .inr (0, [.ref k1, .ref k2, .ref k3, .ref k4, .int (nI cl), .int (nI mw)])), (k1, .inl (cI, 1600, .inl f1))]) [4, 5, 0, 1, 2, 3] rfl
                  have hD := hD.sub (ws' := [(u0, .inr (8, [.ref (q 2), .int (nI kn)])), (q 2, .inr (6, [.ref (q 0), .int (nI xa), .int xv, .int (nI xo), .int (-2), .int (nI xz), .int xf2_97, .int xp2_98])), (q 0, .inr (10, [.ref (q 20), .int (nI tl)])), (q 20, .inl (cI, 1600, .inl (fun j => nI (tb j)))), (h0, .inr (0, [.ref k1, .ref k2, .ref k3, .ref k4, .int (nI cl), .int (nI mw)])), (k1, .inl (cI, 1600, .inl f1))]) [4, 5, 0, 1, 2, 3] (by decide +kernel) rfl
                  exact sk_vret hx hb hr hlocks hK hP hD hS (⟨xa, xv, (-2), xz, xf2_97, xp2_98, cl, mw, f1, by omega, by omega, by omega, by omega, by rw [← p_none htb hO c_1 c_2 c_3 c_28 (fun hq => absurd hq.1 (by omega)) hkx]; exact hO_100, rfl⟩) (Nat.le_of_ble_eq_true rfl) (Nat.le_of_ble_eq_true rfl) dX8_readPart_217
              · have c_78 : kn = 2 := (neq kn 2 (by omega) (by omega)).mp c_78
                refine lv_iload_n hx hb dX8_readPart_177 rfl (lv_at hl 0 rfl) ?_
                refine sk_Si (n := 1) (rest := []) (wr := [(u0, .inr (8, [.ref (q 2), .int (nI kn)])), (q 2, .inr (6, [.ref (q 0), .int (nI xa), .int xv, .int (nI xo), .int xt, .int (nI xz), .int xf, .int xp])), (q 0, .inr (10, [.ref (q 20), .int (nI tl)])), (q 20, .inl (cI, 1600, .inl (fun j => nI (tb j)))), (h0, .inr (0, [.ref k1, .ref k2, .ref k3, .ref k4, .int (nI cl), .int (nI mw)])), (k1, .inl (cI, 1600, .inl f1))]) ⟨hx, hb, hml, hown, hts⟩ hl.1 (c_enameInQuestion l D cI cJ cC cZ cS xt) w_3_115 w_3_116 w_1_6 w_3_117 (by decide +kernel) ⟨⟨(by dsimp only; omega), (by dsimp only; omega)⟩, (by dsimp only; omega), (by dsimp only; omega)⟩ hK hP hD hS hA [] [0, 1, 2, 3, 4, 5] rfl rfl (by decide +kernel) (by decide +kernel) (by decide +kernel) rfl rfl (Nat.le_of_ble_eq_true rfl) dX8_readPart_178 (fun r_102 u H locs hw hP hD hS => ?_)
                obtain ⟨hnm_103, rfl⟩ := hw
                have hP : va_P D vwCl [(u0, .inr (8, [.ref (q 2), .int (nI kn)])), (q 2, .inr (6, [.ref (q 0), .int (nI xa), .int xv, .int (nI xo), .int xt, .int (nI xz), .int xf, .int xp])), (q 0, .inr (10, [.ref (q 20), .int (nI tl)])), (q 20, .inl (cI, 1600, .inl (fun j => nI (tb j)))), (h0, .inr (0, [.ref k1, .ref k2, .ref k3, .ref k4, .int (nI cl), .int (nI mw)])), (k1, .inl (cI, 1600, .inl f1))] H := hP
                have hD : va_D A [(u0, .inr (8, [.ref (q 2), .int (nI kn)])), (q 2, .inr (6, [.ref (q 0), .int (nI xa), .int xv, .int (nI xo), .int xt, .int (nI xz), .int xf, .int xp])), (q 0, .inr (10, [.ref (q 20), .int (nI tl)])), (q 20, .inl (cI, 1600, .inl (fun j => nI (tb j)))), (h0, .inr (0, [.ref k1, .ref k2, .ref k3, .ref k4, .int (nI cl), .int (nI mw)])), (k1, .inl (cI, 1600, .inl f1))] := hD
                obtain rfl : kn = 2 := by omega
                refine lv_goto (tgt := 189) hx hb dX8_readPart_181 (by decide) ?_
                refine lv_istore_n (lv' := [(3, .int r_102), (2, .int xt), (0, .ref u0), (1, .ref h0)]) hx hb dX8_readPart_189 rfl hl (by decide) rfl (fun ls hl => ?_)
                refine lv_iload_n hx hb dX8_readPart_190 rfl (lv_at hl 0 rfl) ?_
                refine lv_iconst (v := (-1)) hx hb dX8_readPart_191 (by decide) ?_
                refine lv_icmp_ne (tgt := 205) hx hb dX8_readPart_192 (by decide) (fun c_104 => ?_) (fun c_104 => ?_)
                · obtain ⟨kx, hkxl, hkx, hkr⟩ := (hnm_103).resolve_left (fun hq => c_104 hq.1)
                  refine lv_aload_n hx hb dX8_readPart_205 rfl (lv_at hl 3 rfl) ?_
                  refine lv_iload_n hx hb dX8_readPart_206 rfl (lv_at hl 0 rfl) ?_
                  refine sk_Vv (q0 := 0) (n := 1) (rest := []) (wr := [(u0, .inr (8, [.ref (q 2), .int 2])), (q 2, .inr (6, [.ref (q 0), .int (nI xa), .int xv, .int (nI xo), .int xt, .int (nI xz), .int xf, .int xp])), (q 0, .inr (10, [.ref (q 20), .int (nI tl)])), (q 20, .inl (cI, 1600, .inl (fun j => nI (tb j))))]) ⟨hx, hb, hml, hown, hts⟩ hl.1 (c_eCode_addX l D cI cJ cC cZ cS h0 k1 k2 k3 k4 cl mw f1 r_102 og (40 + kx) (by omega) (by omega) hkr (by omega) (hO).2 (rm_w htb hO htl (nIx_real hkx) hlen)) w_3_97 w_3_98 w_3_99 w_1_8 w_3_100 (by decide +kernel) ⟨⟨(by dsimp only; omega), (by dsimp only; omega)⟩, (by dsimp only; omega), (by dsimp only; omega)⟩ hK hP hD hS hA [4, 5] [0, 1, 2, 3] rfl rfl (by decide +kernel) (by decide +kernel) (by decide +kernel) rfl rfl rfl rfl (Nat.le_of_ble_eq_true rfl) dX8_readPart_207 (fun u H locs hw hP hD hS => ?_)
                  obtain ⟨c2_105, w2_106, g1_107, hc2_108, hw2_109, hO2_110, rfl⟩ := hw
                  have hP : va_P D vwCl [(u0, .inr (8, [.ref (q 2), .int 2])), (q 2, .inr (6, [.ref (q 0), .int (nI xa), .int xv, .int (nI xo), .int xt, .int (nI xz), .int xf, .int xp])), (q 0, .inr (10, [.ref (q 20), .int (nI tl)])), (q 20, .inl (cI, 1600, .inl (fun j => nI (tb j)))), (h0, .inr (0, [.ref k1, .ref k2, .ref k3, .ref k4, .int (nI c2_105), .int (nI w2_106)])), (k1, .inl (cI, 1600, .inl g1_107))] H := hP
                  have hD : va_D A [(u0, .inr (8, [.ref (q 2), .int 2])), (q 2, .inr (6, [.ref (q 0), .int (nI xa), .int xv, .int (nI xo), .int xt, .int (nI xz), .int xf, .int xp])), (q 0, .inr (10, [.ref (q 20), .int (nI tl)])), (q 20, .inl (cI, 1600, .inl (fun j => nI (tb j)))), (h0, .inr (0, [.ref k1, .ref k2, .ref k3, .ref k4, .int (nI c2_105), .int (nI w2_106)])), (k1, .inl (cI, 1600, .inl g1_107))] := hD
                  have hO_111 := rs_ad hO hO2_110
                  refine lv_aload_n hx hb dX8_readPart_210 rfl (lv_at hl 2 rfl) ?_
                  refine sk_get (v := .ref (q 2)) (C := RX8) (T := TX8) (N := 2) hx hb hts inlX8 hown hK hP 0 rfl rfl 0 (by decide) w_1_100 rfl dX8_readPart_211 ?_
                  refine sk_VvZ (q0 := 0) (n := 0) (rest := []) (wr := [(u0, .inr (8, [.ref (q 2), .int 2])), (h0, .inr (0, [.ref k1, .ref k2, .ref k3, .ref k4, .int (nI c2_105), .int (nI w2_106)])), (k1, .inl (cI, 1600, .inl g1_107))]) ⟨hx, hb, hml, hown, hts⟩ hl.1 (c_erd_step l D cI cJ cC cZ cS zk zv zf q xa xv xo xt xz xf xp tl tb (bindR (rc (ad og (40 + kx))) (beF tb tl)) (by omega) (by omega) (by omega) htb (rd_st htb (hO_111).1 (nIx_real hkx))) w_3_110 w_2_226 w_2_227 w_1_4 w_2_228 (by decide +kernel) ⟨⟨(by dsimp only; omega), (by dsimp only; omega)⟩, (by dsimp only; omega), (by dsimp only; omega)⟩ hK hP hD hS hZ hA [1, 2, 3] [0, 4, 5] rfl rfl (by decide +kernel) (by decide +kernel) (by decide +kernel) rfl rfl rfl rfl (Nat.le_of_ble_eq_true rfl) dX8_readPart_214 (fun u H locs hw hP hD hS => ?_)
                  obtain ⟨xa2_112, xv2_113, xt2_114, xz2_115, hxa2_116, hxz2_117, hO2_118, rfl⟩ := hw
                  have hP : va_P D vwCl [(u0, .inr (8, [.ref (q 2), .int 2])), (h0, .inr (0, [.ref k1, .ref k2, .ref k3, .ref k4, .int (nI c2_105), .int (nI w2_106)])), (k1, .inl (cI, 1600, .inl g1_107)), (q 2, .inr (6, [.ref (q 0), .int (nI xa2_112), .int xv2_113, .int (nI xo), .int xt2_114, .int (nI xz2_115), .int xf, .int xp])), (q 0, .inr (10, [.ref (q 20), .int (nI tl)])), (q 20, .inl (cI, 1600, .inl (fun j => nI (tb j))))] H := hP
                  have hD : va_D A [(u0, .inr (8, [.ref (q 2), .int 2])), (h0, .inr (0, [.ref k1, .ref k2, .ref k3, .ref k4, .int (nI c2_105), .int (nI w2_106)])), (k1, .inl (cI, 1600, .inl g1_107)), (q 2, .inr (6, [.ref (q 0), .int (nI xa2_112), .int xv2_113, .int (nI xo), .int xt2_114, .int (nI xz2_115), .int xf, .int xp])), (q 0, .inr (10, [.ref (q 20), .int (nI tl)])), (q 20, .inl (cI, 1600, .inl (fun j => nI (tb j))))] := hD
                  rw [stF_nx] at hO2_118
                  have hO_119 := rs_bd hO_111 hO2_118
                  have hP := hP.sub (ws' := [(u0, .inr (8, [.ref (q 2), .int 2])), (q 2, .inr (6, [.ref (q 0), .int (nI xa2_112), .int xv2_113, .int (nI xo), .int xt2_114, .int (nI xz2_115), .int xf, .int xp])), (q 0, .inr (10, [.ref (q 20), .int (nI tl)])), (q 20, .inl (cI, 1600, .inl (fun j => nI (tb j)))), (h0, .inr (0, [.ref k1, .ref k2, .ref k3, .ref k4, .int (nI c2_105), .int (nI w2_106)])), (k1, .inl (cI, 1600, .inl g1_107))]) [0, 3, 4, 5, 1, 2] rfl
                  have hD := hD.sub (ws' := [(u0, .inr (8, [.ref (q 2), .int 2])), (q 2, .inr (6, [.ref (q 0), .int (nI xa2_112), .int xv2_113, .int (nI xo), .int xt2_114, .int (nI xz2_115), .int xf, .int xp])), (q 0, .inr (10, [.ref (q 20), .int (nI tl)])), (q 20, .inl (cI, 1600, .inl (fun j => nI (tb j)))), (h0, .inr (0, [.ref k1, .ref k2, .ref k3, .ref k4, .int (nI c2_105), .int (nI w2_106)])), (k1, .inl (cI, 1600, .inl g1_107))]) [0, 3, 4, 5, 1, 2] (by decide +kernel) rfl
                  exact sk_vret hx hb hr hlocks hK hP hD hS (⟨xa2_112, xv2_113, xt2_114, xz2_115, xf, xp, c2_105, w2_106, g1_107, by omega, by omega, by omega, by omega, by rw [← p_name htb hO c_2 c_3 c_28 (fun hq => absurd hq.1 (by omega)) hkx]; exact hO_119, rfl⟩) (Nat.le_of_ble_eq_true rfl) (Nat.le_of_ble_eq_true rfl) dX8_readPart_217
                · have hkx := ((hnm_103).resolve_right (fun hq => by obtain ⟨k9, h9, -, e9⟩ := hq; exact cm_m1 h9 (e9.symm.trans c_104))).2
                  refine lv_aload_n hx hb dX8_readPart_195 rfl (lv_at hl 2 rfl) ?_
                  refine sk_get (v := .ref (q 2)) (C := RX8) (T := TX8) (N := 2) hx hb hts inlX8 hown hK hP 0 rfl rfl 0 (by decide) w_1_100 rfl dX8_readPart_196 ?_
                  refine sk_Vv (q0 := 0) (n := 0) (rest := []) (wr := [(u0, .inr (8, [.ref (q 2), .int 2])), (q 0, .inr (10, [.ref (q 20), .int (nI tl)])), (q 20, .inl (cI, 1600, .inl (fun j => nI (tb j)))), (h0, .inr (0, [.ref k1, .ref k2, .ref k3, .ref k4, .int (nI cl), .int (nI mw)])), (k1, .inl (cI, 1600, .inl f1))]) ⟨hx, hb, hml, hown, hts⟩ hl.1 (c_erd_failHere l D cI cJ cC cZ cS q xa xv xo xt xz xf xp tl tb (rc og) (by omega) (hO).1) w_3_122 w_3_55 w_3_56 w_1_4 w_3_57 (by decide +kernel) ⟨⟨(by dsimp only; omega), (by dsimp only; omega)⟩, (by dsimp only; omega), (by dsimp only; omega)⟩ hK hP hD hS hA [1] [0, 2, 3, 4, 5] rfl rfl (by decide +kernel) (by decide +kernel) (by decide +kernel) rfl rfl rfl rfl (Nat.le_of_ble_eq_true rfl) dX8_readPart_199 (fun u H locs hw hP hD hS => ?_)
                  obtain ⟨xf2_120, xp2_121, hO2_122, rfl⟩ := hw
                  have hP : va_P D vwCl [(u0, .inr (8, [.ref (q 2), .int 2])), (q 0, .inr (10, [.ref (q 20), .int (nI tl)])), (q 20, .inl (cI, 1600, .inl (fun j => nI (tb j)))), (h0, .inr (0, [.ref k1, .ref k2, .ref k3, .ref k4, .int (nI cl), .int (nI mw)])), (k1, .inl (cI, 1600, .inl f1)), (q 2, .inr (6, [.ref (q 0), .int (nI xa), .int xv, .int (nI xo), .int (-2), .int (nI xz), .int xf2_120, .int xp2_121]))] H := hP
                  have hD : va_D A [(u0, .inr (8, [.ref (q 2), .int 2])), (q 0, .inr (10, [.ref (q 20), .int (nI tl)])), (q 20, .inl (cI, 1600, .inl (fun j => nI (tb j)))), (h0, .inr (0, [.ref k1, .ref k2, .ref k3, .ref k4, .int (nI cl), .int (nI mw)])), (k1, .inl (cI, 1600, .inl f1)), (q 2, .inr (6, [.ref (q 0), .int (nI xa), .int xv, .int (nI xo), .int (-2), .int (nI xz), .int xf2_120, .int xp2_121]))] := hD
                  have hO_123 := rs_bd hO hO2_122
                  have hL_124 := lenO_bd (fwd_here (k := 1)) hlen
                  refine lv_goto (tgt := 217) hx hb dX8_readPart_202 (by decide) ?_
                  have hP := hP.sub (ws' := [(u0, .inr (8, [.ref (q 2), .int 2])), (q 2, .inr (6, [.ref (q 0), .int (nI xa), .int xv, .int (nI xo), .int (-2), .int (nI xz), .int xf2_120, .int xp2_121])), (q 0, .inr (10, [.ref (q 20), .int (nI tl)])), (q 20, .inl (cI, 1600, .inl (fun j => nI (tb j)))), (h0, .inr (0, [.ref k1, .ref k2, .ref k3, .ref k4, .int (nI cl), .int (nI mw)])), (k1, .inl (cI, 1600, .inl f1))]) [0, 5, 1, 2, 3, 4] rfl
                  have hD := hD.sub (ws' := [(u0, .inr (8, [.ref (q 2), .int 2])), (q 2, .inr (6, [.ref (q 0), .int (nI xa), .int xv, .int (nI xo), .int (-2), .int (nI xz), .int xf2_120, .int xp2_121])), (q 0, .inr (10, [.ref (q 20), .int (nI tl)])), (q 20, .inl (cI, 1600, .inl (fun j => nI (tb j)))), (h0, .inr (0, [.ref k1, .ref k2, .ref k3, .ref k4, .int (nI cl), .int (nI mw)])), (k1, .inl (cI, 1600, .inl f1))]) [0, 5, 1, 2, 3, 4] (by decide +kernel) rfl
                  exact sk_vret hx hb hr hlocks hK hP hD hS (⟨xa, xv, (-2), xz, xf2_120, xp2_121, cl, mw, f1, by omega, by omega, by omega, by omega, by rw [← p_none htb hO c_1 c_2 c_3 c_28 (fun hq => absurd hq.1 (by omega)) hkx]; exact hO_123, rfl⟩) (Nat.le_of_ble_eq_true rfl) (Nat.le_of_ble_eq_true rfl) dX8_readPart_217
            · have c_77 : kn = 2 := (neq kn 2 (by omega) (by omega)).mp c_77
              refine lv_aload_n hx hb dX8_readPart_134 rfl (lv_at hl 1 rfl) ?_
              refine sk_get (v := .ref (q 2)) (C := RX8) (T := TX8) (N := 2) hx hb hts inlX8 hown hK hP 0 rfl rfl 0 (by decide) w_1_100 rfl dX8_readPart_135 ?_
              refine lv_sipush (v := 272) hx hb dX8_readPart_138 (by decide) ?_
              refine sk_ViZ (q0 := 0) (n := 1) (rest := []) (wr := [(u0, .inr (8, [.ref (q 2), .int (nI kn)])), (h0, .inr (0, [.ref k1, .ref k2, .ref k3, .ref k4, .int (nI cl), .int (nI mw)])), (k1, .inl (cI, 1600, .inl f1))]) ⟨hx, hb, hml, hown, hts⟩ hl.1 (c_erd_opens l D cI cJ cC cZ cS zk zv zf q xa xv xo xt xz xf xp tl tb 272 (rc og) (by omega) (by omega) (by omega) htb (by decide) (by omega) (hO).1) w_3_101 w_3_102 w_3_103 w_1_4 w_3_104 (by decide +kernel) ⟨⟨(by dsimp only; omega), (by dsimp only; omega)⟩, (by dsimp only; omega), (by dsimp only; omega)⟩ hK hP hD hS hZ hA [1, 2, 3] [0, 4, 5] rfl rfl (by decide +kernel) (by decide +kernel) (by decide +kernel) rfl rfl rfl rfl (Nat.le_of_ble_eq_true rfl) dX8_readPart_141 (fun r_132 u H locs hw hP hD hS => ?_)
              obtain ⟨xa2_125, xv2_126, xt2_127, xz2_128, xf2_129, xp2_130, b_131, hxa2_133, hxz2_134, hb1_135, hO2_136, rfl, rfl⟩ := hw
              have hP : va_P D vwCl [(u0, .inr (8, [.ref (q 2), .int (nI kn)])), (h0, .inr (0, [.ref k1, .ref k2, .ref k3, .ref k4, .int (nI cl), .int (nI mw)])), (k1, .inl (cI, 1600, .inl f1)), (q 2, .inr (6, [.ref (q 0), .int (nI xa2_125), .int xv2_126, .int (nI (xo + b_131)), .int xt2_127, .int (nI xz2_128), .int xf2_129, .int xp2_130])), (q 0, .inr (10, [.ref (q 20), .int (nI tl)])), (q 20, .inl (cI, 1600, .inl (fun j => nI (tb j))))] H := hP
              have hD : va_D A [(u0, .inr (8, [.ref (q 2), .int (nI kn)])), (h0, .inr (0, [.ref k1, .ref k2, .ref k3, .ref k4, .int (nI cl), .int (nI mw)])), (k1, .inl (cI, 1600, .inl f1)), (q 2, .inr (6, [.ref (q 0), .int (nI xa2_125), .int xv2_126, .int (nI (xo + b_131)), .int xt2_127, .int (nI xz2_128), .int xf2_129, .int xp2_130])), (q 0, .inr (10, [.ref (q 20), .int (nI tl)])), (q 20, .inl (cI, 1600, .inl (fun j => nI (tb j))))] := hD
              have hO_137 := rs_bd hO hO2_136
              have hL_138 := lenS_op (n := tl) (w := 272) (xo := xo) htb (by decide) hlen
              refine lv_if_eq (tgt := 217) hx hb dX8_readPart_144 (by decide) (fun c_139 => ?_) (fun c_139 => ?_)
              · have c_139 : b_131 = 0 := (neq b_131 0 (by omega) (by omega)).mp c_139
                obtain rfl : b_131 = 0 := by omega
                have hP := hP.sub (ws' := [(u0, .inr (8, [.ref (q 2), .int (nI kn)])), (q 2, .inr (6, [.ref (q 0), .int (nI xa2_125), .int xv2_126, .int (nI (xo + 0)), .int xt2_127, .int (nI xz2_128), .int xf2_129, .int xp2_130])), (q 0, .inr (10, [.ref (q 20), .int (nI tl)])), (q 20, .inl (cI, 1600, .inl (fun j => nI (tb j)))), (h0, .inr (0, [.ref k1, .ref k2, .ref k3, .ref k4, .int (nI cl), .int (nI mw)])), (k1, .inl (cI, 1600, .inl f1))]) [0, 3, 4, 5, 1, 2] rfl
                have hD := hD.sub (ws' := [(u0, .inr (8, [.ref (q 2), .int (nI kn)])), (q 2, .inr (6, [.ref (q 0), .int (nI xa2_125), .int xv2_126, .int (nI (xo + 0)), .int xt2_127, .int (nI xz2_128), .int xf2_129, .int xp2_130])), (q 0, .inr (10, [.ref (q 20), .int (nI tl)])), (q 20, .inl (cI, 1600, .inl (fun j => nI (tb j)))), (h0, .inr (0, [.ref k1, .ref k2, .ref k3, .ref k4, .int (nI cl), .int (nI mw)])), (k1, .inl (cI, 1600, .inl f1))]) [0, 3, 4, 5, 1, 2] (by decide +kernel) rfl
                exact sk_vret hx hb hr hlocks hK hP hD hS (⟨xa2_125, xv2_126, xt2_127, xz2_128, xf2_129, xp2_130, cl, mw, f1, by omega, by omega, by omega, by omega, by (have hk2 : kn = 2 := by omega); subst hk2; rw [← p_weeks0 (xo := xo) htb hO c_29 (rr_0 hb1_135 (by omega) c_29) (by have := rr_0 hb1_135 (by omega) c_29; omega)]; exact hO_137, rfl⟩) (Nat.le_of_ble_eq_true rfl) (Nat.le_of_ble_eq_true rfl) dX8_readPart_217
              · have c_139 : ¬ (b_131 = 0) := fun h => c_139 ((neq b_131 0 (by omega) (by omega)).mpr h)
                have hxo1 := (rr_1 hb1_135 (by omega)).1
                obtain rfl : b_131 = 1 := by omega
                refine lv_aload_n hx hb dX8_readPart_147 rfl (lv_at hl 1 rfl) ?_
                refine lv_aload_n hx hb dX8_readPart_148 rfl (lv_at hl 2 rfl) ?_
                refine sk_VvZ (q0 := 0) (n := 1) (rest := []) (wr := []) ⟨hx, hb, hml, hown, hts⟩ hl.1 (hp (dd - 1) (by omega) q u0 kn xa2_125 xv2_126 (xo + 1) xt2_127 xz2_128 xf2_129 xp2_130 tl tb h0 k1 k2 k3 k4 cl mw f1 (bd og (opF tb tl 272 xo)) (by omega) (by omega) (by omega) htb (by omega) (by omega) (by omega) (by omega) hO_137 (lenO_S hL_138)) w_3_92 w_3_94 w_0_8 w_1_6 w_3_95 (by decide +kernel) ⟨⟨(by dsimp only; omega), (by dsimp only; omega)⟩, (by dsimp only; omega), (by dsimp only; omega)⟩ hK hP hD hS hZ hA [0, 3, 4, 5, 1, 2] [] rfl rfl (by decide +kernel) (by decide +kernel) (by decide +kernel) rfl rfl rfl rfl (Nat.le_of_ble_eq_true rfl) dX8_readPart_149 (fun u H locs hw hP hD hS => ?_)
                obtain ⟨xa2_140, xv2_141, xt2_142, xz2_143, xf2_144, xp2_145, c2_146, w2_147, g1_148, hxa2_149, hxz2_150, hc2_151, hw2_152, hO2_153, rfl⟩ := hw
                have hP : va_P D vwCl [(u0, .inr (8, [.ref (q 2), .int (nI kn)])), (q 2, .inr (6, [.ref (q 0), .int (nI xa2_140), .int xv2_141, .int (nI (xo + 1)), .int xt2_142, .int (nI xz2_143), .int xf2_144, .int xp2_145])), (q 0, .inr (10, [.ref (q 20), .int (nI tl)])), (q 20, .inl (cI, 1600, .inl (fun j => nI (tb j)))), (h0, .inr (0, [.ref k1, .ref k2, .ref k3, .ref k4, .int (nI c2_146), .int (nI w2_147)])), (k1, .inl (cI, 1600, .inl g1_148))] H := hP
                have hD : va_D A [(u0, .inr (8, [.ref (q 2), .int (nI kn)])), (q 2, .inr (6, [.ref (q 0), .int (nI xa2_140), .int xv2_141, .int (nI (xo + 1)), .int xt2_142, .int (nI xz2_143), .int xf2_144, .int xp2_145])), (q 0, .inr (10, [.ref (q 20), .int (nI tl)])), (q 20, .inl (cI, 1600, .inl (fun j => nI (tb j)))), (h0, .inr (0, [.ref k1, .ref k2, .ref k3, .ref k4, .int (nI c2_146), .int (nI w2_147)])), (k1, .inl (cI, 1600, .inl g1_148))] := hD
                have hL_154 := lenS_ap (len_part (tb := tb) (n := tl) (kind := kn) (dd - 1)) hL_138
                refine lv_aload_n hx hb dX8_readPart_152 rfl (lv_at hl 2 rfl) ?_
                refine lv_sipush (v := 20000) hx hb dX8_readPart_153 (by decide) ?_
                refine sk_Vv (q0 := 0) (n := 1) (rest := []) (wr := [(u0, .inr (8, [.ref (q 2), .int (nI kn)])), (q 2, .inr (6, [.ref (q 0), .int (nI xa2_140), .int xv2_141, .int (nI (xo + 1)), .int xt2_142, .int (nI xz2_143), .int xf2_144, .int xp2_145])), (q 0, .inr (10, [.ref (q 20), .int (nI tl)])), (q 20, .inl (cI, 1600, .inl (fun j => nI (tb j))))]) ⟨hx, hb, hml, hown, hts⟩ hl.1 (c_eCode_addX l D cI cJ cC cZ cS h0 k1 k2 k3 k4 c2_146 w2_147 g1_148 20000 (bindR (bd og (opF tb tl 272 xo)) (apF (rdPart tb tl kn (dd - 1)))) 60 (by omega) (by omega) (by decide) (by omega) (hO2_153).2 (rm_S hO2_153 htl hL_154)) w_3_97 w_3_98 w_3_99 w_1_8 w_3_100 (by decide +kernel) ⟨⟨(by dsimp only; omega), (by dsimp only; omega)⟩, (by dsimp only; omega), (by dsimp only; omega)⟩ hK hP hD hS hA [4, 5] [0, 1, 2, 3] rfl rfl (by decide +kernel) (by decide +kernel) (by decide +kernel) rfl rfl rfl rfl (Nat.le_of_ble_eq_true rfl) dX8_readPart_156 (fun u H locs hw hP hD hS => ?_)
                obtain ⟨c2_155, w2_156, g1_157, hc2_158, hw2_159, hO2_160, rfl⟩ := hw
                have hP : va_P D vwCl [(u0, .inr (8, [.ref (q 2), .int (nI kn)])), (q 2, .inr (6, [.ref (q 0), .int (nI xa2_140), .int xv2_141, .int (nI (xo + 1)), .int xt2_142, .int (nI xz2_143), .int xf2_144, .int xp2_145])), (q 0, .inr (10, [.ref (q 20), .int (nI tl)])), (q 20, .inl (cI, 1600, .inl (fun j => nI (tb j)))), (h0, .inr (0, [.ref k1, .ref k2, .ref k3, .ref k4, .int (nI c2_155), .int (nI w2_156)])), (k1, .inl (cI, 1600, .inl g1_157))] H := hP
                have hD : va_D A [(u0, .inr (8, [.ref (q 2), .int (nI kn)])), (q 2, .inr (6, [.ref (q 0), .int (nI xa2_140), .int xv2_141, .int (nI (xo + 1)), .int xt2_142, .int (nI xz2_143), .int xf2_144, .int xp2_145])), (q 0, .inr (10, [.ref (q 20), .int (nI tl)])), (q 20, .inl (cI, 1600, .inl (fun j => nI (tb j)))), (h0, .inr (0, [.ref k1, .ref k2, .ref k3, .ref k4, .int (nI c2_155), .int (nI w2_156)])), (k1, .inl (cI, 1600, .inl g1_157))] := hD
                have hO_161 := rs_ad hO2_153 hO2_160
                have hL_162 := lenO_ad (v := 60) hL_154
                refine lv_aload_n hx hb dX8_readPart_159 rfl (lv_at hl 1 rfl) ?_
                refine sk_get (v := .ref (q 2)) (C := RX8) (T := TX8) (N := 2) hx hb hts inlX8 hown hK hP 0 rfl rfl 0 (by decide) w_1_100 rfl dX8_readPart_160 ?_
                refine sk_Vv (q0 := 0) (n := 0) (rest := []) (wr := [(u0, .inr (8, [.ref (q 2), .int (nI kn)])), (q 0, .inr (10, [.ref (q 20), .int (nI tl)])), (q 20, .inl (cI, 1600, .inl (fun j => nI (tb j)))), (h0, .inr (0, [.ref k1, .ref k2, .ref k3, .ref k4, .int (nI c2_155), .int (nI w2_156)])), (k1, .inl (cI, 1600, .inl g1_157))]) ⟨hx, hb, hml, hown, hts⟩ hl.1 (c_erd_shuts l D cI cJ cC cZ cS q xa2_140 xv2_141 (xo + 1) xt2_142 xz2_143 xf2_144 xp2_145 (by omega) (by omega)) w_3_105 w_3_106 w_3_107 w_1_4 w_3_108 (by decide +kernel) ⟨⟨(by dsimp only; omega), (by dsimp only; omega)⟩, (by dsimp only; omega), (by dsimp only; omega)⟩ hK hP hD hS hA [1] [0, 2, 3, 4, 5] rfl rfl (by decide +kernel) (by decide +kernel) (by decide +kernel) rfl rfl rfl rfl (Nat.le_of_ble_eq_true rfl) dX8_readPart_163 (fun u H locs hw hP hD hS => ?_)
                obtain rfl := hw
                have hP : va_P D vwCl [(u0, .inr (8, [.ref (q 2), .int (nI kn)])), (q 0, .inr (10, [.ref (q 20), .int (nI tl)])), (q 20, .inl (cI, 1600, .inl (fun j => nI (tb j)))), (h0, .inr (0, [.ref k1, .ref k2, .ref k3, .ref k4, .int (nI c2_155), .int (nI w2_156)])), (k1, .inl (cI, 1600, .inl g1_157)), (q 2, .inr (6, [.ref (q 0), .int (nI xa2_140), .int xv2_141, .int (nI ((xo + 1) - 1)), .int xt2_142, .int (nI xz2_143), .int xf2_144, .int xp2_145]))] H := hP
                have hD : va_D A [(u0, .inr (8, [.ref (q 2), .int (nI kn)])), (q 0, .inr (10, [.ref (q 20), .int (nI tl)])), (q 20, .inl (cI, 1600, .inl (fun j => nI (tb j)))), (h0, .inr (0, [.ref k1, .ref k2, .ref k3, .ref k4, .int (nI c2_155), .int (nI w2_156)])), (k1, .inl (cI, 1600, .inl g1_157)), (q 2, .inr (6, [.ref (q 0), .int (nI xa2_140), .int xv2_141, .int (nI ((xo + 1) - 1)), .int xt2_142, .int (nI xz2_143), .int xf2_144, .int xp2_145]))] := hD
                refine lv_goto (tgt := 217) hx hb dX8_readPart_166 (by decide) ?_
                have hP := hP.sub (ws' := [(u0, .inr (8, [.ref (q 2), .int (nI kn)])), (q 2, .inr (6, [.ref (q 0), .int (nI xa2_140), .int xv2_141, .int (nI ((xo + 1) - 1)), .int xt2_142, .int (nI xz2_143), .int xf2_144, .int xp2_145])), (q 0, .inr (10, [.ref (q 20), .int (nI tl)])), (q 20, .inl (cI, 1600, .inl (fun j => nI (tb j)))), (h0, .inr (0, [.ref k1, .ref k2, .ref k3, .ref k4, .int (nI c2_155), .int (nI w2_156)])), (k1, .inl (cI, 1600, .inl g1_157))]) [0, 5, 1, 2, 3, 4] rfl
                have hD := hD.sub (ws' := [(u0, .inr (8, [.ref (q 2), .int (nI kn)])), (q 2, .inr (6, [.ref (q 0), .int (nI xa2_140), .int xv2_141, .int (nI ((xo + 1) - 1)), .int xt2_142, .int (nI xz2_143), .int xf2_144, .int xp2_145])), (q 0, .inr (10, [.ref (q 20), .int (nI tl)])), (q 20, .inl (cI, 1600, .inl (fun j => nI (tb j)))), (h0, .inr (0, [.ref k1, .ref k2, .ref k3, .ref k4, .int (nI c2_155), .int (nI w2_156)])), (k1, .inl (cI, 1600, .inl g1_157))]) [0, 5, 1, 2, 3, 4] (by decide +kernel) rfl
                exact sk_vret hx hb hr hlocks hK hP hD hS (⟨xa2_140, xv2_141, xt2_142, xz2_143, xf2_144, xp2_145, c2_155, w2_156, g1_157, by omega, by omega, by omega, by omega, by (have hk2 : kn = 2 := by omega); subst hk2; rw [← p_weeks (xo := xo) htb hO c_29 (by omega) (by omega)]; exact hO_161, rfl⟩) (Nat.le_of_ble_eq_true rfl) (Nat.le_of_ble_eq_true rfl) dX8_readPart_217
        · skip
          refine lv_aload_n hx hb dX8_readPart_88 rfl (lv_at hl 1 rfl) ?_
          refine sk_get (v := .ref (q 2)) (C := RX8) (T := TX8) (N := 2) hx hb hts inlX8 hown hK hP 0 rfl rfl 0 (by decide) w_1_100 rfl dX8_readPart_89 ?_
          refine sk_VvZ (q0 := 0) (n := 0) (rest := []) (wr := [(u0, .inr (8, [.ref (q 2), .int (nI kn)])), (h0, .inr (0, [.ref k1, .ref k2, .ref k3, .ref k4, .int (nI cl), .int (nI mw)])), (k1, .inl (cI, 1600, .inl f1))]) ⟨hx, hb, hml, hown, hts⟩ hl.1 (c_erd_step l D cI cJ cC cZ cS zk zv zf q xa xv xo xt xz xf xp tl tb (bindR (rc og) (beF tb tl)) (by omega) (by omega) (by omega) htb (rd_st htb (hO).1 ⟨by rw [c_28]; decide, by rw [c_28]; decide⟩)) w_3_110 w_2_226 w_2_227 w_1_4 w_2_228 (by decide +kernel) ⟨⟨(by dsimp only; omega), (by dsimp only; omega)⟩, (by dsimp only; omega), (by dsimp only; omega)⟩ hK hP hD hS hZ hA [1, 2, 3] [0, 4, 5] rfl rfl (by decide +kernel) (by decide +kernel) (by decide +kernel) rfl rfl rfl rfl (Nat.le_of_ble_eq_true rfl) dX8_readPart_92 (fun u H locs hw hP hD hS => ?_)
          obtain ⟨xa2_163, xv2_164, xt2_165, xz2_166, hxa2_167, hxz2_168, hO2_169, rfl⟩ := hw
          have hP : va_P D vwCl [(u0, .inr (8, [.ref (q 2), .int (nI kn)])), (h0, .inr (0, [.ref k1, .ref k2, .ref k3, .ref k4, .int (nI cl), .int (nI mw)])), (k1, .inl (cI, 1600, .inl f1)), (q 2, .inr (6, [.ref (q 0), .int (nI xa2_163), .int xv2_164, .int (nI xo), .int xt2_165, .int (nI xz2_166), .int xf, .int xp])), (q 0, .inr (10, [.ref (q 20), .int (nI tl)])), (q 20, .inl (cI, 1600, .inl (fun j => nI (tb j))))] H := hP
          have hD : va_D A [(u0, .inr (8, [.ref (q 2), .int (nI kn)])), (h0, .inr (0, [.ref k1, .ref k2, .ref k3, .ref k4, .int (nI cl), .int (nI mw)])), (k1, .inl (cI, 1600, .inl f1)), (q 2, .inr (6, [.ref (q 0), .int (nI xa2_163), .int xv2_164, .int (nI xo), .int xt2_165, .int (nI xz2_166), .int xf, .int xp])), (q 0, .inr (10, [.ref (q 20), .int (nI tl)])), (q 20, .inl (cI, 1600, .inl (fun j => nI (tb j))))] := hD
          rw [stF_nx] at hO2_169
          have hO_170 := rs_bd hO hO2_169
          have hL_171 := lenS_nx htb hO ⟨by rw [c_28]; decide, by rw [c_28]; decide⟩ hlen
          refine lv_aload_n hx hb dX8_readPart_95 rfl (lv_at hl 1 rfl) ?_
          refine lv_aload_n hx hb dX8_readPart_96 rfl (lv_at hl 2 rfl) ?_
          refine lv_iload_n hx hb dX8_readPart_97 rfl (lv_at hl 0 rfl) ?_
          refine lv_sipush (v := 277) hx hb dX8_readPart_98 (by decide) ?_
          refine lv_icmp_ne (tgt := 110) hx hb dX8_readPart_101 (by decide) (fun c_172 => ?_) (fun c => absurd c c_3)
          refine lv_sipush (v := 30005) hx hb dX8_readPart_110 (by decide) ?_
          refine sk_VvZ (q0 := 0) (n := 2) (rest := []) (wr := []) ⟨hx, hb, hml, hown, hts⟩ hl.1 (hq q u0 kn xa2_163 xv2_164 xo xt2_165 xz2_166 xf xp tl tb h0 k1 k2 k3 k4 cl mw f1 (bd og (nxF tb tl)) 30005 6 (by omega) (by omega) (by omega) htb (by omega) (by omega) (by omega) (by omega) hO_170 (lenO_S hL_171) (by decide) (by omega)) w_3_111 w_3_113 w_0_9 w_1_6 w_3_114 (by decide +kernel) ⟨⟨(by dsimp only; omega), (by dsimp only; omega)⟩, (by dsimp only; omega), (by dsimp only; omega)⟩ hK hP hD hS hZ hA [0, 3, 4, 5, 1, 2] [] rfl rfl (by decide +kernel) (by decide +kernel) (by decide +kernel) rfl rfl rfl rfl (Nat.le_of_ble_eq_true rfl) dX8_readPart_113 (fun u H locs hw hP hD hS => ?_)
          obtain ⟨xa2_173, xv2_174, xt2_175, xz2_176, xf2_177, xp2_178, c2_179, w2_180, g1_181, hxa2_182, hxz2_183, hc2_184, hw2_185, hO2_186, rfl⟩ := hw
          have hP : va_P D vwCl [(u0, .inr (8, [.ref (q 2), .int (nI kn)])), (q 2, .inr (6, [.ref (q 0), .int (nI xa2_173), .int xv2_174, .int (nI xo), .int xt2_175, .int (nI xz2_176), .int xf2_177, .int xp2_178])), (q 0, .inr (10, [.ref (q 20), .int (nI tl)])), (q 20, .inl (cI, 1600, .inl (fun j => nI (tb j)))), (h0, .inr (0, [.ref k1, .ref k2, .ref k3, .ref k4, .int (nI c2_179), .int (nI w2_180)])), (k1, .inl (cI, 1600, .inl g1_181))] H := hP
          have hD : va_D A [(u0, .inr (8, [.ref (q 2), .int (nI kn)])), (q 2, .inr (6, [.ref (q 0), .int (nI xa2_173), .int xv2_174, .int (nI xo), .int xt2_175, .int (nI xz2_176), .int xf2_177, .int xp2_178])), (q 0, .inr (10, [.ref (q 20), .int (nI tl)])), (q 20, .inl (cI, 1600, .inl (fun j => nI (tb j)))), (h0, .inr (0, [.ref k1, .ref k2, .ref k3, .ref k4, .int (nI c2_179), .int (nI w2_180)])), (k1, .inl (cI, 1600, .inl g1_181))] := hD
          refine lv_goto (tgt := 217) hx hb dX8_readPart_116 (by decide) ?_
          exact sk_vret hx hb hr hlocks hK hP hD hS (⟨xa2_173, xv2_174, xt2_175, xz2_176, xf2_177, xp2_178, c2_179, w2_180, g1_181, by omega, by omega, by omega, by omega, by rw [← p_mm (v := 6) htb hO (Or.inr ⟨c_28, rfl⟩)]; exact hO2_186, rfl⟩) (Nat.le_of_ble_eq_true rfl) (Nat.le_of_ble_eq_true rfl) dX8_readPart_217
    · skip
      refine lv_aload_n hx hb dX8_readPart_38 rfl (lv_at hl 1 rfl) ?_
      refine sk_get (v := .ref (q 2)) (C := RX8) (T := TX8) (N := 2) hx hb hts inlX8 hown hK hP 0 rfl rfl 0 (by decide) w_1_100 rfl dX8_readPart_39 ?_
      refine lv_bipush (v := 40) hx hb dX8_readPart_42 (by decide) ?_
      refine sk_ViZ (q0 := 0) (n := 1) (rest := []) (wr := [(u0, .inr (8, [.ref (q 2), .int (nI kn)])), (h0, .inr (0, [.ref k1, .ref k2, .ref k3, .ref k4, .int (nI cl), .int (nI mw)])), (k1, .inl (cI, 1600, .inl f1))]) ⟨hx, hb, hml, hown, hts⟩ hl.1 (c_erd_opens l D cI cJ cC cZ cS zk zv zf q xa xv xo xt xz xf xp tl tb 40 (rc og) (by omega) (by omega) (by omega) htb (by decide) (by omega) (hO).1) w_3_101 w_3_102 w_3_103 w_1_4 w_3_104 (by decide +kernel) ⟨⟨(by dsimp only; omega), (by dsimp only; omega)⟩, (by dsimp only; omega), (by dsimp only; omega)⟩ hK hP hD hS hZ hA [1, 2, 3] [0, 4, 5] rfl rfl (by decide +kernel) (by decide +kernel) (by decide +kernel) rfl rfl rfl rfl (Nat.le_of_ble_eq_true rfl) dX8_readPart_44 (fun r_194 u H locs hw hP hD hS => ?_)
      obtain ⟨xa2_187, xv2_188, xt2_189, xz2_190, xf2_191, xp2_192, b_193, hxa2_195, hxz2_196, hb1_197, hO2_198, rfl, rfl⟩ := hw
      have hP : va_P D vwCl [(u0, .inr (8, [.ref (q 2), .int (nI kn)])), (h0, .inr (0, [.ref k1, .ref k2, .ref k3, .ref k4, .int (nI cl), .int (nI mw)])), (k1, .inl (cI, 1600, .inl f1)), (q 2, .inr (6, [.ref (q 0), .int (nI xa2_187), .int xv2_188, .int (nI (xo + b_193)), .int xt2_189, .int (nI xz2_190), .int xf2_191, .int xp2_192])), (q 0, .inr (10, [.ref (q 20), .int (nI tl)])), (q 20, .inl (cI, 1600, .inl (fun j => nI (tb j))))] H := hP
      have hD : va_D A [(u0, .inr (8, [.ref (q 2), .int (nI kn)])), (h0, .inr (0, [.ref k1, .ref k2, .ref k3, .ref k4, .int (nI cl), .int (nI mw)])), (k1, .inl (cI, 1600, .inl f1)), (q 2, .inr (6, [.ref (q 0), .int (nI xa2_187), .int xv2_188, .int (nI (xo + b_193)), .int xt2_189, .int (nI xz2_190), .int xf2_191, .int xp2_192])), (q 0, .inr (10, [.ref (q 20), .int (nI tl)])), (q 20, .inl (cI, 1600, .inl (fun j => nI (tb j))))] := hD
      have hO_199 := rs_bd hO hO2_198
      have hL_200 := lenS_op (n := tl) (w := 40) (xo := xo) htb (by decide) hlen
      refine lv_if_eq (tgt := 217) hx hb dX8_readPart_47 (by decide) (fun c_201 => ?_) (fun c_201 => ?_)
      · have c_201 : b_193 = 0 := (neq b_193 0 (by omega) (by omega)).mp c_201
        obtain rfl : b_193 = 0 := by omega
        have hP := hP.sub (ws' := [(u0, .inr (8, [.ref (q 2), .int (nI kn)])), (q 2, .inr (6, [.ref (q 0), .int (nI xa2_187), .int xv2_188, .int (nI (xo + 0)), .int xt2_189, .int (nI xz2_190), .int xf2_191, .int xp2_192])), (q 0, .inr (10, [.ref (q 20), .int (nI tl)])), (q 20, .inl (cI, 1600, .inl (fun j => nI (tb j)))), (h0, .inr (0, [.ref k1, .ref k2, .ref k3, .ref k4, .int (nI cl), .int (nI mw)])), (k1, .inl (cI, 1600, .inl f1))]) [0, 3, 4, 5, 1, 2] rfl
        have hD := hD.sub (ws' := [(u0, .inr (8, [.ref (q 2), .int (nI kn)])), (q 2, .inr (6, [.ref (q 0), .int (nI xa2_187), .int xv2_188, .int (nI (xo + 0)), .int xt2_189, .int (nI xz2_190), .int xf2_191, .int xp2_192])), (q 0, .inr (10, [.ref (q 20), .int (nI tl)])), (q 20, .inl (cI, 1600, .inl (fun j => nI (tb j)))), (h0, .inr (0, [.ref k1, .ref k2, .ref k3, .ref k4, .int (nI cl), .int (nI mw)])), (k1, .inl (cI, 1600, .inl f1))]) [0, 3, 4, 5, 1, 2] (by decide +kernel) rfl
        exact sk_vret hx hb hr hlocks hK hP hD hS (⟨xa2_187, xv2_188, xt2_189, xz2_190, xf2_191, xp2_192, cl, mw, f1, by omega, by omega, by omega, by omega, by rw [← p_round0 (xo := xo) htb hO c_2 (rr_0 hb1_197 (by omega) c_2) (by have := rr_0 hb1_197 (by omega) c_2; omega)]; exact hO_199, rfl⟩) (Nat.le_of_ble_eq_true rfl) (Nat.le_of_ble_eq_true rfl) dX8_readPart_217
      · have c_201 : ¬ (b_193 = 0) := fun h => c_201 ((neq b_193 0 (by omega) (by omega)).mpr h)
        have hxo1 := (rr_1 hb1_197 (by omega)).1
        obtain rfl : b_193 = 1 := by omega
        refine lv_aload_n hx hb dX8_readPart_50 rfl (lv_at hl 1 rfl) ?_
        refine lv_aload_n hx hb dX8_readPart_51 rfl (lv_at hl 2 rfl) ?_
        refine sk_VvZ (q0 := 0) (n := 1) (rest := []) (wr := []) ⟨hx, hb, hml, hown, hts⟩ hl.1 (hs (dd - 1) (by omega) q u0 kn xa2_187 xv2_188 (xo + 1) xt2_189 xz2_190 xf2_191 xp2_192 tl tb h0 k1 k2 k3 k4 cl mw f1 (bd og (opF tb tl 40 xo)) (by omega) (by omega) (by omega) htb (by omega) (by omega) (by omega) (by omega) hO_199 (lenO_S hL_200)) w_3_84 w_3_86 w_0_6 w_1_6 w_3_87 (by decide +kernel) ⟨⟨(by dsimp only; omega), (by dsimp only; omega)⟩, (by dsimp only; omega), (by dsimp only; omega)⟩ hK hP hD hS hZ hA [0, 3, 4, 5, 1, 2] [] rfl rfl (by decide +kernel) (by decide +kernel) (by decide +kernel) rfl rfl rfl rfl (Nat.le_of_ble_eq_true rfl) dX8_readPart_52 (fun u H locs hw hP hD hS => ?_)
        obtain ⟨xa2_202, xv2_203, xt2_204, xz2_205, xf2_206, xp2_207, c2_208, w2_209, g1_210, hxa2_211, hxz2_212, hc2_213, hw2_214, hO2_215, rfl⟩ := hw
        have hP : va_P D vwCl [(u0, .inr (8, [.ref (q 2), .int (nI kn)])), (q 2, .inr (6, [.ref (q 0), .int (nI xa2_202), .int xv2_203, .int (nI (xo + 1)), .int xt2_204, .int (nI xz2_205), .int xf2_206, .int xp2_207])), (q 0, .inr (10, [.ref (q 20), .int (nI tl)])), (q 20, .inl (cI, 1600, .inl (fun j => nI (tb j)))), (h0, .inr (0, [.ref k1, .ref k2, .ref k3, .ref k4, .int (nI c2_208), .int (nI w2_209)])), (k1, .inl (cI, 1600, .inl g1_210))] H := hP
        have hD : va_D A [(u0, .inr (8, [.ref (q 2), .int (nI kn)])), (q 2, .inr (6, [.ref (q 0), .int (nI xa2_202), .int xv2_203, .int (nI (xo + 1)), .int xt2_204, .int (nI xz2_205), .int xf2_206, .int xp2_207])), (q 0, .inr (10, [.ref (q 20), .int (nI tl)])), (q 20, .inl (cI, 1600, .inl (fun j => nI (tb j)))), (h0, .inr (0, [.ref k1, .ref k2, .ref k3, .ref k4, .int (nI c2_208), .int (nI w2_209)])), (k1, .inl (cI, 1600, .inl g1_210))] := hD
        have hL_216 := lenS_ap (len_sum (tb := tb) (n := tl) (len_part (tb := tb) (n := tl) (kind := kn) (dd - 1))) hL_200
        refine lv_aload_n hx hb dX8_readPart_55 rfl (lv_at hl 1 rfl) ?_
        refine sk_get (v := .ref (q 2)) (C := RX8) (T := TX8) (N := 2) hx hb hts inlX8 hown hK hP 0 rfl rfl 0 (by decide) w_1_100 rfl dX8_readPart_56 ?_
        refine sk_Vv (q0 := 0) (n := 0) (rest := []) (wr := [(u0, .inr (8, [.ref (q 2), .int (nI kn)])), (q 0, .inr (10, [.ref (q 20), .int (nI tl)])), (q 20, .inl (cI, 1600, .inl (fun j => nI (tb j)))), (h0, .inr (0, [.ref k1, .ref k2, .ref k3, .ref k4, .int (nI c2_208), .int (nI w2_209)])), (k1, .inl (cI, 1600, .inl g1_210))]) ⟨hx, hb, hml, hown, hts⟩ hl.1 (c_erd_shuts l D cI cJ cC cZ cS q xa2_202 xv2_203 (xo + 1) xt2_204 xz2_205 xf2_206 xp2_207 (by omega) (by omega)) w_3_105 w_3_106 w_3_107 w_1_4 w_3_108 (by decide +kernel) ⟨⟨(by dsimp only; omega), (by dsimp only; omega)⟩, (by dsimp only; omega), (by dsimp only; omega)⟩ hK hP hD hS hA [1] [0, 2, 3, 4, 5] rfl rfl (by decide +kernel) (by decide +kernel) (by decide +kernel) rfl rfl rfl rfl (Nat.le_of_ble_eq_true rfl) dX8_readPart_59 (fun u H locs hw hP hD hS => ?_)
        obtain rfl := hw
        have hP : va_P D vwCl [(u0, .inr (8, [.ref (q 2), .int (nI kn)])), (q 0, .inr (10, [.ref (q 20), .int (nI tl)])), (q 20, .inl (cI, 1600, .inl (fun j => nI (tb j)))), (h0, .inr (0, [.ref k1, .ref k2, .ref k3, .ref k4, .int (nI c2_208), .int (nI w2_209)])), (k1, .inl (cI, 1600, .inl g1_210)), (q 2, .inr (6, [.ref (q 0), .int (nI xa2_202), .int xv2_203, .int (nI ((xo + 1) - 1)), .int xt2_204, .int (nI xz2_205), .int xf2_206, .int xp2_207]))] H := hP
        have hD : va_D A [(u0, .inr (8, [.ref (q 2), .int (nI kn)])), (q 0, .inr (10, [.ref (q 20), .int (nI tl)])), (q 20, .inl (cI, 1600, .inl (fun j => nI (tb j)))), (h0, .inr (0, [.ref k1, .ref k2, .ref k3, .ref k4, .int (nI c2_208), .int (nI w2_209)])), (k1, .inl (cI, 1600, .inl g1_210)), (q 2, .inr (6, [.ref (q 0), .int (nI xa2_202), .int xv2_203, .int (nI ((xo + 1) - 1)), .int xt2_204, .int (nI xz2_205), .int xf2_206, .int xp2_207]))] := hD
        refine lv_aload_n hx hb dX8_readPart_62 rfl (lv_at hl 1 rfl) ?_
        refine sk_get (v := .ref (q 2)) (C := RX8) (T := TX8) (N := 2) hx hb hts inlX8 hown hK hP 0 rfl rfl 0 (by decide) w_1_100 rfl dX8_readPart_63 ?_
        refine lv_bipush (v := 41) hx hb dX8_readPart_66 (by decide) ?_
        refine sk_VvZ (q0 := 0) (n := 1) (rest := []) (wr := [(u0, .inr (8, [.ref (q 2), .int (nI kn)])), (h0, .inr (0, [.ref k1, .ref k2, .ref k3, .ref k4, .int (nI c2_208), .int (nI w2_209)])), (k1, .inl (cI, 1600, .inl g1_210))]) ⟨hx, hb, hml, hown, hts⟩ hl.1 (c_erd_needs l D cI cJ cC cZ cS zk zv zf q xa2_202 xv2_203 ((xo + 1) - 1) xt2_204 xz2_205 xf2_206 xp2_207 tl tb 41 (rc (bindR (bd og (opF tb tl 40 xo)) (apF (sumOf tb tl (rdPart tb tl kn (dd - 1)))))) (by omega) (by omega) (by omega) htb (by decide) (hO2_215).1) w_3_109 w_3_51 w_3_52 w_1_4 w_3_53 (by decide +kernel) ⟨⟨(by dsimp only; omega), (by dsimp only; omega)⟩, (by dsimp only; omega), (by dsimp only; omega)⟩ hK hP hD hS hZ hA [5, 1, 2] [0, 3, 4] rfl rfl (by decide +kernel) (by decide +kernel) (by decide +kernel) rfl rfl rfl rfl (Nat.le_of_ble_eq_true rfl) dX8_readPart_68 (fun u H locs hw hP hD hS => ?_)
        obtain ⟨xa2_217, xv2_218, xt2_219, xz2_220, xf2_221, xp2_222, hxa2_223, hxz2_224, hO2_225, rfl⟩ := hw
        have hP : va_P D vwCl [(u0, .inr (8, [.ref (q 2), .int (nI kn)])), (h0, .inr (0, [.ref k1, .ref k2, .ref k3, .ref k4, .int (nI c2_208), .int (nI w2_209)])), (k1, .inl (cI, 1600, .inl g1_210)), (q 2, .inr (6, [.ref (q 0), .int (nI xa2_217), .int xv2_218, .int (nI ((xo + 1) - 1)), .int xt2_219, .int (nI xz2_220), .int xf2_221, .int xp2_222])), (q 0, .inr (10, [.ref (q 20), .int (nI tl)])), (q 20, .inl (cI, 1600, .inl (fun j => nI (tb j))))] H := hP
        have hD : va_D A [(u0, .inr (8, [.ref (q 2), .int (nI kn)])), (h0, .inr (0, [.ref k1, .ref k2, .ref k3, .ref k4, .int (nI c2_208), .int (nI w2_209)])), (k1, .inl (cI, 1600, .inl g1_210)), (q 2, .inr (6, [.ref (q 0), .int (nI xa2_217), .int xv2_218, .int (nI ((xo + 1) - 1)), .int xt2_219, .int (nI xz2_220), .int xf2_221, .int xp2_222])), (q 0, .inr (10, [.ref (q 20), .int (nI tl)])), (q 20, .inl (cI, 1600, .inl (fun j => nI (tb j))))] := hD
        have hO_226 := rs_bd hO2_215 hO2_225
        have hL_227 := lenS_bd (fwd_tk (tb := tb) (n := tl) (w := 41)) hL_216
        refine lv_goto (tgt := 217) hx hb dX8_readPart_71 (by decide) ?_
        have hP := hP.sub (ws' := [(u0, .inr (8, [.ref (q 2), .int (nI kn)])), (q 2, .inr (6, [.ref (q 0), .int (nI xa2_217), .int xv2_218, .int (nI ((xo + 1) - 1)), .int xt2_219, .int (nI xz2_220), .int xf2_221, .int xp2_222])), (q 0, .inr (10, [.ref (q 20), .int (nI tl)])), (q 20, .inl (cI, 1600, .inl (fun j => nI (tb j)))), (h0, .inr (0, [.ref k1, .ref k2, .ref k3, .ref k4, .int (nI c2_208), .int (nI w2_209)])), (k1, .inl (cI, 1600, .inl g1_210))]) [0, 3, 4, 5, 1, 2] rfl
        have hD := hD.sub (ws' := [(u0, .inr (8, [.ref (q 2), .int (nI kn)])), (q 2, .inr (6, [.ref (q 0), .int (nI xa2_217), .int xv2_218, .int (nI ((xo + 1) - 1)), .int xt2_219, .int (nI xz2_220), .int xf2_221, .int xp2_222])), (q 0, .inr (10, [.ref (q 20), .int (nI tl)])), (q 20, .inl (cI, 1600, .inl (fun j => nI (tb j)))), (h0, .inr (0, [.ref k1, .ref k2, .ref k3, .ref k4, .int (nI c2_208), .int (nI w2_209)])), (k1, .inl (cI, 1600, .inl g1_210))]) [0, 3, 4, 5, 1, 2] (by decide +kernel) rfl
        exact sk_vret hx hb hr hlocks hK hP hD hS (⟨xa2_217, xv2_218, xt2_219, xz2_220, xf2_221, xp2_222, c2_208, w2_209, g1_210, by omega, by omega, by omega, by omega, by rw [← p_round (xo := xo) htb hO c_2 (by omega) (by omega)]; exact hO_226, rfl⟩) (Nat.le_of_ble_eq_true rfl) (Nat.le_of_ble_eq_true rfl) dX8_readPart_217
  · skip
    refine lv_aload_n hx hb dX8_readPart_14 rfl (lv_at hl 2 rfl) ?_
    refine lv_aload_n hx hb dX8_readPart_15 rfl (lv_at hl 1 rfl) ?_
    refine sk_get (v := .ref (q 2)) (C := RX8) (T := TX8) (N := 2) hx hb hts inlX8 hown hK hP 0 rfl rfl 0 (by decide) w_1_100 rfl dX8_readPart_16 ?_
    refine lv_iconst (v := 0) hx hb dX8_readPart_19 (by decide) ?_
    refine lv_sipush (v := 9999) hx hb dX8_readPart_20 (by decide) ?_
    refine sk_ViZ (q0 := 0) (n := 2) (rest := [.ref h0]) (wr := [(u0, .inr (8, [.ref (q 2), .int (nI kn)])), (h0, .inr (0, [.ref k1, .ref k2, .ref k3, .ref k4, .int (nI cl), .int (nI mw)])), (k1, .inl (cI, 1600, .inl f1))]) ⟨hx, hb, hml, hown, hts⟩ hl.1 (c_erd_takeNumber l D cI cJ cC cZ cS zk zv zf q xa xv xo xt xz xf xp tl tb 0 9999 (rc og) (by omega) (by omega) (by omega) htb (by omega) (by omega) (hO).1) w_3_96 w_3_63 w_3_64 w_1_4 w_3_65 (by decide +kernel) ⟨⟨(by dsimp only; omega), (by dsimp only; omega)⟩, (by dsimp only; omega), (by dsimp only; omega)⟩ hK hP hD hS hZ hA [1, 2, 3] [0, 4, 5] rfl rfl (by decide +kernel) (by decide +kernel) (by decide +kernel) rfl rfl rfl rfl (Nat.le_of_ble_eq_true rfl) dX8_readPart_23 (fun r_235 u H locs hw hP hD hS => ?_)
    obtain ⟨xa2_228, xv2_229, xt2_230, xz2_231, xf2_232, xp2_233, v_234, hxa2_236, hxz2_237, hv1_238, hv2_239, hnv_240, hO2_241, rfl, rfl⟩ := hw
    have hP : va_P D vwCl [(u0, .inr (8, [.ref (q 2), .int (nI kn)])), (h0, .inr (0, [.ref k1, .ref k2, .ref k3, .ref k4, .int (nI cl), .int (nI mw)])), (k1, .inl (cI, 1600, .inl f1)), (q 2, .inr (6, [.ref (q 0), .int (nI xa2_228), .int xv2_229, .int (nI xo), .int xt2_230, .int (nI xz2_231), .int xf2_232, .int xp2_233])), (q 0, .inr (10, [.ref (q 20), .int (nI tl)])), (q 20, .inl (cI, 1600, .inl (fun j => nI (tb j))))] H := hP
    have hD : va_D A [(u0, .inr (8, [.ref (q 2), .int (nI kn)])), (h0, .inr (0, [.ref k1, .ref k2, .ref k3, .ref k4, .int (nI cl), .int (nI mw)])), (k1, .inl (cI, 1600, .inl f1)), (q 2, .inr (6, [.ref (q 0), .int (nI xa2_228), .int xv2_229, .int (nI xo), .int xt2_230, .int (nI xz2_231), .int xf2_232, .int xp2_233])), (q 0, .inr (10, [.ref (q 20), .int (nI tl)])), (q 20, .inl (cI, 1600, .inl (fun j => nI (tb j))))] := hD
    have hO_242 := rs_bd hO hO2_241
    have hL_243 := lenS_nm (tb := tb) (n := tl) (lo := 0) (hi := 9999) hlen
    refine sk_Vv (q0 := 0) (n := 1) (rest := []) (wr := [(u0, .inr (8, [.ref (q 2), .int (nI kn)])), (q 2, .inr (6, [.ref (q 0), .int (nI xa2_228), .int xv2_229, .int (nI xo), .int xt2_230, .int (nI xz2_231), .int xf2_232, .int xp2_233])), (q 0, .inr (10, [.ref (q 20), .int (nI tl)])), (q 20, .inl (cI, 1600, .inl (fun j => nI (tb j))))]) ⟨hx, hb, hml, hown, hts⟩ hl.1 (c_eCode_addX l D cI cJ cC cZ cS h0 k1 k2 k3 k4 cl mw f1 (nI v_234) (bd og (nmF tb tl 0 9999)) (1000 + v_234) (by omega) (by omega) (cm_num v_234) (by omega) (hO_242).2 (rm_S hO_242 htl hL_243)) w_3_97 w_3_98 w_3_99 w_1_8 w_3_100 (by decide +kernel) ⟨⟨(by dsimp only; omega), (by dsimp only; omega)⟩, (by dsimp only; omega), (by dsimp only; omega)⟩ hK hP hD hS hA [1, 2] [0, 3, 4, 5] rfl rfl (by decide +kernel) (by decide +kernel) (by decide +kernel) rfl rfl rfl rfl (Nat.le_of_ble_eq_true rfl) dX8_readPart_26 (fun u H locs hw hP hD hS => ?_)
    obtain ⟨c2_244, w2_245, g1_246, hc2_247, hw2_248, hO2_249, rfl⟩ := hw
    have hP : va_P D vwCl [(u0, .inr (8, [.ref (q 2), .int (nI kn)])), (q 2, .inr (6, [.ref (q 0), .int (nI xa2_228), .int xv2_229, .int (nI xo), .int xt2_230, .int (nI xz2_231), .int xf2_232, .int xp2_233])), (q 0, .inr (10, [.ref (q 20), .int (nI tl)])), (q 20, .inl (cI, 1600, .inl (fun j => nI (tb j)))), (h0, .inr (0, [.ref k1, .ref k2, .ref k3, .ref k4, .int (nI c2_244), .int (nI w2_245)])), (k1, .inl (cI, 1600, .inl g1_246))] H := hP
    have hD : va_D A [(u0, .inr (8, [.ref (q 2), .int (nI kn)])), (q 2, .inr (6, [.ref (q 0), .int (nI xa2_228), .int xv2_229, .int (nI xo), .int xt2_230, .int (nI xz2_231), .int xf2_232, .int xp2_233])), (q 0, .inr (10, [.ref (q 20), .int (nI tl)])), (q 20, .inl (cI, 1600, .inl (fun j => nI (tb j)))), (h0, .inr (0, [.ref k1, .ref k2, .ref k3, .ref k4, .int (nI c2_244), .int (nI w2_245)])), (k1, .inl (cI, 1600, .inl g1_246))] := hD
    have hO_250 := rs_ad hO_242 hO2_249
    have hL_251 := lenO_ad (v := 1000 + v_234) hL_243
    refine lv_goto (tgt := 217) hx hb dX8_readPart_29 (by decide) ?_
    exact sk_vret hx hb hr hlocks hK hP hD hS (⟨xa2_228, xv2_229, xt2_230, xz2_231, xf2_232, xp2_233, c2_244, w2_245, g1_246, by omega, by omega, by omega, by omega, by rw [← p_num (v := v_234) htb hO c_1 hnv_240]; exact hO_250, rfl⟩) (Nat.le_of_ble_eq_true rfl) (Nat.le_of_ble_eq_true rfl) dX8_readPart_217
set_option maxHeartbeats 4000000 in
set_option maxRecDepth 100000 in
theorem c_ereadProduct (l : Launch) (D : va_G) (cI cJ cC cZ cS : ClassId) (zk zv : Nat) (zf : Value) (dd : Nat) (hq : CT_ereadPart l D cI cJ cC cZ cS zk zv zf dd) : CT_ereadProduct l D cI cJ cC cZ cS zk zv zf dd := by
  intro q u0 kn xa xv xo xt xz xf xp tl tb h0 k1 k2 k3 k4 cl mw f1 og hxa hxz htl htb hcl hmw hkn hdd hO hlen
  refine skMZ_of (by decide +kernel) (Nat.le_of_ble_eq_true rfl) ?_
  intro p e s m below meth c A ls E hP hD hZ hl
  obtain ⟨hx, hb, hr, hml, hlocks, hin, hown, hts, hK, hA⟩ := E
  have hown : s.vm.findClass RX8 = some m.cls := hown
  have hS : va_S A s.heap s.heap [] := va_S.rf
  have hl : lv_has ls 4 [(0, .ref u0), (1, .ref h0)] := hl
  refine lv_aload_n hx hb dX8_readProduct_0 rfl (lv_at hl 0 rfl) ?_
  refine lv_aload_n hx hb dX8_readProduct_1 rfl (lv_at hl 1 rfl) ?_
  refine sk_VvZ (q0 := 0) (n := 1) (rest := []) (wr := []) ⟨hx, hb, hml, hown, hts⟩ hl.1 (hq q u0 kn xa xv xo xt xz xf xp tl tb h0 k1 k2 k3 k4 cl mw f1 og (by omega) (by omega) (by omega) htb (by omega) (by omega) (by omega) (by omega) hO hlen) w_3_92 w_3_94 w_0_8 w_1_6 w_3_95 (by decide +kernel) ⟨⟨(by dsimp only; omega), (by dsimp only; omega)⟩, (by dsimp only; omega), (by dsimp only; omega)⟩ hK hP hD hS hZ hA [0, 1, 2, 3, 4, 5] [] rfl rfl (by decide +kernel) (by decide +kernel) (by decide +kernel) rfl rfl rfl rfl (Nat.le_of_ble_eq_true rfl) dX8_readProduct_2 (fun u H locs hw hP hD hS => ?_)
  obtain ⟨xa2_1, xv2_2, xt2_3, xz2_4, xf2_5, xp2_6, c2_7, w2_8, g1_9, hxa2_10, hxz2_11, hc2_12, hw2_13, hO2_14, rfl⟩ := hw
  have hP : va_P D vwCl [(u0, .inr (8, [.ref (q 2), .int (nI kn)])), (q 2, .inr (6, [.ref (q 0), .int (nI xa2_1), .int xv2_2, .int (nI xo), .int xt2_3, .int (nI xz2_4), .int xf2_5, .int xp2_6])), (q 0, .inr (10, [.ref (q 20), .int (nI tl)])), (q 20, .inl (cI, 1600, .inl (fun j => nI (tb j)))), (h0, .inr (0, [.ref k1, .ref k2, .ref k3, .ref k4, .int (nI c2_7), .int (nI w2_8)])), (k1, .inl (cI, 1600, .inl g1_9))] H := hP
  have hD : va_D A [(u0, .inr (8, [.ref (q 2), .int (nI kn)])), (q 2, .inr (6, [.ref (q 0), .int (nI xa2_1), .int xv2_2, .int (nI xo), .int xt2_3, .int (nI xz2_4), .int xf2_5, .int xp2_6])), (q 0, .inr (10, [.ref (q 20), .int (nI tl)])), (q 20, .inl (cI, 1600, .inl (fun j => nI (tb j)))), (h0, .inr (0, [.ref k1, .ref k2, .ref k3, .ref k4, .int (nI c2_7), .int (nI w2_8)])), (k1, .inl (cI, 1600, .inl g1_9))] := hD
  have hL_15 := lenO_ap (len_part (tb := tb) (n := tl) (kind := kn) dd) hlen
  refine lv_iconst (v := 0) hx hb dX8_readProduct_5 (by decide) ?_
  refine lv_istore_n (lv' := [(2, .int 0), (0, .ref u0), (1, .ref h0)]) hx hb dX8_readProduct_6 rfl hl (by decide) rfl (fun ls hl => ?_)
  have lp_16 : ∀ (n_17 : Nat) (i : Nat) (za : Nat) (zw : Int32) (zt : Int32) (zz : Nat) (zg : Int32) (zp : Int32) (yc : Nat) (yw : Nat) (yf : Nat → Int32) (zo : Res) (H : Heap) (locs : List Loc) (ls : Array Slot), 1600 - i < n_17 → (rsO tb tl zo za zw zt zz zg zp yc yw yf) → (i ≤ 1600) → (za ≤ 1600) → (zz ≤ 1600) → (yc ≤ 1600) → (yw ≤ 1) → (lenO zo) → (iO i zo) → (bindR zo (fun r => mulLp tb tl (rdPart tb tl kn dd) (tl + 2) r.1 r.2) = bindR og (apF (prodOf tb tl (rdPart tb tl kn dd)))) → va_P D vwCl [(u0, .inr (8, [.ref (q 2), .int (nI kn)])), (q 2, .inr (6, [.ref (q 0), .int (nI za), .int zw, .int (nI xo), .int zt, .int (nI zz), .int zg, .int zp])), (q 0, .inr (10, [.ref (q 20), .int (nI tl)])), (q 20, .inl (cI, 1600, .inl (fun j => nI (tb j)))), (h0, .inr (0, [.ref k1, .ref k2, .ref k3, .ref k4, .int (nI yc), .int (nI yw)])), (k1, .inl (cI, 1600, .inl yf))] H → va_D A [(u0, .inr (8, [.ref (q 2), .int (nI kn)])), (q 2, .inr (6, [.ref (q 0), .int (nI za), .int zw, .int (nI xo), .int zt, .int (nI zz), .int zg, .int zp])), (q 0, .inr (10, [.ref (q 20), .int (nI tl)])), (q 20, .inl (cI, 1600, .inl (fun j => nI (tb j)))), (h0, .inr (0, [.ref k1, .ref k2, .ref k3, .ref k4, .int (nI yc), .int (nI yw)])), (k1, .inl (cI, 1600, .inl yf))] → va_S A s.heap H locs → lv_has ls 4 [(2, .int (nI i)), (0, .ref u0), (1, .ref h0)] → W p l e { frames := 22 + 5 * dd, cells := 0, slots := 0, locals := 650 + 100 * dd } s m ([.ref u0, .ref h0] : List Value).toArray below meth c H locs 0 0 (MQ below (skV D (skT cI cJ cC cZ cS) (fun (u : va_W) => ∃ (xa2 : Nat), ∃ (xv2 : Int32), ∃ (xt2 : Int32), ∃ (xz2 : Nat), ∃ (xf2 : Int32), ∃ (xp2 : Int32), ∃ (c2 : Nat), ∃ (w2 : Nat), ∃ (g1 : Nat → Int32), xa2 ≤ 1600 ∧ xz2 ≤ 1600 ∧ c2 ≤ 1600 ∧ w2 ≤ 1 ∧ rsO tb tl (bindR og (apF (prodOf tb tl (rdPart tb tl kn dd)))) xa2 xv2 xt2 xz2 xf2 xp2 c2 w2 g1 ∧ u = [(u0, .inr (8, [.ref (q 2), .int (nI kn)])), (q 2, .inr (6, [.ref (q 0), .int (nI xa2), .int xv2, .int (nI xo), .int xt2, .int (nI xz2), .int xf2, .int xp2])), (q 0, .inr (10, [.ref (q 20), .int (nI tl)])), (q 20, .inl (cI, 1600, .inl (fun j => nI (tb j)))), (h0, .inr (0, [.ref k1, .ref k2, .ref k3, .ref k4, .int (nI c2), .int (nI w2)])), (k1, .inl (cI, 1600, .inl g1))]) A) ([.ref u0, .ref h0] : List Value).toArray s 0 0 A) (F0 m 7 ls []) := by
    intro n_17
    induction n_17 with
    | zero => intro i za zw zt zz zg zp yc yw yf zo H locs ls hm; exact absurd hm (Nat.not_lt_zero _)
    | succ n_17 ih_lp_16 =>
      intro i za zw zt zz zg zp yc yw yf zo H locs ls hm hzO hi hza hzz hyc hyw hzl hiO hrem hP hD hS hl
      refine lv_iload_n hx hb dX8_readProduct_7 rfl (lv_at hl 0 rfl) ?_
      refine lv_sipush (v := 1600) hx hb dX8_readProduct_8 (by decide) ?_
      refine lv_icmp_ge (tgt := 83) hx hb dX8_readProduct_11 (by decide) (fun c_18 => ?_) (fun c_18 => ?_)
      · have c_18 : 1600 ≤ i := (nle 1600 i (by omega) (by omega)).mp c_18
        exact sk_vret hx hb hr hlocks hK hP hD hS (⟨za, zw, zt, zz, zg, zp, yc, yw, yf, by omega, by omega, by omega, by omega, prod_e htb hzO htl hiO (Or.inl (by omega)) hrem, rfl⟩) (Nat.le_of_ble_eq_true rfl) (Nat.le_of_ble_eq_true rfl) dX8_readProduct_83
      · have c_18 : ¬ (1600 ≤ i) := fun h => c_18 ((nle 1600 i (by omega) (by omega)).mpr h)
        refine lv_aload_n hx hb dX8_readProduct_14 rfl (lv_at hl 1 rfl) ?_
        refine sk_get (v := .ref (q 2)) (C := RX8) (T := TX8) (N := 2) hx hb hts inlX8 hown hK hP 0 rfl rfl 0 (by decide) w_1_100 rfl dX8_readProduct_15 ?_
        refine sk_get (v := .int zt) (C := RX6) (T := TX6) (N := 8) hx hb hts inlX6 hown hK hP 1 rfl rfl 4 (by decide) w_1_63 rfl dX8_readProduct_18 ?_
        refine lv_bipush (v := 42) hx hb dX8_readProduct_21 (by decide) ?_
        refine lv_icmp_eq (tgt := 38) hx hb dX8_readProduct_23 (by decide) (fun c_19 => ?_) (fun c_19 => ?_)
        · skip
          refine lv_aload_n hx hb dX8_readProduct_38 rfl (lv_at hl 1 rfl) ?_
          refine sk_get (v := .ref (q 2)) (C := RX8) (T := TX8) (N := 2) hx hb hts inlX8 hown hK hP 0 rfl rfl 0 (by decide) w_1_100 rfl dX8_readProduct_39 ?_
          refine sk_get (v := .int zt) (C := RX6) (T := TX6) (N := 8) hx hb hts inlX6 hown hK hP 1 rfl rfl 4 (by decide) w_1_63 rfl dX8_readProduct_42 ?_
          refine lv_bipush (v := 42) hx hb dX8_readProduct_45 (by decide) ?_
          refine lv_icmp_ne (tgt := 56) hx hb dX8_readProduct_47 (by decide) (fun c => absurd c_19 c) (fun c_20 => ?_)
          refine lv_sipush (v := 30002) hx hb dX8_readProduct_50 (by decide) ?_
          refine lv_goto (tgt := 59) hx hb dX8_readProduct_53 (by decide) ?_
          refine lv_istore_n (lv' := [(3, .int 30002), (2, .int (nI i)), (0, .ref u0), (1, .ref h0)]) hx hb dX8_readProduct_59 rfl hl (by decide) rfl (fun ls hl => ?_)
          refine lv_aload_n hx hb dX8_readProduct_60 rfl (lv_at hl 2 rfl) ?_
          refine sk_get (v := .ref (q 2)) (C := RX8) (T := TX8) (N := 2) hx hb hts inlX8 hown hK hP 0 rfl rfl 0 (by decide) w_1_100 rfl dX8_readProduct_61 ?_
          refine sk_VvZ (q0 := 0) (n := 0) (rest := []) (wr := [(u0, .inr (8, [.ref (q 2), .int (nI kn)])), (h0, .inr (0, [.ref k1, .ref k2, .ref k3, .ref k4, .int (nI yc), .int (nI yw)])), (k1, .inl (cI, 1600, .inl yf))]) ⟨hx, hb, hml, hown, hts⟩ hl.1 (c_erd_step l D cI cJ cC cZ cS zk zv zf q za zw xo zt zz zg zp tl tb (bindR (rc zo) (beF tb tl)) (by omega) (by omega) (by omega) htb (rd_st htb (hzO).1 ⟨by rw [c_19]; decide, by rw [c_19]; decide⟩)) w_3_110 w_2_226 w_2_227 w_1_4 w_2_228 (by decide +kernel) ⟨⟨(by dsimp only; omega), (by dsimp only; omega)⟩, (by dsimp only; omega), (by dsimp only; omega)⟩ hK hP hD hS hZ hA [1, 2, 3] [0, 4, 5] rfl rfl (by decide +kernel) (by decide +kernel) (by decide +kernel) rfl rfl rfl rfl (Nat.le_of_ble_eq_true rfl) dX8_readProduct_64 (fun u H locs hw hP hD hS => ?_)
          obtain ⟨xa2_21, xv2_22, xt2_23, xz2_24, hxa2_25, hxz2_26, hO2_27, rfl⟩ := hw
          have hP : va_P D vwCl [(u0, .inr (8, [.ref (q 2), .int (nI kn)])), (h0, .inr (0, [.ref k1, .ref k2, .ref k3, .ref k4, .int (nI yc), .int (nI yw)])), (k1, .inl (cI, 1600, .inl yf)), (q 2, .inr (6, [.ref (q 0), .int (nI xa2_21), .int xv2_22, .int (nI xo), .int xt2_23, .int (nI xz2_24), .int zg, .int zp])), (q 0, .inr (10, [.ref (q 20), .int (nI tl)])), (q 20, .inl (cI, 1600, .inl (fun j => nI (tb j))))] H := hP
          have hD : va_D A [(u0, .inr (8, [.ref (q 2), .int (nI kn)])), (h0, .inr (0, [.ref k1, .ref k2, .ref k3, .ref k4, .int (nI yc), .int (nI yw)])), (k1, .inl (cI, 1600, .inl yf)), (q 2, .inr (6, [.ref (q 0), .int (nI xa2_21), .int xv2_22, .int (nI xo), .int xt2_23, .int (nI xz2_24), .int zg, .int zp])), (q 0, .inr (10, [.ref (q 20), .int (nI tl)])), (q 20, .inl (cI, 1600, .inl (fun j => nI (tb j))))] := hD
          rw [stF_nx] at hO2_27
          have hO_28 := rs_bd hzO hO2_27
          have hL_29 := lenS_nx htb hzO ⟨by rw [c_19]; decide, by rw [c_19]; decide⟩ hzl
          refine lv_aload_n hx hb dX8_readProduct_67 rfl (lv_at hl 2 rfl) ?_
          refine lv_aload_n hx hb dX8_readProduct_68 rfl (lv_at hl 3 rfl) ?_
          refine sk_VvZ (q0 := 0) (n := 1) (rest := []) (wr := []) ⟨hx, hb, hml, hown, hts⟩ hl.1 (hq q u0 kn xa2_21 xv2_22 xo xt2_23 xz2_24 zg zp tl tb h0 k1 k2 k3 k4 yc yw yf (bd zo (nxF tb tl)) (by omega) (by omega) (by omega) htb (by omega) (by omega) (by omega) (by omega) hO_28 (lenO_S hL_29)) w_3_92 w_3_94 w_0_8 w_1_6 w_3_95 (by decide +kernel) ⟨⟨(by dsimp only; omega), (by dsimp only; omega)⟩, (by dsimp only; omega), (by dsimp only; omega)⟩ hK hP hD hS hZ hA [0, 3, 4, 5, 1, 2] [] rfl rfl (by decide +kernel) (by decide +kernel) (by decide +kernel) rfl rfl rfl rfl (Nat.le_of_ble_eq_true rfl) dX8_readProduct_69 (fun u H locs hw hP hD hS => ?_)
          obtain ⟨xa2_30, xv2_31, xt2_32, xz2_33, xf2_34, xp2_35, c2_36, w2_37, g1_38, hxa2_39, hxz2_40, hc2_41, hw2_42, hO2_43, rfl⟩ := hw
          have hP : va_P D vwCl [(u0, .inr (8, [.ref (q 2), .int (nI kn)])), (q 2, .inr (6, [.ref (q 0), .int (nI xa2_30), .int xv2_31, .int (nI xo), .int xt2_32, .int (nI xz2_33), .int xf2_34, .int xp2_35])), (q 0, .inr (10, [.ref (q 20), .int (nI tl)])), (q 20, .inl (cI, 1600, .inl (fun j => nI (tb j)))), (h0, .inr (0, [.ref k1, .ref k2, .ref k3, .ref k4, .int (nI c2_36), .int (nI w2_37)])), (k1, .inl (cI, 1600, .inl g1_38))] H := hP
          have hD : va_D A [(u0, .inr (8, [.ref (q 2), .int (nI kn)])), (q 2, .inr (6, [.ref (q 0), .int (nI xa2_30), .int xv2_31, .int (nI xo), .int xt2_32, .int (nI xz2_33), .int xf2_34, .int xp2_35])), (q 0, .inr (10, [.ref (q 20), .int (nI tl)])), (q 20, .inl (cI, 1600, .inl (fun j => nI (tb j)))), (h0, .inr (0, [.ref k1, .ref k2, .ref k3, .ref k4, .int (nI c2_36), .int (nI w2_37)])), (k1, .inl (cI, 1600, .inl g1_38))] := hD
          have hL_44 := lenS_ap (len_part (tb := tb) (n := tl) (kind := kn) dd) hL_29
          refine lv_aload_n hx hb dX8_readProduct_72 rfl (lv_at hl 3 rfl) ?_
          refine lv_iload_n hx hb dX8_readProduct_73 rfl (lv_at hl 0 rfl) ?_
          refine sk_Vv (q0 := 0) (n := 1) (rest := []) (wr := [(u0, .inr (8, [.ref (q 2), .int (nI kn)])), (q 2, .inr (6, [.ref (q 0), .int (nI xa2_30), .int xv2_31, .int (nI xo), .int xt2_32, .int (nI xz2_33), .int xf2_34, .int xp2_35])), (q 0, .inr (10, [.ref (q 20), .int (nI tl)])), (q 20, .inl (cI, 1600, .inl (fun j => nI (tb j))))]) ⟨hx, hb, hml, hown, hts⟩ hl.1 (c_eCode_addX l D cI cJ cC cZ cS h0 k1 k2 k3 k4 c2_36 w2_37 g1_38 30002 (bindR (bd zo (nxF tb tl)) (apF (rdPart tb tl kn dd))) 3 (by omega) (by omega) (by decide) (by omega) (hO2_43).2 (rm_S hO2_43 htl hL_44)) w_3_97 w_3_98 w_3_99 w_1_8 w_3_100 (by decide +kernel) ⟨⟨(by dsimp only; omega), (by dsimp only; omega)⟩, (by dsimp only; omega), (by dsimp only; omega)⟩ hK hP hD hS hA [4, 5] [0, 1, 2, 3] rfl rfl (by decide +kernel) (by decide +kernel) (by decide +kernel) rfl rfl rfl rfl (Nat.le_of_ble_eq_true rfl) dX8_readProduct_74 (fun u H locs hw hP hD hS => ?_)
          obtain ⟨c2_45, w2_46, g1_47, hc2_48, hw2_49, hO2_50, rfl⟩ := hw
          have hP : va_P D vwCl [(u0, .inr (8, [.ref (q 2), .int (nI kn)])), (q 2, .inr (6, [.ref (q 0), .int (nI xa2_30), .int xv2_31, .int (nI xo), .int xt2_32, .int (nI xz2_33), .int xf2_34, .int xp2_35])), (q 0, .inr (10, [.ref (q 20), .int (nI tl)])), (q 20, .inl (cI, 1600, .inl (fun j => nI (tb j)))), (h0, .inr (0, [.ref k1, .ref k2, .ref k3, .ref k4, .int (nI c2_45), .int (nI w2_46)])), (k1, .inl (cI, 1600, .inl g1_47))] H := hP
          have hD : va_D A [(u0, .inr (8, [.ref (q 2), .int (nI kn)])), (q 2, .inr (6, [.ref (q 0), .int (nI xa2_30), .int xv2_31, .int (nI xo), .int xt2_32, .int (nI xz2_33), .int xf2_34, .int xp2_35])), (q 0, .inr (10, [.ref (q 20), .int (nI tl)])), (q 20, .inl (cI, 1600, .inl (fun j => nI (tb j)))), (h0, .inr (0, [.ref k1, .ref k2, .ref k3, .ref k4, .int (nI c2_45), .int (nI w2_46)])), (k1, .inl (cI, 1600, .inl g1_47))] := hD
          have hO_51 := rs_ad hO2_43 hO2_50
          have hL_52 := lenO_ad (v := 3) hL_44
          refine lv_iinc (v := nI (i + 1)) (lv' := [(2, .int (nI (i + 1))), (3, .int 30002), (0, .ref u0), (1, .ref h0)]) hx hb dX8_readProduct_77 hl (k := 1) rfl (ninc i 1 (by decide)) (by decide) rfl (fun ls hl => ?_)
          refine lv_goto (tgt := 7) hx hb dX8_readProduct_80 (by decide) ?_
          exact ih_lp_16 (i + 1) xa2_30 xv2_31 xt2_32 xz2_33 xf2_34 xp2_35 c2_45 w2_46 g1_47 (ad (bindR (bd zo (nxF tb tl)) (apF (rdPart tb tl kn dd))) 3) _ _ _ (by omega) hO_51 (by omega) (by omega) (by omega) (by omega) (by omega) hL_52 (iO_s htb hzO ⟨by rw [c_19]; decide, by rw [c_19]; decide⟩ rdPart_mono hiO) (prod_s htb hzO rdPart_mono (Or.inl ⟨c_19, rfl⟩) hrem) hP hD hS (lv_sub hl [0, 2, 3] rfl)
        · skip
          refine lv_aload_n hx hb dX8_readProduct_26 rfl (lv_at hl 1 rfl) ?_
          refine sk_get (v := .ref (q 2)) (C := RX8) (T := TX8) (N := 2) hx hb hts inlX8 hown hK hP 0 rfl rfl 0 (by decide) w_1_100 rfl dX8_readProduct_27 ?_
          refine sk_get (v := .int zt) (C := RX6) (T := TX6) (N := 8) hx hb hts inlX6 hown hK hP 1 rfl rfl 4 (by decide) w_1_63 rfl dX8_readProduct_30 ?_
          refine lv_bipush (v := 47) hx hb dX8_readProduct_33 (by decide) ?_
          refine lv_icmp_ne (tgt := 83) hx hb dX8_readProduct_35 (by decide) (fun c_53 => ?_) (fun c_53 => ?_)
          · skip
            exact sk_vret hx hb hr hlocks hK hP hD hS (⟨za, zw, zt, zz, zg, zp, yc, yw, yf, by omega, by omega, by omega, by omega, prod_e htb hzO htl hiO (Or.inr ⟨c_19, c_53⟩) hrem, rfl⟩) (Nat.le_of_ble_eq_true rfl) (Nat.le_of_ble_eq_true rfl) dX8_readProduct_83
          · skip
            refine lv_aload_n hx hb dX8_readProduct_38 rfl (lv_at hl 1 rfl) ?_
            refine sk_get (v := .ref (q 2)) (C := RX8) (T := TX8) (N := 2) hx hb hts inlX8 hown hK hP 0 rfl rfl 0 (by decide) w_1_100 rfl dX8_readProduct_39 ?_
            refine sk_get (v := .int zt) (C := RX6) (T := TX6) (N := 8) hx hb hts inlX6 hown hK hP 1 rfl rfl 4 (by decide) w_1_63 rfl dX8_readProduct_42 ?_
            refine lv_bipush (v := 42) hx hb dX8_readProduct_45 (by decide) ?_
            refine lv_icmp_ne (tgt := 56) hx hb dX8_readProduct_47 (by decide) (fun c_54 => ?_) (fun c => absurd c c_19)
            refine lv_sipush (v := 30003) hx hb dX8_readProduct_56 (by decide) ?_
            refine lv_istore_n (lv' := [(3, .int 30003), (2, .int (nI i)), (0, .ref u0), (1, .ref h0)]) hx hb dX8_readProduct_59 rfl hl (by decide) rfl (fun ls hl => ?_)
            refine lv_aload_n hx hb dX8_readProduct_60 rfl (lv_at hl 2 rfl) ?_
            refine sk_get (v := .ref (q 2)) (C := RX8) (T := TX8) (N := 2) hx hb hts inlX8 hown hK hP 0 rfl rfl 0 (by decide) w_1_100 rfl dX8_readProduct_61 ?_
            refine sk_VvZ (q0 := 0) (n := 0) (rest := []) (wr := [(u0, .inr (8, [.ref (q 2), .int (nI kn)])), (h0, .inr (0, [.ref k1, .ref k2, .ref k3, .ref k4, .int (nI yc), .int (nI yw)])), (k1, .inl (cI, 1600, .inl yf))]) ⟨hx, hb, hml, hown, hts⟩ hl.1 (c_erd_step l D cI cJ cC cZ cS zk zv zf q za zw xo zt zz zg zp tl tb (bindR (rc zo) (beF tb tl)) (by omega) (by omega) (by omega) htb (rd_st htb (hzO).1 ⟨by rw [c_53]; decide, by rw [c_53]; decide⟩)) w_3_110 w_2_226 w_2_227 w_1_4 w_2_228 (by decide +kernel) ⟨⟨(by dsimp only; omega), (by dsimp only; omega)⟩, (by dsimp only; omega), (by dsimp only; omega)⟩ hK hP hD hS hZ hA [1, 2, 3] [0, 4, 5] rfl rfl (by decide +kernel) (by decide +kernel) (by decide +kernel) rfl rfl rfl rfl (Nat.le_of_ble_eq_true rfl) dX8_readProduct_64 (fun u H locs hw hP hD hS => ?_)
            obtain ⟨xa2_55, xv2_56, xt2_57, xz2_58, hxa2_59, hxz2_60, hO2_61, rfl⟩ := hw
            have hP : va_P D vwCl [(u0, .inr (8, [.ref (q 2), .int (nI kn)])), (h0, .inr (0, [.ref k1, .ref k2, .ref k3, .ref k4, .int (nI yc), .int (nI yw)])), (k1, .inl (cI, 1600, .inl yf)), (q 2, .inr (6, [.ref (q 0), .int (nI xa2_55), .int xv2_56, .int (nI xo), .int xt2_57, .int (nI xz2_58), .int zg, .int zp])), (q 0, .inr (10, [.ref (q 20), .int (nI tl)])), (q 20, .inl (cI, 1600, .inl (fun j => nI (tb j))))] H := hP
            have hD : va_D A [(u0, .inr (8, [.ref (q 2), .int (nI kn)])), (h0, .inr (0, [.ref k1, .ref k2, .ref k3, .ref k4, .int (nI yc), .int (nI yw)])), (k1, .inl (cI, 1600, .inl yf)), (q 2, .inr (6, [.ref (q 0), .int (nI xa2_55), .int xv2_56, .int (nI xo), .int xt2_57, .int (nI xz2_58), .int zg, .int zp])), (q 0, .inr (10, [.ref (q 20), .int (nI tl)])), (q 20, .inl (cI, 1600, .inl (fun j => nI (tb j))))] := hD
            rw [stF_nx] at hO2_61
            have hO_62 := rs_bd hzO hO2_61
            have hL_63 := lenS_nx htb hzO ⟨by rw [c_53]; decide, by rw [c_53]; decide⟩ hzl
            refine lv_aload_n hx hb dX8_readProduct_67 rfl (lv_at hl 2 rfl) ?_
            refine lv_aload_n hx hb dX8_readProduct_68 rfl (lv_at hl 3 rfl) ?_
            refine sk_VvZ (q0 := 0) (n := 1) (rest := []) (wr := []) ⟨hx, hb, hml, hown, hts⟩ hl.1 (hq q u0 kn xa2_55 xv2_56 xo xt2_57 xz2_58 zg zp tl tb h0 k1 k2 k3 k4 yc yw yf (bd zo (nxF tb tl)) (by omega) (by omega) (by omega) htb (by omega) (by omega) (by omega) (by omega) hO_62 (lenO_S hL_63)) w_3_92 w_3_94 w_0_8 w_1_6 w_3_95 (by decide +kernel) ⟨⟨(by dsimp only; omega), (by dsimp only; omega)⟩, (by dsimp only; omega), (by dsimp only; omega)⟩ hK hP hD hS hZ hA [0, 3, 4, 5, 1, 2] [] rfl rfl (by decide +kernel) (by decide +kernel) (by decide +kernel) rfl rfl rfl rfl (Nat.le_of_ble_eq_true rfl) dX8_readProduct_69 (fun u H locs hw hP hD hS => ?_)
            obtain ⟨xa2_64, xv2_65, xt2_66, xz2_67, xf2_68, xp2_69, c2_70, w2_71, g1_72, hxa2_73, hxz2_74, hc2_75, hw2_76, hO2_77, rfl⟩ := hw
            have hP : va_P D vwCl [(u0, .inr (8, [.ref (q 2), .int (nI kn)])), (q 2, .inr (6, [.ref (q 0), .int (nI xa2_64), .int xv2_65, .int (nI xo), .int xt2_66, .int (nI xz2_67), .int xf2_68, .int xp2_69])), (q 0, .inr (10, [.ref (q 20), .int (nI tl)])), (q 20, .inl (cI, 1600, .inl (fun j => nI (tb j)))), (h0, .inr (0, [.ref k1, .ref k2, .ref k3, .ref k4, .int (nI c2_70), .int (nI w2_71)])), (k1, .inl (cI, 1600, .inl g1_72))] H := hP
            have hD : va_D A [(u0, .inr (8, [.ref (q 2), .int (nI kn)])), (q 2, .inr (6, [.ref (q 0), .int (nI xa2_64), .int xv2_65, .int (nI xo), .int xt2_66, .int (nI xz2_67), .int xf2_68, .int xp2_69])), (q 0, .inr (10, [.ref (q 20), .int (nI tl)])), (q 20, .inl (cI, 1600, .inl (fun j => nI (tb j)))), (h0, .inr (0, [.ref k1, .ref k2, .ref k3, .ref k4, .int (nI c2_70), .int (nI w2_71)])), (k1, .inl (cI, 1600, .inl g1_72))] := hD
            have hL_78 := lenS_ap (len_part (tb := tb) (n := tl) (kind := kn) dd) hL_63
            refine lv_aload_n hx hb dX8_readProduct_72 rfl (lv_at hl 3 rfl) ?_
            refine lv_iload_n hx hb dX8_readProduct_73 rfl (lv_at hl 0 rfl) ?_
            refine sk_Vv (q0 := 0) (n := 1) (rest := []) (wr := [(u0, .inr (8, [.ref (q 2), .int (nI kn)])), (q 2, .inr (6, [.ref (q 0), .int (nI xa2_64), .int xv2_65, .int (nI xo), .int xt2_66, .int (nI xz2_67), .int xf2_68, .int xp2_69])), (q 0, .inr (10, [.ref (q 20), .int (nI tl)])), (q 20, .inl (cI, 1600, .inl (fun j => nI (tb j))))]) ⟨hx, hb, hml, hown, hts⟩ hl.1 (c_eCode_addX l D cI cJ cC cZ cS h0 k1 k2 k3 k4 c2_70 w2_71 g1_72 30003 (bindR (bd zo (nxF tb tl)) (apF (rdPart tb tl kn dd))) 4 (by omega) (by omega) (by decide) (by omega) (hO2_77).2 (rm_S hO2_77 htl hL_78)) w_3_97 w_3_98 w_3_99 w_1_8 w_3_100 (by decide +kernel) ⟨⟨(by dsimp only; omega), (by dsimp only; omega)⟩, (by dsimp only; omega), (by dsimp only; omega)⟩ hK hP hD hS hA [4, 5] [0, 1, 2, 3] rfl rfl (by decide +kernel) (by decide +kernel) (by decide +kernel) rfl rfl rfl rfl (Nat.le_of_ble_eq_true rfl) dX8_readProduct_74 (fun u H locs hw hP hD hS => ?_)
            obtain ⟨c2_79, w2_80, g1_81, hc2_82, hw2_83, hO2_84, rfl⟩ := hw
            have hP : va_P D vwCl [(u0, .inr (8, [.ref (q 2), .int (nI kn)])), (q 2, .inr (6, [.ref (q 0), .int (nI xa2_64), .int xv2_65, .int (nI xo), .int xt2_66, .int (nI xz2_67), .int xf2_68, .int xp2_69])), (q 0, .inr (10, [.ref (q 20), .int (nI tl)])), (q 20, .inl (cI, 1600, .inl (fun j => nI (tb j)))), (h0, .inr (0, [.ref k1, .ref k2, .ref k3, .ref k4, .int (nI c2_79), .int (nI w2_80)])), (k1, .inl (cI, 1600, .inl g1_81))] H := hP
            have hD : va_D A [(u0, .inr (8, [.ref (q 2), .int (nI kn)])), (q 2, .inr (6, [.ref (q 0), .int (nI xa2_64), .int xv2_65, .int (nI xo), .int xt2_66, .int (nI xz2_67), .int xf2_68, .int xp2_69])), (q 0, .inr (10, [.ref (q 20), .int (nI tl)])), (q 20, .inl (cI, 1600, .inl (fun j => nI (tb j)))), (h0, .inr (0, [.ref k1, .ref k2, .ref k3, .ref k4, .int (nI c2_79), .int (nI w2_80)])), (k1, .inl (cI, 1600, .inl g1_81))] := hD
            have hO_85 := rs_ad hO2_77 hO2_84
            have hL_86 := lenO_ad (v := 4) hL_78
            refine lv_iinc (v := nI (i + 1)) (lv' := [(2, .int (nI (i + 1))), (3, .int 30003), (0, .ref u0), (1, .ref h0)]) hx hb dX8_readProduct_77 hl (k := 1) rfl (ninc i 1 (by decide)) (by decide) rfl (fun ls hl => ?_)
            refine lv_goto (tgt := 7) hx hb dX8_readProduct_80 (by decide) ?_
            exact ih_lp_16 (i + 1) xa2_64 xv2_65 xt2_66 xz2_67 xf2_68 xp2_69 c2_79 w2_80 g1_81 (ad (bindR (bd zo (nxF tb tl)) (apF (rdPart tb tl kn dd))) 4) _ _ _ (by omega) hO_85 (by omega) (by omega) (by omega) (by omega) (by omega) hL_86 (iO_s htb hzO ⟨by rw [c_53]; decide, by rw [c_53]; decide⟩ rdPart_mono hiO) (prod_s htb hzO rdPart_mono (Or.inr ⟨c_53, rfl⟩) hrem) hP hD hS (lv_sub hl [0, 2, 3] rfl)
  exact lp_16 (1600 - 0 + 1) 0 xa2_1 xv2_2 xt2_3 xz2_4 xf2_5 xp2_6 c2_7 w2_8 g1_9 (bindR og (apF (rdPart tb tl kn dd))) _ _ _ (Nat.lt_succ_self _) hO2_14 (by omega) (by omega) (by omega) (by omega) (by omega) hL_15 (iO_0 _) (prod_0 _) hP hD hS (lv_sub hl [0, 1, 2] rfl)
set_option maxHeartbeats 4000000 in
set_option maxRecDepth 100000 in
theorem c_ereadSum (l : Launch) (D : va_G) (cI cJ cC cZ cS : ClassId) (zk zv : Nat) (zf : Value) (dd : Nat) (hq : CT_ereadProduct l D cI cJ cC cZ cS zk zv zf dd) : CT_ereadSum l D cI cJ cC cZ cS zk zv zf dd := by
  intro q u0 kn xa xv xo xt xz xf xp tl tb h0 k1 k2 k3 k4 cl mw f1 og hxa hxz htl htb hcl hmw hkn hdd hO hlen
  refine skMZ_of (by decide +kernel) (Nat.le_of_ble_eq_true rfl) ?_
  intro p e s m below meth c A ls E hP hD hZ hl
  obtain ⟨hx, hb, hr, hml, hlocks, hin, hown, hts, hK, hA⟩ := E
  have hown : s.vm.findClass RX8 = some m.cls := hown
  have hS : va_S A s.heap s.heap [] := va_S.rf
  have hl : lv_has ls 4 [(0, .ref u0), (1, .ref h0)] := hl
  refine lv_aload_n hx hb dX8_readSum_0 rfl (lv_at hl 0 rfl) ?_
  refine lv_aload_n hx hb dX8_readSum_1 rfl (lv_at hl 1 rfl) ?_
  refine sk_VvZ (q0 := 0) (n := 1) (rest := []) (wr := []) ⟨hx, hb, hml, hown, hts⟩ hl.1 (hq q u0 kn xa xv xo xt xz xf xp tl tb h0 k1 k2 k3 k4 cl mw f1 og (by omega) (by omega) (by omega) htb (by omega) (by omega) (by omega) (by omega) hO hlen) w_3_88 w_3_90 w_0_7 w_1_6 w_3_91 (by decide +kernel) ⟨⟨(by dsimp only; omega), (by dsimp only; omega)⟩, (by dsimp only; omega), (by dsimp only; omega)⟩ hK hP hD hS hZ hA [0, 1, 2, 3, 4, 5] [] rfl rfl (by decide +kernel) (by decide +kernel) (by decide +kernel) rfl rfl rfl rfl (Nat.le_of_ble_eq_true rfl) dX8_readSum_2 (fun u H locs hw hP hD hS => ?_)
  obtain ⟨xa2_1, xv2_2, xt2_3, xz2_4, xf2_5, xp2_6, c2_7, w2_8, g1_9, hxa2_10, hxz2_11, hc2_12, hw2_13, hO2_14, rfl⟩ := hw
  have hP : va_P D vwCl [(u0, .inr (8, [.ref (q 2), .int (nI kn)])), (q 2, .inr (6, [.ref (q 0), .int (nI xa2_1), .int xv2_2, .int (nI xo), .int xt2_3, .int (nI xz2_4), .int xf2_5, .int xp2_6])), (q 0, .inr (10, [.ref (q 20), .int (nI tl)])), (q 20, .inl (cI, 1600, .inl (fun j => nI (tb j)))), (h0, .inr (0, [.ref k1, .ref k2, .ref k3, .ref k4, .int (nI c2_7), .int (nI w2_8)])), (k1, .inl (cI, 1600, .inl g1_9))] H := hP
  have hD : va_D A [(u0, .inr (8, [.ref (q 2), .int (nI kn)])), (q 2, .inr (6, [.ref (q 0), .int (nI xa2_1), .int xv2_2, .int (nI xo), .int xt2_3, .int (nI xz2_4), .int xf2_5, .int xp2_6])), (q 0, .inr (10, [.ref (q 20), .int (nI tl)])), (q 20, .inl (cI, 1600, .inl (fun j => nI (tb j)))), (h0, .inr (0, [.ref k1, .ref k2, .ref k3, .ref k4, .int (nI c2_7), .int (nI w2_8)])), (k1, .inl (cI, 1600, .inl g1_9))] := hD
  have hL_15 := lenO_ap (len_prod (tb := tb) (n := tl) (len_part (tb := tb) (n := tl) (kind := kn) dd)) hlen
  refine lv_iconst (v := 0) hx hb dX8_readSum_5 (by decide) ?_
  refine lv_istore_n (lv' := [(2, .int 0), (0, .ref u0), (1, .ref h0)]) hx hb dX8_readSum_6 rfl hl (by decide) rfl (fun ls hl => ?_)
  have lp_16 : ∀ (n_17 : Nat) (i : Nat) (za : Nat) (zw : Int32) (zt : Int32) (zz : Nat) (zg : Int32) (zp : Int32) (yc : Nat) (yw : Nat) (yf : Nat → Int32) (zo : Res) (H : Heap) (locs : List Loc) (ls : Array Slot), 1600 - i < n_17 → (rsO tb tl zo za zw zt zz zg zp yc yw yf) → (i ≤ 1600) → (za ≤ 1600) → (zz ≤ 1600) → (yc ≤ 1600) → (yw ≤ 1) → (lenO zo) → (iO i zo) → (bindR zo (fun r => addLp tb tl (rdPart tb tl kn dd) (tl + 2) r.1 r.2) = bindR og (apF (sumOf tb tl (rdPart tb tl kn dd)))) → va_P D vwCl [(u0, .inr (8, [.ref (q 2), .int (nI kn)])), (q 2, .inr (6, [.ref (q 0), .int (nI za), .int zw, .int (nI xo), .int zt, .int (nI zz), .int zg, .int zp])), (q 0, .inr (10, [.ref (q 20), .int (nI tl)])), (q 20, .inl (cI, 1600, .inl (fun j => nI (tb j)))), (h0, .inr (0, [.ref k1, .ref k2, .ref k3, .ref k4, .int (nI yc), .int (nI yw)])), (k1, .inl (cI, 1600, .inl yf))] H → va_D A [(u0, .inr (8, [.ref (q 2), .int (nI kn)])), (q 2, .inr (6, [.ref (q 0), .int (nI za), .int zw, .int (nI xo), .int zt, .int (nI zz), .int zg, .int zp])), (q 0, .inr (10, [.ref (q 20), .int (nI tl)])), (q 20, .inl (cI, 1600, .inl (fun j => nI (tb j)))), (h0, .inr (0, [.ref k1, .ref k2, .ref k3, .ref k4, .int (nI yc), .int (nI yw)])), (k1, .inl (cI, 1600, .inl yf))] → va_S A s.heap H locs → lv_has ls 4 [(2, .int (nI i)), (0, .ref u0), (1, .ref h0)] → W p l e { frames := 23 + 5 * dd, cells := 0, slots := 0, locals := 675 + 100 * dd } s m ([.ref u0, .ref h0] : List Value).toArray below meth c H locs 0 0 (MQ below (skV D (skT cI cJ cC cZ cS) (fun (u : va_W) => ∃ (xa2 : Nat), ∃ (xv2 : Int32), ∃ (xt2 : Int32), ∃ (xz2 : Nat), ∃ (xf2 : Int32), ∃ (xp2 : Int32), ∃ (c2 : Nat), ∃ (w2 : Nat), ∃ (g1 : Nat → Int32), xa2 ≤ 1600 ∧ xz2 ≤ 1600 ∧ c2 ≤ 1600 ∧ w2 ≤ 1 ∧ rsO tb tl (bindR og (apF (sumOf tb tl (rdPart tb tl kn dd)))) xa2 xv2 xt2 xz2 xf2 xp2 c2 w2 g1 ∧ u = [(u0, .inr (8, [.ref (q 2), .int (nI kn)])), (q 2, .inr (6, [.ref (q 0), .int (nI xa2), .int xv2, .int (nI xo), .int xt2, .int (nI xz2), .int xf2, .int xp2])), (q 0, .inr (10, [.ref (q 20), .int (nI tl)])), (q 20, .inl (cI, 1600, .inl (fun j => nI (tb j)))), (h0, .inr (0, [.ref k1, .ref k2, .ref k3, .ref k4, .int (nI c2), .int (nI w2)])), (k1, .inl (cI, 1600, .inl g1))]) A) ([.ref u0, .ref h0] : List Value).toArray s 0 0 A) (F0 m 7 ls []) := by
    intro n_17
    induction n_17 with
    | zero => intro i za zw zt zz zg zp yc yw yf zo H locs ls hm; exact absurd hm (Nat.not_lt_zero _)
    | succ n_17 ih_lp_16 =>
      intro i za zw zt zz zg zp yc yw yf zo H locs ls hm hzO hi hza hzz hyc hyw hzl hiO hrem hP hD hS hl
      refine lv_iload_n hx hb dX8_readSum_7 rfl (lv_at hl 0 rfl) ?_
      refine lv_sipush (v := 1600) hx hb dX8_readSum_8 (by decide) ?_
      refine lv_icmp_ge (tgt := 83) hx hb dX8_readSum_11 (by decide) (fun c_18 => ?_) (fun c_18 => ?_)
      · have c_18 : 1600 ≤ i := (nle 1600 i (by omega) (by omega)).mp c_18
        exact sk_vret hx hb hr hlocks hK hP hD hS (⟨za, zw, zt, zz, zg, zp, yc, yw, yf, by omega, by omega, by omega, by omega, sum_e htb hzO htl hiO (Or.inl (by omega)) hrem, rfl⟩) (Nat.le_of_ble_eq_true rfl) (Nat.le_of_ble_eq_true rfl) dX8_readSum_83
      · have c_18 : ¬ (1600 ≤ i) := fun h => c_18 ((nle 1600 i (by omega) (by omega)).mpr h)
        refine lv_aload_n hx hb dX8_readSum_14 rfl (lv_at hl 1 rfl) ?_
        refine sk_get (v := .ref (q 2)) (C := RX8) (T := TX8) (N := 2) hx hb hts inlX8 hown hK hP 0 rfl rfl 0 (by decide) w_1_100 rfl dX8_readSum_15 ?_
        refine sk_get (v := .int zt) (C := RX6) (T := TX6) (N := 8) hx hb hts inlX6 hown hK hP 1 rfl rfl 4 (by decide) w_1_63 rfl dX8_readSum_18 ?_
        refine lv_bipush (v := 43) hx hb dX8_readSum_21 (by decide) ?_
        refine lv_icmp_eq (tgt := 38) hx hb dX8_readSum_23 (by decide) (fun c_19 => ?_) (fun c_19 => ?_)
        · skip
          refine lv_aload_n hx hb dX8_readSum_38 rfl (lv_at hl 1 rfl) ?_
          refine sk_get (v := .ref (q 2)) (C := RX8) (T := TX8) (N := 2) hx hb hts inlX8 hown hK hP 0 rfl rfl 0 (by decide) w_1_100 rfl dX8_readSum_39 ?_
          refine sk_get (v := .int zt) (C := RX6) (T := TX6) (N := 8) hx hb hts inlX6 hown hK hP 1 rfl rfl 4 (by decide) w_1_63 rfl dX8_readSum_42 ?_
          refine lv_bipush (v := 43) hx hb dX8_readSum_45 (by decide) ?_
          refine lv_icmp_ne (tgt := 56) hx hb dX8_readSum_47 (by decide) (fun c => absurd c_19 c) (fun c_20 => ?_)
          refine lv_sipush (v := 30000) hx hb dX8_readSum_50 (by decide) ?_
          refine lv_goto (tgt := 59) hx hb dX8_readSum_53 (by decide) ?_
          refine lv_istore_n (lv' := [(3, .int 30000), (2, .int (nI i)), (0, .ref u0), (1, .ref h0)]) hx hb dX8_readSum_59 rfl hl (by decide) rfl (fun ls hl => ?_)
          refine lv_aload_n hx hb dX8_readSum_60 rfl (lv_at hl 2 rfl) ?_
          refine sk_get (v := .ref (q 2)) (C := RX8) (T := TX8) (N := 2) hx hb hts inlX8 hown hK hP 0 rfl rfl 0 (by decide) w_1_100 rfl dX8_readSum_61 ?_
          refine sk_VvZ (q0 := 0) (n := 0) (rest := []) (wr := [(u0, .inr (8, [.ref (q 2), .int (nI kn)])), (h0, .inr (0, [.ref k1, .ref k2, .ref k3, .ref k4, .int (nI yc), .int (nI yw)])), (k1, .inl (cI, 1600, .inl yf))]) ⟨hx, hb, hml, hown, hts⟩ hl.1 (c_erd_step l D cI cJ cC cZ cS zk zv zf q za zw xo zt zz zg zp tl tb (bindR (rc zo) (beF tb tl)) (by omega) (by omega) (by omega) htb (rd_st htb (hzO).1 ⟨by rw [c_19]; decide, by rw [c_19]; decide⟩)) w_3_110 w_2_226 w_2_227 w_1_4 w_2_228 (by decide +kernel) ⟨⟨(by dsimp only; omega), (by dsimp only; omega)⟩, (by dsimp only; omega), (by dsimp only; omega)⟩ hK hP hD hS hZ hA [1, 2, 3] [0, 4, 5] rfl rfl (by decide +kernel) (by decide +kernel) (by decide +kernel) rfl rfl rfl rfl (Nat.le_of_ble_eq_true rfl) dX8_readSum_64 (fun u H locs hw hP hD hS => ?_)
          obtain ⟨xa2_21, xv2_22, xt2_23, xz2_24, hxa2_25, hxz2_26, hO2_27, rfl⟩ := hw
          have hP : va_P D vwCl [(u0, .inr (8, [.ref (q 2), .int (nI kn)])), (h0, .inr (0, [.ref k1, .ref k2, .ref k3, .ref k4, .int (nI yc), .int (nI yw)])), (k1, .inl (cI, 1600, .inl yf)), (q 2, .inr (6, [.ref (q 0), .int (nI xa2_21), .int xv2_22, .int (nI xo), .int xt2_23, .int (nI xz2_24), .int zg, .int zp])), (q 0, .inr (10, [.ref (q 20), .int (nI tl)])), (q 20, .inl (cI, 1600, .inl (fun j => nI (tb j))))] H := hP
          have hD : va_D A [(u0, .inr (8, [.ref (q 2), .int (nI kn)])), (h0, .inr (0, [.ref k1, .ref k2, .ref k3, .ref k4, .int (nI yc), .int (nI yw)])), (k1, .inl (cI, 1600, .inl yf)), (q 2, .inr (6, [.ref (q 0), .int (nI xa2_21), .int xv2_22, .int (nI xo), .int xt2_23, .int (nI xz2_24), .int zg, .int zp])), (q 0, .inr (10, [.ref (q 20), .int (nI tl)])), (q 20, .inl (cI, 1600, .inl (fun j => nI (tb j))))] := hD
          rw [stF_nx] at hO2_27
          have hO_28 := rs_bd hzO hO2_27
          have hL_29 := lenS_nx htb hzO ⟨by rw [c_19]; decide, by rw [c_19]; decide⟩ hzl
          refine lv_aload_n hx hb dX8_readSum_67 rfl (lv_at hl 2 rfl) ?_
          refine lv_aload_n hx hb dX8_readSum_68 rfl (lv_at hl 3 rfl) ?_
          refine sk_VvZ (q0 := 0) (n := 1) (rest := []) (wr := []) ⟨hx, hb, hml, hown, hts⟩ hl.1 (hq q u0 kn xa2_21 xv2_22 xo xt2_23 xz2_24 zg zp tl tb h0 k1 k2 k3 k4 yc yw yf (bd zo (nxF tb tl)) (by omega) (by omega) (by omega) htb (by omega) (by omega) (by omega) (by omega) hO_28 (lenO_S hL_29)) w_3_88 w_3_90 w_0_7 w_1_6 w_3_91 (by decide +kernel) ⟨⟨(by dsimp only; omega), (by dsimp only; omega)⟩, (by dsimp only; omega), (by dsimp only; omega)⟩ hK hP hD hS hZ hA [0, 3, 4, 5, 1, 2] [] rfl rfl (by decide +kernel) (by decide +kernel) (by decide +kernel) rfl rfl rfl rfl (Nat.le_of_ble_eq_true rfl) dX8_readSum_69 (fun u H locs hw hP hD hS => ?_)
          obtain ⟨xa2_30, xv2_31, xt2_32, xz2_33, xf2_34, xp2_35, c2_36, w2_37, g1_38, hxa2_39, hxz2_40, hc2_41, hw2_42, hO2_43, rfl⟩ := hw
          have hP : va_P D vwCl [(u0, .inr (8, [.ref (q 2), .int (nI kn)])), (q 2, .inr (6, [.ref (q 0), .int (nI xa2_30), .int xv2_31, .int (nI xo), .int xt2_32, .int (nI xz2_33), .int xf2_34, .int xp2_35])), (q 0, .inr (10, [.ref (q 20), .int (nI tl)])), (q 20, .inl (cI, 1600, .inl (fun j => nI (tb j)))), (h0, .inr (0, [.ref k1, .ref k2, .ref k3, .ref k4, .int (nI c2_36), .int (nI w2_37)])), (k1, .inl (cI, 1600, .inl g1_38))] H := hP
          have hD : va_D A [(u0, .inr (8, [.ref (q 2), .int (nI kn)])), (q 2, .inr (6, [.ref (q 0), .int (nI xa2_30), .int xv2_31, .int (nI xo), .int xt2_32, .int (nI xz2_33), .int xf2_34, .int xp2_35])), (q 0, .inr (10, [.ref (q 20), .int (nI tl)])), (q 20, .inl (cI, 1600, .inl (fun j => nI (tb j)))), (h0, .inr (0, [.ref k1, .ref k2, .ref k3, .ref k4, .int (nI c2_36), .int (nI w2_37)])), (k1, .inl (cI, 1600, .inl g1_38))] := hD
          have hL_44 := lenS_ap (len_prod (tb := tb) (n := tl) (len_part (tb := tb) (n := tl) (kind := kn) dd)) hL_29
          refine lv_aload_n hx hb dX8_readSum_72 rfl (lv_at hl 3 rfl) ?_
          refine lv_iload_n hx hb dX8_readSum_73 rfl (lv_at hl 0 rfl) ?_
          refine sk_Vv (q0 := 0) (n := 1) (rest := []) (wr := [(u0, .inr (8, [.ref (q 2), .int (nI kn)])), (q 2, .inr (6, [.ref (q 0), .int (nI xa2_30), .int xv2_31, .int (nI xo), .int xt2_32, .int (nI xz2_33), .int xf2_34, .int xp2_35])), (q 0, .inr (10, [.ref (q 20), .int (nI tl)])), (q 20, .inl (cI, 1600, .inl (fun j => nI (tb j))))]) ⟨hx, hb, hml, hown, hts⟩ hl.1 (c_eCode_addX l D cI cJ cC cZ cS h0 k1 k2 k3 k4 c2_36 w2_37 g1_38 30000 (bindR (bd zo (nxF tb tl)) (apF (prodOf tb tl (rdPart tb tl kn dd)))) 1 (by omega) (by omega) (by decide) (by omega) (hO2_43).2 (rm_S hO2_43 htl hL_44)) w_3_97 w_3_98 w_3_99 w_1_8 w_3_100 (by decide +kernel) ⟨⟨(by dsimp only; omega), (by dsimp only; omega)⟩, (by dsimp only; omega), (by dsimp only; omega)⟩ hK hP hD hS hA [4, 5] [0, 1, 2, 3] rfl rfl (by decide +kernel) (by decide +kernel) (by decide +kernel) rfl rfl rfl rfl (Nat.le_of_ble_eq_true rfl) dX8_readSum_74 (fun u H locs hw hP hD hS => ?_)
          obtain ⟨c2_45, w2_46, g1_47, hc2_48, hw2_49, hO2_50, rfl⟩ := hw
          have hP : va_P D vwCl [(u0, .inr (8, [.ref (q 2), .int (nI kn)])), (q 2, .inr (6, [.ref (q 0), .int (nI xa2_30), .int xv2_31, .int (nI xo), .int xt2_32, .int (nI xz2_33), .int xf2_34, .int xp2_35])), (q 0, .inr (10, [.ref (q 20), .int (nI tl)])), (q 20, .inl (cI, 1600, .inl (fun j => nI (tb j)))), (h0, .inr (0, [.ref k1, .ref k2, .ref k3, .ref k4, .int (nI c2_45), .int (nI w2_46)])), (k1, .inl (cI, 1600, .inl g1_47))] H := hP
          have hD : va_D A [(u0, .inr (8, [.ref (q 2), .int (nI kn)])), (q 2, .inr (6, [.ref (q 0), .int (nI xa2_30), .int xv2_31, .int (nI xo), .int xt2_32, .int (nI xz2_33), .int xf2_34, .int xp2_35])), (q 0, .inr (10, [.ref (q 20), .int (nI tl)])), (q 20, .inl (cI, 1600, .inl (fun j => nI (tb j)))), (h0, .inr (0, [.ref k1, .ref k2, .ref k3, .ref k4, .int (nI c2_45), .int (nI w2_46)])), (k1, .inl (cI, 1600, .inl g1_47))] := hD
          have hO_51 := rs_ad hO2_43 hO2_50
          have hL_52 := lenO_ad (v := 1) hL_44
          refine lv_iinc (v := nI (i + 1)) (lv' := [(2, .int (nI (i + 1))), (3, .int 30000), (0, .ref u0), (1, .ref h0)]) hx hb dX8_readSum_77 hl (k := 1) rfl (ninc i 1 (by decide)) (by decide) rfl (fun ls hl => ?_)
          refine lv_goto (tgt := 7) hx hb dX8_readSum_80 (by decide) ?_
          exact ih_lp_16 (i + 1) xa2_30 xv2_31 xt2_32 xz2_33 xf2_34 xp2_35 c2_45 w2_46 g1_47 (ad (bindR (bd zo (nxF tb tl)) (apF (prodOf tb tl (rdPart tb tl kn dd)))) 1) _ _ _ (by omega) hO_51 (by omega) (by omega) (by omega) (by omega) (by omega) hL_52 (iO_s htb hzO ⟨by rw [c_19]; decide, by rw [c_19]; decide⟩ (prodOf_mono rdPart_mono) hiO) (sum_s htb hzO rdPart_mono (Or.inl ⟨c_19, rfl⟩) hrem) hP hD hS (lv_sub hl [0, 2, 3] rfl)
        · skip
          refine lv_aload_n hx hb dX8_readSum_26 rfl (lv_at hl 1 rfl) ?_
          refine sk_get (v := .ref (q 2)) (C := RX8) (T := TX8) (N := 2) hx hb hts inlX8 hown hK hP 0 rfl rfl 0 (by decide) w_1_100 rfl dX8_readSum_27 ?_
          refine sk_get (v := .int zt) (C := RX6) (T := TX6) (N := 8) hx hb hts inlX6 hown hK hP 1 rfl rfl 4 (by decide) w_1_63 rfl dX8_readSum_30 ?_
          refine lv_bipush (v := 45) hx hb dX8_readSum_33 (by decide) ?_
          refine lv_icmp_ne (tgt := 83) hx hb dX8_readSum_35 (by decide) (fun c_53 => ?_) (fun c_53 => ?_)
          · skip
            exact sk_vret hx hb hr hlocks hK hP hD hS (⟨za, zw, zt, zz, zg, zp, yc, yw, yf, by omega, by omega, by omega, by omega, sum_e htb hzO htl hiO (Or.inr ⟨c_19, c_53⟩) hrem, rfl⟩) (Nat.le_of_ble_eq_true rfl) (Nat.le_of_ble_eq_true rfl) dX8_readSum_83
          · skip
            refine lv_aload_n hx hb dX8_readSum_38 rfl (lv_at hl 1 rfl) ?_
            refine sk_get (v := .ref (q 2)) (C := RX8) (T := TX8) (N := 2) hx hb hts inlX8 hown hK hP 0 rfl rfl 0 (by decide) w_1_100 rfl dX8_readSum_39 ?_
            refine sk_get (v := .int zt) (C := RX6) (T := TX6) (N := 8) hx hb hts inlX6 hown hK hP 1 rfl rfl 4 (by decide) w_1_63 rfl dX8_readSum_42 ?_
            refine lv_bipush (v := 43) hx hb dX8_readSum_45 (by decide) ?_
            refine lv_icmp_ne (tgt := 56) hx hb dX8_readSum_47 (by decide) (fun c_54 => ?_) (fun c => absurd c c_19)
            refine lv_sipush (v := 30001) hx hb dX8_readSum_56 (by decide) ?_
            refine lv_istore_n (lv' := [(3, .int 30001), (2, .int (nI i)), (0, .ref u0), (1, .ref h0)]) hx hb dX8_readSum_59 rfl hl (by decide) rfl (fun ls hl => ?_)
            refine lv_aload_n hx hb dX8_readSum_60 rfl (lv_at hl 2 rfl) ?_
            refine sk_get (v := .ref (q 2)) (C := RX8) (T := TX8) (N := 2) hx hb hts inlX8 hown hK hP 0 rfl rfl 0 (by decide) w_1_100 rfl dX8_readSum_61 ?_
            refine sk_VvZ (q0 := 0) (n := 0) (rest := []) (wr := [(u0, .inr (8, [.ref (q 2), .int (nI kn)])), (h0, .inr (0, [.ref k1, .ref k2, .ref k3, .ref k4, .int (nI yc), .int (nI yw)])), (k1, .inl (cI, 1600, .inl yf))]) ⟨hx, hb, hml, hown, hts⟩ hl.1 (c_erd_step l D cI cJ cC cZ cS zk zv zf q za zw xo zt zz zg zp tl tb (bindR (rc zo) (beF tb tl)) (by omega) (by omega) (by omega) htb (rd_st htb (hzO).1 ⟨by rw [c_53]; decide, by rw [c_53]; decide⟩)) w_3_110 w_2_226 w_2_227 w_1_4 w_2_228 (by decide +kernel) ⟨⟨(by dsimp only; omega), (by dsimp only; omega)⟩, (by dsimp only; omega), (by dsimp only; omega)⟩ hK hP hD hS hZ hA [1, 2, 3] [0, 4, 5] rfl rfl (by decide +kernel) (by decide +kernel) (by decide +kernel) rfl rfl rfl rfl (Nat.le_of_ble_eq_true rfl) dX8_readSum_64 (fun u H locs hw hP hD hS => ?_)
            obtain ⟨xa2_55, xv2_56, xt2_57, xz2_58, hxa2_59, hxz2_60, hO2_61, rfl⟩ := hw
            have hP : va_P D vwCl [(u0, .inr (8, [.ref (q 2), .int (nI kn)])), (h0, .inr (0, [.ref k1, .ref k2, .ref k3, .ref k4, .int (nI yc), .int (nI yw)])), (k1, .inl (cI, 1600, .inl yf)), (q 2, .inr (6, [.ref (q 0), .int (nI xa2_55), .int xv2_56, .int (nI xo), .int xt2_57, .int (nI xz2_58), .int zg, .int zp])), (q 0, .inr (10, [.ref (q 20), .int (nI tl)])), (q 20, .inl (cI, 1600, .inl (fun j => nI (tb j))))] H := hP
            have hD : va_D A [(u0, .inr (8, [.ref (q 2), .int (nI kn)])), (h0, .inr (0, [.ref k1, .ref k2, .ref k3, .ref k4, .int (nI yc), .int (nI yw)])), (k1, .inl (cI, 1600, .inl yf)), (q 2, .inr (6, [.ref (q 0), .int (nI xa2_55), .int xv2_56, .int (nI xo), .int xt2_57, .int (nI xz2_58), .int zg, .int zp])), (q 0, .inr (10, [.ref (q 20), .int (nI tl)])), (q 20, .inl (cI, 1600, .inl (fun j => nI (tb j))))] := hD
            rw [stF_nx] at hO2_61
            have hO_62 := rs_bd hzO hO2_61
            have hL_63 := lenS_nx htb hzO ⟨by rw [c_53]; decide, by rw [c_53]; decide⟩ hzl
            refine lv_aload_n hx hb dX8_readSum_67 rfl (lv_at hl 2 rfl) ?_
            refine lv_aload_n hx hb dX8_readSum_68 rfl (lv_at hl 3 rfl) ?_
            refine sk_VvZ (q0 := 0) (n := 1) (rest := []) (wr := []) ⟨hx, hb, hml, hown, hts⟩ hl.1 (hq q u0 kn xa2_55 xv2_56 xo xt2_57 xz2_58 zg zp tl tb h0 k1 k2 k3 k4 yc yw yf (bd zo (nxF tb tl)) (by omega) (by omega) (by omega) htb (by omega) (by omega) (by omega) (by omega) hO_62 (lenO_S hL_63)) w_3_88 w_3_90 w_0_7 w_1_6 w_3_91 (by decide +kernel) ⟨⟨(by dsimp only; omega), (by dsimp only; omega)⟩, (by dsimp only; omega), (by dsimp only; omega)⟩ hK hP hD hS hZ hA [0, 3, 4, 5, 1, 2] [] rfl rfl (by decide +kernel) (by decide +kernel) (by decide +kernel) rfl rfl rfl rfl (Nat.le_of_ble_eq_true rfl) dX8_readSum_69 (fun u H locs hw hP hD hS => ?_)
            obtain ⟨xa2_64, xv2_65, xt2_66, xz2_67, xf2_68, xp2_69, c2_70, w2_71, g1_72, hxa2_73, hxz2_74, hc2_75, hw2_76, hO2_77, rfl⟩ := hw
            have hP : va_P D vwCl [(u0, .inr (8, [.ref (q 2), .int (nI kn)])), (q 2, .inr (6, [.ref (q 0), .int (nI xa2_64), .int xv2_65, .int (nI xo), .int xt2_66, .int (nI xz2_67), .int xf2_68, .int xp2_69])), (q 0, .inr (10, [.ref (q 20), .int (nI tl)])), (q 20, .inl (cI, 1600, .inl (fun j => nI (tb j)))), (h0, .inr (0, [.ref k1, .ref k2, .ref k3, .ref k4, .int (nI c2_70), .int (nI w2_71)])), (k1, .inl (cI, 1600, .inl g1_72))] H := hP
            have hD : va_D A [(u0, .inr (8, [.ref (q 2), .int (nI kn)])), (q 2, .inr (6, [.ref (q 0), .int (nI xa2_64), .int xv2_65, .int (nI xo), .int xt2_66, .int (nI xz2_67), .int xf2_68, .int xp2_69])), (q 0, .inr (10, [.ref (q 20), .int (nI tl)])), (q 20, .inl (cI, 1600, .inl (fun j => nI (tb j)))), (h0, .inr (0, [.ref k1, .ref k2, .ref k3, .ref k4, .int (nI c2_70), .int (nI w2_71)])), (k1, .inl (cI, 1600, .inl g1_72))] := hD
            have hL_78 := lenS_ap (len_prod (tb := tb) (n := tl) (len_part (tb := tb) (n := tl) (kind := kn) dd)) hL_63
            refine lv_aload_n hx hb dX8_readSum_72 rfl (lv_at hl 3 rfl) ?_
            refine lv_iload_n hx hb dX8_readSum_73 rfl (lv_at hl 0 rfl) ?_
            refine sk_Vv (q0 := 0) (n := 1) (rest := []) (wr := [(u0, .inr (8, [.ref (q 2), .int (nI kn)])), (q 2, .inr (6, [.ref (q 0), .int (nI xa2_64), .int xv2_65, .int (nI xo), .int xt2_66, .int (nI xz2_67), .int xf2_68, .int xp2_69])), (q 0, .inr (10, [.ref (q 20), .int (nI tl)])), (q 20, .inl (cI, 1600, .inl (fun j => nI (tb j))))]) ⟨hx, hb, hml, hown, hts⟩ hl.1 (c_eCode_addX l D cI cJ cC cZ cS h0 k1 k2 k3 k4 c2_70 w2_71 g1_72 30001 (bindR (bd zo (nxF tb tl)) (apF (prodOf tb tl (rdPart tb tl kn dd)))) 2 (by omega) (by omega) (by decide) (by omega) (hO2_77).2 (rm_S hO2_77 htl hL_78)) w_3_97 w_3_98 w_3_99 w_1_8 w_3_100 (by decide +kernel) ⟨⟨(by dsimp only; omega), (by dsimp only; omega)⟩, (by dsimp only; omega), (by dsimp only; omega)⟩ hK hP hD hS hA [4, 5] [0, 1, 2, 3] rfl rfl (by decide +kernel) (by decide +kernel) (by decide +kernel) rfl rfl rfl rfl (Nat.le_of_ble_eq_true rfl) dX8_readSum_74 (fun u H locs hw hP hD hS => ?_)
            obtain ⟨c2_79, w2_80, g1_81, hc2_82, hw2_83, hO2_84, rfl⟩ := hw
            have hP : va_P D vwCl [(u0, .inr (8, [.ref (q 2), .int (nI kn)])), (q 2, .inr (6, [.ref (q 0), .int (nI xa2_64), .int xv2_65, .int (nI xo), .int xt2_66, .int (nI xz2_67), .int xf2_68, .int xp2_69])), (q 0, .inr (10, [.ref (q 20), .int (nI tl)])), (q 20, .inl (cI, 1600, .inl (fun j => nI (tb j)))), (h0, .inr (0, [.ref k1, .ref k2, .ref k3, .ref k4, .int (nI c2_79), .int (nI w2_80)])), (k1, .inl (cI, 1600, .inl g1_81))] H := hP
            have hD : va_D A [(u0, .inr (8, [.ref (q 2), .int (nI kn)])), (q 2, .inr (6, [.ref (q 0), .int (nI xa2_64), .int xv2_65, .int (nI xo), .int xt2_66, .int (nI xz2_67), .int xf2_68, .int xp2_69])), (q 0, .inr (10, [.ref (q 20), .int (nI tl)])), (q 20, .inl (cI, 1600, .inl (fun j => nI (tb j)))), (h0, .inr (0, [.ref k1, .ref k2, .ref k3, .ref k4, .int (nI c2_79), .int (nI w2_80)])), (k1, .inl (cI, 1600, .inl g1_81))] := hD
            have hO_85 := rs_ad hO2_77 hO2_84
            have hL_86 := lenO_ad (v := 2) hL_78
            refine lv_iinc (v := nI (i + 1)) (lv' := [(2, .int (nI (i + 1))), (3, .int 30001), (0, .ref u0), (1, .ref h0)]) hx hb dX8_readSum_77 hl (k := 1) rfl (ninc i 1 (by decide)) (by decide) rfl (fun ls hl => ?_)
            refine lv_goto (tgt := 7) hx hb dX8_readSum_80 (by decide) ?_
            exact ih_lp_16 (i + 1) xa2_64 xv2_65 xt2_66 xz2_67 xf2_68 xp2_69 c2_79 w2_80 g1_81 (ad (bindR (bd zo (nxF tb tl)) (apF (prodOf tb tl (rdPart tb tl kn dd)))) 2) _ _ _ (by omega) hO_85 (by omega) (by omega) (by omega) (by omega) (by omega) hL_86 (iO_s htb hzO ⟨by rw [c_53]; decide, by rw [c_53]; decide⟩ (prodOf_mono rdPart_mono) hiO) (sum_s htb hzO rdPart_mono (Or.inr ⟨c_53, rfl⟩) hrem) hP hD hS (lv_sub hl [0, 2, 3] rfl)
  exact lp_16 (1600 - 0 + 1) 0 xa2_1 xv2_2 xt2_3 xz2_4 xf2_5 xp2_6 c2_7 w2_8 g1_9 (bindR og (apF (prodOf tb tl (rdPart tb tl kn dd)))) _ _ _ (Nat.lt_succ_self _) hO2_14 (by omega) (by omega) (by omega) (by omega) (by omega) hL_15 (iO_0 _) (sum_0 _) hP hD hS (lv_sub hl [0, 1, 2] rfl)
theorem c_esums (l : Launch) (D : va_G) (cI cJ cC cZ cS : ClassId) (zk zv : Nat) (zf : Value) (dd : Nat) : CT_ereadSum l D cI cJ cC cZ cS zk zv zf dd ∧ CT_ereadPart l D cI cJ cC cZ cS zk zv zf dd := by
  induction dd with
  | zero =>
    have h1 := c_ereadPair l D cI cJ cC cZ cS zk zv zf 0 (fun d h => absurd h (by omega))
    have h2 := c_ereadPart l D cI cJ cC cZ cS zk zv zf 0 (fun d h => absurd h (by omega)) (fun d h => absurd h (by omega)) h1
    exact ⟨c_ereadSum l D cI cJ cC cZ cS zk zv zf 0 (c_ereadProduct l D cI cJ cC cZ cS zk zv zf 0 h2), h2⟩
  | succ n ih =>
    have hs : ∀ d, d + 1 = n + 1 → CT_ereadSum l D cI cJ cC cZ cS zk zv zf d := fun d h => by rw [show d = n by omega]; exact ih.1
    have hp : ∀ d, d + 1 = n + 1 → CT_ereadPart l D cI cJ cC cZ cS zk zv zf d := fun d h => by rw [show d = n by omega]; exact ih.2
    have h1 := c_ereadPair l D cI cJ cC cZ cS zk zv zf (n + 1) hs
    have h2 := c_ereadPart l D cI cJ cC cZ cS zk zv zf (n + 1) hs hp h1
    exact ⟨c_ereadSum l D cI cJ cC cZ cS zk zv zf (n + 1) (c_ereadProduct l D cI cJ cC cZ cS zk zv zf (n + 1) h2), h2⟩
def CT_esread (l : Launch) (D : va_G) (cI cJ cC cZ cS : ClassId) (zk zv : Nat) (zf : Value) (dd : Nat) : Prop := ∀ (q : Nat → Nat) (u0 : Nat) (kn : Nat) (xa : Nat) (xv : Int32) (xo : Nat) (xt : Int32) (xz : Nat) (xf : Int32) (xp : Int32) (tl : Nat) (tb : Nat → Nat) (h0 : Nat) (k1 : Nat) (k2 : Nat) (k3 : Nat) (k4 : Nat) (cl : Nat) (mw : Nat) (f1 : Nat → Int32) (og : Res) (hxa : xa ≤ 1600) (hxz : xz ≤ 1600) (htl : tl ≤ 1600) (htb : ∀ j, tb j ≤ 255) (hcl : cl ≤ 1600) (hmw : mw ≤ 1) (hkn : kn ≤ 2) (hdd : xo + dd = 6) (hO : rsO tb tl og xa xv xt xz xf xp cl mw f1) (hlen : lenO og), skMZ zk zv zf l yX8_read cX8_read 2 none (24 + 5 * dd) (700 + 100 * dd) 0 0 D (skT cI cJ cC cZ cS) [.ref u0, .ref h0] [(u0, .inr (8, [.ref (q 2), .int (nI kn)])), (q 2, .inr (6, [.ref (q 0), .int (nI xa), .int xv, .int (nI xo), .int xt, .int (nI xz), .int xf, .int xp])), (q 0, .inr (10, [.ref (q 20), .int (nI tl)])), (q 20, .inl (cI, 1600, .inl (fun j => nI (tb j)))), (h0, .inr (0, [.ref k1, .ref k2, .ref k3, .ref k4, .int (nI cl), .int (nI mw)])), (k1, .inl (cI, 1600, .inl f1))] (skV D (skT cI cJ cC cZ cS) (fun (u : va_W) => ∃ (xa2 : Nat), ∃ (xv2 : Int32), ∃ (xt2 : Int32), ∃ (xz2 : Nat), ∃ (xf2 : Int32), ∃ (xp2 : Int32), ∃ (c2 : Nat), ∃ (w2 : Nat), ∃ (g1 : Nat → Int32), xa2 ≤ 1600 ∧ xz2 ≤ 1600 ∧ c2 ≤ 1600 ∧ w2 ≤ 1 ∧ rsO tb tl (bindR og (apF (sumOf tb tl (rdPart tb tl kn dd)))) xa2 xv2 xt2 xz2 xf2 xp2 c2 w2 g1 ∧ u = [(u0, .inr (8, [.ref (q 2), .int (nI kn)])), (q 2, .inr (6, [.ref (q 0), .int (nI xa2), .int xv2, .int (nI xo), .int xt2, .int (nI xz2), .int xf2, .int xp2])), (q 0, .inr (10, [.ref (q 20), .int (nI tl)])), (q 20, .inl (cI, 1600, .inl (fun j => nI (tb j)))), (h0, .inr (0, [.ref k1, .ref k2, .ref k3, .ref k4, .int (nI c2), .int (nI w2)])), (k1, .inl (cI, 1600, .inl g1))]))
set_option maxHeartbeats 4000000 in
set_option maxRecDepth 100000 in
theorem c_esread (l : Launch) (D : va_G) (cI cJ cC cZ cS : ClassId) (zk zv : Nat) (zf : Value) (dd : Nat)  : CT_esread l D cI cJ cC cZ cS zk zv zf dd := by
  intro q u0 kn xa xv xo xt xz xf xp tl tb h0 k1 k2 k3 k4 cl mw f1 og hxa hxz htl htb hcl hmw hkn hdd hO hlen
  refine skMZ_of (by decide +kernel) (Nat.le_of_ble_eq_true rfl) ?_
  intro p e s m below meth c A ls E hP hD hZ hl
  obtain ⟨hx, hb, hr, hml, hlocks, hin, hown, hts, hK, hA⟩ := E
  have hown : s.vm.findClass RX8 = some m.cls := hown
  have hS : va_S A s.heap s.heap [] := va_S.rf
  have hl : lv_has ls 2 [(0, .ref u0), (1, .ref h0)] := hl
  refine lv_aload_n hx hb dX8_read_0 rfl (lv_at hl 0 rfl) ?_
  refine lv_aload_n hx hb dX8_read_1 rfl (lv_at hl 1 rfl) ?_
  refine sk_VvZ (q0 := 0) (n := 1) (rest := []) (wr := []) ⟨hx, hb, hml, hown, hts⟩ hl.1 ((c_esums l D cI cJ cC cZ cS zk zv zf dd).1 q u0 kn xa xv xo xt xz xf xp tl tb h0 k1 k2 k3 k4 cl mw f1 og (by omega) (by omega) (by omega) htb (by omega) (by omega) (by omega) (by omega) hO hlen) w_3_84 w_3_86 w_0_6 w_1_6 w_3_87 (by decide +kernel) ⟨⟨(by dsimp only; omega), (by dsimp only; omega)⟩, (by dsimp only; omega), (by dsimp only; omega)⟩ hK hP hD hS hZ hA [0, 1, 2, 3, 4, 5] [] rfl rfl (by decide +kernel) (by decide +kernel) (by decide +kernel) rfl rfl rfl rfl (Nat.le_of_ble_eq_true rfl) dX8_read_2 (fun u H locs hw hP hD hS => ?_)
  obtain ⟨xa2_1, xv2_2, xt2_3, xz2_4, xf2_5, xp2_6, c2_7, w2_8, g1_9, hxa2_10, hxz2_11, hc2_12, hw2_13, hO2_14, rfl⟩ := hw
  have hP : va_P D vwCl [(u0, .inr (8, [.ref (q 2), .int (nI kn)])), (q 2, .inr (6, [.ref (q 0), .int (nI xa2_1), .int xv2_2, .int (nI xo), .int xt2_3, .int (nI xz2_4), .int xf2_5, .int xp2_6])), (q 0, .inr (10, [.ref (q 20), .int (nI tl)])), (q 20, .inl (cI, 1600, .inl (fun j => nI (tb j)))), (h0, .inr (0, [.ref k1, .ref k2, .ref k3, .ref k4, .int (nI c2_7), .int (nI w2_8)])), (k1, .inl (cI, 1600, .inl g1_9))] H := hP
  have hD : va_D A [(u0, .inr (8, [.ref (q 2), .int (nI kn)])), (q 2, .inr (6, [.ref (q 0), .int (nI xa2_1), .int xv2_2, .int (nI xo), .int xt2_3, .int (nI xz2_4), .int xf2_5, .int xp2_6])), (q 0, .inr (10, [.ref (q 20), .int (nI tl)])), (q 20, .inl (cI, 1600, .inl (fun j => nI (tb j)))), (h0, .inr (0, [.ref k1, .ref k2, .ref k3, .ref k4, .int (nI c2_7), .int (nI w2_8)])), (k1, .inl (cI, 1600, .inl g1_9))] := hD
  have hL_15 := lenO_ap (len_sum (tb := tb) (n := tl) (len_part (tb := tb) (n := tl) (kind := kn) dd)) hlen
  exact sk_vret hx hb hr hlocks hK hP hD hS (⟨xa2_1, xv2_2, xt2_3, xz2_4, xf2_5, xp2_6, c2_7, w2_8, g1_9, by omega, by omega, by omega, by omega, hO2_14, rfl⟩) (Nat.le_of_ble_eq_true rfl) (Nat.le_of_ble_eq_true rfl) dX8_read_5
/-! rows filled -/
section SkRowsQ
variable {p : Program} {l : Launch} {e : Env} {R : Room} {s : State} {m : MethodId} {args : Array Value} {below : List Frame} {meth : Method} {c : Code} {H : Heap} {locs : List Loc} {cells slots : Nat} {Q : State → Prop}
variable {cc : ByteArray} {pc : Nat} {ls : Array Slot} {rest : List Value} {D : va_G} {tys : List (ClassId × FieldType)} {ws : va_W} {A : Nat → Prop} {H0 : Heap} {a : Nat}
theorem sk_iastQ {Pr : (Nat → Int32) → Prop} (hexec : p.tables.exec = Jvm.exec) (hb : c.code = cc) (hK : skK D tys s) (hP : va_P D vwCl ws H) (hD : va_D A ws) (hS : va_S A H0 H locs) (q0 t0 : Nat) {cA : ClassId} {n : Nat} {f : Nat → Int32} {ws' : (Nat → Int32) → va_W} (ha : ws[q0]? = some (a, .inl (cA, n, .inl f))) (ht : tys[t0]? = some (cA, .int)) {i x : Int32} (hin : vp_in i n) (hw' : ∀ f', ws.set q0 (a, .inl (cA, n, .inl f')) = ws' f') (hup : Pr (upd f i.toNatClampNeg x)) (hdg : decode cc pc = .ok (.iastore, 1))
    (kk : ∀ (f' : Nat → Int32) (H1 : Heap) (locs1 : List Loc), Pr f' → va_P D vwCl (ws' f') H1 → va_D A (ws' f') → va_S A H0 H1 locs1 → W p l e R s m args below meth c H1 locs1 cells slots Q (F0 m (pc + 1) ls rest)) : W p l e R s m args below meth c H locs cells slots Q (F0 m pc ls (.int x :: .int i :: .ref a :: rest)) :=
  va_iast hexec hb hK.1 hP hD hS q0 t0 ha ht hin hdg (fun H1 locs1 h1 h2 h3 => kk _ H1 locs1 hup ((hw' _) ▸ h1) ((hw' _) ▸ h2) h3)
end SkRowsQ
def allV (v : Int32) (n : Nat) (f : Nat → Int32) : Prop := ∀ j, j < n → f j = v
theorem allV_0 (v : Int32) (f : Nat → Int32) : allV v 0 f := fun j h => absurd h (by omega)
theorem allV_s {v : Int32} {i : Nat} {f : Nat → Int32} (h : allV v i f) (hi : i < 2147483648) : allV v (i + 1) (upd f (nI i).toNatClampNeg v) := by
  rw [nI_clamp hi]
  intro j hj
  unfold upd
  by_cases e : j = i
  · rw [if_pos e]
  · rw [if_neg e]; exact h j (by omega)
set_option maxHeartbeats 4000000 in
set_option maxRecDepth 100000 in
theorem c_efillX (l : Launch) (D : va_G) (cI cJ cC cZ cS : ClassId) (ar : Nat) (n : Nat) (f : Nat → Int32) (v : Int32) (hn : n < 2147483648) : skM l yJ7_fill_53178 cJ7_fill_53178 4 none 0 0 0 0 D (skT cI cJ cC cZ cS) [.ref ar, .int v] [(ar, .inl (cI, n, .inl f))] (skV D (skT cI cJ cC cZ cS) (fun (u : va_W) => ∃ (g : Nat → Int32), allV v n g ∧ u = [(ar, .inl (cI, n, .inl g))])) := by
  refine skM_of (by decide +kernel) (Nat.le_of_ble_eq_true rfl) ?_
  intro p e s m below meth c A ls E hP hD hl
  obtain ⟨hx, hb, hr, hml, hlocks, hin, hown, hts, hK, hA⟩ := E
  have hown : s.vm.findClass RJ7 = some m.cls := hown
  have hS : va_S A s.heap s.heap [] := va_S.rf
  have hl : lv_has ls 4 [(0, .ref ar), (1, .int v)] := hl
  refine lv_iconst (v := 0) hx hb dJ7_fill_53178_0 (by decide) ?_
  refine lv_istore_n (lv' := [(2, .int 0), (0, .ref ar), (1, .int v)]) hx hb dJ7_fill_53178_1 rfl hl (by decide) rfl (fun ls hl => ?_)
  refine lv_aload_n hx hb dJ7_fill_53178_2 rfl (lv_at hl 1 rfl) ?_
  refine va_alen (v := nI n) hx hb hK.1 hP 0 0 rfl rfl rfl dJ7_fill_53178_3 ?_
  refine lv_istore_n (lv' := [(3, .int (nI n)), (2, .int 0), (0, .ref ar), (1, .int v)]) hx hb dJ7_fill_53178_4 rfl hl (by decide) rfl (fun ls hl => ?_)
  have lp_1 : ∀ (n_2 : Nat) (i : Nat) (fi : Nat → Int32) (H : Heap) (locs : List Loc) (ls : Array Slot), n - i < n_2 → (i ≤ n) → (allV v i fi) → va_P D vwCl [(ar, .inl (cI, n, .inl fi))] H → va_D A [(ar, .inl (cI, n, .inl fi))] → va_S A s.heap H locs → lv_has ls 4 [(3, .int (nI n)), (2, .int (nI i)), (0, .ref ar), (1, .int v)] → W p l e { frames := 0, cells := 0, slots := 0, locals := 0 } s m ([.ref ar, .int v] : List Value).toArray below meth c H locs 0 0 (MQ below (skV D (skT cI cJ cC cZ cS) (fun (u : va_W) => ∃ (g : Nat → Int32), allV v n g ∧ u = [(ar, .inl (cI, n, .inl g))]) A) ([.ref ar, .int v] : List Value).toArray s 0 0 A) (F0 m 5 ls []) := by
    intro n_2
    induction n_2 with
    | zero => intro i fi H locs ls hm; exact absurd hm (Nat.not_lt_zero _)
    | succ n_2 ih_lp_1 =>
      intro i fi H locs ls hm hi hfi hP hD hS hl
      refine lv_iload_n hx hb dJ7_fill_53178_5 rfl (lv_at hl 1 rfl) ?_
      refine lv_iload_n hx hb dJ7_fill_53178_6 rfl (lv_at hl 0 rfl) ?_
      refine lv_icmp_ge (tgt := 20) hx hb dJ7_fill_53178_7 (by decide) (fun c_3 => ?_) (fun c_3 => ?_)
      · have c_3 : n ≤ i := (nle n i (by omega) (by omega)).mp c_3
        exact sk_vret hx hb hr hlocks hK hP hD hS (⟨fi, (show allV v n fi by rw [show n = i by omega]; exact hfi), rfl⟩) (Nat.le_of_ble_eq_true rfl) (Nat.le_of_ble_eq_true rfl) dJ7_fill_53178_20
      · have c_3 : ¬ (n ≤ i) := fun h => c_3 ((nle n i (by omega) (by omega)).mpr h)
        refine lv_aload_n hx hb dJ7_fill_53178_10 rfl (lv_at hl 2 rfl) ?_
        refine lv_iload_n hx hb dJ7_fill_53178_11 rfl (lv_at hl 1 rfl) ?_
        refine lv_iload_n hx hb dJ7_fill_53178_12 rfl (lv_at hl 3 rfl) ?_
        refine sk_iastQ (Pr := allV v (i + 1)) (ws' := fun f_4 => [(ar, .inl (cI, n, .inl f_4))]) hx hb hK hP hD hS 0 0 rfl rfl (vin i n (by omega) (by omega)) (fun _ => rfl) (allV_s hfi (by omega)) dJ7_fill_53178_13 (fun f_4 H locs hf_5 hP hD hS => ?_)
        refine lv_iinc (v := nI (i + 1)) (lv' := [(2, .int (nI (i + 1))), (3, .int (nI n)), (0, .ref ar), (1, .int v)]) hx hb dJ7_fill_53178_14 hl (k := 1) rfl (ninc i 1 (by decide)) (by decide) rfl (fun ls hl => ?_)
        refine lv_goto (tgt := 5) hx hb dJ7_fill_53178_17 (by decide) ?_
        exact ih_lp_1 (i + 1) f_4 _ _ _ (by omega) (by omega) hf_5 hP hD hS (lv_sub hl [1, 0, 2, 3] rfl)
  exact lp_1 (n - 0 + 1) 0 f _ _ _ (Nat.lt_succ_self _) (by omega) (allV_0 _ _) hP hD hS (lv_sub hl [0, 1, 2, 3] rfl)
set_option maxHeartbeats 4000000 in
set_option maxRecDepth 100000 in
theorem c_elk_clear (l : Launch) (D : va_G) (cI cJ cC cZ cS : ClassId) (q : Nat → Nat) (jd : Nat) (jm : Nat) (ju : Int32) (jr : Int32) (jn : Nat) (jc : Nat) (jx : Nat) (jf : Nat → Int32) (jt : Nat → Int32) (jb : Nat → Int32) (jw : Nat → Int32)  : skM l yX2_clear cX2_clear 1 none 1 23 0 0 D (skT cI cJ cC cZ cS) [.ref (q 6)] [(q 6, .inr (2, [.ref (q 24), .ref (q 25), .ref (q 26), .ref (q 27), .ref (q 28), .int (nI jd), .int (nI jm), .int ju, .int jr, .int (nI jn)])), (q 24, .inr (0, [.ref (q 29), .ref (q 30), .ref (q 31), .ref (q 32), .int (nI jc), .int (nI jx)])), (q 27, .inl (cI, 3, .inl jf)), (q 28, .inl (cI, 3, .inl jt)), (q 25, .inl (cI, 9, .inl jb)), (q 26, .inl (cI, 9, .inl jw))] (skV D (skT cI cJ cC cZ cS) (fun (u : va_W) => ∃ (gf : Nat → Int32), ∃ (gt : Nat → Int32), ∃ (gb : Nat → Int32), ∃ (gw : Nat → Int32), allV 0 3 gf ∧ allV 0 3 gt ∧ allV 0 9 gb ∧ allV 0 9 gw ∧ u = [(q 6, .inr (2, [.ref (q 24), .ref (q 25), .ref (q 26), .ref (q 27), .ref (q 28), .int (nI jd), .int (nI jm), .int 0, .int 0, .int 0])), (q 24, .inr (0, [.ref (q 29), .ref (q 30), .ref (q 31), .ref (q 32), .int 0, .int 0])), (q 27, .inl (cI, 3, .inl gf)), (q 28, .inl (cI, 3, .inl gt)), (q 25, .inl (cI, 9, .inl gb)), (q 26, .inl (cI, 9, .inl gw))])) := by
  refine skM_of (by decide +kernel) (Nat.le_of_ble_eq_true rfl) ?_
  intro p e s m below meth c A ls E hP hD hl
  obtain ⟨hx, hb, hr, hml, hlocks, hin, hown, hts, hK, hA⟩ := E
  have hown : s.vm.findClass RX2 = some m.cls := hown
  have hS : va_S A s.heap s.heap [] := va_S.rf
  have hl : lv_has ls 1 [(0, .ref (q 6))] := hl
  refine lv_aload_n hx hb dX2_clear_0 rfl (lv_at hl 0 rfl) ?_
  refine sk_get (v := .ref (q 24)) (C := RX2) (T := TX2) (N := 10) hx hb hts inlX2 hown hK hP 0 rfl rfl 0 (by decide) w_1_175 rfl dX2_clear_1 ?_
  refine sk_Vv (q0 := 0) (n := 0) (rest := []) (wr := [(q 6, .inr (2, [.ref (q 24), .ref (q 25), .ref (q 26), .ref (q 27), .ref (q 28), .int (nI jd), .int (nI jm), .int ju, .int jr, .int (nI jn)])), (q 27, .inl (cI, 3, .inl jf)), (q 28, .inl (cI, 3, .inl jt)), (q 25, .inl (cI, 9, .inl jb)), (q 26, .inl (cI, 9, .inl jw))]) ⟨hx, hb, hml, hown, hts⟩ hl.1 (c_Code_clear l D cI cJ cC cZ cS (q 24) (q 29) (q 30) (q 31) (q 32) jc jx) w_2_214 w_2_215 w_2_216 w_1_8 w_2_217 (by decide +kernel) ⟨⟨(Nat.le_of_ble_eq_true rfl), (Nat.le_of_ble_eq_true rfl)⟩, (Nat.le_of_ble_eq_true rfl), (Nat.le_of_ble_eq_true rfl)⟩ hK hP hD hS hA [1] [0, 2, 3, 4, 5] rfl rfl (by decide +kernel) (by decide +kernel) (by decide +kernel) rfl rfl rfl rfl (Nat.le_of_ble_eq_true rfl) dX2_clear_4 (fun u H locs hw hP hD hS => ?_)
  obtain rfl := hw
  have hP : va_P D vwCl [(q 6, .inr (2, [.ref (q 24), .ref (q 25), .ref (q 26), .ref (q 27), .ref (q 28), .int (nI jd), .int (nI jm), .int ju, .int jr, .int (nI jn)])), (q 27, .inl (cI, 3, .inl jf)), (q 28, .inl (cI, 3, .inl jt)), (q 25, .inl (cI, 9, .inl jb)), (q 26, .inl (cI, 9, .inl jw)), (q 24, .inr (0, [.ref (q 29), .ref (q 30), .ref (q 31), .ref (q 32), .int 0, .int 0]))] H := hP
  have hD : va_D A [(q 6, .inr (2, [.ref (q 24), .ref (q 25), .ref (q 26), .ref (q 27), .ref (q 28), .int (nI jd), .int (nI jm), .int ju, .int jr, .int (nI jn)])), (q 27, .inl (cI, 3, .inl jf)), (q 28, .inl (cI, 3, .inl jt)), (q 25, .inl (cI, 9, .inl jb)), (q 26, .inl (cI, 9, .inl jw)), (q 24, .inr (0, [.ref (q 29), .ref (q 30), .ref (q 31), .ref (q 32), .int 0, .int 0]))] := hD
  refine lv_aload_n hx hb dX2_clear_7 rfl (lv_at hl 0 rfl) ?_
  refine sk_get (v := .ref (q 25)) (C := RX2) (T := TX2) (N := 10) hx hb hts inlX2 hown hK hP 0 rfl rfl 1 (by decide) w_1_178 rfl dX2_clear_8 ?_
  refine lv_iconst (v := 0) hx hb dX2_clear_11 (by decide) ?_
  refine sk_Sv (n := 2) (rest := []) (wr := [(q 6, .inr (2, [.ref (q 24), .ref (q 25), .ref (q 26), .ref (q 27), .ref (q 28), .int (nI jd), .int (nI jm), .int ju, .int jr, .int (nI jn)])), (q 27, .inl (cI, 3, .inl jf)), (q 28, .inl (cI, 3, .inl jt)), (q 26, .inl (cI, 9, .inl jw)), (q 24, .inr (0, [.ref (q 29), .ref (q 30), .ref (q 31), .ref (q 32), .int 0, .int 0]))]) ⟨hx, hb, hml, hown, hts⟩ hl.1 (c_efillX l D cI cJ cC cZ cS (q 25) 9 jb 0 (by omega)) w_2_218 w_2_219 w_1_15 w_2_220 (by decide +kernel) ⟨⟨(Nat.le_of_ble_eq_true rfl), (Nat.le_of_ble_eq_true rfl)⟩, (Nat.le_of_ble_eq_true rfl), (Nat.le_of_ble_eq_true rfl)⟩ hK hP hD hS hA [3] [0, 1, 2, 4, 5] rfl rfl (by decide +kernel) (by decide +kernel) (by decide +kernel) rfl rfl (Nat.le_of_ble_eq_true rfl) dX2_clear_12 (fun u H locs hw hP hD hS => ?_)
  obtain ⟨g_1, hfl_2, rfl⟩ := hw
  have hP : va_P D vwCl [(q 6, .inr (2, [.ref (q 24), .ref (q 25), .ref (q 26), .ref (q 27), .ref (q 28), .int (nI jd), .int (nI jm), .int ju, .int jr, .int (nI jn)])), (q 27, .inl (cI, 3, .inl jf)), (q 28, .inl (cI, 3, .inl jt)), (q 26, .inl (cI, 9, .inl jw)), (q 24, .inr (0, [.ref (q 29), .ref (q 30), .ref (q 31), .ref (q 32), .int 0, .int 0])), (q 25, .inl (cI, 9, .inl g_1))] H := hP
  have hD : va_D A [(q 6, .inr (2, [.ref (q 24), .ref (q 25), .ref (q 26), .ref (q 27), .ref (q 28), .int (nI jd), .int (nI jm), .int ju, .int jr, .int (nI jn)])), (q 27, .inl (cI, 3, .inl jf)), (q 28, .inl (cI, 3, .inl jt)), (q 26, .inl (cI, 9, .inl jw)), (q 24, .inr (0, [.ref (q 29), .ref (q 30), .ref (q 31), .ref (q 32), .int 0, .int 0])), (q 25, .inl (cI, 9, .inl g_1))] := hD
  refine lv_aload_n hx hb dX2_clear_15 rfl (lv_at hl 0 rfl) ?_
  refine sk_get (v := .ref (q 26)) (C := RX2) (T := TX2) (N := 10) hx hb hts inlX2 hown hK hP 0 rfl rfl 2 (by decide) w_1_181 rfl dX2_clear_16 ?_
  refine lv_iconst (v := 0) hx hb dX2_clear_19 (by decide) ?_
  refine sk_Sv (n := 2) (rest := []) (wr := [(q 6, .inr (2, [.ref (q 24), .ref (q 25), .ref (q 26), .ref (q 27), .ref (q 28), .int (nI jd), .int (nI jm), .int ju, .int jr, .int (nI jn)])), (q 27, .inl (cI, 3, .inl jf)), (q 28, .inl (cI, 3, .inl jt)), (q 24, .inr (0, [.ref (q 29), .ref (q 30), .ref (q 31), .ref (q 32), .int 0, .int 0])), (q 25, .inl (cI, 9, .inl g_1))]) ⟨hx, hb, hml, hown, hts⟩ hl.1 (c_efillX l D cI cJ cC cZ cS (q 26) 9 jw 0 (by omega)) w_2_218 w_2_219 w_1_15 w_2_220 (by decide +kernel) ⟨⟨(Nat.le_of_ble_eq_true rfl), (Nat.le_of_ble_eq_true rfl)⟩, (Nat.le_of_ble_eq_true rfl), (Nat.le_of_ble_eq_true rfl)⟩ hK hP hD hS hA [3] [0, 1, 2, 4, 5] rfl rfl (by decide +kernel) (by decide +kernel) (by decide +kernel) rfl rfl (Nat.le_of_ble_eq_true rfl) dX2_clear_20 (fun u H locs hw hP hD hS => ?_)
  obtain ⟨g_3, hfl_4, rfl⟩ := hw
  have hP : va_P D vwCl [(q 6, .inr (2, [.ref (q 24), .ref (q 25), .ref (q 26), .ref (q 27), .ref (q 28), .int (nI jd), .int (nI jm), .int ju, .int jr, .int (nI jn)])), (q 27, .inl (cI, 3, .inl jf)), (q 28, .inl (cI, 3, .inl jt)), (q 24, .inr (0, [.ref (q 29), .ref (q 30), .ref (q 31), .ref (q 32), .int 0, .int 0])), (q 25, .inl (cI, 9, .inl g_1)), (q 26, .inl (cI, 9, .inl g_3))] H := hP
  have hD : va_D A [(q 6, .inr (2, [.ref (q 24), .ref (q 25), .ref (q 26), .ref (q 27), .ref (q 28), .int (nI jd), .int (nI jm), .int ju, .int jr, .int (nI jn)])), (q 27, .inl (cI, 3, .inl jf)), (q 28, .inl (cI, 3, .inl jt)), (q 24, .inr (0, [.ref (q 29), .ref (q 30), .ref (q 31), .ref (q 32), .int 0, .int 0])), (q 25, .inl (cI, 9, .inl g_1)), (q 26, .inl (cI, 9, .inl g_3))] := hD
  refine lv_aload_n hx hb dX2_clear_23 rfl (lv_at hl 0 rfl) ?_
  refine sk_get (v := .ref (q 27)) (C := RX2) (T := TX2) (N := 10) hx hb hts inlX2 hown hK hP 0 rfl rfl 3 (by decide) w_1_184 rfl dX2_clear_24 ?_
  refine lv_iconst (v := 0) hx hb dX2_clear_27 (by decide) ?_
  refine sk_Sv (n := 2) (rest := []) (wr := [(q 6, .inr (2, [.ref (q 24), .ref (q 25), .ref (q 26), .ref (q 27), .ref (q 28), .int (nI jd), .int (nI jm), .int ju, .int jr, .int (nI jn)])), (q 28, .inl (cI, 3, .inl jt)), (q 24, .inr (0, [.ref (q 29), .ref (q 30), .ref (q 31), .ref (q 32), .int 0, .int 0])), (q 25, .inl (cI, 9, .inl g_1)), (q 26, .inl (cI, 9, .inl g_3))]) ⟨hx, hb, hml, hown, hts⟩ hl.1 (c_efillX l D cI cJ cC cZ cS (q 27) 3 jf 0 (by omega)) w_2_218 w_2_219 w_1_15 w_2_220 (by decide +kernel) ⟨⟨(Nat.le_of_ble_eq_true rfl), (Nat.le_of_ble_eq_true rfl)⟩, (Nat.le_of_ble_eq_true rfl), (Nat.le_of_ble_eq_true rfl)⟩ hK hP hD hS hA [1] [0, 2, 3, 4, 5] rfl rfl (by decide +kernel) (by decide +kernel) (by decide +kernel) rfl rfl (Nat.le_of_ble_eq_true rfl) dX2_clear_28 (fun u H locs hw hP hD hS => ?_)
  obtain ⟨g_5, hfl_6, rfl⟩ := hw
  have hP : va_P D vwCl [(q 6, .inr (2, [.ref (q 24), .ref (q 25), .ref (q 26), .ref (q 27), .ref (q 28), .int (nI jd), .int (nI jm), .int ju, .int jr, .int (nI jn)])), (q 28, .inl (cI, 3, .inl jt)), (q 24, .inr (0, [.ref (q 29), .ref (q 30), .ref (q 31), .ref (q 32), .int 0, .int 0])), (q 25, .inl (cI, 9, .inl g_1)), (q 26, .inl (cI, 9, .inl g_3)), (q 27, .inl (cI, 3, .inl g_5))] H := hP
  have hD : va_D A [(q 6, .inr (2, [.ref (q 24), .ref (q 25), .ref (q 26), .ref (q 27), .ref (q 28), .int (nI jd), .int (nI jm), .int ju, .int jr, .int (nI jn)])), (q 28, .inl (cI, 3, .inl jt)), (q 24, .inr (0, [.ref (q 29), .ref (q 30), .ref (q 31), .ref (q 32), .int 0, .int 0])), (q 25, .inl (cI, 9, .inl g_1)), (q 26, .inl (cI, 9, .inl g_3)), (q 27, .inl (cI, 3, .inl g_5))] := hD
  refine lv_aload_n hx hb dX2_clear_31 rfl (lv_at hl 0 rfl) ?_
  refine sk_get (v := .ref (q 28)) (C := RX2) (T := TX2) (N := 10) hx hb hts inlX2 hown hK hP 0 rfl rfl 4 (by decide) w_1_186 rfl dX2_clear_32 ?_
  refine lv_iconst (v := 0) hx hb dX2_clear_35 (by decide) ?_
  refine sk_Sv (n := 2) (rest := []) (wr := [(q 6, .inr (2, [.ref (q 24), .ref (q 25), .ref (q 26), .ref (q 27), .ref (q 28), .int (nI jd), .int (nI jm), .int ju, .int jr, .int (nI jn)])), (q 24, .inr (0, [.ref (q 29), .ref (q 30), .ref (q 31), .ref (q 32), .int 0, .int 0])), (q 25, .inl (cI, 9, .inl g_1)), (q 26, .inl (cI, 9, .inl g_3)), (q 27, .inl (cI, 3, .inl g_5))]) ⟨hx, hb, hml, hown, hts⟩ hl.1 (c_efillX l D cI cJ cC cZ cS (q 28) 3 jt 0 (by omega)) w_2_218 w_2_219 w_1_15 w_2_220 (by decide +kernel) ⟨⟨(Nat.le_of_ble_eq_true rfl), (Nat.le_of_ble_eq_true rfl)⟩, (Nat.le_of_ble_eq_true rfl), (Nat.le_of_ble_eq_true rfl)⟩ hK hP hD hS hA [1] [0, 2, 3, 4, 5] rfl rfl (by decide +kernel) (by decide +kernel) (by decide +kernel) rfl rfl (Nat.le_of_ble_eq_true rfl) dX2_clear_36 (fun u H locs hw hP hD hS => ?_)
  obtain ⟨g_7, hfl_8, rfl⟩ := hw
  have hP : va_P D vwCl [(q 6, .inr (2, [.ref (q 24), .ref (q 25), .ref (q 26), .ref (q 27), .ref (q 28), .int (nI jd), .int (nI jm), .int ju, .int jr, .int (nI jn)])), (q 24, .inr (0, [.ref (q 29), .ref (q 30), .ref (q 31), .ref (q 32), .int 0, .int 0])), (q 25, .inl (cI, 9, .inl g_1)), (q 26, .inl (cI, 9, .inl g_3)), (q 27, .inl (cI, 3, .inl g_5)), (q 28, .inl (cI, 3, .inl g_7))] H := hP
  have hD : va_D A [(q 6, .inr (2, [.ref (q 24), .ref (q 25), .ref (q 26), .ref (q 27), .ref (q 28), .int (nI jd), .int (nI jm), .int ju, .int jr, .int (nI jn)])), (q 24, .inr (0, [.ref (q 29), .ref (q 30), .ref (q 31), .ref (q 32), .int 0, .int 0])), (q 25, .inl (cI, 9, .inl g_1)), (q 26, .inl (cI, 9, .inl g_3)), (q 27, .inl (cI, 3, .inl g_5)), (q 28, .inl (cI, 3, .inl g_7))] := hD
  refine lv_aload_n hx hb dX2_clear_39 rfl (lv_at hl 0 rfl) ?_
  refine lv_iconst (v := 0) hx hb dX2_clear_40 (by decide) ?_
  refine sk_put (ws' := [(q 6, .inr (2, [.ref (q 24), .ref (q 25), .ref (q 26), .ref (q 27), .ref (q 28), .int (nI jd), .int (nI jm), .int 0, .int jr, .int (nI jn)])), (q 24, .inr (0, [.ref (q 29), .ref (q 30), .ref (q 31), .ref (q 32), .int 0, .int 0])), (q 25, .inl (cI, 9, .inl g_1)), (q 26, .inl (cI, 9, .inl g_3)), (q 27, .inl (cI, 3, .inl g_5)), (q 28, .inl (cI, 3, .inl g_7))]) (C := RX2) (T := TX2) (N := 10) (v := .int 0) hx hb hts inlX2 tyX2 tyX2_ok nmX2 hown hK hP hD hS 0 rfl rfl 7 (by decide) w_1_194 rfl rfl rfl (Nat.le_of_ble_eq_true rfl) rfl dX2_clear_41 (fun H locs hP hD hS => ?_)
  refine lv_aload_n hx hb dX2_clear_44 rfl (lv_at hl 0 rfl) ?_
  refine lv_iconst (v := 0) hx hb dX2_clear_45 (by decide) ?_
  refine sk_put (ws' := [(q 6, .inr (2, [.ref (q 24), .ref (q 25), .ref (q 26), .ref (q 27), .ref (q 28), .int (nI jd), .int (nI jm), .int 0, .int 0, .int (nI jn)])), (q 24, .inr (0, [.ref (q 29), .ref (q 30), .ref (q 31), .ref (q 32), .int 0, .int 0])), (q 25, .inl (cI, 9, .inl g_1)), (q 26, .inl (cI, 9, .inl g_3)), (q 27, .inl (cI, 3, .inl g_5)), (q 28, .inl (cI, 3, .inl g_7))]) (C := RX2) (T := TX2) (N := 10) (v := .int 0) hx hb hts inlX2 tyX2 tyX2_ok nmX2 hown hK hP hD hS 0 rfl rfl 8 (by decide) w_1_197 rfl rfl rfl (Nat.le_of_ble_eq_true rfl) rfl dX2_clear_46 (fun H locs hP hD hS => ?_)
  refine lv_aload_n hx hb dX2_clear_49 rfl (lv_at hl 0 rfl) ?_
  refine lv_iconst (v := 0) hx hb dX2_clear_50 (by decide) ?_
  refine sk_put (ws' := [(q 6, .inr (2, [.ref (q 24), .ref (q 25), .ref (q 26), .ref (q 27), .ref (q 28), .int (nI jd), .int (nI jm), .int 0, .int 0, .int 0])), (q 24, .inr (0, [.ref (q 29), .ref (q 30), .ref (q 31), .ref (q 32), .int 0, .int 0])), (q 25, .inl (cI, 9, .inl g_1)), (q 26, .inl (cI, 9, .inl g_3)), (q 27, .inl (cI, 3, .inl g_5)), (q 28, .inl (cI, 3, .inl g_7))]) (C := RX2) (T := TX2) (N := 10) (v := .int 0) hx hb hts inlX2 tyX2 tyX2_ok nmX2 hown hK hP hD hS 0 rfl rfl 9 (by decide) w_1_200 rfl rfl rfl (Nat.le_of_ble_eq_true rfl) rfl dX2_clear_51 (fun H locs hP hD hS => ?_)
  have hP := hP.sub (ws' := [(q 6, .inr (2, [.ref (q 24), .ref (q 25), .ref (q 26), .ref (q 27), .ref (q 28), .int (nI jd), .int (nI jm), .int 0, .int 0, .int 0])), (q 24, .inr (0, [.ref (q 29), .ref (q 30), .ref (q 31), .ref (q 32), .int 0, .int 0])), (q 27, .inl (cI, 3, .inl g_5)), (q 28, .inl (cI, 3, .inl g_7)), (q 25, .inl (cI, 9, .inl g_1)), (q 26, .inl (cI, 9, .inl g_3))]) [0, 1, 4, 5, 2, 3] rfl
  have hD := hD.sub (ws' := [(q 6, .inr (2, [.ref (q 24), .ref (q 25), .ref (q 26), .ref (q 27), .ref (q 28), .int (nI jd), .int (nI jm), .int 0, .int 0, .int 0])), (q 24, .inr (0, [.ref (q 29), .ref (q 30), .ref (q 31), .ref (q 32), .int 0, .int 0])), (q 27, .inl (cI, 3, .inl g_5)), (q 28, .inl (cI, 3, .inl g_7)), (q 25, .inl (cI, 9, .inl g_1)), (q 26, .inl (cI, 9, .inl g_3))]) [0, 1, 4, 5, 2, 3] (by decide +kernel) rfl
  exact sk_vret hx hb hr hlocks hK hP hD hS (⟨g_5, g_7, g_1, g_3, hfl_6, hfl_8, hfl_2, hfl_4, rfl⟩) (Nat.le_of_ble_eq_true rfl) (Nat.le_of_ble_eq_true rfl) dX2_clear_54
set_option maxHeartbeats 4000000 in
set_option maxRecDepth 100000 in
theorem c_elk_hasSum (l : Launch) (D : va_G) (cI cJ cC cZ cS : ClassId) (q : Nat → Nat) (jd : Nat) (jm : Nat) (ju : Int32) (jr : Int32) (jn : Nat) (jf : Nat → Int32) (jt : Nat → Int32) (w : Nat) (hw : w < 3) : skM l yX2_hasSum cX2_hasSum 2 (some .boolean) 0 0 0 0 D (skT cI cJ cC cZ cS) [.ref (q 6), .int (nI w)] [(q 6, .inr (2, [.ref (q 24), .ref (q 25), .ref (q 26), .ref (q 27), .ref (q 28), .int (nI jd), .int (nI jm), .int ju, .int jr, .int (nI jn)])), (q 27, .inl (cI, 3, .inl jf)), (q 28, .inl (cI, 3, .inl jt))] (skI D (skT cI cJ cC cZ cS) (fun (r : Int32) (u : va_W) => ∃ (b : Nat), b ≤ 1 ∧ ((b = 0 ∧ ¬ jf w < jt w) ∨ (b = 1 ∧ jf w < jt w)) ∧ r = nI b ∧ u = [(q 6, .inr (2, [.ref (q 24), .ref (q 25), .ref (q 26), .ref (q 27), .ref (q 28), .int (nI jd), .int (nI jm), .int ju, .int jr, .int (nI jn)])), (q 27, .inl (cI, 3, .inl jf)), (q 28, .inl (cI, 3, .inl jt))])) := by
  refine skM_of (by decide +kernel) (Nat.le_of_ble_eq_true rfl) ?_
  intro p e s m below meth c A ls E hP hD hl
  obtain ⟨hx, hb, hr, hml, hlocks, hin, hown, hts, hK, hA⟩ := E
  have hown : s.vm.findClass RX2 = some m.cls := hown
  have hS : va_S A s.heap s.heap [] := va_S.rf
  have hl : lv_has ls 2 [(0, .ref (q 6)), (1, .int (nI w))] := hl
  refine lv_aload_n hx hb dX2_hasSum_0 rfl (lv_at hl 0 rfl) ?_
  refine sk_get (v := .ref (q 28)) (C := RX2) (T := TX2) (N := 10) hx hb hts inlX2 hown hK hP 0 rfl rfl 4 (by decide) w_1_186 rfl dX2_hasSum_1 ?_
  refine lv_iload_n hx hb dX2_hasSum_4 rfl (lv_at hl 1 rfl) ?_
  refine va_iald hx hb hK.1 hP 2 0 rfl rfl (vin w 3 (by omega) (by omega)) dX2_hasSum_5 ?_
  refine lv_topi (fun v_1 ev_1 => ?_)
  refine lv_aload_n hx hb dX2_hasSum_6 rfl (lv_at hl 0 rfl) ?_
  refine sk_get (v := .ref (q 27)) (C := RX2) (T := TX2) (N := 10) hx hb hts inlX2 hown hK hP 0 rfl rfl 3 (by decide) w_1_184 rfl dX2_hasSum_7 ?_
  refine lv_iload_n hx hb dX2_hasSum_10 rfl (lv_at hl 1 rfl) ?_
  refine va_iald hx hb hK.1 hP 1 0 rfl rfl (vin w 3 (by omega) (by omega)) dX2_hasSum_11 ?_
  refine lv_topi (fun v_2 ev_2 => ?_)
  refine lv_icmp_le (tgt := 19) hx hb dX2_hasSum_12 (by decide) (fun c_3 => ?_) (fun c_3 => ?_)
  · skip
    refine lv_iconst (v := 0) hx hb dX2_hasSum_19 (by decide) ?_
    exact sk_iret hx hb hr rfl hlocks hK hP hD hS (⟨0, by omega, Or.inl ⟨rfl, Int32.not_lt.mpr (by rw [ev_1, ev_2, nI_clamp (by omega)] at c_3; exact c_3)⟩, rfl, rfl⟩) (Nat.le_of_ble_eq_true rfl) (Nat.le_of_ble_eq_true rfl) dX2_hasSum_20
  · skip
    refine lv_iconst (v := 1) hx hb dX2_hasSum_15 (by decide) ?_
    refine lv_goto (tgt := 20) hx hb dX2_hasSum_16 (by decide) ?_
    exact sk_iret hx hb hr rfl hlocks hK hP hD hS (⟨1, by omega, Or.inr ⟨rfl, Int32.not_le.mp (by rw [ev_1, ev_2, nI_clamp (by omega)] at c_3; exact c_3)⟩, rfl, rfl⟩) (Nat.le_of_ble_eq_true rfl) (Nat.le_of_ble_eq_true rfl) dX2_hasSum_20
set_option maxHeartbeats 4000000 in
set_option maxRecDepth 100000 in
theorem c_elk_beginSum (l : Launch) (D : va_G) (cI cJ cC cZ cS : ClassId) (q : Nat → Nat) (jd : Nat) (jm : Nat) (ju : Int32) (jr : Int32) (jn : Nat) (jc : Nat) (jx : Nat) (jf : Nat → Int32) (w : Nat) (hw : w < 3) : skM l yX2_beginSum cX2_beginSum 2 none 0 0 0 0 D (skT cI cJ cC cZ cS) [.ref (q 6), .int (nI w)] [(q 6, .inr (2, [.ref (q 24), .ref (q 25), .ref (q 26), .ref (q 27), .ref (q 28), .int (nI jd), .int (nI jm), .int ju, .int jr, .int (nI jn)])), (q 24, .inr (0, [.ref (q 29), .ref (q 30), .ref (q 31), .ref (q 32), .int (nI jc), .int (nI jx)])), (q 27, .inl (cI, 3, .inl jf))] (skV D (skT cI cJ cC cZ cS) (fun (u : va_W) => ∃ (gf : Nat → Int32), gf = upd jf w (nI jc) ∧ u = [(q 6, .inr (2, [.ref (q 24), .ref (q 25), .ref (q 26), .ref (q 27), .ref (q 28), .int (nI jd), .int (nI jm), .int ju, .int jr, .int (nI jn)])), (q 24, .inr (0, [.ref (q 29), .ref (q 30), .ref (q 31), .ref (q 32), .int (nI jc), .int (nI jx)])), (q 27, .inl (cI, 3, .inl gf))])) := by
  refine skM_of (by decide +kernel) (Nat.le_of_ble_eq_true rfl) ?_
  intro p e s m below meth c A ls E hP hD hl
  obtain ⟨hx, hb, hr, hml, hlocks, hin, hown, hts, hK, hA⟩ := E
  have hown : s.vm.findClass RX2 = some m.cls := hown
  have hS : va_S A s.heap s.heap [] := va_S.rf
  have hl : lv_has ls 2 [(0, .ref (q 6)), (1, .int (nI w))] := hl
  refine lv_aload_n hx hb dX2_beginSum_0 rfl (lv_at hl 0 rfl) ?_
  refine sk_get (v := .ref (q 27)) (C := RX2) (T := TX2) (N := 10) hx hb hts inlX2 hown hK hP 0 rfl rfl 3 (by decide) w_1_184 rfl dX2_beginSum_1 ?_
  refine lv_iload_n hx hb dX2_beginSum_4 rfl (lv_at hl 1 rfl) ?_
  refine lv_aload_n hx hb dX2_beginSum_5 rfl (lv_at hl 0 rfl) ?_
  refine sk_get (v := .ref (q 24)) (C := RX2) (T := TX2) (N := 10) hx hb hts inlX2 hown hK hP 0 rfl rfl 0 (by decide) w_1_175 rfl dX2_beginSum_6 ?_
  refine sk_get (v := .int (nI jc)) (C := RX0) (T := TX0) (N := 6) hx hb hts inlX0 hown hK hP 1 rfl rfl 4 (by decide) w_1_134 rfl dX2_beginSum_9 ?_
  refine sk_iast (ws' := [(q 6, .inr (2, [.ref (q 24), .ref (q 25), .ref (q 26), .ref (q 27), .ref (q 28), .int (nI jd), .int (nI jm), .int ju, .int jr, .int (nI jn)])), (q 24, .inr (0, [.ref (q 29), .ref (q 30), .ref (q 31), .ref (q 32), .int (nI jc), .int (nI jx)])), (q 27, .inl (cI, 3, .inl (upd jf w (nI jc))))]) hx hb hK hP hD hS 2 0 rfl rfl (vin w 3 (by omega) (by omega)) (by rw [nI_clamp (by omega)]; rfl) dX2_beginSum_12 (fun H locs hP hD hS => ?_)
  exact sk_vret hx hb hr hlocks hK hP hD hS (⟨upd jf w (nI jc), rfl, rfl⟩) (Nat.le_of_ble_eq_true rfl) (Nat.le_of_ble_eq_true rfl) dX2_beginSum_13
set_option maxHeartbeats 4000000 in
set_option maxRecDepth 100000 in
theorem c_elk_endSum (l : Launch) (D : va_G) (cI cJ cC cZ cS : ClassId) (q : Nat → Nat) (jd : Nat) (jm : Nat) (ju : Int32) (jr : Int32) (jn : Nat) (jc : Nat) (jx : Nat) (jt : Nat → Int32) (w : Nat) (hw : w < 3) : skM l yX2_endSum cX2_endSum 2 none 0 0 0 0 D (skT cI cJ cC cZ cS) [.ref (q 6), .int (nI w)] [(q 6, .inr (2, [.ref (q 24), .ref (q 25), .ref (q 26), .ref (q 27), .ref (q 28), .int (nI jd), .int (nI jm), .int ju, .int jr, .int (nI jn)])), (q 24, .inr (0, [.ref (q 29), .ref (q 30), .ref (q 31), .ref (q 32), .int (nI jc), .int (nI jx)])), (q 28, .inl (cI, 3, .inl jt))] (skV D (skT cI cJ cC cZ cS) (fun (u : va_W) => ∃ (gt : Nat → Int32), gt = upd jt w (nI jc) ∧ u = [(q 6, .inr (2, [.ref (q 24), .ref (q 25), .ref (q 26), .ref (q 27), .ref (q 28), .int (nI jd), .int (nI jm), .int ju, .int jr, .int (nI jn)])), (q 24, .inr (0, [.ref (q 29), .ref (q 30), .ref (q 31), .ref (q 32), .int (nI jc), .int (nI jx)])), (q 28, .inl (cI, 3, .inl gt))])) := by
  refine skM_of (by decide +kernel) (Nat.le_of_ble_eq_true rfl) ?_
  intro p e s m below meth c A ls E hP hD hl
  obtain ⟨hx, hb, hr, hml, hlocks, hin, hown, hts, hK, hA⟩ := E
  have hown : s.vm.findClass RX2 = some m.cls := hown
  have hS : va_S A s.heap s.heap [] := va_S.rf
  have hl : lv_has ls 2 [(0, .ref (q 6)), (1, .int (nI w))] := hl
  refine lv_aload_n hx hb dX2_endSum_0 rfl (lv_at hl 0 rfl) ?_
  refine sk_get (v := .ref (q 28)) (C := RX2) (T := TX2) (N := 10) hx hb hts inlX2 hown hK hP 0 rfl rfl 4 (by decide) w_1_186 rfl dX2_endSum_1 ?_
  refine lv_iload_n hx hb dX2_endSum_4 rfl (lv_at hl 1 rfl) ?_
  refine lv_aload_n hx hb dX2_endSum_5 rfl (lv_at hl 0 rfl) ?_
  refine sk_get (v := .ref (q 24)) (C := RX2) (T := TX2) (N := 10) hx hb hts inlX2 hown hK hP 0 rfl rfl 0 (by decide) w_1_175 rfl dX2_endSum_6 ?_
  refine sk_get (v := .int (nI jc)) (C := RX0) (T := TX0) (N := 6) hx hb hts inlX0 hown hK hP 1 rfl rfl 4 (by decide) w_1_134 rfl dX2_endSum_9 ?_
  refine sk_iast (ws' := [(q 6, .inr (2, [.ref (q 24), .ref (q 25), .ref (q 26), .ref (q 27), .ref (q 28), .int (nI jd), .int (nI jm), .int ju, .int jr, .int (nI jn)])), (q 24, .inr (0, [.ref (q 29), .ref (q 30), .ref (q 31), .ref (q 32), .int (nI jc), .int (nI jx)])), (q 28, .inl (cI, 3, .inl (upd jt w (nI jc))))]) hx hb hK hP hD hS 2 0 rfl rfl (vin w 3 (by omega) (by omega)) (by rw [nI_clamp (by omega)]; rfl) dX2_endSum_12 (fun H locs hP hD hS => ?_)
  exact sk_vret hx hb hr hlocks hK hP hD hS (⟨upd jt w (nI jc), rfl, rfl⟩) (Nat.le_of_ble_eq_true rfl) (Nat.le_of_ble_eq_true rfl) dX2_endSum_13
def opnO (tb : Nat → Nat) (n : Nat) (o : Except Err Cur) : Except Err Cur := bindR (bindR (bindR (bindR (bindR o (tkF tb n 256)) (nmF tb n 2 9)) (tkF tb n 257)) (nmF tb n 0 9)) (tkF tb n 59)
set_option maxHeartbeats 4000000 in
set_option maxRecDepth 100000 in
theorem c_elt_opening (l : Launch) (D : va_G) (cI cJ cC cZ cS : ClassId) (zk zv : Nat) (zf : Value) (q : Nat → Nat) (xa : Nat) (xv : Int32) (xo : Nat) (xt : Int32) (xz : Nat) (xf : Int32) (xp : Int32) (tl : Nat) (tb : Nat → Nat) (jd : Nat) (jm : Nat) (ju : Int32) (jr : Int32) (jn : Nat) (og : Except Err Cur) (hxa : xa ≤ 1600) (hxz : xz ≤ 1600) (htl : tl ≤ 1600) (htb : ∀ j, tb j ≤ 255) (hO : rdO tb tl og xa xv xt xz xf xp) : skMZ zk zv zf l yX3_readOpening cX3_readOpening 2 none 7 154 0 0 D (skT cI cJ cC cZ cS) [.ref (q 3), .ref (q 6)] [(q 3, .inr (3, [.ref (q 2), .ref (q 22), .ref (q 23)])), (q 2, .inr (6, [.ref (q 0), .int (nI xa), .int xv, .int (nI xo), .int xt, .int (nI xz), .int xf, .int xp])), (q 0, .inr (10, [.ref (q 20), .int (nI tl)])), (q 20, .inl (cI, 1600, .inl (fun j => nI (tb j)))), (q 6, .inr (2, [.ref (q 24), .ref (q 25), .ref (q 26), .ref (q 27), .ref (q 28), .int (nI jd), .int (nI jm), .int ju, .int jr, .int (nI jn)]))] (skV D (skT cI cJ cC cZ cS) (fun (u : va_W) => ∃ (xa2 : Nat), ∃ (xv2 : Int32), ∃ (xt2 : Int32), ∃ (xz2 : Nat), ∃ (xf2 : Int32), ∃ (xp2 : Int32), ∃ (jd2 : Nat), ∃ (jm2 : Nat), xa2 ≤ 1600 ∧ xz2 ≤ 1600 ∧ 2 ≤ jd2 ∧ jd2 ≤ 9 ∧ jm2 ≤ 9 ∧ nvO tb tl 2 9 (bindR og (tkF tb tl 256)) jd2 ∧ nvO tb tl 0 9 (bindR (bindR (bindR og (tkF tb tl 256)) (nmF tb tl 2 9)) (tkF tb tl 257)) jm2 ∧ rdO tb tl (opnO tb tl og) xa2 xv2 xt2 xz2 xf2 xp2 ∧ u = [(q 3, .inr (3, [.ref (q 2), .ref (q 22), .ref (q 23)])), (q 2, .inr (6, [.ref (q 0), .int (nI xa2), .int xv2, .int (nI xo), .int xt2, .int (nI xz2), .int xf2, .int xp2])), (q 0, .inr (10, [.ref (q 20), .int (nI tl)])), (q 20, .inl (cI, 1600, .inl (fun j => nI (tb j)))), (q 6, .inr (2, [.ref (q 24), .ref (q 25), .ref (q 26), .ref (q 27), .ref (q 28), .int (nI jd2), .int (nI jm2), .int ju, .int jr, .int 1]))])) := by
  refine skMZ_of (by decide +kernel) (Nat.le_of_ble_eq_true rfl) ?_
  intro p e s m below meth c A ls E hP hD hZ hl
  obtain ⟨hx, hb, hr, hml, hlocks, hin, hown, hts, hK, hA⟩ := E
  have hown : s.vm.findClass RX3 = some m.cls := hown
  have hS : va_S A s.heap s.heap [] := va_S.rf
  have hl : lv_has ls 2 [(0, .ref (q 3)), (1, .ref (q 6))] := hl
  refine lv_aload_n hx hb dX3_readOpening_0 rfl (lv_at hl 0 rfl) ?_
  refine sk_get (v := .ref (q 2)) (C := RX3) (T := TX3) (N := 3) hx hb hts inlX3 hown hK hP 0 rfl rfl 0 (by decide) w_1_107 rfl dX3_readOpening_1 ?_
  refine lv_sipush (v := 256) hx hb dX3_readOpening_4 (by decide) ?_
  refine sk_VvZ (q0 := 0) (n := 1) (rest := []) (wr := [(q 3, .inr (3, [.ref (q 2), .ref (q 22), .ref (q 23)])), (q 6, .inr (2, [.ref (q 24), .ref (q 25), .ref (q 26), .ref (q 27), .ref (q 28), .int (nI jd), .int (nI jm), .int ju, .int jr, .int (nI jn)]))]) ⟨hx, hb, hml, hown, hts⟩ hl.1 (c_erd_needs l D cI cJ cC cZ cS zk zv zf q xa xv xo xt xz xf xp tl tb 256 og (by omega) (by omega) (by omega) htb (by decide) hO) w_3_50 w_3_51 w_3_52 w_1_4 w_3_53 (by decide +kernel) ⟨⟨(Nat.le_of_ble_eq_true rfl), (Nat.le_of_ble_eq_true rfl)⟩, (Nat.le_of_ble_eq_true rfl), (Nat.le_of_ble_eq_true rfl)⟩ hK hP hD hS hZ hA [1, 2, 3] [0, 4] rfl rfl (by decide +kernel) (by decide +kernel) (by decide +kernel) rfl rfl rfl rfl (Nat.le_of_ble_eq_true rfl) dX3_readOpening_7 (fun u H locs hw hP hD hS => ?_)
  obtain ⟨xa2_1, xv2_2, xt2_3, xz2_4, xf2_5, xp2_6, hxa2_7, hxz2_8, hO2_9, rfl⟩ := hw
  have hP : va_P D vwCl [(q 3, .inr (3, [.ref (q 2), .ref (q 22), .ref (q 23)])), (q 6, .inr (2, [.ref (q 24), .ref (q 25), .ref (q 26), .ref (q 27), .ref (q 28), .int (nI jd), .int (nI jm), .int ju, .int jr, .int (nI jn)])), (q 2, .inr (6, [.ref (q 0), .int (nI xa2_1), .int xv2_2, .int (nI xo), .int xt2_3, .int (nI xz2_4), .int xf2_5, .int xp2_6])), (q 0, .inr (10, [.ref (q 20), .int (nI tl)])), (q 20, .inl (cI, 1600, .inl (fun j => nI (tb j))))] H := hP
  have hD : va_D A [(q 3, .inr (3, [.ref (q 2), .ref (q 22), .ref (q 23)])), (q 6, .inr (2, [.ref (q 24), .ref (q 25), .ref (q 26), .ref (q 27), .ref (q 28), .int (nI jd), .int (nI jm), .int ju, .int jr, .int (nI jn)])), (q 2, .inr (6, [.ref (q 0), .int (nI xa2_1), .int xv2_2, .int (nI xo), .int xt2_3, .int (nI xz2_4), .int xf2_5, .int xp2_6])), (q 0, .inr (10, [.ref (q 20), .int (nI tl)])), (q 20, .inl (cI, 1600, .inl (fun j => nI (tb j))))] := hD
  refine lv_aload_n hx hb dX3_readOpening_10 rfl (lv_at hl 1 rfl) ?_
  refine lv_aload_n hx hb dX3_readOpening_11 rfl (lv_at hl 0 rfl) ?_
  refine sk_get (v := .ref (q 2)) (C := RX3) (T := TX3) (N := 3) hx hb hts inlX3 hown hK hP 0 rfl rfl 0 (by decide) w_1_107 rfl dX3_readOpening_12 ?_
  refine lv_iconst (v := 2) hx hb dX3_readOpening_15 (by decide) ?_
  refine lv_bipush (v := 9) hx hb dX3_readOpening_16 (by decide) ?_
  refine sk_ViZ (q0 := 0) (n := 2) (rest := [.ref (q 6)]) (wr := [(q 3, .inr (3, [.ref (q 2), .ref (q 22), .ref (q 23)])), (q 6, .inr (2, [.ref (q 24), .ref (q 25), .ref (q 26), .ref (q 27), .ref (q 28), .int (nI jd), .int (nI jm), .int ju, .int jr, .int (nI jn)]))]) ⟨hx, hb, hml, hown, hts⟩ hl.1 (c_erd_takeNumber l D cI cJ cC cZ cS zk zv zf q xa2_1 xv2_2 xo xt2_3 xz2_4 xf2_5 xp2_6 tl tb 2 9 (bindR og (tkF tb tl 256)) (by omega) (by omega) (by omega) htb (by omega) (by omega) hO2_9) w_3_62 w_3_63 w_3_64 w_1_4 w_3_65 (by decide +kernel) ⟨⟨(Nat.le_of_ble_eq_true rfl), (Nat.le_of_ble_eq_true rfl)⟩, (Nat.le_of_ble_eq_true rfl), (Nat.le_of_ble_eq_true rfl)⟩ hK hP hD hS hZ hA [2, 3, 4] [0, 1] rfl rfl (by decide +kernel) (by decide +kernel) (by decide +kernel) rfl rfl rfl rfl (Nat.le_of_ble_eq_true rfl) dX3_readOpening_18 (fun r_17 u H locs hw hP hD hS => ?_)
  obtain ⟨xa2_10, xv2_11, xt2_12, xz2_13, xf2_14, xp2_15, v_16, hxa2_18, hxz2_19, hv1_20, hv2_21, hnv_22, hO2_23, rfl, rfl⟩ := hw
  have hP : va_P D vwCl [(q 3, .inr (3, [.ref (q 2), .ref (q 22), .ref (q 23)])), (q 6, .inr (2, [.ref (q 24), .ref (q 25), .ref (q 26), .ref (q 27), .ref (q 28), .int (nI jd), .int (nI jm), .int ju, .int jr, .int (nI jn)])), (q 2, .inr (6, [.ref (q 0), .int (nI xa2_10), .int xv2_11, .int (nI xo), .int xt2_12, .int (nI xz2_13), .int xf2_14, .int xp2_15])), (q 0, .inr (10, [.ref (q 20), .int (nI tl)])), (q 20, .inl (cI, 1600, .inl (fun j => nI (tb j))))] H := hP
  have hD : va_D A [(q 3, .inr (3, [.ref (q 2), .ref (q 22), .ref (q 23)])), (q 6, .inr (2, [.ref (q 24), .ref (q 25), .ref (q 26), .ref (q 27), .ref (q 28), .int (nI jd), .int (nI jm), .int ju, .int jr, .int (nI jn)])), (q 2, .inr (6, [.ref (q 0), .int (nI xa2_10), .int xv2_11, .int (nI xo), .int xt2_12, .int (nI xz2_13), .int xf2_14, .int xp2_15])), (q 0, .inr (10, [.ref (q 20), .int (nI tl)])), (q 20, .inl (cI, 1600, .inl (fun j => nI (tb j))))] := hD
  refine sk_put (ws' := [(q 3, .inr (3, [.ref (q 2), .ref (q 22), .ref (q 23)])), (q 6, .inr (2, [.ref (q 24), .ref (q 25), .ref (q 26), .ref (q 27), .ref (q 28), .int (nI v_16), .int (nI jm), .int ju, .int jr, .int (nI jn)])), (q 2, .inr (6, [.ref (q 0), .int (nI xa2_10), .int xv2_11, .int (nI xo), .int xt2_12, .int (nI xz2_13), .int xf2_14, .int xp2_15])), (q 0, .inr (10, [.ref (q 20), .int (nI tl)])), (q 20, .inl (cI, 1600, .inl (fun j => nI (tb j))))]) (C := RX2) (T := TX2) (N := 10) (v := .int (nI v_16)) hx hb hts inlX2 tyX2 tyX2_ok nmX2 hown hK hP hD hS 1 rfl rfl 5 (by decide) w_1_190 rfl rfl rfl (Nat.le_of_ble_eq_true rfl) rfl dX3_readOpening_21 (fun H locs hP hD hS => ?_)
  refine lv_aload_n hx hb dX3_readOpening_24 rfl (lv_at hl 0 rfl) ?_
  refine sk_get (v := .ref (q 2)) (C := RX3) (T := TX3) (N := 3) hx hb hts inlX3 hown hK hP 0 rfl rfl 0 (by decide) w_1_107 rfl dX3_readOpening_25 ?_
  refine lv_sipush (v := 257) hx hb dX3_readOpening_28 (by decide) ?_
  refine sk_VvZ (q0 := 0) (n := 1) (rest := []) (wr := [(q 3, .inr (3, [.ref (q 2), .ref (q 22), .ref (q 23)])), (q 6, .inr (2, [.ref (q 24), .ref (q 25), .ref (q 26), .ref (q 27), .ref (q 28), .int (nI v_16), .int (nI jm), .int ju, .int jr, .int (nI jn)]))]) ⟨hx, hb, hml, hown, hts⟩ hl.1 (c_erd_needs l D cI cJ cC cZ cS zk zv zf q xa2_10 xv2_11 xo xt2_12 xz2_13 xf2_14 xp2_15 tl tb 257 (bindR (bindR og (tkF tb tl 256)) (nmF tb tl 2 9)) (by omega) (by omega) (by omega) htb (by decide) hO2_23) w_3_50 w_3_51 w_3_52 w_1_4 w_3_53 (by decide +kernel) ⟨⟨(Nat.le_of_ble_eq_true rfl), (Nat.le_of_ble_eq_true rfl)⟩, (Nat.le_of_ble_eq_true rfl), (Nat.le_of_ble_eq_true rfl)⟩ hK hP hD hS hZ hA [2, 3, 4] [0, 1] rfl rfl (by decide +kernel) (by decide +kernel) (by decide +kernel) rfl rfl rfl rfl (Nat.le_of_ble_eq_true rfl) dX3_readOpening_31 (fun u H locs hw hP hD hS => ?_)
  obtain ⟨xa2_24, xv2_25, xt2_26, xz2_27, xf2_28, xp2_29, hxa2_30, hxz2_31, hO2_32, rfl⟩ := hw
  have hP : va_P D vwCl [(q 3, .inr (3, [.ref (q 2), .ref (q 22), .ref (q 23)])), (q 6, .inr (2, [.ref (q 24), .ref (q 25), .ref (q 26), .ref (q 27), .ref (q 28), .int (nI v_16), .int (nI jm), .int ju, .int jr, .int (nI jn)])), (q 2, .inr (6, [.ref (q 0), .int (nI xa2_24), .int xv2_25, .int (nI xo), .int xt2_26, .int (nI xz2_27), .int xf2_28, .int xp2_29])), (q 0, .inr (10, [.ref (q 20), .int (nI tl)])), (q 20, .inl (cI, 1600, .inl (fun j => nI (tb j))))] H := hP
  have hD : va_D A [(q 3, .inr (3, [.ref (q 2), .ref (q 22), .ref (q 23)])), (q 6, .inr (2, [.ref (q 24), .ref (q 25), .ref (q 26), .ref (q 27), .ref (q 28), .int (nI v_16), .int (nI jm), .int ju, .int jr, .int (nI jn)])), (q 2, .inr (6, [.ref (q 0), .int (nI xa2_24), .int xv2_25, .int (nI xo), .int xt2_26, .int (nI xz2_27), .int xf2_28, .int xp2_29])), (q 0, .inr (10, [.ref (q 20), .int (nI tl)])), (q 20, .inl (cI, 1600, .inl (fun j => nI (tb j))))] := hD
  refine lv_aload_n hx hb dX3_readOpening_34 rfl (lv_at hl 1 rfl) ?_
  refine lv_aload_n hx hb dX3_readOpening_35 rfl (lv_at hl 0 rfl) ?_
  refine sk_get (v := .ref (q 2)) (C := RX3) (T := TX3) (N := 3) hx hb hts inlX3 hown hK hP 0 rfl rfl 0 (by decide) w_1_107 rfl dX3_readOpening_36 ?_
  refine lv_iconst (v := 0) hx hb dX3_readOpening_39 (by decide) ?_
  refine lv_bipush (v := 9) hx hb dX3_readOpening_40 (by decide) ?_
  refine sk_ViZ (q0 := 0) (n := 2) (rest := [.ref (q 6)]) (wr := [(q 3, .inr (3, [.ref (q 2), .ref (q 22), .ref (q 23)])), (q 6, .inr (2, [.ref (q 24), .ref (q 25), .ref (q 26), .ref (q 27), .ref (q 28), .int (nI v_16), .int (nI jm), .int ju, .int jr, .int (nI jn)]))]) ⟨hx, hb, hml, hown, hts⟩ hl.1 (c_erd_takeNumber l D cI cJ cC cZ cS zk zv zf q xa2_24 xv2_25 xo xt2_26 xz2_27 xf2_28 xp2_29 tl tb 0 9 (bindR (bindR (bindR og (tkF tb tl 256)) (nmF tb tl 2 9)) (tkF tb tl 257)) (by omega) (by omega) (by omega) htb (by omega) (by omega) hO2_32) w_3_62 w_3_63 w_3_64 w_1_4 w_3_65 (by decide +kernel) ⟨⟨(Nat.le_of_ble_eq_true rfl), (Nat.le_of_ble_eq_true rfl)⟩, (Nat.le_of_ble_eq_true rfl), (Nat.le_of_ble_eq_true rfl)⟩ hK hP hD hS hZ hA [2, 3, 4] [0, 1] rfl rfl (by decide +kernel) (by decide +kernel) (by decide +kernel) rfl rfl rfl rfl (Nat.le_of_ble_eq_true rfl) dX3_readOpening_42 (fun r_40 u H locs hw hP hD hS => ?_)
  obtain ⟨xa2_33, xv2_34, xt2_35, xz2_36, xf2_37, xp2_38, v_39, hxa2_41, hxz2_42, hv1_43, hv2_44, hnv_45, hO2_46, rfl, rfl⟩ := hw
  have hP : va_P D vwCl [(q 3, .inr (3, [.ref (q 2), .ref (q 22), .ref (q 23)])), (q 6, .inr (2, [.ref (q 24), .ref (q 25), .ref (q 26), .ref (q 27), .ref (q 28), .int (nI v_16), .int (nI jm), .int ju, .int jr, .int (nI jn)])), (q 2, .inr (6, [.ref (q 0), .int (nI xa2_33), .int xv2_34, .int (nI xo), .int xt2_35, .int (nI xz2_36), .int xf2_37, .int xp2_38])), (q 0, .inr (10, [.ref (q 20), .int (nI tl)])), (q 20, .inl (cI, 1600, .inl (fun j => nI (tb j))))] H := hP
  have hD : va_D A [(q 3, .inr (3, [.ref (q 2), .ref (q 22), .ref (q 23)])), (q 6, .inr (2, [.ref (q 24), .ref (q 25), .ref (q 26), .ref (q 27), .ref (q 28), .int (nI v_16), .int (nI jm), .int ju, .int jr, .int (nI jn)])), (q 2, .inr (6, [.ref (q 0), .int (nI xa2_33), .int xv2_34, .int (nI xo), .int xt2_35, .int (nI xz2_36), .int xf2_37, .int xp2_38])), (q 0, .inr (10, [.ref (q 20), .int (nI tl)])), (q 20, .inl (cI, 1600, .inl (fun j => nI (tb j))))] := hD
  refine sk_put (ws' := [(q 3, .inr (3, [.ref (q 2), .ref (q 22), .ref (q 23)])), (q 6, .inr (2, [.ref (q 24), .ref (q 25), .ref (q 26), .ref (q 27), .ref (q 28), .int (nI v_16), .int (nI v_39), .int ju, .int jr, .int (nI jn)])), (q 2, .inr (6, [.ref (q 0), .int (nI xa2_33), .int xv2_34, .int (nI xo), .int xt2_35, .int (nI xz2_36), .int xf2_37, .int xp2_38])), (q 0, .inr (10, [.ref (q 20), .int (nI tl)])), (q 20, .inl (cI, 1600, .inl (fun j => nI (tb j))))]) (C := RX2) (T := TX2) (N := 10) (v := .int (nI v_39)) hx hb hts inlX2 tyX2 tyX2_ok nmX2 hown hK hP hD hS 1 rfl rfl 6 (by decide) w_1_193 rfl rfl rfl (Nat.le_of_ble_eq_true rfl) rfl dX3_readOpening_45 (fun H locs hP hD hS => ?_)
  refine lv_aload_n hx hb dX3_readOpening_48 rfl (lv_at hl 0 rfl) ?_
  refine sk_get (v := .ref (q 2)) (C := RX3) (T := TX3) (N := 3) hx hb hts inlX3 hown hK hP 0 rfl rfl 0 (by decide) w_1_107 rfl dX3_readOpening_49 ?_
  refine lv_bipush (v := 59) hx hb dX3_readOpening_52 (by decide) ?_
  refine sk_VvZ (q0 := 0) (n := 1) (rest := []) (wr := [(q 3, .inr (3, [.ref (q 2), .ref (q 22), .ref (q 23)])), (q 6, .inr (2, [.ref (q 24), .ref (q 25), .ref (q 26), .ref (q 27), .ref (q 28), .int (nI v_16), .int (nI v_39), .int ju, .int jr, .int (nI jn)]))]) ⟨hx, hb, hml, hown, hts⟩ hl.1 (c_erd_needs l D cI cJ cC cZ cS zk zv zf q xa2_33 xv2_34 xo xt2_35 xz2_36 xf2_37 xp2_38 tl tb 59 (bindR (bindR (bindR (bindR og (tkF tb tl 256)) (nmF tb tl 2 9)) (tkF tb tl 257)) (nmF tb tl 0 9)) (by omega) (by omega) (by omega) htb (by decide) hO2_46) w_3_50 w_3_51 w_3_52 w_1_4 w_3_53 (by decide +kernel) ⟨⟨(Nat.le_of_ble_eq_true rfl), (Nat.le_of_ble_eq_true rfl)⟩, (Nat.le_of_ble_eq_true rfl), (Nat.le_of_ble_eq_true rfl)⟩ hK hP hD hS hZ hA [2, 3, 4] [0, 1] rfl rfl (by decide +kernel) (by decide +kernel) (by decide +kernel) rfl rfl rfl rfl (Nat.le_of_ble_eq_true rfl) dX3_readOpening_54 (fun u H locs hw hP hD hS => ?_)
  obtain ⟨xa2_47, xv2_48, xt2_49, xz2_50, xf2_51, xp2_52, hxa2_53, hxz2_54, hO2_55, rfl⟩ := hw
  have hP : va_P D vwCl [(q 3, .inr (3, [.ref (q 2), .ref (q 22), .ref (q 23)])), (q 6, .inr (2, [.ref (q 24), .ref (q 25), .ref (q 26), .ref (q 27), .ref (q 28), .int (nI v_16), .int (nI v_39), .int ju, .int jr, .int (nI jn)])), (q 2, .inr (6, [.ref (q 0), .int (nI xa2_47), .int xv2_48, .int (nI xo), .int xt2_49, .int (nI xz2_50), .int xf2_51, .int xp2_52])), (q 0, .inr (10, [.ref (q 20), .int (nI tl)])), (q 20, .inl (cI, 1600, .inl (fun j => nI (tb j))))] H := hP
  have hD : va_D A [(q 3, .inr (3, [.ref (q 2), .ref (q 22), .ref (q 23)])), (q 6, .inr (2, [.ref (q 24), .ref (q 25), .ref (q 26), .ref (q 27), .ref (q 28), .int (nI v_16), .int (nI v_39), .int ju, .int jr, .int (nI jn)])), (q 2, .inr (6, [.ref (q 0), .int (nI xa2_47), .int xv2_48, .int (nI xo), .int xt2_49, .int (nI xz2_50), .int xf2_51, .int xp2_52])), (q 0, .inr (10, [.ref (q 20), .int (nI tl)])), (q 20, .inl (cI, 1600, .inl (fun j => nI (tb j))))] := hD
  refine lv_aload_n hx hb dX3_readOpening_57 rfl (lv_at hl 1 rfl) ?_
  refine lv_iconst (v := 1) hx hb dX3_readOpening_58 (by decide) ?_
  refine sk_put (ws' := [(q 3, .inr (3, [.ref (q 2), .ref (q 22), .ref (q 23)])), (q 6, .inr (2, [.ref (q 24), .ref (q 25), .ref (q 26), .ref (q 27), .ref (q 28), .int (nI v_16), .int (nI v_39), .int ju, .int jr, .int 1])), (q 2, .inr (6, [.ref (q 0), .int (nI xa2_47), .int xv2_48, .int (nI xo), .int xt2_49, .int (nI xz2_50), .int xf2_51, .int xp2_52])), (q 0, .inr (10, [.ref (q 20), .int (nI tl)])), (q 20, .inl (cI, 1600, .inl (fun j => nI (tb j))))]) (C := RX2) (T := TX2) (N := 10) (v := .int 1) hx hb hts inlX2 tyX2 tyX2_ok nmX2 hown hK hP hD hS 1 rfl rfl 9 (by decide) w_1_201 rfl rfl rfl (Nat.le_of_ble_eq_true rfl) rfl dX3_readOpening_59 (fun H locs hP hD hS => ?_)
  have hP := hP.sub (ws' := [(q 3, .inr (3, [.ref (q 2), .ref (q 22), .ref (q 23)])), (q 2, .inr (6, [.ref (q 0), .int (nI xa2_47), .int xv2_48, .int (nI xo), .int xt2_49, .int (nI xz2_50), .int xf2_51, .int xp2_52])), (q 0, .inr (10, [.ref (q 20), .int (nI tl)])), (q 20, .inl (cI, 1600, .inl (fun j => nI (tb j)))), (q 6, .inr (2, [.ref (q 24), .ref (q 25), .ref (q 26), .ref (q 27), .ref (q 28), .int (nI v_16), .int (nI v_39), .int ju, .int jr, .int 1]))]) [0, 2, 3, 4, 1] rfl
  have hD := hD.sub (ws' := [(q 3, .inr (3, [.ref (q 2), .ref (q 22), .ref (q 23)])), (q 2, .inr (6, [.ref (q 0), .int (nI xa2_47), .int xv2_48, .int (nI xo), .int xt2_49, .int (nI xz2_50), .int xf2_51, .int xp2_52])), (q 0, .inr (10, [.ref (q 20), .int (nI tl)])), (q 20, .inl (cI, 1600, .inl (fun j => nI (tb j)))), (q 6, .inr (2, [.ref (q 24), .ref (q 25), .ref (q 26), .ref (q 27), .ref (q 28), .int (nI v_16), .int (nI v_39), .int ju, .int jr, .int 1]))]) [0, 2, 3, 4, 1] (by decide +kernel) rfl
  exact sk_vret hx hb hr hlocks hK hP hD hS (⟨xa2_47, xv2_48, xt2_49, xz2_50, xf2_51, xp2_52, v_16, v_39, by omega, by omega, by omega, by omega, by omega, hnv_22, hnv_45, hO2_55, rfl⟩) (Nat.le_of_ble_eq_true rfl) (Nat.le_of_ble_eq_true rfl) dX3_readOpening_62
set_option maxHeartbeats 4000000 in
set_option maxRecDepth 100000 in
theorem c_elt_amount (l : Launch) (D : va_G) (cI cJ cC cZ cS : ClassId) (zk zv : Nat) (zf : Value) (q : Nat → Nat) (xa : Nat) (xv : Int32) (xo : Nat) (xt : Int32) (xz : Nat) (xf : Int32) (xp : Int32) (tl : Nat) (tb : Nat → Nat) (jd : Nat) (jm : Nat) (ju : Int32) (jr : Int32) (jn : Nat) (am : Nat) (fm : Nat → Int32) (og : Except Err Cur) (hxa : xa ≤ 1600) (hxz : xz ≤ 1600) (htl : tl ≤ 1600) (htb : ∀ j, tb j ≤ 255) (hjd1 : 1 ≤ jd) (hjd : jd ≤ 9) (hre : ¬ xt = -1 ∧ ¬ xt = -2) (hO : rdO tb tl og xa xv xt xz xf xp) : skMZ zk zv zf l yX3_readAmount cX3_readAmount 5 none 7 154 0 0 D (skT cI cJ cC cZ cS) [.ref (q 3), .ref (q 6), .ref am] [(q 3, .inr (3, [.ref (q 2), .ref (q 22), .ref (q 23)])), (q 2, .inr (6, [.ref (q 0), .int (nI xa), .int xv, .int (nI xo), .int xt, .int (nI xz), .int xf, .int xp])), (q 0, .inr (10, [.ref (q 20), .int (nI tl)])), (q 20, .inl (cI, 1600, .inl (fun j => nI (tb j)))), (q 6, .inr (2, [.ref (q 24), .ref (q 25), .ref (q 26), .ref (q 27), .ref (q 28), .int (nI jd), .int (nI jm), .int ju, .int jr, .int (nI jn)])), (am, .inl (cI, 9, .inl fm))] (skV D (skT cI cJ cC cZ cS) (fun (u : va_W) => ∃ (xa2 : Nat), ∃ (xv2 : Int32), ∃ (xt2 : Int32), ∃ (xz2 : Nat), ∃ (xf2 : Int32), ∃ (xp2 : Int32), ∃ (fm2 : Nat → Int32), ∃ (dv : Nat), ∃ (mv : Nat), xa2 ≤ 1600 ∧ xz2 ≤ 1600 ∧ amV tb tl jd og dv mv ∧ fm2 = upd fm dv (nI mv) ∧ rdO tb tl (amO tb tl jd og) xa2 xv2 xt2 xz2 xf2 xp2 ∧ u = [(q 3, .inr (3, [.ref (q 2), .ref (q 22), .ref (q 23)])), (q 2, .inr (6, [.ref (q 0), .int (nI xa2), .int xv2, .int (nI xo), .int xt2, .int (nI xz2), .int xf2, .int xp2])), (q 0, .inr (10, [.ref (q 20), .int (nI tl)])), (q 20, .inl (cI, 1600, .inl (fun j => nI (tb j)))), (q 6, .inr (2, [.ref (q 24), .ref (q 25), .ref (q 26), .ref (q 27), .ref (q 28), .int (nI jd), .int (nI jm), .int ju, .int jr, .int (nI jn)])), (am, .inl (cI, 9, .inl fm2))])) := by
  refine skMZ_of (by decide +kernel) (Nat.le_of_ble_eq_true rfl) ?_
  intro p e s m below meth c A ls E hP hD hZ hl
  obtain ⟨hx, hb, hr, hml, hlocks, hin, hown, hts, hK, hA⟩ := E
  have hown : s.vm.findClass RX3 = some m.cls := hown
  have hS : va_S A s.heap s.heap [] := va_S.rf
  have hl : lv_has ls 5 [(0, .ref (q 3)), (1, .ref (q 6)), (2, .ref am)] := hl
  refine lv_aload_n hx hb dX3_readAmount_0 rfl (lv_at hl 0 rfl) ?_
  refine sk_get (v := .ref (q 2)) (C := RX3) (T := TX3) (N := 3) hx hb hts inlX3 hown hK hP 0 rfl rfl 0 (by decide) w_1_107 rfl dX3_readAmount_1 ?_
  refine sk_VvZ (q0 := 0) (n := 0) (rest := []) (wr := [(q 3, .inr (3, [.ref (q 2), .ref (q 22), .ref (q 23)])), (q 6, .inr (2, [.ref (q 24), .ref (q 25), .ref (q 26), .ref (q 27), .ref (q 28), .int (nI jd), .int (nI jm), .int ju, .int jr, .int (nI jn)])), (am, .inl (cI, 9, .inl fm))]) ⟨hx, hb, hml, hown, hts⟩ hl.1 (c_erd_step l D cI cJ cC cZ cS zk zv zf q xa xv xo xt xz xf xp tl tb (bindR og (beF tb tl)) (by omega) (by omega) (by omega) htb (rd_st htb hO hre)) w_3_75 w_2_226 w_2_227 w_1_4 w_2_228 (by decide +kernel) ⟨⟨(Nat.le_of_ble_eq_true rfl), (Nat.le_of_ble_eq_true rfl)⟩, (Nat.le_of_ble_eq_true rfl), (Nat.le_of_ble_eq_true rfl)⟩ hK hP hD hS hZ hA [1, 2, 3] [0, 4, 5] rfl rfl (by decide +kernel) (by decide +kernel) (by decide +kernel) rfl rfl rfl rfl (Nat.le_of_ble_eq_true rfl) dX3_readAmount_4 (fun u H locs hw hP hD hS => ?_)
  obtain ⟨xa2_1, xv2_2, xt2_3, xz2_4, hxa2_5, hxz2_6, hO2_7, rfl⟩ := hw
  have hP : va_P D vwCl [(q 3, .inr (3, [.ref (q 2), .ref (q 22), .ref (q 23)])), (q 6, .inr (2, [.ref (q 24), .ref (q 25), .ref (q 26), .ref (q 27), .ref (q 28), .int (nI jd), .int (nI jm), .int ju, .int jr, .int (nI jn)])), (am, .inl (cI, 9, .inl fm)), (q 2, .inr (6, [.ref (q 0), .int (nI xa2_1), .int xv2_2, .int (nI xo), .int xt2_3, .int (nI xz2_4), .int xf, .int xp])), (q 0, .inr (10, [.ref (q 20), .int (nI tl)])), (q 20, .inl (cI, 1600, .inl (fun j => nI (tb j))))] H := hP
  have hD : va_D A [(q 3, .inr (3, [.ref (q 2), .ref (q 22), .ref (q 23)])), (q 6, .inr (2, [.ref (q 24), .ref (q 25), .ref (q 26), .ref (q 27), .ref (q 28), .int (nI jd), .int (nI jm), .int ju, .int jr, .int (nI jn)])), (am, .inl (cI, 9, .inl fm)), (q 2, .inr (6, [.ref (q 0), .int (nI xa2_1), .int xv2_2, .int (nI xo), .int xt2_3, .int (nI xz2_4), .int xf, .int xp])), (q 0, .inr (10, [.ref (q 20), .int (nI tl)])), (q 20, .inl (cI, 1600, .inl (fun j => nI (tb j))))] := hD
  rw [stF_nx] at hO2_7
  refine lv_aload_n hx hb dX3_readAmount_7 rfl (lv_at hl 0 rfl) ?_
  refine sk_get (v := .ref (q 2)) (C := RX3) (T := TX3) (N := 3) hx hb hts inlX3 hown hK hP 0 rfl rfl 0 (by decide) w_1_107 rfl dX3_readAmount_8 ?_
  refine lv_iconst (v := 0) hx hb dX3_readAmount_11 (by decide) ?_
  refine lv_aload_n hx hb dX3_readAmount_12 rfl (lv_at hl 1 rfl) ?_
  refine sk_get (v := .int (nI jd)) (C := RX2) (T := TX2) (N := 10) hx hb hts inlX2 hown hK hP 1 rfl rfl 5 (by decide) w_1_190 rfl dX3_readAmount_13 ?_
  refine lv_iconst (v := 1) hx hb dX3_readAmount_16 (by decide) ?_
  refine lv_isub hx hb dX3_readAmount_17 ?_
  refine sk_top (nI (jd - 1)) (nsub jd 1 (by omega)) ?_
  refine sk_ViZ (q0 := 0) (n := 2) (rest := []) (wr := [(q 3, .inr (3, [.ref (q 2), .ref (q 22), .ref (q 23)])), (q 6, .inr (2, [.ref (q 24), .ref (q 25), .ref (q 26), .ref (q 27), .ref (q 28), .int (nI jd), .int (nI jm), .int ju, .int jr, .int (nI jn)])), (am, .inl (cI, 9, .inl fm))]) ⟨hx, hb, hml, hown, hts⟩ hl.1 (c_erd_takeNumber l D cI cJ cC cZ cS zk zv zf q xa2_1 xv2_2 xo xt2_3 xz2_4 xf xp tl tb 0 (jd - 1) (bindR og (nxF tb tl)) (by omega) (by omega) (by omega) htb (by omega) (by omega) hO2_7) w_3_62 w_3_63 w_3_64 w_1_4 w_3_65 (by decide +kernel) ⟨⟨(Nat.le_of_ble_eq_true rfl), (Nat.le_of_ble_eq_true rfl)⟩, (Nat.le_of_ble_eq_true rfl), (Nat.le_of_ble_eq_true rfl)⟩ hK hP hD hS hZ hA [3, 4, 5] [0, 1, 2] rfl rfl (by decide +kernel) (by decide +kernel) (by decide +kernel) rfl rfl rfl rfl (Nat.le_of_ble_eq_true rfl) dX3_readAmount_18 (fun r_15 u H locs hw hP hD hS => ?_)
  obtain ⟨xa2_8, xv2_9, xt2_10, xz2_11, xf2_12, xp2_13, v_14, hxa2_16, hxz2_17, hv1_18, hv2_19, hnv_20, hO2_21, rfl, rfl⟩ := hw
  have hP : va_P D vwCl [(q 3, .inr (3, [.ref (q 2), .ref (q 22), .ref (q 23)])), (q 6, .inr (2, [.ref (q 24), .ref (q 25), .ref (q 26), .ref (q 27), .ref (q 28), .int (nI jd), .int (nI jm), .int ju, .int jr, .int (nI jn)])), (am, .inl (cI, 9, .inl fm)), (q 2, .inr (6, [.ref (q 0), .int (nI xa2_8), .int xv2_9, .int (nI xo), .int xt2_10, .int (nI xz2_11), .int xf2_12, .int xp2_13])), (q 0, .inr (10, [.ref (q 20), .int (nI tl)])), (q 20, .inl (cI, 1600, .inl (fun j => nI (tb j))))] H := hP
  have hD : va_D A [(q 3, .inr (3, [.ref (q 2), .ref (q 22), .ref (q 23)])), (q 6, .inr (2, [.ref (q 24), .ref (q 25), .ref (q 26), .ref (q 27), .ref (q 28), .int (nI jd), .int (nI jm), .int ju, .int jr, .int (nI jn)])), (am, .inl (cI, 9, .inl fm)), (q 2, .inr (6, [.ref (q 0), .int (nI xa2_8), .int xv2_9, .int (nI xo), .int xt2_10, .int (nI xz2_11), .int xf2_12, .int xp2_13])), (q 0, .inr (10, [.ref (q 20), .int (nI tl)])), (q 20, .inl (cI, 1600, .inl (fun j => nI (tb j))))] := hD
  refine lv_istore_n (lv' := [(3, .int (nI v_14)), (0, .ref (q 3)), (1, .ref (q 6)), (2, .ref am)]) hx hb dX3_readAmount_21 rfl hl (by decide) rfl (fun ls hl => ?_)
  refine lv_aload_n hx hb dX3_readAmount_22 rfl (lv_at hl 1 rfl) ?_
  refine sk_get (v := .ref (q 2)) (C := RX3) (T := TX3) (N := 3) hx hb hts inlX3 hown hK hP 0 rfl rfl 0 (by decide) w_1_107 rfl dX3_readAmount_23 ?_
  refine lv_iconst (v := 0) hx hb dX3_readAmount_26 (by decide) ?_
  refine lv_bipush (v := 9) hx hb dX3_readAmount_27 (by decide) ?_
  refine sk_ViZ (q0 := 0) (n := 2) (rest := []) (wr := [(q 3, .inr (3, [.ref (q 2), .ref (q 22), .ref (q 23)])), (q 6, .inr (2, [.ref (q 24), .ref (q 25), .ref (q 26), .ref (q 27), .ref (q 28), .int (nI jd), .int (nI jm), .int ju, .int jr, .int (nI jn)])), (am, .inl (cI, 9, .inl fm))]) ⟨hx, hb, hml, hown, hts⟩ hl.1 (c_erd_takeNumber l D cI cJ cC cZ cS zk zv zf q xa2_8 xv2_9 xo xt2_10 xz2_11 xf2_12 xp2_13 tl tb 0 9 (bindR (bindR og (nxF tb tl)) (nmF tb tl 0 (jd - 1))) (by omega) (by omega) (by omega) htb (by omega) (by omega) hO2_21) w_3_62 w_3_63 w_3_64 w_1_4 w_3_65 (by decide +kernel) ⟨⟨(Nat.le_of_ble_eq_true rfl), (Nat.le_of_ble_eq_true rfl)⟩, (Nat.le_of_ble_eq_true rfl), (Nat.le_of_ble_eq_true rfl)⟩ hK hP hD hS hZ hA [3, 4, 5] [0, 1, 2] rfl rfl (by decide +kernel) (by decide +kernel) (by decide +kernel) rfl rfl rfl rfl (Nat.le_of_ble_eq_true rfl) dX3_readAmount_29 (fun r_29 u H locs hw hP hD hS => ?_)
  obtain ⟨xa2_22, xv2_23, xt2_24, xz2_25, xf2_26, xp2_27, v_28, hxa2_30, hxz2_31, hv1_32, hv2_33, hnv_34, hO2_35, rfl, rfl⟩ := hw
  have hP : va_P D vwCl [(q 3, .inr (3, [.ref (q 2), .ref (q 22), .ref (q 23)])), (q 6, .inr (2, [.ref (q 24), .ref (q 25), .ref (q 26), .ref (q 27), .ref (q 28), .int (nI jd), .int (nI jm), .int ju, .int jr, .int (nI jn)])), (am, .inl (cI, 9, .inl fm)), (q 2, .inr (6, [.ref (q 0), .int (nI xa2_22), .int xv2_23, .int (nI xo), .int xt2_24, .int (nI xz2_25), .int xf2_26, .int xp2_27])), (q 0, .inr (10, [.ref (q 20), .int (nI tl)])), (q 20, .inl (cI, 1600, .inl (fun j => nI (tb j))))] H := hP
  have hD : va_D A [(q 3, .inr (3, [.ref (q 2), .ref (q 22), .ref (q 23)])), (q 6, .inr (2, [.ref (q 24), .ref (q 25), .ref (q 26), .ref (q 27), .ref (q 28), .int (nI jd), .int (nI jm), .int ju, .int jr, .int (nI jn)])), (am, .inl (cI, 9, .inl fm)), (q 2, .inr (6, [.ref (q 0), .int (nI xa2_22), .int xv2_23, .int (nI xo), .int xt2_24, .int (nI xz2_25), .int xf2_26, .int xp2_27])), (q 0, .inr (10, [.ref (q 20), .int (nI tl)])), (q 20, .inl (cI, 1600, .inl (fun j => nI (tb j))))] := hD
  refine lv_istore (lv' := [(4, .int (nI v_28)), (3, .int (nI v_14)), (0, .ref (q 3)), (1, .ref (q 6)), (2, .ref am)]) hx hb dX3_readAmount_32 hl (by decide) rfl (fun ls hl => ?_)
  refine lv_iload_n hx hb dX3_readAmount_34 rfl (lv_at hl 1 rfl) ?_
  refine lv_aload_n hx hb dX3_readAmount_35 rfl (lv_at hl 4 rfl) ?_
  refine va_alen (v := 9) hx hb hK.1 hP 2 0 rfl rfl rfl dX3_readAmount_36 ?_
  refine lv_icmp_ge (tgt := 45) hx hb dX3_readAmount_37 (by decide) (fun c => absurd ((nle 9 v_14 (by omega) (by omega)).mp c) (by omega)) (fun c_36 => ?_)
  refine lv_aload_n hx hb dX3_readAmount_40 rfl (lv_at hl 4 rfl) ?_
  refine lv_iload_n hx hb dX3_readAmount_41 rfl (lv_at hl 1 rfl) ?_
  refine lv_iload hx hb dX3_readAmount_42 (lv_at hl 0 rfl) ?_
  refine sk_iast (ws' := [(q 3, .inr (3, [.ref (q 2), .ref (q 22), .ref (q 23)])), (q 6, .inr (2, [.ref (q 24), .ref (q 25), .ref (q 26), .ref (q 27), .ref (q 28), .int (nI jd), .int (nI jm), .int ju, .int jr, .int (nI jn)])), (am, .inl (cI, 9, .inl (upd fm v_14 (nI v_28)))), (q 2, .inr (6, [.ref (q 0), .int (nI xa2_22), .int xv2_23, .int (nI xo), .int xt2_24, .int (nI xz2_25), .int xf2_26, .int xp2_27])), (q 0, .inr (10, [.ref (q 20), .int (nI tl)])), (q 20, .inl (cI, 1600, .inl (fun j => nI (tb j))))]) hx hb hK hP hD hS 2 0 rfl rfl (vin v_14 9 (by omega) (by omega)) (by rw [nI_clamp (by omega)]; rfl) dX3_readAmount_44 (fun H locs hP hD hS => ?_)
  have hP := hP.sub (ws' := [(q 3, .inr (3, [.ref (q 2), .ref (q 22), .ref (q 23)])), (q 2, .inr (6, [.ref (q 0), .int (nI xa2_22), .int xv2_23, .int (nI xo), .int xt2_24, .int (nI xz2_25), .int xf2_26, .int xp2_27])), (q 0, .inr (10, [.ref (q 20), .int (nI tl)])), (q 20, .inl (cI, 1600, .inl (fun j => nI (tb j)))), (q 6, .inr (2, [.ref (q 24), .ref (q 25), .ref (q 26), .ref (q 27), .ref (q 28), .int (nI jd), .int (nI jm), .int ju, .int jr, .int (nI jn)])), (am, .inl (cI, 9, .inl (upd fm v_14 (nI v_28))))]) [0, 3, 4, 5, 1, 2] rfl
  have hD := hD.sub (ws' := [(q 3, .inr (3, [.ref (q 2), .ref (q 22), .ref (q 23)])), (q 2, .inr (6, [.ref (q 0), .int (nI xa2_22), .int xv2_23, .int (nI xo), .int xt2_24, .int (nI xz2_25), .int xf2_26, .int xp2_27])), (q 0, .inr (10, [.ref (q 20), .int (nI tl)])), (q 20, .inl (cI, 1600, .inl (fun j => nI (tb j)))), (q 6, .inr (2, [.ref (q 24), .ref (q 25), .ref (q 26), .ref (q 27), .ref (q 28), .int (nI jd), .int (nI jm), .int ju, .int jr, .int (nI jn)])), (am, .inl (cI, 9, .inl (upd fm v_14 (nI v_28))))]) [0, 3, 4, 5, 1, 2] (by decide +kernel) rfl
  exact sk_vret hx hb hr hlocks hK hP hD hS (⟨xa2_22, xv2_23, xt2_24, xz2_25, xf2_26, xp2_27, upd fm v_14 (nI v_28), v_14, v_28, by omega, by omega, ⟨by omega, hnv_20, hnv_34⟩, rfl, hO2_35, rfl⟩) (Nat.le_of_ble_eq_true rfl) (Nat.le_of_ble_eq_true rfl) dX3_readAmount_45
set_option maxHeartbeats 4000000 in
set_option maxRecDepth 100000 in
theorem c_elt_mute (l : Launch) (D : va_G) (cI cJ cC cZ cS : ClassId) (zk zv : Nat) (zf : Value) (q : Nat → Nat) (xa : Nat) (xv : Int32) (xo : Nat) (xt : Int32) (xz : Nat) (xf : Int32) (xp : Int32) (tl : Nat) (tb : Nat → Nat) (jd : Nat) (jm : Nat) (ju : Int32) (jr : Int32) (jn : Nat) (mu : Nat → Bool) (og : Except Err Cur) (hxa : xa ≤ 1600) (hxz : xz ≤ 1600) (htl : tl ≤ 1600) (htb : ∀ j, tb j ≤ 255) (hjd1 : 1 ≤ jd) (hjd : jd ≤ 9) (hre : ¬ xt = -1 ∧ ¬ xt = -2) (hmu : muO mu ju) (hO : rdO tb tl og xa xv xt xz xf xp) : skMZ zk zv zf l yX3_readMute cX3_readMute 4 none 7 154 0 0 D (skT cI cJ cC cZ cS) [.ref (q 3), .ref (q 6)] [(q 3, .inr (3, [.ref (q 2), .ref (q 22), .ref (q 23)])), (q 2, .inr (6, [.ref (q 0), .int (nI xa), .int xv, .int (nI xo), .int xt, .int (nI xz), .int xf, .int xp])), (q 0, .inr (10, [.ref (q 20), .int (nI tl)])), (q 20, .inl (cI, 1600, .inl (fun j => nI (tb j)))), (q 6, .inr (2, [.ref (q 24), .ref (q 25), .ref (q 26), .ref (q 27), .ref (q 28), .int (nI jd), .int (nI jm), .int ju, .int jr, .int (nI jn)]))] (skV D (skT cI cJ cC cZ cS) (fun (u : va_W) => ∃ (xa2 : Nat), ∃ (xv2 : Int32), ∃ (xt2 : Int32), ∃ (xz2 : Nat), ∃ (xf2 : Int32), ∃ (xp2 : Int32), ∃ (ju2 : Int32), ∃ (dv : Nat), ∃ (w : Nat), xa2 ≤ 1600 ∧ xz2 ≤ 1600 ∧ mtV tb tl jd og dv w ∧ muO (updG mu dv true) ju2 ∧ rdO tb tl (mtO tb tl jd mu dv w og) xa2 xv2 xt2 xz2 xf2 xp2 ∧ u = [(q 3, .inr (3, [.ref (q 2), .ref (q 22), .ref (q 23)])), (q 2, .inr (6, [.ref (q 0), .int (nI xa2), .int xv2, .int (nI xo), .int xt2, .int (nI xz2), .int xf2, .int xp2])), (q 0, .inr (10, [.ref (q 20), .int (nI tl)])), (q 20, .inl (cI, 1600, .inl (fun j => nI (tb j)))), (q 6, .inr (2, [.ref (q 24), .ref (q 25), .ref (q 26), .ref (q 27), .ref (q 28), .int (nI jd), .int (nI jm), .int ju2, .int jr, .int (nI jn)]))])) := by
  refine skMZ_of (by decide +kernel) (Nat.le_of_ble_eq_true rfl) ?_
  intro p e s m below meth c A ls E hP hD hZ hl
  obtain ⟨hx, hb, hr, hml, hlocks, hin, hown, hts, hK, hA⟩ := E
  have hown : s.vm.findClass RX3 = some m.cls := hown
  have hS : va_S A s.heap s.heap [] := va_S.rf
  have hl : lv_has ls 4 [(0, .ref (q 3)), (1, .ref (q 6))] := hl
  refine lv_aload_n hx hb dX3_readMute_0 rfl (lv_at hl 0 rfl) ?_
  refine sk_get (v := .ref (q 2)) (C := RX3) (T := TX3) (N := 3) hx hb hts inlX3 hown hK hP 0 rfl rfl 0 (by decide) w_1_107 rfl dX3_readMute_1 ?_
  refine sk_VvZ (q0 := 0) (n := 0) (rest := []) (wr := [(q 3, .inr (3, [.ref (q 2), .ref (q 22), .ref (q 23)])), (q 6, .inr (2, [.ref (q 24), .ref (q 25), .ref (q 26), .ref (q 27), .ref (q 28), .int (nI jd), .int (nI jm), .int ju, .int jr, .int (nI jn)]))]) ⟨hx, hb, hml, hown, hts⟩ hl.1 (c_erd_step l D cI cJ cC cZ cS zk zv zf q xa xv xo xt xz xf xp tl tb (bindR og (beF tb tl)) (by omega) (by omega) (by omega) htb (rd_st htb hO hre)) w_3_75 w_2_226 w_2_227 w_1_4 w_2_228 (by decide +kernel) ⟨⟨(Nat.le_of_ble_eq_true rfl), (Nat.le_of_ble_eq_true rfl)⟩, (Nat.le_of_ble_eq_true rfl), (Nat.le_of_ble_eq_true rfl)⟩ hK hP hD hS hZ hA [1, 2, 3] [0, 4] rfl rfl (by decide +kernel) (by decide +kernel) (by decide +kernel) rfl rfl rfl rfl (Nat.le_of_ble_eq_true rfl) dX3_readMute_4 (fun u H locs hw hP hD hS => ?_)
  obtain ⟨xa2_1, xv2_2, xt2_3, xz2_4, hxa2_5, hxz2_6, hO2_7, rfl⟩ := hw
  have hP : va_P D vwCl [(q 3, .inr (3, [.ref (q 2), .ref (q 22), .ref (q 23)])), (q 6, .inr (2, [.ref (q 24), .ref (q 25), .ref (q 26), .ref (q 27), .ref (q 28), .int (nI jd), .int (nI jm), .int ju, .int jr, .int (nI jn)])), (q 2, .inr (6, [.ref (q 0), .int (nI xa2_1), .int xv2_2, .int (nI xo), .int xt2_3, .int (nI xz2_4), .int xf, .int xp])), (q 0, .inr (10, [.ref (q 20), .int (nI tl)])), (q 20, .inl (cI, 1600, .inl (fun j => nI (tb j))))] H := hP
  have hD : va_D A [(q 3, .inr (3, [.ref (q 2), .ref (q 22), .ref (q 23)])), (q 6, .inr (2, [.ref (q 24), .ref (q 25), .ref (q 26), .ref (q 27), .ref (q 28), .int (nI jd), .int (nI jm), .int ju, .int jr, .int (nI jn)])), (q 2, .inr (6, [.ref (q 0), .int (nI xa2_1), .int xv2_2, .int (nI xo), .int xt2_3, .int (nI xz2_4), .int xf, .int xp])), (q 0, .inr (10, [.ref (q 20), .int (nI tl)])), (q 20, .inl (cI, 1600, .inl (fun j => nI (tb j))))] := hD
  rw [stF_nx] at hO2_7
  refine lv_aload_n hx hb dX3_readMute_7 rfl (lv_at hl 0 rfl) ?_
  refine sk_get (v := .ref (q 2)) (C := RX3) (T := TX3) (N := 3) hx hb hts inlX3 hown hK hP 0 rfl rfl 0 (by decide) w_1_107 rfl dX3_readMute_8 ?_
  refine sk_get (v := .int (nI xz2_4)) (C := RX6) (T := TX6) (N := 8) hx hb hts inlX6 hown hK hP 2 rfl rfl 5 (by decide) w_1_65 rfl dX3_readMute_11 ?_
  refine lv_istore_n (lv' := [(2, .int (nI xz2_4)), (0, .ref (q 3)), (1, .ref (q 6))]) hx hb dX3_readMute_14 rfl hl (by decide) rfl (fun ls hl => ?_)
  refine lv_aload_n hx hb dX3_readMute_15 rfl (lv_at hl 1 rfl) ?_
  refine sk_get (v := .ref (q 2)) (C := RX3) (T := TX3) (N := 3) hx hb hts inlX3 hown hK hP 0 rfl rfl 0 (by decide) w_1_107 rfl dX3_readMute_16 ?_
  refine lv_iconst (v := 0) hx hb dX3_readMute_19 (by decide) ?_
  refine lv_aload_n hx hb dX3_readMute_20 rfl (lv_at hl 2 rfl) ?_
  refine sk_get (v := .int (nI jd)) (C := RX2) (T := TX2) (N := 10) hx hb hts inlX2 hown hK hP 1 rfl rfl 5 (by decide) w_1_190 rfl dX3_readMute_21 ?_
  refine lv_iconst (v := 1) hx hb dX3_readMute_24 (by decide) ?_
  refine lv_isub hx hb dX3_readMute_25 ?_
  refine sk_top (nI (jd - 1)) (nsub jd 1 (by omega)) ?_
  refine sk_ViZ (q0 := 0) (n := 2) (rest := []) (wr := [(q 3, .inr (3, [.ref (q 2), .ref (q 22), .ref (q 23)])), (q 6, .inr (2, [.ref (q 24), .ref (q 25), .ref (q 26), .ref (q 27), .ref (q 28), .int (nI jd), .int (nI jm), .int ju, .int jr, .int (nI jn)]))]) ⟨hx, hb, hml, hown, hts⟩ hl.1 (c_erd_takeNumber l D cI cJ cC cZ cS zk zv zf q xa2_1 xv2_2 xo xt2_3 xz2_4 xf xp tl tb 0 (jd - 1) (bindR og (nxF tb tl)) (by omega) (by omega) (by omega) htb (by omega) (by omega) hO2_7) w_3_62 w_3_63 w_3_64 w_1_4 w_3_65 (by decide +kernel) ⟨⟨(Nat.le_of_ble_eq_true rfl), (Nat.le_of_ble_eq_true rfl)⟩, (Nat.le_of_ble_eq_true rfl), (Nat.le_of_ble_eq_true rfl)⟩ hK hP hD hS hZ hA [2, 3, 4] [0, 1] rfl rfl (by decide +kernel) (by decide +kernel) (by decide +kernel) rfl rfl rfl rfl (Nat.le_of_ble_eq_true rfl) dX3_readMute_26 (fun r_15 u H locs hw hP hD hS => ?_)
  obtain ⟨xa2_8, xv2_9, xt2_10, xz2_11, xf2_12, xp2_13, v_14, hxa2_16, hxz2_17, hv1_18, hv2_19, hnv_20, hO2_21, rfl, rfl⟩ := hw
  have hP : va_P D vwCl [(q 3, .inr (3, [.ref (q 2), .ref (q 22), .ref (q 23)])), (q 6, .inr (2, [.ref (q 24), .ref (q 25), .ref (q 26), .ref (q 27), .ref (q 28), .int (nI jd), .int (nI jm), .int ju, .int jr, .int (nI jn)])), (q 2, .inr (6, [.ref (q 0), .int (nI xa2_8), .int xv2_9, .int (nI xo), .int xt2_10, .int (nI xz2_11), .int xf2_12, .int xp2_13])), (q 0, .inr (10, [.ref (q 20), .int (nI tl)])), (q 20, .inl (cI, 1600, .inl (fun j => nI (tb j))))] H := hP
  have hD : va_D A [(q 3, .inr (3, [.ref (q 2), .ref (q 22), .ref (q 23)])), (q 6, .inr (2, [.ref (q 24), .ref (q 25), .ref (q 26), .ref (q 27), .ref (q 28), .int (nI jd), .int (nI jm), .int ju, .int jr, .int (nI jn)])), (q 2, .inr (6, [.ref (q 0), .int (nI xa2_8), .int xv2_9, .int (nI xo), .int xt2_10, .int (nI xz2_11), .int xf2_12, .int xp2_13])), (q 0, .inr (10, [.ref (q 20), .int (nI tl)])), (q 20, .inl (cI, 1600, .inl (fun j => nI (tb j))))] := hD
  refine lv_istore_n (lv' := [(3, .int (nI v_14)), (2, .int (nI xz2_4)), (0, .ref (q 3)), (1, .ref (q 6))]) hx hb dX3_readMute_29 rfl hl (by decide) rfl (fun ls hl => ?_)
  refine lv_aload_n hx hb dX3_readMute_30 rfl (lv_at hl 2 rfl) ?_
  refine sk_get (v := .ref (q 2)) (C := RX3) (T := TX3) (N := 3) hx hb hts inlX3 hown hK hP 0 rfl rfl 0 (by decide) w_1_107 rfl dX3_readMute_31 ?_
  refine sk_get (v := .int xf2_12) (C := RX6) (T := TX6) (N := 8) hx hb hts inlX6 hown hK hP 2 rfl rfl 6 (by decide) w_1_67 rfl dX3_readMute_34 ?_
  refine lv_if_ne (tgt := 61) hx hb dX3_readMute_37 (by decide) (fun c_22 => ?_) (fun c_22 => ?_)
  · skip
    refine lv_aload_n hx hb dX3_readMute_61 rfl (lv_at hl 3 rfl) ?_
    refine lv_dup hx hb dX3_readMute_62 rfl ?_
    refine sk_get (v := .int ju) (C := RX2) (T := TX2) (N := 10) hx hb hts inlX2 hown hK hP 1 rfl rfl 7 (by decide) w_1_196 rfl dX3_readMute_63 ?_
    refine lv_iconst (v := 1) hx hb dX3_readMute_66 (by decide) ?_
    refine lv_iload_n hx hb dX3_readMute_67 rfl (lv_at hl 0 rfl) ?_
    refine lv_ishl hx hb dX3_readMute_68 ?_
    refine lv_ior hx hb dX3_readMute_69 ?_
    refine sk_put (ws' := [(q 3, .inr (3, [.ref (q 2), .ref (q 22), .ref (q 23)])), (q 6, .inr (2, [.ref (q 24), .ref (q 25), .ref (q 26), .ref (q 27), .ref (q 28), .int (nI jd), .int (nI jm), .int (ju ||| (1 <<< (nI v_14 &&& 31))), .int jr, .int (nI jn)])), (q 2, .inr (6, [.ref (q 0), .int (nI xa2_8), .int xv2_9, .int (nI xo), .int xt2_10, .int (nI xz2_11), .int xf2_12, .int xp2_13])), (q 0, .inr (10, [.ref (q 20), .int (nI tl)])), (q 20, .inl (cI, 1600, .inl (fun j => nI (tb j))))]) (C := RX2) (T := TX2) (N := 10) (v := .int (ju ||| (1 <<< (nI v_14 &&& 31)))) hx hb hts inlX2 tyX2 tyX2_ok nmX2 hown hK hP hD hS 1 rfl rfl 7 (by decide) w_1_196 rfl rfl rfl (Nat.le_of_ble_eq_true rfl) rfl dX3_readMute_70 (fun H locs hP hD hS => ?_)
    have hP := hP.sub (ws' := [(q 3, .inr (3, [.ref (q 2), .ref (q 22), .ref (q 23)])), (q 2, .inr (6, [.ref (q 0), .int (nI xa2_8), .int xv2_9, .int (nI xo), .int xt2_10, .int (nI xz2_11), .int xf2_12, .int xp2_13])), (q 0, .inr (10, [.ref (q 20), .int (nI tl)])), (q 20, .inl (cI, 1600, .inl (fun j => nI (tb j)))), (q 6, .inr (2, [.ref (q 24), .ref (q 25), .ref (q 26), .ref (q 27), .ref (q 28), .int (nI jd), .int (nI jm), .int (ju ||| (1 <<< (nI v_14 &&& 31))), .int jr, .int (nI jn)]))]) [0, 2, 3, 4, 1] rfl
    have hD := hD.sub (ws' := [(q 3, .inr (3, [.ref (q 2), .ref (q 22), .ref (q 23)])), (q 2, .inr (6, [.ref (q 0), .int (nI xa2_8), .int xv2_9, .int (nI xo), .int xt2_10, .int (nI xz2_11), .int xf2_12, .int xp2_13])), (q 0, .inr (10, [.ref (q 20), .int (nI tl)])), (q 20, .inl (cI, 1600, .inl (fun j => nI (tb j)))), (q 6, .inr (2, [.ref (q 24), .ref (q 25), .ref (q 26), .ref (q 27), .ref (q 28), .int (nI jd), .int (nI jm), .int (ju ||| (1 <<< (nI v_14 &&& 31))), .int jr, .int (nI jn)]))]) [0, 2, 3, 4, 1] (by decide +kernel) rfl
    exact sk_vret hx hb hr hlocks hK hP hD hS (⟨xa2_8, xv2_9, xt2_10, xz2_11, xf2_12, xp2_13, (ju ||| (1 <<< (nI v_14 &&& 31))), v_14, xz2_4, by omega, by omega, ⟨by omega, hnv_20, mt_w hO2_7⟩, muO_or hmu (by omega), mt_er (mu := mu) (dv := v_14) (w := xz2_4) hO2_21 c_22, rfl⟩) (Nat.le_of_ble_eq_true rfl) (Nat.le_of_ble_eq_true rfl) dX3_readMute_73
  · skip
    refine lv_aload_n hx hb dX3_readMute_40 rfl (lv_at hl 3 rfl) ?_
    refine sk_get (v := .int ju) (C := RX2) (T := TX2) (N := 10) hx hb hts inlX2 hown hK hP 1 rfl rfl 7 (by decide) w_1_196 rfl dX3_readMute_41 ?_
    refine lv_iload_n hx hb dX3_readMute_44 rfl (lv_at hl 0 rfl) ?_
    refine lv_ishr hx hb dX3_readMute_45 ?_
    refine lv_iconst (v := 1) hx hb dX3_readMute_46 (by decide) ?_
    refine lv_iand hx hb dX3_readMute_47 ?_
    refine lv_iconst (v := 1) hx hb dX3_readMute_48 (by decide) ?_
    refine lv_icmp_ne (tgt := 61) hx hb dX3_readMute_49 (by decide) (fun c_23 => ?_) (fun c_23 => ?_)
    · skip
      refine lv_aload_n hx hb dX3_readMute_61 rfl (lv_at hl 3 rfl) ?_
      refine lv_dup hx hb dX3_readMute_62 rfl ?_
      refine sk_get (v := .int ju) (C := RX2) (T := TX2) (N := 10) hx hb hts inlX2 hown hK hP 1 rfl rfl 7 (by decide) w_1_196 rfl dX3_readMute_63 ?_
      refine lv_iconst (v := 1) hx hb dX3_readMute_66 (by decide) ?_
      refine lv_iload_n hx hb dX3_readMute_67 rfl (lv_at hl 0 rfl) ?_
      refine lv_ishl hx hb dX3_readMute_68 ?_
      refine lv_ior hx hb dX3_readMute_69 ?_
      refine sk_put (ws' := [(q 3, .inr (3, [.ref (q 2), .ref (q 22), .ref (q 23)])), (q 6, .inr (2, [.ref (q 24), .ref (q 25), .ref (q 26), .ref (q 27), .ref (q 28), .int (nI jd), .int (nI jm), .int (ju ||| (1 <<< (nI v_14 &&& 31))), .int jr, .int (nI jn)])), (q 2, .inr (6, [.ref (q 0), .int (nI xa2_8), .int xv2_9, .int (nI xo), .int xt2_10, .int (nI xz2_11), .int xf2_12, .int xp2_13])), (q 0, .inr (10, [.ref (q 20), .int (nI tl)])), (q 20, .inl (cI, 1600, .inl (fun j => nI (tb j))))]) (C := RX2) (T := TX2) (N := 10) (v := .int (ju ||| (1 <<< (nI v_14 &&& 31)))) hx hb hts inlX2 tyX2 tyX2_ok nmX2 hown hK hP hD hS 1 rfl rfl 7 (by decide) w_1_196 rfl rfl rfl (Nat.le_of_ble_eq_true rfl) rfl dX3_readMute_70 (fun H locs hP hD hS => ?_)
      have hP := hP.sub (ws' := [(q 3, .inr (3, [.ref (q 2), .ref (q 22), .ref (q 23)])), (q 2, .inr (6, [.ref (q 0), .int (nI xa2_8), .int xv2_9, .int (nI xo), .int xt2_10, .int (nI xz2_11), .int xf2_12, .int xp2_13])), (q 0, .inr (10, [.ref (q 20), .int (nI tl)])), (q 20, .inl (cI, 1600, .inl (fun j => nI (tb j)))), (q 6, .inr (2, [.ref (q 24), .ref (q 25), .ref (q 26), .ref (q 27), .ref (q 28), .int (nI jd), .int (nI jm), .int (ju ||| (1 <<< (nI v_14 &&& 31))), .int jr, .int (nI jn)]))]) [0, 2, 3, 4, 1] rfl
      have hD := hD.sub (ws' := [(q 3, .inr (3, [.ref (q 2), .ref (q 22), .ref (q 23)])), (q 2, .inr (6, [.ref (q 0), .int (nI xa2_8), .int xv2_9, .int (nI xo), .int xt2_10, .int (nI xz2_11), .int xf2_12, .int xp2_13])), (q 0, .inr (10, [.ref (q 20), .int (nI tl)])), (q 20, .inl (cI, 1600, .inl (fun j => nI (tb j)))), (q 6, .inr (2, [.ref (q 24), .ref (q 25), .ref (q 26), .ref (q 27), .ref (q 28), .int (nI jd), .int (nI jm), .int (ju ||| (1 <<< (nI v_14 &&& 31))), .int jr, .int (nI jn)]))]) [0, 2, 3, 4, 1] (by decide +kernel) rfl
      exact sk_vret hx hb hr hlocks hK hP hD hS (⟨xa2_8, xv2_9, xt2_10, xz2_11, xf2_12, xp2_13, (ju ||| (1 <<< (nI v_14 &&& 31))), v_14, xz2_4, by omega, by omega, ⟨by omega, hnv_20, mt_w hO2_7⟩, muO_or hmu (by omega), mt_no (fun hq => c_23 ((muO_bit hmu (by omega)).mpr hq)) hO2_21, rfl⟩) (Nat.le_of_ble_eq_true rfl) (Nat.le_of_ble_eq_true rfl) dX3_readMute_73
    · skip
      refine lv_aload_n hx hb dX3_readMute_52 rfl (lv_at hl 2 rfl) ?_
      refine sk_get (v := .ref (q 2)) (C := RX3) (T := TX3) (N := 3) hx hb hts inlX3 hown hK hP 0 rfl rfl 0 (by decide) w_1_107 rfl dX3_readMute_53 ?_
      refine lv_iconst (v := 2) hx hb dX3_readMute_56 (by decide) ?_
      refine lv_iload_n hx hb dX3_readMute_57 rfl (lv_at hl 1 rfl) ?_
      refine sk_Vv (q0 := 0) (n := 2) (rest := []) (wr := [(q 3, .inr (3, [.ref (q 2), .ref (q 22), .ref (q 23)])), (q 6, .inr (2, [.ref (q 24), .ref (q 25), .ref (q 26), .ref (q 27), .ref (q 28), .int (nI jd), .int (nI jm), .int ju, .int jr, .int (nI jn)])), (q 0, .inr (10, [.ref (q 20), .int (nI tl)])), (q 20, .inl (cI, 1600, .inl (fun j => nI (tb j))))]) ⟨hx, hb, hml, hown, hts⟩ hl.1 (c_erd_fail l D cI cJ cC cZ cS q xa2_8 xv2_9 xo xt2_10 xz2_11 xf2_12 xp2_13 tl tb 2 xz2_4 (bindR (bindR og (nxF tb tl)) (nmF tb tl 0 (jd - 1))) (by omega) (by omega) (by omega) hO2_21) w_3_74 w_3_59 w_3_60 w_1_4 w_3_61 (by decide +kernel) ⟨⟨(Nat.le_of_ble_eq_true rfl), (Nat.le_of_ble_eq_true rfl)⟩, (Nat.le_of_ble_eq_true rfl), (Nat.le_of_ble_eq_true rfl)⟩ hK hP hD hS hA [2] [0, 1, 3, 4] rfl rfl (by decide +kernel) (by decide +kernel) (by decide +kernel) rfl rfl rfl rfl (Nat.le_of_ble_eq_true rfl) dX3_readMute_58 (fun u H locs hw hP hD hS => ?_)
      obtain ⟨xf2_24, xp2_25, hO2_26, rfl⟩ := hw
      have hP : va_P D vwCl [(q 3, .inr (3, [.ref (q 2), .ref (q 22), .ref (q 23)])), (q 6, .inr (2, [.ref (q 24), .ref (q 25), .ref (q 26), .ref (q 27), .ref (q 28), .int (nI jd), .int (nI jm), .int ju, .int jr, .int (nI jn)])), (q 0, .inr (10, [.ref (q 20), .int (nI tl)])), (q 20, .inl (cI, 1600, .inl (fun j => nI (tb j)))), (q 2, .inr (6, [.ref (q 0), .int (nI xa2_8), .int xv2_9, .int (nI xo), .int (-2), .int (nI xz2_11), .int xf2_24, .int xp2_25]))] H := hP
      have hD : va_D A [(q 3, .inr (3, [.ref (q 2), .ref (q 22), .ref (q 23)])), (q 6, .inr (2, [.ref (q 24), .ref (q 25), .ref (q 26), .ref (q 27), .ref (q 28), .int (nI jd), .int (nI jm), .int ju, .int jr, .int (nI jn)])), (q 0, .inr (10, [.ref (q 20), .int (nI tl)])), (q 20, .inl (cI, 1600, .inl (fun j => nI (tb j)))), (q 2, .inr (6, [.ref (q 0), .int (nI xa2_8), .int xv2_9, .int (nI xo), .int (-2), .int (nI xz2_11), .int xf2_24, .int xp2_25]))] := hD
      refine lv_aload_n hx hb dX3_readMute_61 rfl (lv_at hl 3 rfl) ?_
      refine lv_dup hx hb dX3_readMute_62 rfl ?_
      refine sk_get (v := .int ju) (C := RX2) (T := TX2) (N := 10) hx hb hts inlX2 hown hK hP 1 rfl rfl 7 (by decide) w_1_196 rfl dX3_readMute_63 ?_
      refine lv_iconst (v := 1) hx hb dX3_readMute_66 (by decide) ?_
      refine lv_iload_n hx hb dX3_readMute_67 rfl (lv_at hl 0 rfl) ?_
      refine lv_ishl hx hb dX3_readMute_68 ?_
      refine lv_ior hx hb dX3_readMute_69 ?_
      refine sk_put (ws' := [(q 3, .inr (3, [.ref (q 2), .ref (q 22), .ref (q 23)])), (q 6, .inr (2, [.ref (q 24), .ref (q 25), .ref (q 26), .ref (q 27), .ref (q 28), .int (nI jd), .int (nI jm), .int (ju ||| (1 <<< (nI v_14 &&& 31))), .int jr, .int (nI jn)])), (q 0, .inr (10, [.ref (q 20), .int (nI tl)])), (q 20, .inl (cI, 1600, .inl (fun j => nI (tb j)))), (q 2, .inr (6, [.ref (q 0), .int (nI xa2_8), .int xv2_9, .int (nI xo), .int (-2), .int (nI xz2_11), .int xf2_24, .int xp2_25]))]) (C := RX2) (T := TX2) (N := 10) (v := .int (ju ||| (1 <<< (nI v_14 &&& 31)))) hx hb hts inlX2 tyX2 tyX2_ok nmX2 hown hK hP hD hS 1 rfl rfl 7 (by decide) w_1_196 rfl rfl rfl (Nat.le_of_ble_eq_true rfl) rfl dX3_readMute_70 (fun H locs hP hD hS => ?_)
      have hP := hP.sub (ws' := [(q 3, .inr (3, [.ref (q 2), .ref (q 22), .ref (q 23)])), (q 2, .inr (6, [.ref (q 0), .int (nI xa2_8), .int xv2_9, .int (nI xo), .int (-2), .int (nI xz2_11), .int xf2_24, .int xp2_25])), (q 0, .inr (10, [.ref (q 20), .int (nI tl)])), (q 20, .inl (cI, 1600, .inl (fun j => nI (tb j)))), (q 6, .inr (2, [.ref (q 24), .ref (q 25), .ref (q 26), .ref (q 27), .ref (q 28), .int (nI jd), .int (nI jm), .int (ju ||| (1 <<< (nI v_14 &&& 31))), .int jr, .int (nI jn)]))]) [0, 4, 2, 3, 1] rfl
      have hD := hD.sub (ws' := [(q 3, .inr (3, [.ref (q 2), .ref (q 22), .ref (q 23)])), (q 2, .inr (6, [.ref (q 0), .int (nI xa2_8), .int xv2_9, .int (nI xo), .int (-2), .int (nI xz2_11), .int xf2_24, .int xp2_25])), (q 0, .inr (10, [.ref (q 20), .int (nI tl)])), (q 20, .inl (cI, 1600, .inl (fun j => nI (tb j)))), (q 6, .inr (2, [.ref (q 24), .ref (q 25), .ref (q 26), .ref (q 27), .ref (q 28), .int (nI jd), .int (nI jm), .int (ju ||| (1 <<< (nI v_14 &&& 31))), .int jr, .int (nI jn)]))]) [0, 4, 2, 3, 1] (by decide +kernel) rfl
      exact sk_vret hx hb hr hlocks hK hP hD hS (⟨xa2_8, xv2_9, (-2), xz2_11, xf2_24, xp2_25, (ju ||| (1 <<< (nI v_14 &&& 31))), v_14, xz2_4, by omega, by omega, ⟨by omega, hnv_20, mt_w hO2_7⟩, muO_or hmu (by omega), mt_yes ((muO_bit hmu (by omega)).mp c_23) hO2_26, rfl⟩) (Nat.le_of_ble_eq_true rfl) (Nat.le_of_ble_eq_true rfl) dX3_readMute_73
set_option maxHeartbeats 4000000 in
set_option maxRecDepth 100000 in
theorem c_elt_numbers (l : Launch) (D : va_G) (cI cJ cC cZ cS : ClassId) (zk zv : Nat) (zf : Value) (q : Nat → Nat) (xa : Nat) (xv : Int32) (xo : Nat) (xt : Int32) (xz : Nat) (xf : Int32) (xp : Int32) (tl : Nat) (tb : Nat → Nat) (jd : Nat) (jm : Nat) (ju : Int32) (jr : Int32) (jn : Nat) (jb : Nat → Int32) (jw : Nat → Int32) (mu : Nat → Bool) (og : Except Err Cur) (hxa : xa ≤ 1600) (hxz : xz ≤ 1600) (htl : tl ≤ 1600) (htb : ∀ j, tb j ≤ 255) (hjd1 : 1 ≤ jd) (hjd : jd ≤ 9) (hmu : muO mu ju) (hO : rdO tb tl og xa xv xt xz xf xp) : skMZ zk zv zf l yX3_readNumbers cX3_readNumbers 2 none 8 178 0 0 D (skT cI cJ cC cZ cS) [.ref (q 3), .ref (q 6)] [(q 3, .inr (3, [.ref (q 2), .ref (q 22), .ref (q 23)])), (q 2, .inr (6, [.ref (q 0), .int (nI xa), .int xv, .int (nI xo), .int xt, .int (nI xz), .int xf, .int xp])), (q 0, .inr (10, [.ref (q 20), .int (nI tl)])), (q 20, .inl (cI, 1600, .inl (fun j => nI (tb j)))), (q 6, .inr (2, [.ref (q 24), .ref (q 25), .ref (q 26), .ref (q 27), .ref (q 28), .int (nI jd), .int (nI jm), .int ju, .int jr, .int (nI jn)])), (q 25, .inl (cI, 9, .inl jb)), (q 26, .inl (cI, 9, .inl jw))] (skV D (skT cI cJ cC cZ cS) (fun (u : va_W) => ∃ (xa2 : Nat), ∃ (xv2 : Int32), ∃ (xt2 : Int32), ∃ (xz2 : Nat), ∃ (xf2 : Int32), ∃ (xp2 : Int32), ∃ (ju2 : Int32), ∃ (jr2 : Int32), ∃ (jb2 : Nat → Int32), ∃ (jw2 : Nat → Int32), xa2 ≤ 1600 ∧ xz2 ≤ 1600 ∧ nbO tb tl jd mu og xt xa2 xv2 xt2 xz2 xf2 xp2 ju ju2 jr jr2 jb jb2 jw jw2 ∧ u = [(q 3, .inr (3, [.ref (q 2), .ref (q 22), .ref (q 23)])), (q 2, .inr (6, [.ref (q 0), .int (nI xa2), .int xv2, .int (nI xo), .int xt2, .int (nI xz2), .int xf2, .int xp2])), (q 0, .inr (10, [.ref (q 20), .int (nI tl)])), (q 20, .inl (cI, 1600, .inl (fun j => nI (tb j)))), (q 6, .inr (2, [.ref (q 24), .ref (q 25), .ref (q 26), .ref (q 27), .ref (q 28), .int (nI jd), .int (nI jm), .int ju2, .int jr2, .int (nI jn)])), (q 25, .inl (cI, 9, .inl jb2)), (q 26, .inl (cI, 9, .inl jw2))])) := by
  refine skMZ_of (by decide +kernel) (Nat.le_of_ble_eq_true rfl) ?_
  intro p e s m below meth c A ls E hP hD hZ hl
  obtain ⟨hx, hb, hr, hml, hlocks, hin, hown, hts, hK, hA⟩ := E
  have hown : s.vm.findClass RX3 = some m.cls := hown
  have hS : va_S A s.heap s.heap [] := va_S.rf
  have hl : lv_has ls 2 [(0, .ref (q 3)), (1, .ref (q 6))] := hl
  refine lv_aload_n hx hb dX3_readNumbers_0 rfl (lv_at hl 0 rfl) ?_
  refine sk_get (v := .ref (q 2)) (C := RX3) (T := TX3) (N := 3) hx hb hts inlX3 hown hK hP 0 rfl rfl 0 (by decide) w_1_107 rfl dX3_readNumbers_1 ?_
  refine sk_get (v := .int xt) (C := RX6) (T := TX6) (N := 8) hx hb hts inlX6 hown hK hP 1 rfl rfl 4 (by decide) w_1_62 rfl dX3_readNumbers_4 ?_
  by_cases g_1 : xt = 258
  · refine lv_tableIn (off := 41) (tgt := 48) hx hb dX3_readNumbers_7 (by rw [g_1]; decide) (by rw [g_1]; decide) (by rw [g_1]; rfl) (by decide) ?_
    refine lv_aload_n hx hb dX3_readNumbers_48 rfl (lv_at hl 0 rfl) ?_
    refine lv_aload_n hx hb dX3_readNumbers_49 rfl (lv_at hl 1 rfl) ?_
    refine lv_aload_n hx hb dX3_readNumbers_50 rfl (lv_at hl 1 rfl) ?_
    refine sk_get (v := .ref (q 25)) (C := RX2) (T := TX2) (N := 10) hx hb hts inlX2 hown hK hP 4 rfl rfl 1 (by decide) w_1_180 rfl dX3_readNumbers_51 ?_
    refine sk_VvZ (q0 := 0) (n := 2) (rest := []) (wr := [(q 26, .inl (cI, 9, .inl jw))]) ⟨hx, hb, hml, hown, hts⟩ hl.1 (c_elt_amount l D cI cJ cC cZ cS zk zv zf q xa xv xo xt xz xf xp tl tb jd jm ju jr jn (q 25) jb og (by omega) (by omega) (by omega) htb (by omega) (by omega) ⟨by rw [g_1]; decide, by rw [g_1]; decide⟩ hO) w_3_131 w_3_133 w_0_12 w_1_5 w_3_134 (by decide +kernel) ⟨⟨(Nat.le_of_ble_eq_true rfl), (Nat.le_of_ble_eq_true rfl)⟩, (Nat.le_of_ble_eq_true rfl), (Nat.le_of_ble_eq_true rfl)⟩ hK hP hD hS hZ hA [0, 1, 2, 3, 4, 5] [6] rfl rfl (by decide +kernel) (by decide +kernel) (by decide +kernel) rfl rfl rfl rfl (Nat.le_of_ble_eq_true rfl) dX3_readNumbers_54 (fun u H locs hw hP hD hS => ?_)
    obtain ⟨xa2_2, xv2_3, xt2_4, xz2_5, xf2_6, xp2_7, fm2_8, dv_9, mv_10, hxa2_11, hxz2_12, ham_13, hfm_14, hO2_15, rfl⟩ := hw
    have hP : va_P D vwCl [(q 26, .inl (cI, 9, .inl jw)), (q 3, .inr (3, [.ref (q 2), .ref (q 22), .ref (q 23)])), (q 2, .inr (6, [.ref (q 0), .int (nI xa2_2), .int xv2_3, .int (nI xo), .int xt2_4, .int (nI xz2_5), .int xf2_6, .int xp2_7])), (q 0, .inr (10, [.ref (q 20), .int (nI tl)])), (q 20, .inl (cI, 1600, .inl (fun j => nI (tb j)))), (q 6, .inr (2, [.ref (q 24), .ref (q 25), .ref (q 26), .ref (q 27), .ref (q 28), .int (nI jd), .int (nI jm), .int ju, .int jr, .int (nI jn)])), (q 25, .inl (cI, 9, .inl fm2_8))] H := hP
    have hD : va_D A [(q 26, .inl (cI, 9, .inl jw)), (q 3, .inr (3, [.ref (q 2), .ref (q 22), .ref (q 23)])), (q 2, .inr (6, [.ref (q 0), .int (nI xa2_2), .int xv2_3, .int (nI xo), .int xt2_4, .int (nI xz2_5), .int xf2_6, .int xp2_7])), (q 0, .inr (10, [.ref (q 20), .int (nI tl)])), (q 20, .inl (cI, 1600, .inl (fun j => nI (tb j)))), (q 6, .inr (2, [.ref (q 24), .ref (q 25), .ref (q 26), .ref (q 27), .ref (q 28), .int (nI jd), .int (nI jm), .int ju, .int jr, .int (nI jn)])), (q 25, .inl (cI, 9, .inl fm2_8))] := hD
    refine lv_goto (tgt := 111) hx hb dX3_readNumbers_57 (by decide) ?_
    have hP := hP.sub (ws' := [(q 3, .inr (3, [.ref (q 2), .ref (q 22), .ref (q 23)])), (q 2, .inr (6, [.ref (q 0), .int (nI xa2_2), .int xv2_3, .int (nI xo), .int xt2_4, .int (nI xz2_5), .int xf2_6, .int xp2_7])), (q 0, .inr (10, [.ref (q 20), .int (nI tl)])), (q 20, .inl (cI, 1600, .inl (fun j => nI (tb j)))), (q 6, .inr (2, [.ref (q 24), .ref (q 25), .ref (q 26), .ref (q 27), .ref (q 28), .int (nI jd), .int (nI jm), .int ju, .int jr, .int (nI jn)])), (q 25, .inl (cI, 9, .inl fm2_8)), (q 26, .inl (cI, 9, .inl jw))]) [1, 2, 3, 4, 5, 6, 0] rfl
    have hD := hD.sub (ws' := [(q 3, .inr (3, [.ref (q 2), .ref (q 22), .ref (q 23)])), (q 2, .inr (6, [.ref (q 0), .int (nI xa2_2), .int xv2_3, .int (nI xo), .int xt2_4, .int (nI xz2_5), .int xf2_6, .int xp2_7])), (q 0, .inr (10, [.ref (q 20), .int (nI tl)])), (q 20, .inl (cI, 1600, .inl (fun j => nI (tb j)))), (q 6, .inr (2, [.ref (q 24), .ref (q 25), .ref (q 26), .ref (q 27), .ref (q 28), .int (nI jd), .int (nI jm), .int ju, .int jr, .int (nI jn)])), (q 25, .inl (cI, 9, .inl fm2_8)), (q 26, .inl (cI, 9, .inl jw))]) [1, 2, 3, 4, 5, 6, 0] (by decide +kernel) rfl
    exact sk_vret hx hb hr hlocks hK hP hD hS (⟨xa2_2, xv2_3, xt2_4, xz2_5, xf2_6, xp2_7, ju, jr, fm2_8, jw, by omega, by omega, Or.inl ⟨g_1, dv_9, mv_10, ham_13, hO2_15, hfm_14, rfl, rfl, rfl⟩, rfl⟩) (Nat.le_of_ble_eq_true rfl) (Nat.le_of_ble_eq_true rfl) dX3_readNumbers_111
  by_cases g_16 : xt = 259
  · refine lv_tableIn (off := 53) (tgt := 60) hx hb dX3_readNumbers_7 (by rw [g_16]; decide) (by rw [g_16]; decide) (by rw [g_16]; rfl) (by decide) ?_
    refine lv_aload_n hx hb dX3_readNumbers_60 rfl (lv_at hl 0 rfl) ?_
    refine lv_aload_n hx hb dX3_readNumbers_61 rfl (lv_at hl 1 rfl) ?_
    refine lv_aload_n hx hb dX3_readNumbers_62 rfl (lv_at hl 1 rfl) ?_
    refine sk_get (v := .ref (q 26)) (C := RX2) (T := TX2) (N := 10) hx hb hts inlX2 hown hK hP 4 rfl rfl 2 (by decide) w_1_183 rfl dX3_readNumbers_63 ?_
    refine sk_VvZ (q0 := 0) (n := 2) (rest := []) (wr := [(q 25, .inl (cI, 9, .inl jb))]) ⟨hx, hb, hml, hown, hts⟩ hl.1 (c_elt_amount l D cI cJ cC cZ cS zk zv zf q xa xv xo xt xz xf xp tl tb jd jm ju jr jn (q 26) jw og (by omega) (by omega) (by omega) htb (by omega) (by omega) ⟨by rw [g_16]; decide, by rw [g_16]; decide⟩ hO) w_3_131 w_3_133 w_0_12 w_1_5 w_3_134 (by decide +kernel) ⟨⟨(Nat.le_of_ble_eq_true rfl), (Nat.le_of_ble_eq_true rfl)⟩, (Nat.le_of_ble_eq_true rfl), (Nat.le_of_ble_eq_true rfl)⟩ hK hP hD hS hZ hA [0, 1, 2, 3, 4, 6] [5] rfl rfl (by decide +kernel) (by decide +kernel) (by decide +kernel) rfl rfl rfl rfl (Nat.le_of_ble_eq_true rfl) dX3_readNumbers_66 (fun u H locs hw hP hD hS => ?_)
    obtain ⟨xa2_17, xv2_18, xt2_19, xz2_20, xf2_21, xp2_22, fm2_23, dv_24, mv_25, hxa2_26, hxz2_27, ham_28, hfm_29, hO2_30, rfl⟩ := hw
    have hP : va_P D vwCl [(q 25, .inl (cI, 9, .inl jb)), (q 3, .inr (3, [.ref (q 2), .ref (q 22), .ref (q 23)])), (q 2, .inr (6, [.ref (q 0), .int (nI xa2_17), .int xv2_18, .int (nI xo), .int xt2_19, .int (nI xz2_20), .int xf2_21, .int xp2_22])), (q 0, .inr (10, [.ref (q 20), .int (nI tl)])), (q 20, .inl (cI, 1600, .inl (fun j => nI (tb j)))), (q 6, .inr (2, [.ref (q 24), .ref (q 25), .ref (q 26), .ref (q 27), .ref (q 28), .int (nI jd), .int (nI jm), .int ju, .int jr, .int (nI jn)])), (q 26, .inl (cI, 9, .inl fm2_23))] H := hP
    have hD : va_D A [(q 25, .inl (cI, 9, .inl jb)), (q 3, .inr (3, [.ref (q 2), .ref (q 22), .ref (q 23)])), (q 2, .inr (6, [.ref (q 0), .int (nI xa2_17), .int xv2_18, .int (nI xo), .int xt2_19, .int (nI xz2_20), .int xf2_21, .int xp2_22])), (q 0, .inr (10, [.ref (q 20), .int (nI tl)])), (q 20, .inl (cI, 1600, .inl (fun j => nI (tb j)))), (q 6, .inr (2, [.ref (q 24), .ref (q 25), .ref (q 26), .ref (q 27), .ref (q 28), .int (nI jd), .int (nI jm), .int ju, .int jr, .int (nI jn)])), (q 26, .inl (cI, 9, .inl fm2_23))] := hD
    refine lv_goto (tgt := 111) hx hb dX3_readNumbers_69 (by decide) ?_
    have hP := hP.sub (ws' := [(q 3, .inr (3, [.ref (q 2), .ref (q 22), .ref (q 23)])), (q 2, .inr (6, [.ref (q 0), .int (nI xa2_17), .int xv2_18, .int (nI xo), .int xt2_19, .int (nI xz2_20), .int xf2_21, .int xp2_22])), (q 0, .inr (10, [.ref (q 20), .int (nI tl)])), (q 20, .inl (cI, 1600, .inl (fun j => nI (tb j)))), (q 6, .inr (2, [.ref (q 24), .ref (q 25), .ref (q 26), .ref (q 27), .ref (q 28), .int (nI jd), .int (nI jm), .int ju, .int jr, .int (nI jn)])), (q 25, .inl (cI, 9, .inl jb)), (q 26, .inl (cI, 9, .inl fm2_23))]) [1, 2, 3, 4, 5, 0, 6] rfl
    have hD := hD.sub (ws' := [(q 3, .inr (3, [.ref (q 2), .ref (q 22), .ref (q 23)])), (q 2, .inr (6, [.ref (q 0), .int (nI xa2_17), .int xv2_18, .int (nI xo), .int xt2_19, .int (nI xz2_20), .int xf2_21, .int xp2_22])), (q 0, .inr (10, [.ref (q 20), .int (nI tl)])), (q 20, .inl (cI, 1600, .inl (fun j => nI (tb j)))), (q 6, .inr (2, [.ref (q 24), .ref (q 25), .ref (q 26), .ref (q 27), .ref (q 28), .int (nI jd), .int (nI jm), .int ju, .int jr, .int (nI jn)])), (q 25, .inl (cI, 9, .inl jb)), (q 26, .inl (cI, 9, .inl fm2_23))]) [1, 2, 3, 4, 5, 0, 6] (by decide +kernel) rfl
    exact sk_vret hx hb hr hlocks hK hP hD hS (⟨xa2_17, xv2_18, xt2_19, xz2_20, xf2_21, xp2_22, ju, jr, jb, fm2_23, by omega, by omega, Or.inr (Or.inl ⟨g_16, dv_24, mv_25, ham_28, hO2_30, hfm_29, rfl, rfl, rfl⟩), rfl⟩) (Nat.le_of_ble_eq_true rfl) (Nat.le_of_ble_eq_true rfl) dX3_readNumbers_111
  by_cases g_31 : xt = 260
  · refine lv_tableIn (off := 65) (tgt := 72) hx hb dX3_readNumbers_7 (by rw [g_31]; decide) (by rw [g_31]; decide) (by rw [g_31]; rfl) (by decide) ?_
    refine lv_aload_n hx hb dX3_readNumbers_72 rfl (lv_at hl 0 rfl) ?_
    refine lv_aload_n hx hb dX3_readNumbers_73 rfl (lv_at hl 1 rfl) ?_
    refine sk_VvZ (q0 := 0) (n := 1) (rest := []) (wr := [(q 25, .inl (cI, 9, .inl jb)), (q 26, .inl (cI, 9, .inl jw))]) ⟨hx, hb, hml, hown, hts⟩ hl.1 (c_elt_mute l D cI cJ cC cZ cS zk zv zf q xa xv xo xt xz xf xp tl tb jd jm ju jr jn mu og (by omega) (by omega) (by omega) htb (by omega) (by omega) ⟨by rw [g_31]; decide, by rw [g_31]; decide⟩ hmu hO) w_3_135 w_3_137 w_0_13 w_1_5 w_3_138 (by decide +kernel) ⟨⟨(Nat.le_of_ble_eq_true rfl), (Nat.le_of_ble_eq_true rfl)⟩, (Nat.le_of_ble_eq_true rfl), (Nat.le_of_ble_eq_true rfl)⟩ hK hP hD hS hZ hA [0, 1, 2, 3, 4] [5, 6] rfl rfl (by decide +kernel) (by decide +kernel) (by decide +kernel) rfl rfl rfl rfl (Nat.le_of_ble_eq_true rfl) dX3_readNumbers_74 (fun u H locs hw hP hD hS => ?_)
    obtain ⟨xa2_32, xv2_33, xt2_34, xz2_35, xf2_36, xp2_37, ju2_38, dv_39, w_40, hxa2_41, hxz2_42, hmv_43, hmu2_44, hO2_45, rfl⟩ := hw
    have hP : va_P D vwCl [(q 25, .inl (cI, 9, .inl jb)), (q 26, .inl (cI, 9, .inl jw)), (q 3, .inr (3, [.ref (q 2), .ref (q 22), .ref (q 23)])), (q 2, .inr (6, [.ref (q 0), .int (nI xa2_32), .int xv2_33, .int (nI xo), .int xt2_34, .int (nI xz2_35), .int xf2_36, .int xp2_37])), (q 0, .inr (10, [.ref (q 20), .int (nI tl)])), (q 20, .inl (cI, 1600, .inl (fun j => nI (tb j)))), (q 6, .inr (2, [.ref (q 24), .ref (q 25), .ref (q 26), .ref (q 27), .ref (q 28), .int (nI jd), .int (nI jm), .int ju2_38, .int jr, .int (nI jn)]))] H := hP
    have hD : va_D A [(q 25, .inl (cI, 9, .inl jb)), (q 26, .inl (cI, 9, .inl jw)), (q 3, .inr (3, [.ref (q 2), .ref (q 22), .ref (q 23)])), (q 2, .inr (6, [.ref (q 0), .int (nI xa2_32), .int xv2_33, .int (nI xo), .int xt2_34, .int (nI xz2_35), .int xf2_36, .int xp2_37])), (q 0, .inr (10, [.ref (q 20), .int (nI tl)])), (q 20, .inl (cI, 1600, .inl (fun j => nI (tb j)))), (q 6, .inr (2, [.ref (q 24), .ref (q 25), .ref (q 26), .ref (q 27), .ref (q 28), .int (nI jd), .int (nI jm), .int ju2_38, .int jr, .int (nI jn)]))] := hD
    refine lv_goto (tgt := 111) hx hb dX3_readNumbers_77 (by decide) ?_
    have hP := hP.sub (ws' := [(q 3, .inr (3, [.ref (q 2), .ref (q 22), .ref (q 23)])), (q 2, .inr (6, [.ref (q 0), .int (nI xa2_32), .int xv2_33, .int (nI xo), .int xt2_34, .int (nI xz2_35), .int xf2_36, .int xp2_37])), (q 0, .inr (10, [.ref (q 20), .int (nI tl)])), (q 20, .inl (cI, 1600, .inl (fun j => nI (tb j)))), (q 6, .inr (2, [.ref (q 24), .ref (q 25), .ref (q 26), .ref (q 27), .ref (q 28), .int (nI jd), .int (nI jm), .int ju2_38, .int jr, .int (nI jn)])), (q 25, .inl (cI, 9, .inl jb)), (q 26, .inl (cI, 9, .inl jw))]) [2, 3, 4, 5, 6, 0, 1] rfl
    have hD := hD.sub (ws' := [(q 3, .inr (3, [.ref (q 2), .ref (q 22), .ref (q 23)])), (q 2, .inr (6, [.ref (q 0), .int (nI xa2_32), .int xv2_33, .int (nI xo), .int xt2_34, .int (nI xz2_35), .int xf2_36, .int xp2_37])), (q 0, .inr (10, [.ref (q 20), .int (nI tl)])), (q 20, .inl (cI, 1600, .inl (fun j => nI (tb j)))), (q 6, .inr (2, [.ref (q 24), .ref (q 25), .ref (q 26), .ref (q 27), .ref (q 28), .int (nI jd), .int (nI jm), .int ju2_38, .int jr, .int (nI jn)])), (q 25, .inl (cI, 9, .inl jb)), (q 26, .inl (cI, 9, .inl jw))]) [2, 3, 4, 5, 6, 0, 1] (by decide +kernel) rfl
    exact sk_vret hx hb hr hlocks hK hP hD hS (⟨xa2_32, xv2_33, xt2_34, xz2_35, xf2_36, xp2_37, ju2_38, jr, jb, jw, by omega, by omega, Or.inr (Or.inr (Or.inl ⟨g_31, dv_39, w_40, hmv_43, hO2_45, hmu2_44, rfl, rfl, rfl⟩)), rfl⟩) (Nat.le_of_ble_eq_true rfl) (Nat.le_of_ble_eq_true rfl) dX3_readNumbers_111
  by_cases g_46 : xt = 261
  · refine lv_tableIn (off := 97) (tgt := 104) hx hb dX3_readNumbers_7 (by rw [g_46]; decide) (by rw [g_46]; decide) (by rw [g_46]; rfl) (by decide) ?_
    refine lv_aload_n hx hb dX3_readNumbers_104 rfl (lv_at hl 0 rfl) ?_
    refine sk_get (v := .ref (q 2)) (C := RX3) (T := TX3) (N := 3) hx hb hts inlX3 hown hK hP 0 rfl rfl 0 (by decide) w_1_107 rfl dX3_readNumbers_105 ?_
    refine sk_Vv (q0 := 0) (n := 0) (rest := []) (wr := [(q 3, .inr (3, [.ref (q 2), .ref (q 22), .ref (q 23)])), (q 0, .inr (10, [.ref (q 20), .int (nI tl)])), (q 20, .inl (cI, 1600, .inl (fun j => nI (tb j)))), (q 6, .inr (2, [.ref (q 24), .ref (q 25), .ref (q 26), .ref (q 27), .ref (q 28), .int (nI jd), .int (nI jm), .int ju, .int jr, .int (nI jn)])), (q 25, .inl (cI, 9, .inl jb)), (q 26, .inl (cI, 9, .inl jw))]) ⟨hx, hb, hml, hown, hts⟩ hl.1 (c_erd_failHere l D cI cJ cC cZ cS q xa xv xo xt xz xf xp tl tb og (by omega) hO) w_3_139 w_3_55 w_3_56 w_1_4 w_3_57 (by decide +kernel) ⟨⟨(Nat.le_of_ble_eq_true rfl), (Nat.le_of_ble_eq_true rfl)⟩, (Nat.le_of_ble_eq_true rfl), (Nat.le_of_ble_eq_true rfl)⟩ hK hP hD hS hA [1] [0, 2, 3, 4, 5, 6] rfl rfl (by decide +kernel) (by decide +kernel) (by decide +kernel) rfl rfl rfl rfl (Nat.le_of_ble_eq_true rfl) dX3_readNumbers_108 (fun u H locs hw hP hD hS => ?_)
    obtain ⟨xf2_47, xp2_48, hO2_49, rfl⟩ := hw
    have hP : va_P D vwCl [(q 3, .inr (3, [.ref (q 2), .ref (q 22), .ref (q 23)])), (q 0, .inr (10, [.ref (q 20), .int (nI tl)])), (q 20, .inl (cI, 1600, .inl (fun j => nI (tb j)))), (q 6, .inr (2, [.ref (q 24), .ref (q 25), .ref (q 26), .ref (q 27), .ref (q 28), .int (nI jd), .int (nI jm), .int ju, .int jr, .int (nI jn)])), (q 25, .inl (cI, 9, .inl jb)), (q 26, .inl (cI, 9, .inl jw)), (q 2, .inr (6, [.ref (q 0), .int (nI xa), .int xv, .int (nI xo), .int (-2), .int (nI xz), .int xf2_47, .int xp2_48]))] H := hP
    have hD : va_D A [(q 3, .inr (3, [.ref (q 2), .ref (q 22), .ref (q 23)])), (q 0, .inr (10, [.ref (q 20), .int (nI tl)])), (q 20, .inl (cI, 1600, .inl (fun j => nI (tb j)))), (q 6, .inr (2, [.ref (q 24), .ref (q 25), .ref (q 26), .ref (q 27), .ref (q 28), .int (nI jd), .int (nI jm), .int ju, .int jr, .int (nI jn)])), (q 25, .inl (cI, 9, .inl jb)), (q 26, .inl (cI, 9, .inl jw)), (q 2, .inr (6, [.ref (q 0), .int (nI xa), .int xv, .int (nI xo), .int (-2), .int (nI xz), .int xf2_47, .int xp2_48]))] := hD
    have hP := hP.sub (ws' := [(q 3, .inr (3, [.ref (q 2), .ref (q 22), .ref (q 23)])), (q 2, .inr (6, [.ref (q 0), .int (nI xa), .int xv, .int (nI xo), .int (-2), .int (nI xz), .int xf2_47, .int xp2_48])), (q 0, .inr (10, [.ref (q 20), .int (nI tl)])), (q 20, .inl (cI, 1600, .inl (fun j => nI (tb j)))), (q 6, .inr (2, [.ref (q 24), .ref (q 25), .ref (q 26), .ref (q 27), .ref (q 28), .int (nI jd), .int (nI jm), .int ju, .int jr, .int (nI jn)])), (q 25, .inl (cI, 9, .inl jb)), (q 26, .inl (cI, 9, .inl jw))]) [0, 6, 1, 2, 3, 4, 5] rfl
    have hD := hD.sub (ws' := [(q 3, .inr (3, [.ref (q 2), .ref (q 22), .ref (q 23)])), (q 2, .inr (6, [.ref (q 0), .int (nI xa), .int xv, .int (nI xo), .int (-2), .int (nI xz), .int xf2_47, .int xp2_48])), (q 0, .inr (10, [.ref (q 20), .int (nI tl)])), (q 20, .inl (cI, 1600, .inl (fun j => nI (tb j)))), (q 6, .inr (2, [.ref (q 24), .ref (q 25), .ref (q 26), .ref (q 27), .ref (q 28), .int (nI jd), .int (nI jm), .int ju, .int jr, .int (nI jn)])), (q 25, .inl (cI, 9, .inl jb)), (q 26, .inl (cI, 9, .inl jw))]) [0, 6, 1, 2, 3, 4, 5] (by decide +kernel) rfl
    exact sk_vret hx hb hr hlocks hK hP hD hS (⟨xa, xv, (-2), xz, xf2_47, xp2_48, ju, jr, jb, jw, by omega, by omega, Or.inr (Or.inr (Or.inr (Or.inr ⟨by rw [g_46]; decide, by rw [g_46]; decide, by rw [g_46]; decide, by rw [g_46]; decide, hO2_49, rfl, rfl, rfl, rfl⟩))), rfl⟩) (Nat.le_of_ble_eq_true rfl) (Nat.le_of_ble_eq_true rfl) dX3_readNumbers_111
  by_cases g_50 : xt = 262
  · refine lv_tableIn (off := 97) (tgt := 104) hx hb dX3_readNumbers_7 (by rw [g_50]; decide) (by rw [g_50]; decide) (by rw [g_50]; rfl) (by decide) ?_
    refine lv_aload_n hx hb dX3_readNumbers_104 rfl (lv_at hl 0 rfl) ?_
    refine sk_get (v := .ref (q 2)) (C := RX3) (T := TX3) (N := 3) hx hb hts inlX3 hown hK hP 0 rfl rfl 0 (by decide) w_1_107 rfl dX3_readNumbers_105 ?_
    refine sk_Vv (q0 := 0) (n := 0) (rest := []) (wr := [(q 3, .inr (3, [.ref (q 2), .ref (q 22), .ref (q 23)])), (q 0, .inr (10, [.ref (q 20), .int (nI tl)])), (q 20, .inl (cI, 1600, .inl (fun j => nI (tb j)))), (q 6, .inr (2, [.ref (q 24), .ref (q 25), .ref (q 26), .ref (q 27), .ref (q 28), .int (nI jd), .int (nI jm), .int ju, .int jr, .int (nI jn)])), (q 25, .inl (cI, 9, .inl jb)), (q 26, .inl (cI, 9, .inl jw))]) ⟨hx, hb, hml, hown, hts⟩ hl.1 (c_erd_failHere l D cI cJ cC cZ cS q xa xv xo xt xz xf xp tl tb og (by omega) hO) w_3_139 w_3_55 w_3_56 w_1_4 w_3_57 (by decide +kernel) ⟨⟨(Nat.le_of_ble_eq_true rfl), (Nat.le_of_ble_eq_true rfl)⟩, (Nat.le_of_ble_eq_true rfl), (Nat.le_of_ble_eq_true rfl)⟩ hK hP hD hS hA [1] [0, 2, 3, 4, 5, 6] rfl rfl (by decide +kernel) (by decide +kernel) (by decide +kernel) rfl rfl rfl rfl (Nat.le_of_ble_eq_true rfl) dX3_readNumbers_108 (fun u H locs hw hP hD hS => ?_)
    obtain ⟨xf2_51, xp2_52, hO2_53, rfl⟩ := hw
    have hP : va_P D vwCl [(q 3, .inr (3, [.ref (q 2), .ref (q 22), .ref (q 23)])), (q 0, .inr (10, [.ref (q 20), .int (nI tl)])), (q 20, .inl (cI, 1600, .inl (fun j => nI (tb j)))), (q 6, .inr (2, [.ref (q 24), .ref (q 25), .ref (q 26), .ref (q 27), .ref (q 28), .int (nI jd), .int (nI jm), .int ju, .int jr, .int (nI jn)])), (q 25, .inl (cI, 9, .inl jb)), (q 26, .inl (cI, 9, .inl jw)), (q 2, .inr (6, [.ref (q 0), .int (nI xa), .int xv, .int (nI xo), .int (-2), .int (nI xz), .int xf2_51, .int xp2_52]))] H := hP
    have hD : va_D A [(q 3, .inr (3, [.ref (q 2), .ref (q 22), .ref (q 23)])), (q 0, .inr (10, [.ref (q 20), .int (nI tl)])), (q 20, .inl (cI, 1600, .inl (fun j => nI (tb j)))), (q 6, .inr (2, [.ref (q 24), .ref (q 25), .ref (q 26), .ref (q 27), .ref (q 28), .int (nI jd), .int (nI jm), .int ju, .int jr, .int (nI jn)])), (q 25, .inl (cI, 9, .inl jb)), (q 26, .inl (cI, 9, .inl jw)), (q 2, .inr (6, [.ref (q 0), .int (nI xa), .int xv, .int (nI xo), .int (-2), .int (nI xz), .int xf2_51, .int xp2_52]))] := hD
    have hP := hP.sub (ws' := [(q 3, .inr (3, [.ref (q 2), .ref (q 22), .ref (q 23)])), (q 2, .inr (6, [.ref (q 0), .int (nI xa), .int xv, .int (nI xo), .int (-2), .int (nI xz), .int xf2_51, .int xp2_52])), (q 0, .inr (10, [.ref (q 20), .int (nI tl)])), (q 20, .inl (cI, 1600, .inl (fun j => nI (tb j)))), (q 6, .inr (2, [.ref (q 24), .ref (q 25), .ref (q 26), .ref (q 27), .ref (q 28), .int (nI jd), .int (nI jm), .int ju, .int jr, .int (nI jn)])), (q 25, .inl (cI, 9, .inl jb)), (q 26, .inl (cI, 9, .inl jw))]) [0, 6, 1, 2, 3, 4, 5] rfl
    have hD := hD.sub (ws' := [(q 3, .inr (3, [.ref (q 2), .ref (q 22), .ref (q 23)])), (q 2, .inr (6, [.ref (q 0), .int (nI xa), .int xv, .int (nI xo), .int (-2), .int (nI xz), .int xf2_51, .int xp2_52])), (q 0, .inr (10, [.ref (q 20), .int (nI tl)])), (q 20, .inl (cI, 1600, .inl (fun j => nI (tb j)))), (q 6, .inr (2, [.ref (q 24), .ref (q 25), .ref (q 26), .ref (q 27), .ref (q 28), .int (nI jd), .int (nI jm), .int ju, .int jr, .int (nI jn)])), (q 25, .inl (cI, 9, .inl jb)), (q 26, .inl (cI, 9, .inl jw))]) [0, 6, 1, 2, 3, 4, 5] (by decide +kernel) rfl
    exact sk_vret hx hb hr hlocks hK hP hD hS (⟨xa, xv, (-2), xz, xf2_51, xp2_52, ju, jr, jb, jw, by omega, by omega, Or.inr (Or.inr (Or.inr (Or.inr ⟨by rw [g_50]; decide, by rw [g_50]; decide, by rw [g_50]; decide, by rw [g_50]; decide, hO2_53, rfl, rfl, rfl, rfl⟩))), rfl⟩) (Nat.le_of_ble_eq_true rfl) (Nat.le_of_ble_eq_true rfl) dX3_readNumbers_111
  by_cases g_54 : xt = 263
  · refine lv_tableIn (off := 97) (tgt := 104) hx hb dX3_readNumbers_7 (by rw [g_54]; decide) (by rw [g_54]; decide) (by rw [g_54]; rfl) (by decide) ?_
    refine lv_aload_n hx hb dX3_readNumbers_104 rfl (lv_at hl 0 rfl) ?_
    refine sk_get (v := .ref (q 2)) (C := RX3) (T := TX3) (N := 3) hx hb hts inlX3 hown hK hP 0 rfl rfl 0 (by decide) w_1_107 rfl dX3_readNumbers_105 ?_
    refine sk_Vv (q0 := 0) (n := 0) (rest := []) (wr := [(q 3, .inr (3, [.ref (q 2), .ref (q 22), .ref (q 23)])), (q 0, .inr (10, [.ref (q 20), .int (nI tl)])), (q 20, .inl (cI, 1600, .inl (fun j => nI (tb j)))), (q 6, .inr (2, [.ref (q 24), .ref (q 25), .ref (q 26), .ref (q 27), .ref (q 28), .int (nI jd), .int (nI jm), .int ju, .int jr, .int (nI jn)])), (q 25, .inl (cI, 9, .inl jb)), (q 26, .inl (cI, 9, .inl jw))]) ⟨hx, hb, hml, hown, hts⟩ hl.1 (c_erd_failHere l D cI cJ cC cZ cS q xa xv xo xt xz xf xp tl tb og (by omega) hO) w_3_139 w_3_55 w_3_56 w_1_4 w_3_57 (by decide +kernel) ⟨⟨(Nat.le_of_ble_eq_true rfl), (Nat.le_of_ble_eq_true rfl)⟩, (Nat.le_of_ble_eq_true rfl), (Nat.le_of_ble_eq_true rfl)⟩ hK hP hD hS hA [1] [0, 2, 3, 4, 5, 6] rfl rfl (by decide +kernel) (by decide +kernel) (by decide +kernel) rfl rfl rfl rfl (Nat.le_of_ble_eq_true rfl) dX3_readNumbers_108 (fun u H locs hw hP hD hS => ?_)
    obtain ⟨xf2_55, xp2_56, hO2_57, rfl⟩ := hw
    have hP : va_P D vwCl [(q 3, .inr (3, [.ref (q 2), .ref (q 22), .ref (q 23)])), (q 0, .inr (10, [.ref (q 20), .int (nI tl)])), (q 20, .inl (cI, 1600, .inl (fun j => nI (tb j)))), (q 6, .inr (2, [.ref (q 24), .ref (q 25), .ref (q 26), .ref (q 27), .ref (q 28), .int (nI jd), .int (nI jm), .int ju, .int jr, .int (nI jn)])), (q 25, .inl (cI, 9, .inl jb)), (q 26, .inl (cI, 9, .inl jw)), (q 2, .inr (6, [.ref (q 0), .int (nI xa), .int xv, .int (nI xo), .int (-2), .int (nI xz), .int xf2_55, .int xp2_56]))] H := hP
    have hD : va_D A [(q 3, .inr (3, [.ref (q 2), .ref (q 22), .ref (q 23)])), (q 0, .inr (10, [.ref (q 20), .int (nI tl)])), (q 20, .inl (cI, 1600, .inl (fun j => nI (tb j)))), (q 6, .inr (2, [.ref (q 24), .ref (q 25), .ref (q 26), .ref (q 27), .ref (q 28), .int (nI jd), .int (nI jm), .int ju, .int jr, .int (nI jn)])), (q 25, .inl (cI, 9, .inl jb)), (q 26, .inl (cI, 9, .inl jw)), (q 2, .inr (6, [.ref (q 0), .int (nI xa), .int xv, .int (nI xo), .int (-2), .int (nI xz), .int xf2_55, .int xp2_56]))] := hD
    have hP := hP.sub (ws' := [(q 3, .inr (3, [.ref (q 2), .ref (q 22), .ref (q 23)])), (q 2, .inr (6, [.ref (q 0), .int (nI xa), .int xv, .int (nI xo), .int (-2), .int (nI xz), .int xf2_55, .int xp2_56])), (q 0, .inr (10, [.ref (q 20), .int (nI tl)])), (q 20, .inl (cI, 1600, .inl (fun j => nI (tb j)))), (q 6, .inr (2, [.ref (q 24), .ref (q 25), .ref (q 26), .ref (q 27), .ref (q 28), .int (nI jd), .int (nI jm), .int ju, .int jr, .int (nI jn)])), (q 25, .inl (cI, 9, .inl jb)), (q 26, .inl (cI, 9, .inl jw))]) [0, 6, 1, 2, 3, 4, 5] rfl
    have hD := hD.sub (ws' := [(q 3, .inr (3, [.ref (q 2), .ref (q 22), .ref (q 23)])), (q 2, .inr (6, [.ref (q 0), .int (nI xa), .int xv, .int (nI xo), .int (-2), .int (nI xz), .int xf2_55, .int xp2_56])), (q 0, .inr (10, [.ref (q 20), .int (nI tl)])), (q 20, .inl (cI, 1600, .inl (fun j => nI (tb j)))), (q 6, .inr (2, [.ref (q 24), .ref (q 25), .ref (q 26), .ref (q 27), .ref (q 28), .int (nI jd), .int (nI jm), .int ju, .int jr, .int (nI jn)])), (q 25, .inl (cI, 9, .inl jb)), (q 26, .inl (cI, 9, .inl jw))]) [0, 6, 1, 2, 3, 4, 5] (by decide +kernel) rfl
    exact sk_vret hx hb hr hlocks hK hP hD hS (⟨xa, xv, (-2), xz, xf2_55, xp2_56, ju, jr, jb, jw, by omega, by omega, Or.inr (Or.inr (Or.inr (Or.inr ⟨by rw [g_54]; decide, by rw [g_54]; decide, by rw [g_54]; decide, by rw [g_54]; decide, hO2_57, rfl, rfl, rfl, rfl⟩))), rfl⟩) (Nat.le_of_ble_eq_true rfl) (Nat.le_of_ble_eq_true rfl) dX3_readNumbers_111
  by_cases g_58 : xt = 264
  · refine lv_tableIn (off := 73) (tgt := 80) hx hb dX3_readNumbers_7 (by rw [g_58]; decide) (by rw [g_58]; decide) (by rw [g_58]; rfl) (by decide) ?_
    refine lv_aload_n hx hb dX3_readNumbers_80 rfl (lv_at hl 0 rfl) ?_
    refine sk_get (v := .ref (q 2)) (C := RX3) (T := TX3) (N := 3) hx hb hts inlX3 hown hK hP 0 rfl rfl 0 (by decide) w_1_107 rfl dX3_readNumbers_81 ?_
    refine sk_VvZ (q0 := 0) (n := 0) (rest := []) (wr := [(q 3, .inr (3, [.ref (q 2), .ref (q 22), .ref (q 23)])), (q 6, .inr (2, [.ref (q 24), .ref (q 25), .ref (q 26), .ref (q 27), .ref (q 28), .int (nI jd), .int (nI jm), .int ju, .int jr, .int (nI jn)])), (q 25, .inl (cI, 9, .inl jb)), (q 26, .inl (cI, 9, .inl jw))]) ⟨hx, hb, hml, hown, hts⟩ hl.1 (c_erd_step l D cI cJ cC cZ cS zk zv zf q xa xv xo xt xz xf xp tl tb (bindR og (beF tb tl)) (by omega) (by omega) (by omega) htb (rd_st htb hO ⟨by rw [g_58]; decide, by rw [g_58]; decide⟩)) w_3_75 w_2_226 w_2_227 w_1_4 w_2_228 (by decide +kernel) ⟨⟨(Nat.le_of_ble_eq_true rfl), (Nat.le_of_ble_eq_true rfl)⟩, (Nat.le_of_ble_eq_true rfl), (Nat.le_of_ble_eq_true rfl)⟩ hK hP hD hS hZ hA [1, 2, 3] [0, 4, 5, 6] rfl rfl (by decide +kernel) (by decide +kernel) (by decide +kernel) rfl rfl rfl rfl (Nat.le_of_ble_eq_true rfl) dX3_readNumbers_84 (fun u H locs hw hP hD hS => ?_)
    obtain ⟨xa2_59, xv2_60, xt2_61, xz2_62, hxa2_63, hxz2_64, hO2_65, rfl⟩ := hw
    have hP : va_P D vwCl [(q 3, .inr (3, [.ref (q 2), .ref (q 22), .ref (q 23)])), (q 6, .inr (2, [.ref (q 24), .ref (q 25), .ref (q 26), .ref (q 27), .ref (q 28), .int (nI jd), .int (nI jm), .int ju, .int jr, .int (nI jn)])), (q 25, .inl (cI, 9, .inl jb)), (q 26, .inl (cI, 9, .inl jw)), (q 2, .inr (6, [.ref (q 0), .int (nI xa2_59), .int xv2_60, .int (nI xo), .int xt2_61, .int (nI xz2_62), .int xf, .int xp])), (q 0, .inr (10, [.ref (q 20), .int (nI tl)])), (q 20, .inl (cI, 1600, .inl (fun j => nI (tb j))))] H := hP
    have hD : va_D A [(q 3, .inr (3, [.ref (q 2), .ref (q 22), .ref (q 23)])), (q 6, .inr (2, [.ref (q 24), .ref (q 25), .ref (q 26), .ref (q 27), .ref (q 28), .int (nI jd), .int (nI jm), .int ju, .int jr, .int (nI jn)])), (q 25, .inl (cI, 9, .inl jb)), (q 26, .inl (cI, 9, .inl jw)), (q 2, .inr (6, [.ref (q 0), .int (nI xa2_59), .int xv2_60, .int (nI xo), .int xt2_61, .int (nI xz2_62), .int xf, .int xp])), (q 0, .inr (10, [.ref (q 20), .int (nI tl)])), (q 20, .inl (cI, 1600, .inl (fun j => nI (tb j))))] := hD
    rw [stF_nx] at hO2_65
    refine lv_aload_n hx hb dX3_readNumbers_87 rfl (lv_at hl 1 rfl) ?_
    refine lv_aload_n hx hb dX3_readNumbers_88 rfl (lv_at hl 0 rfl) ?_
    refine sk_get (v := .ref (q 2)) (C := RX3) (T := TX3) (N := 3) hx hb hts inlX3 hown hK hP 0 rfl rfl 0 (by decide) w_1_107 rfl dX3_readNumbers_89 ?_
    refine lv_iconst (v := 0) hx hb dX3_readNumbers_92 (by decide) ?_
    refine lv_bipush (v := 100) hx hb dX3_readNumbers_93 (by decide) ?_
    refine sk_ViZ (q0 := 0) (n := 2) (rest := [.ref (q 6)]) (wr := [(q 3, .inr (3, [.ref (q 2), .ref (q 22), .ref (q 23)])), (q 6, .inr (2, [.ref (q 24), .ref (q 25), .ref (q 26), .ref (q 27), .ref (q 28), .int (nI jd), .int (nI jm), .int ju, .int jr, .int (nI jn)])), (q 25, .inl (cI, 9, .inl jb)), (q 26, .inl (cI, 9, .inl jw))]) ⟨hx, hb, hml, hown, hts⟩ hl.1 (c_erd_takeNumber l D cI cJ cC cZ cS zk zv zf q xa2_59 xv2_60 xo xt2_61 xz2_62 xf xp tl tb 0 100 (bindR og (nxF tb tl)) (by omega) (by omega) (by omega) htb (by omega) (by omega) hO2_65) w_3_62 w_3_63 w_3_64 w_1_4 w_3_65 (by decide +kernel) ⟨⟨(Nat.le_of_ble_eq_true rfl), (Nat.le_of_ble_eq_true rfl)⟩, (Nat.le_of_ble_eq_true rfl), (Nat.le_of_ble_eq_true rfl)⟩ hK hP hD hS hZ hA [4, 5, 6] [0, 1, 2, 3] rfl rfl (by decide +kernel) (by decide +kernel) (by decide +kernel) rfl rfl rfl rfl (Nat.le_of_ble_eq_true rfl) dX3_readNumbers_95 (fun r_73 u H locs hw hP hD hS => ?_)
    obtain ⟨xa2_66, xv2_67, xt2_68, xz2_69, xf2_70, xp2_71, v_72, hxa2_74, hxz2_75, hv1_76, hv2_77, hnv_78, hO2_79, rfl, rfl⟩ := hw
    have hP : va_P D vwCl [(q 3, .inr (3, [.ref (q 2), .ref (q 22), .ref (q 23)])), (q 6, .inr (2, [.ref (q 24), .ref (q 25), .ref (q 26), .ref (q 27), .ref (q 28), .int (nI jd), .int (nI jm), .int ju, .int jr, .int (nI jn)])), (q 25, .inl (cI, 9, .inl jb)), (q 26, .inl (cI, 9, .inl jw)), (q 2, .inr (6, [.ref (q 0), .int (nI xa2_66), .int xv2_67, .int (nI xo), .int xt2_68, .int (nI xz2_69), .int xf2_70, .int xp2_71])), (q 0, .inr (10, [.ref (q 20), .int (nI tl)])), (q 20, .inl (cI, 1600, .inl (fun j => nI (tb j))))] H := hP
    have hD : va_D A [(q 3, .inr (3, [.ref (q 2), .ref (q 22), .ref (q 23)])), (q 6, .inr (2, [.ref (q 24), .ref (q 25), .ref (q 26), .ref (q 27), .ref (q 28), .int (nI jd), .int (nI jm), .int ju, .int jr, .int (nI jn)])), (q 25, .inl (cI, 9, .inl jb)), (q 26, .inl (cI, 9, .inl jw)), (q 2, .inr (6, [.ref (q 0), .int (nI xa2_66), .int xv2_67, .int (nI xo), .int xt2_68, .int (nI xz2_69), .int xf2_70, .int xp2_71])), (q 0, .inr (10, [.ref (q 20), .int (nI tl)])), (q 20, .inl (cI, 1600, .inl (fun j => nI (tb j))))] := hD
    refine sk_put (ws' := [(q 3, .inr (3, [.ref (q 2), .ref (q 22), .ref (q 23)])), (q 6, .inr (2, [.ref (q 24), .ref (q 25), .ref (q 26), .ref (q 27), .ref (q 28), .int (nI jd), .int (nI jm), .int ju, .int (nI v_72), .int (nI jn)])), (q 25, .inl (cI, 9, .inl jb)), (q 26, .inl (cI, 9, .inl jw)), (q 2, .inr (6, [.ref (q 0), .int (nI xa2_66), .int xv2_67, .int (nI xo), .int xt2_68, .int (nI xz2_69), .int xf2_70, .int xp2_71])), (q 0, .inr (10, [.ref (q 20), .int (nI tl)])), (q 20, .inl (cI, 1600, .inl (fun j => nI (tb j))))]) (C := RX2) (T := TX2) (N := 10) (v := .int (nI v_72)) hx hb hts inlX2 tyX2 tyX2_ok nmX2 hown hK hP hD hS 1 rfl rfl 8 (by decide) w_1_198 rfl rfl rfl (Nat.le_of_ble_eq_true rfl) rfl dX3_readNumbers_98 (fun H locs hP hD hS => ?_)
    refine lv_goto (tgt := 111) hx hb dX3_readNumbers_101 (by decide) ?_
    have hP := hP.sub (ws' := [(q 3, .inr (3, [.ref (q 2), .ref (q 22), .ref (q 23)])), (q 2, .inr (6, [.ref (q 0), .int (nI xa2_66), .int xv2_67, .int (nI xo), .int xt2_68, .int (nI xz2_69), .int xf2_70, .int xp2_71])), (q 0, .inr (10, [.ref (q 20), .int (nI tl)])), (q 20, .inl (cI, 1600, .inl (fun j => nI (tb j)))), (q 6, .inr (2, [.ref (q 24), .ref (q 25), .ref (q 26), .ref (q 27), .ref (q 28), .int (nI jd), .int (nI jm), .int ju, .int (nI v_72), .int (nI jn)])), (q 25, .inl (cI, 9, .inl jb)), (q 26, .inl (cI, 9, .inl jw))]) [0, 4, 5, 6, 1, 2, 3] rfl
    have hD := hD.sub (ws' := [(q 3, .inr (3, [.ref (q 2), .ref (q 22), .ref (q 23)])), (q 2, .inr (6, [.ref (q 0), .int (nI xa2_66), .int xv2_67, .int (nI xo), .int xt2_68, .int (nI xz2_69), .int xf2_70, .int xp2_71])), (q 0, .inr (10, [.ref (q 20), .int (nI tl)])), (q 20, .inl (cI, 1600, .inl (fun j => nI (tb j)))), (q 6, .inr (2, [.ref (q 24), .ref (q 25), .ref (q 26), .ref (q 27), .ref (q 28), .int (nI jd), .int (nI jm), .int ju, .int (nI v_72), .int (nI jn)])), (q 25, .inl (cI, 9, .inl jb)), (q 26, .inl (cI, 9, .inl jw))]) [0, 4, 5, 6, 1, 2, 3] (by decide +kernel) rfl
    exact sk_vret hx hb hr hlocks hK hP hD hS (⟨xa2_66, xv2_67, xt2_68, xz2_69, xf2_70, xp2_71, ju, nI v_72, jb, jw, by omega, by omega, Or.inr (Or.inr (Or.inr (Or.inl ⟨g_58, v_72, hnv_78, hO2_79, rfl, rfl, rfl, rfl⟩))), rfl⟩) (Nat.le_of_ble_eq_true rfl) (Nat.le_of_ble_eq_true rfl) dX3_readNumbers_111
  refine lv_tableOut (tgt := 104) hx hb dX3_readNumbers_7 (sk_out2 258 264 (by intro k hk1 hk2; rcases (show k = 258 ∨ k = 259 ∨ k = 260 ∨ k = 261 ∨ k = 262 ∨ k = 263 ∨ k = 264 by omega) with rfl | rfl | rfl | rfl | rfl | rfl | rfl <;> assumption)) (by decide) ?_
  refine lv_aload_n hx hb dX3_readNumbers_104 rfl (lv_at hl 0 rfl) ?_
  refine sk_get (v := .ref (q 2)) (C := RX3) (T := TX3) (N := 3) hx hb hts inlX3 hown hK hP 0 rfl rfl 0 (by decide) w_1_107 rfl dX3_readNumbers_105 ?_
  refine sk_Vv (q0 := 0) (n := 0) (rest := []) (wr := [(q 3, .inr (3, [.ref (q 2), .ref (q 22), .ref (q 23)])), (q 0, .inr (10, [.ref (q 20), .int (nI tl)])), (q 20, .inl (cI, 1600, .inl (fun j => nI (tb j)))), (q 6, .inr (2, [.ref (q 24), .ref (q 25), .ref (q 26), .ref (q 27), .ref (q 28), .int (nI jd), .int (nI jm), .int ju, .int jr, .int (nI jn)])), (q 25, .inl (cI, 9, .inl jb)), (q 26, .inl (cI, 9, .inl jw))]) ⟨hx, hb, hml, hown, hts⟩ hl.1 (c_erd_failHere l D cI cJ cC cZ cS q xa xv xo xt xz xf xp tl tb og (by omega) hO) w_3_139 w_3_55 w_3_56 w_1_4 w_3_57 (by decide +kernel) ⟨⟨(Nat.le_of_ble_eq_true rfl), (Nat.le_of_ble_eq_true rfl)⟩, (Nat.le_of_ble_eq_true rfl), (Nat.le_of_ble_eq_true rfl)⟩ hK hP hD hS hA [1] [0, 2, 3, 4, 5, 6] rfl rfl (by decide +kernel) (by decide +kernel) (by decide +kernel) rfl rfl rfl rfl (Nat.le_of_ble_eq_true rfl) dX3_readNumbers_108 (fun u H locs hw hP hD hS => ?_)
  obtain ⟨xf2_80, xp2_81, hO2_82, rfl⟩ := hw
  have hP : va_P D vwCl [(q 3, .inr (3, [.ref (q 2), .ref (q 22), .ref (q 23)])), (q 0, .inr (10, [.ref (q 20), .int (nI tl)])), (q 20, .inl (cI, 1600, .inl (fun j => nI (tb j)))), (q 6, .inr (2, [.ref (q 24), .ref (q 25), .ref (q 26), .ref (q 27), .ref (q 28), .int (nI jd), .int (nI jm), .int ju, .int jr, .int (nI jn)])), (q 25, .inl (cI, 9, .inl jb)), (q 26, .inl (cI, 9, .inl jw)), (q 2, .inr (6, [.ref (q 0), .int (nI xa), .int xv, .int (nI xo), .int (-2), .int (nI xz), .int xf2_80, .int xp2_81]))] H := hP
  have hD : va_D A [(q 3, .inr (3, [.ref (q 2), .ref (q 22), .ref (q 23)])), (q 0, .inr (10, [.ref (q 20), .int (nI tl)])), (q 20, .inl (cI, 1600, .inl (fun j => nI (tb j)))), (q 6, .inr (2, [.ref (q 24), .ref (q 25), .ref (q 26), .ref (q 27), .ref (q 28), .int (nI jd), .int (nI jm), .int ju, .int jr, .int (nI jn)])), (q 25, .inl (cI, 9, .inl jb)), (q 26, .inl (cI, 9, .inl jw)), (q 2, .inr (6, [.ref (q 0), .int (nI xa), .int xv, .int (nI xo), .int (-2), .int (nI xz), .int xf2_80, .int xp2_81]))] := hD
  have hP := hP.sub (ws' := [(q 3, .inr (3, [.ref (q 2), .ref (q 22), .ref (q 23)])), (q 2, .inr (6, [.ref (q 0), .int (nI xa), .int xv, .int (nI xo), .int (-2), .int (nI xz), .int xf2_80, .int xp2_81])), (q 0, .inr (10, [.ref (q 20), .int (nI tl)])), (q 20, .inl (cI, 1600, .inl (fun j => nI (tb j)))), (q 6, .inr (2, [.ref (q 24), .ref (q 25), .ref (q 26), .ref (q 27), .ref (q 28), .int (nI jd), .int (nI jm), .int ju, .int jr, .int (nI jn)])), (q 25, .inl (cI, 9, .inl jb)), (q 26, .inl (cI, 9, .inl jw))]) [0, 6, 1, 2, 3, 4, 5] rfl
  have hD := hD.sub (ws' := [(q 3, .inr (3, [.ref (q 2), .ref (q 22), .ref (q 23)])), (q 2, .inr (6, [.ref (q 0), .int (nI xa), .int xv, .int (nI xo), .int (-2), .int (nI xz), .int xf2_80, .int xp2_81])), (q 0, .inr (10, [.ref (q 20), .int (nI tl)])), (q 20, .inl (cI, 1600, .inl (fun j => nI (tb j)))), (q 6, .inr (2, [.ref (q 24), .ref (q 25), .ref (q 26), .ref (q 27), .ref (q 28), .int (nI jd), .int (nI jm), .int ju, .int jr, .int (nI jn)])), (q 25, .inl (cI, 9, .inl jb)), (q 26, .inl (cI, 9, .inl jw))]) [0, 6, 1, 2, 3, 4, 5] (by decide +kernel) rfl
  exact sk_vret hx hb hr hlocks hK hP hD hS (⟨xa, xv, (-2), xz, xf2_80, xp2_81, ju, jr, jb, jw, by omega, by omega, Or.inr (Or.inr (Or.inr (Or.inr ⟨by assumption, by assumption, by assumption, by assumption, hO2_82, rfl, rfl, rfl, rfl⟩))), rfl⟩) (Nat.le_of_ble_eq_true rfl) (Nat.le_of_ble_eq_true rfl) dX3_readNumbers_111
/-! the class's lock, statement by statement -/
theorem word_tk {tb : Nat → Nat} {n k : Nat} (htb : ∀ j, tb j ≤ 255) (hk : k < 28) : tkF tb n (nI (256 + k)) = wordP tb n (CWs.getD k []) := by
  funext c
  unfold tkF wordP
  by_cases h : isW tb n (CWs.getD k []) c = true
  · rw [if_pos h, if_pos ((tok_W htb hk).mpr h)]
  · rw [if_neg h, if_neg (fun q => h ((tok_W htb hk).mp q))]
theorem tk256 {tb : Nat → Nat} {n : Nat} (htb : ∀ j, tb j ≤ 255) : tkF tb n 256 = wordP tb n (CWs.getD 0 []) := word_tk (k := 0) htb (by decide)
theorem tk257 {tb : Nat → Nat} {n : Nat} (htb : ∀ j, tb j ≤ 255) : tkF tb n 257 = wordP tb n (CWs.getD 1 []) := word_tk (k := 1) htb (by decide)
theorem tk59 {tb : Nat → Nat} {n : Nat} (htb : ∀ j, tb j ≤ 255) : tkF tb n 59 = signP tb n 59 := tkF_sign (b := 59) htb (by decide)
theorem ll_t {tb : Nat → Nat} {n : Nat} {o : LkR} {xa : Nat} {xv xt : Int32} {xz : Nat} {xf xp : Int32} {jd jm : Nat} {ju jr : Int32} {jc jx : Nat} {j1 jf jt jb jw : Nat → Int32} {r : LkS × Cur} (h : llO tb n o xa xv xt xz xf xp jd jm ju jr jc jx j1 jf jt jb jw) (e : o = .ok r) : rdC tb n r.2 xa xv xt xz xf xp := by
  subst e; exact h.1
theorem opn_lc {tb : Nat → Nat} {n : Nat} (htb : ∀ j, tb j ≤ 255) (c : Cur) : lc (openP tb n c) = opnO tb n (.ok c) := by
  unfold lc openP opnO nmF
  rw [tk256 htb, tk257 htb, tk59 htb]
  show bindR (bindR (wordP tb n (CWs.getD 0 []) c) _) _ = bindR (bindR (bindR (bindR (wordP tb n (CWs.getD 0 []) c) _) _) _) _
  cases wordP tb n (CWs.getD 0 []) c with
  | error e => rfl
  | ok c1 =>
    show bindR (bindR (numP tb n 2 9 c1) _) _ = bindR (bindR (bindR (bindR (numP tb n 2 9 c1) _) _) _) _
    cases numP tb n 2 9 c1 with
    | error e => rfl
    | ok d =>
      show bindR (bindR (wordP tb n (CWs.getD 1 []) d.2) _) _ = bindR (bindR (wordP tb n (CWs.getD 1 []) d.2) _) _
      cases wordP tb n (CWs.getD 1 []) d.2 with
      | error e => rfl
      | ok c2 =>
        show bindR (bindR (numP tb n 0 9 c2) _) _ = bindR (bindR (numP tb n 0 9 c2) _) _
        cases numP tb n 0 9 c2 with
        | error e => rfl
        | ok m =>
          show bindR (bindR (signP tb n 59 m.2) _) _ = signP tb n 59 m.2
          cases signP tb n 59 m.2 <;> rfl
theorem ll_open {tb : Nat → Nat} {n : Nat} {c : Cur} {xa : Nat} {xv xt : Int32} {xz : Nat} {xf xp : Int32} {jd jm : Nat} {j1 jf jt jb jw : Nat → Int32} (htb : ∀ j, tb j ≤ 255) (h : rdO tb n (opnO tb n (.ok c)) xa xv xt xz xf xp) (hd : nvO tb n 2 9 (bindR (.ok c) (tkF tb n 256)) jd) (hm : nvO tb n 0 9 (bindR (bindR (bindR (.ok c) (tkF tb n 256)) (nmF tb n 2 9)) (tkF tb n 257)) jm) (hf : allV 0 3 jf) (ht : allV 0 3 jt) (hb : allV 0 9 jb) (hw : allV 0 9 jw) : llO tb n (openP tb n c) xa xv xt xz xf xp jd jm 0 0 0 0 j1 jf jt jb jw := by
  refine ⟨by rw [opn_lc htb]; exact h, fun r hr => ?_⟩
  obtain ⟨c1, h1, h2⟩ := bindR_ok hr
  obtain ⟨d, h3, h4⟩ := bindR_ok h2
  obtain ⟨c2, h5, h6⟩ := bindR_ok h4
  obtain ⟨m, h7, h8⟩ := bindR_ok h6
  obtain ⟨c3, h9, h10⟩ := bindR_ok h8
  cases h10
  have e1 : bindR (.ok c) (tkF tb n 256) = .ok c1 := by show tkF tb n 256 c = _; rw [tk256 htb]; exact h1
  have e2 : nmF tb n 2 9 c1 = .ok d.2 := by unfold nmF; rw [h3]; rfl
  have e3 : tkF tb n 257 d.2 = .ok c2 := by rw [tk257 htb]; exact h5
  refine ⟨hd c1 d e1 h3, hm c2 m (by rw [e1]; show bindR (nmF tb n 2 9 c1) _ = _; rw [e2]; exact e3) h7, hb, hw, muO_0, rfl, ⟨rfl, ⟨fun q => absurd q (by decide), fun q => by cases (show 44 ∈ ([] : List Nat) from q)⟩, fun j hj => absurd hj (Nat.not_lt_zero j)⟩, fun w hw => ⟨hf w hw, ht w hw⟩⟩
theorem muO_eq {mu nu : Nat → Bool} {ju : Int32} (h : muO mu ju) (h2 : muO nu ju) {d : Nat} (hd : d < 9) : mu d = nu d := by
  have a := muO_bit h hd
  have b := muO_bit h2 hd
  rw [a] at b
  cases hm : mu d with
  | true => exact (b.mp hm).symm
  | false =>
    cases hn : nu d with
    | false => rfl
    | true => rw [b.mpr hn] at hm; cases hm
theorem nb_mu {tb : Nat → Nat} {n d : Nat} {mu : Nat → Bool} {o : Except Err Cur} {t : Int32} {xa : Nat} {xv xt : Int32} {xz : Nat} {xf xp : Int32} {ju ju2 jr jr2 : Int32} {jb jb2 jw jw2 : Nat → Int32} (h : nbO tb n d mu o t xa xv xt xz xf xp ju ju2 jr jr2 jb jb2 jw jw2) (hm : muO mu ju) : ∃ nu, muO nu ju2 := by
  rcases h with ⟨-, dv, mv, -, -, -, -, e, -⟩ | ⟨-, dv, mv, -, -, -, -, e, -⟩ | ⟨-, dv, w, -, -, e, -, -, -⟩ | ⟨-, v, -, -, -, -, -, e⟩ | ⟨-, -, -, -, -, -, -, e, -⟩
  · exact ⟨mu, e ▸ hm⟩
  · exact ⟨mu, e ▸ hm⟩
  · exact ⟨_, e⟩
  · exact ⟨mu, e ▸ hm⟩
  · exact ⟨mu, e ▸ hm⟩
def bodyR (tb : Nat → Nat) (n : Nat) (r : LkS × Cur) : LkR := bodyP tb n r.1 r.2
theorem tkW {tb : Nat → Nat} {n k : Nat} {c : Cur} {t : Int32} (htb : ∀ j, tb j ≤ 255) (hk : k < 28) (ht : t = tokOf tb n c) : t = nI (256 + k) ↔ isW tb n (CWs.getD k []) c = true := by
  rw [ht]; exact tok_W htb hk
/-- which statement stands there, by the token -/
theorem body_tok {tb : Nat → Nat} {n : Nat} {L : LkS} {c : Cur} {t : Int32} (htb : ∀ j, tb j ≤ 255) (ht : t = tokOf tb n c) : bodyP tb n L c = (if t = 258 then bindR (amtP tb n (lD L) c) (fun x => .ok (stB L x.1.1 x.1.2, x.2)) else if t = 259 then bindR (amtP tb n (lD L) c) (fun x => .ok (stW L x.1.1 x.1.2, x.2)) else if t = 260 then bindR (numP tb n 0 (lD L - 1) (nx tb n c.1)) (fun x => if lU L x.1 = true then .error (2, (nx tb n c.1).1) else .ok (stU L x.1, x.2)) else if t = 261 then sumL tb n L 0 0 c else if t = 262 then sumL tb n L 1 1 c else if t = 263 then sumL tb n L 2 0 c else if t = 264 then bindR (numP tb n 0 100 (nx tb n c.1)) (fun x => .ok (stN L x.1, x.2)) else .error (1, c.1)) := by
  unfold bodyP
  have e2 : t = 258 ↔ isW tb n (CWs.getD 2 []) c = true := tkW (k := 2) htb (by decide) ht
  have e3 : t = 259 ↔ isW tb n (CWs.getD 3 []) c = true := tkW (k := 3) htb (by decide) ht
  have e4 : t = 260 ↔ isW tb n (CWs.getD 4 []) c = true := tkW (k := 4) htb (by decide) ht
  have e5 : t = 261 ↔ isW tb n (CWs.getD 5 []) c = true := tkW (k := 5) htb (by decide) ht
  have e6 : t = 262 ↔ isW tb n (CWs.getD 6 []) c = true := tkW (k := 6) htb (by decide) ht
  have e7 : t = 263 ↔ isW tb n (CWs.getD 7 []) c = true := tkW (k := 7) htb (by decide) ht
  have e8 : t = 264 ↔ isW tb n (CWs.getD 8 []) c = true := tkW (k := 8) htb (by decide) ht
  simp only [e2, e3, e4, e5, e6, e7, e8]
theorem am_lc {tb : Nat → Nat} {n d : Nat} {c : Cur} : amO tb n d (.ok c) = bindR (amtP tb n d c) (fun x => .ok x.2) := by
  unfold amO amtP nmF
  show bindR (bindR (numP tb n 0 (d - 1) (nx tb n c.1)) _) _ = _
  cases numP tb n 0 (d - 1) (nx tb n c.1) with
  | error e => rfl
  | ok x =>
    show bindR (numP tb n 0 9 x.2) _ = bindR (bindR (numP tb n 0 9 x.2) _) _
    cases numP tb n 0 9 x.2 <;> rfl
theorem am_val {tb : Nat → Nat} {n d dv mv : Nat} {c : Cur} {x : (Nat × Nat) × Cur} (h : amV tb n d (.ok c) dv mv) (hx : amtP tb n d c = .ok x) : dv = x.1.1 ∧ mv = x.1.2 := by
  obtain ⟨y, h1, h2⟩ := bindR_ok hx
  obtain ⟨z, h3, h4⟩ := bindR_ok h2
  cases h4
  refine ⟨h.2.1 _ y rfl h1, h.2.2 y.2 z ?_ h3⟩
  show bindR (numP tb n 0 (d - 1) (nx tb n c.1)) _ = _
  rw [h1]; rfl
theorem row_up {f : Nat → Int32} {b : Nat → Nat} {d v : Nat} (h : ∀ j, j < 9 → f j = nI (b j)) : ∀ j, j < 9 → upd f d (nI v) j = nI (updG b d v j) := by
  intro j hj
  unfold upd updG
  by_cases e : j = d
  · rw [if_pos e, if_pos e]
  · rw [if_neg e, if_neg e]; exact h j hj
theorem mu_cg {mu nu : Nat → Bool} {d : Nat} {ju : Int32} (hd : d < 9) (h : muO (updG mu d true) ju) (e : ∀ j, j < 9 → mu j = nu j) : muO (updG nu d true) ju := by
  obtain ⟨m, hm, e1, hb⟩ := h
  refine ⟨m, hm, e1, fun j hj => ?_⟩
  rw [hb j hj]
  unfold updG
  by_cases q : j = d
  · rw [if_pos q, if_pos q]
  · rw [if_neg q, if_neg q]; exact e j hj
/-- numbers -/
theorem ll_nb {tb : Nat → Nat} {n : Nat} {o : LkR} {mu : Nat → Bool} {xa : Nat} {xv xt : Int32} {xz : Nat} {xf xp : Int32} {ya : Nat} {yv yt : Int32} {yz : Nat} {yf yp : Int32} {jd jm : Nat} {ju jr : Int32} {jc jx : Nat} {j1 jf jt jb jw : Nat → Int32} {ju2 jr2 : Int32} {jb2 jw2 : Nat → Int32} (htb : ∀ j, tb j ≤ 255) (h : llO tb n o xa xv xt xz xf xp jd jm ju jr jc jx j1 jf jt jb jw) (hmu : muO mu ju) (h1 : ¬ xt = 261) (h2 : ¬ xt = 262) (h3 : ¬ xt = 263) (hn : nbO tb n jd mu (lc o) xt ya yv yt yz yf yp ju ju2 jr jr2 jb jb2 jw jw2) : llO tb n (bindR o (bodyR tb n)) ya yv yt yz yf yp jd jm ju2 jr2 jc jx j1 jf jt jb2 jw2 := by
  cases o with
  | error e =>
    refine ⟨?_, fun r hr => by cases hr⟩
    rcases hn with ⟨-, dv, mv, -, q, -⟩ | ⟨-, dv, mv, -, q, -⟩ | ⟨-, dv, w, -, q, -⟩ | ⟨-, v, -, q, -⟩ | ⟨-, -, -, -, q, -⟩ <;> exact q
  | ok r =>
    obtain ⟨L, c⟩ := r
    have ht : xt = tokOf tb n c := (ll_t h rfl).2.2.2.2.1
    obtain ⟨k1, k2, k3, k4, k5, k6, k7, k8⟩ := h.2 _ rfl
    have hb : bindR (.ok (L, c)) (bodyR tb n) = bodyP tb n L c := rfl
    rw [hb, body_tok htb ht]
    have hl : lc (.ok (L, c)) = .ok c := rfl
    rw [hl] at hn
    have k1' : lD L = jd := k1.symm
    rcases hn with ⟨t0, dv, mv, hv, q, e1, e2, e3, e4⟩ | ⟨t0, dv, mv, hv, q, e1, e2, e3, e4⟩ | ⟨t0, dv, w, hv, q, e1, e2, e3, e4⟩ | ⟨t0, v, hv, q, e1, e2, e3, e4⟩ | ⟨t1, t2, t3, t4, q, e1, e2, e3, e4⟩
    · rw [if_pos t0]
      rw [am_lc] at q
      have hv1 : amV tb n (lD L) (.ok c) dv mv := by rw [k1']; exact hv
      refine ⟨?_, fun s hs => ?_⟩
      · rw [k1']
        show rdO tb n (bindR (bindR _ _) _) ya yv yt yz yf yp
        rw [bindR_assoc]; exact q
      · obtain ⟨x, h5, h6⟩ := bindR_ok hs
        cases h6
        have h7 := am_val hv1 h5
        refine ⟨k1, k2, ?_, by rw [e2]; exact k4, by rw [e3]; exact k5, by rw [e4]; exact k6, k7, k8⟩
        rw [e1, h7.1, h7.2]; exact row_up k3
    · rw [if_neg (by rw [t0]; decide), if_pos t0]
      rw [am_lc] at q
      have hv1 : amV tb n (lD L) (.ok c) dv mv := by rw [k1']; exact hv
      refine ⟨?_, fun s hs => ?_⟩
      · rw [k1']
        show rdO tb n (bindR (bindR _ _) _) ya yv yt yz yf yp
        rw [bindR_assoc]; exact q
      · obtain ⟨x, h5, h6⟩ := bindR_ok hs
        cases h6
        have h7 := am_val hv1 h5
        refine ⟨k1, k2, by rw [e2]; exact k3, ?_, by rw [e3]; exact k5, by rw [e4]; exact k6, k7, k8⟩
        rw [e1, h7.1, h7.2]; exact row_up k4
    · rw [if_neg (by rw [t0]; decide), if_neg (by rw [t0]; decide), if_pos t0, k1']
      obtain ⟨v1, v2, v3⟩ := hv
      have v4 := v3 c rfl
      have q' : rdO tb n (bindR (bindR (numP tb n 0 (jd - 1) (nx tb n c.1)) (fun r => .ok r.2)) (muF mu dv w)) ya yv yt yz yf yp := q
      cases hx : numP tb n 0 (jd - 1) (nx tb n c.1) with
      | error e =>
        rw [hx] at q'
        exact ⟨q', fun s hs => by cases hs⟩
      | ok x =>
        rw [hx] at q'
        have v5 := v2 _ x rfl hx
        have v6 : mu dv = lU L dv := muO_eq hmu k5 v1
        have q2 : rdO tb n (muF mu dv w x.2) ya yv yt yz yf yp := q'
        unfold muF at q2
        rw [v6, v5] at q2
        show llO tb n (if lU L x.1 = true then .error (2, (nx tb n c.1).1) else .ok (stU L x.1, x.2)) _ _ _ _ _ _ _ _ _ _ _ _ _ _ _ _ _
        by_cases hu : lU L x.1 = true
        · rw [if_pos hu] at q2 ⊢
          rw [v4] at q2
          exact ⟨q2, fun s hs => by cases hs⟩
        · rw [if_neg hu] at q2 ⊢
          refine ⟨q2, fun s hs => ?_⟩
          cases hs
          refine ⟨k1, k2, by rw [e2]; exact k3, by rw [e3]; exact k4, ?_, by rw [e4]; exact k6, k7, k8⟩
          rw [v5] at e1 v1
          exact mu_cg v1 e1 (fun j hj => muO_eq hmu k5 hj)
    · rw [if_neg (by rw [t0]; decide), if_neg (by rw [t0]; decide), if_neg (by rw [t0]; decide), if_neg h1, if_neg h2, if_neg h3, if_pos t0]
      have q' : rdO tb n (bindR (numP tb n 0 100 (nx tb n c.1)) (fun r => .ok r.2)) ya yv yt yz yf yp := q
      cases hx : numP tb n 0 100 (nx tb n c.1) with
      | error e =>
        rw [hx] at q'
        exact ⟨q', fun s hs => by cases hs⟩
      | ok x =>
        rw [hx] at q'
        refine ⟨q', fun s hs => ?_⟩
        cases hs
        have v5 := hv _ x rfl hx
        exact ⟨k1, k2, by rw [e2]; exact k3, by rw [e3]; exact k4, by rw [e4]; exact k5, by rw [e1, v5]; rfl, k7, k8⟩
    · rw [if_neg t1, if_neg t2, if_neg t3, if_neg h1, if_neg h2, if_neg h3, if_neg t4]
      exact ⟨q, fun s hs => by cases hs⟩
/-- sums -/
def smO (tb : Nat → Nat) (n kn w : Nat) (o : Res) (xa : Nat) (xv xt : Int32) (xz : Nat) (xf xp : Int32) (jc jc2 jx2 : Nat) (j1' jf jf2 jt jt2 : Nat → Int32) : Prop :=
  (jf w < jt w ∧ rsO tb n (bd o (hereF 5)) xa xv xt xz xf xp jc2 jx2 j1' ∧ jf2 = jf ∧ jt2 = jt) ∨ (¬ jf w < jt w ∧ rsO tb n (bindR (bd o (nxF tb n)) (apF (sumOf tb n (rdPart tb n kn 6)))) xa xv xt xz xf xp jc2 jx2 j1' ∧ jf2 = upd jf w (nI jc) ∧ jt2 = upd jt w (nI jc2))
theorem rs_fh {tb : Nat → Nat} {n k : Nat} {o : Res} {xa : Nat} {xv xt : Int32} {xz : Nat} {xf xp : Int32} {ya : Nat} {yv yt : Int32} {yz : Nat} {yf yp : Int32} {cl mw : Nat} {f : Nat → Int32} {c2 w2 : Nat} {g : Nat → Int32} (h : rsO tb n o xa xv xt xz xf xp cl mw f) (h2 : rsO tb n (bd o (fun _ => .error (k, xz))) ya yv yt yz yf yp c2 w2 g) : rsO tb n (bd o (hereF k)) ya yv yt yz yf yp c2 w2 g := by
  have e : bd o (fun _ => .error (k, xz)) = bd o (hereF k) := by
    cases o with
    | error e => rfl
    | ok r =>
      have := (rs_c h rfl).2.2.1
      show bindR (Except.error (k, xz) : Except Err Cur) (fun c => Except.ok (c, r.2)) = bindR (hereF k r.1) (fun c => Except.ok (c, r.2))
      unfold hereF; rw [this]
  rw [← e]; exact h2
theorem lr_rs {tb : Nat → Nat} {n : Nat} {o : LkR} {xa : Nat} {xv xt : Int32} {xz : Nat} {xf xp : Int32} {jd jm : Nat} {ju jr : Int32} {jc jx : Nat} {j1 jf jt jb jw : Nat → Int32} (h : llO tb n o xa xv xt xz xf xp jd jm ju jr jc jx j1 jf jt jb jw) : rsO tb n (lr o) xa xv xt xz xf xp jc jx j1 := by
  refine ⟨?_, fun q hq => ?_⟩
  · have e : rc (lr o) = lc o := by cases o <;> rfl
    rw [e]; exact h.1
  · obtain ⟨r, h1, h2⟩ := bindR_ok hq
    cases h2
    exact (h.2 r h1).2.2.2.2.2.2.1
def len5 (o : LkR) : Prop := ∀ r, o = .ok r → (lK r.1).length + 5 ≤ r.2.1
theorem lr_len {o : LkR} (h : len5 o) : lenO (lr o) := fun q hq => by
  obtain ⟨r, h1, h2⟩ := bindR_ok hq
  cases h2
  have := h r h1
  show (lK r.1).length ≤ r.2.1
  omega
theorem sg_lt {g : Option (Nat × Nat)} {a b : Int32} (h : sgO g a b) : a < b ↔ g.isSome = true := by
  cases g with
  | none =>
    rw [h.1, h.2]
    exact ⟨fun q => absurd q (by decide), fun q => by cases q⟩
  | some p =>
    obtain ⟨h1, h2, h3, h4⟩ := h
    refine ⟨fun _ => rfl, fun _ => ?_⟩
    rw [h1, h2, Int32.lt_iff_toInt_lt, i_nI (by omega), i_nI (by omega)]
    omega
/-- a sum has a step at least -/
theorem mulLp_k {tb : Nat → Nat} {n : Nat} {P : Cur → Res} : ∀ f c k r, mulLp tb n P f c k = .ok r → k.length ≤ r.2.length
  | 0, c, k, r, h => by cases h
  | f + 1, c, k, r, h => by
    rw [mulLp] at h
    split at h
    · obtain ⟨a, h1, h2⟩ := bindR_ok h
      have := mulLp_k f _ _ _ h2
      rw [List.length_append, List.length_append] at this
      omega
    · split at h
      · obtain ⟨a, h1, h2⟩ := bindR_ok h
        have := mulLp_k f _ _ _ h2
        rw [List.length_append, List.length_append] at this
        omega
      · cases h; exact Nat.le_refl _
theorem addLp_k {tb : Nat → Nat} {n : Nat} {P : Cur → Res} : ∀ f c k r, addLp tb n P f c k = .ok r → k.length ≤ r.2.length
  | 0, c, k, r, h => by cases h
  | f + 1, c, k, r, h => by
    rw [addLp] at h
    split at h
    · obtain ⟨a, h1, h2⟩ := bindR_ok h
      have := addLp_k f _ _ _ h2
      rw [List.length_append, List.length_append] at this
      omega
    · split at h
      · obtain ⟨a, h1, h2⟩ := bindR_ok h
        have := addLp_k f _ _ _ h2
        rw [List.length_append, List.length_append] at this
        omega
      · cases h; exact Nat.le_refl _
def oneP (P : Cur → Res) : Prop := ∀ c r, P c = .ok r → 1 ≤ r.2.length
theorem one_sum {tb : Nat → Nat} {n : Nat} {P : Cur → Res} (hP : oneP P) : oneP (sumOf tb n P) := fun c r h => by
  obtain ⟨a, h1, h2⟩ := bindR_ok h
  obtain ⟨b, h3, h4⟩ := bindR_ok h1
  have q1 := hP _ _ h3
  have q2 := mulLp_k _ _ _ _ h4
  have q3 := addLp_k _ _ _ _ h2
  omega
theorem one_partB {tb : Nat → Nat} {n kind : Nat} {Q : Option (Cur → Res)} (hQ : ∀ P, Q = some P → oneP P) : oneP (partB tb n kind Q) := fun c r h => by
  unfold partB at h
  split at h
  · cases Q with
    | none => cases h
    | some P =>
      obtain ⟨a, h1, h2⟩ := bindR_ok h
      obtain ⟨c1, h3, h4⟩ := bindR_ok h2
      cases h4
      exact (one_sum (hQ P rfl) _ _ h1 : 1 ≤ a.2.length)
  · split at h
    · split at h
      · cases Q with
        | none => cases h
        | some P =>
          obtain ⟨a, h1, h2⟩ := bindR_ok h
          obtain ⟨c2, h3, h4⟩ := bindR_ok h2
          obtain ⟨a2, h5, h6⟩ := bindR_ok h4
          obtain ⟨c3, h7, h8⟩ := bindR_ok h6
          cases h8
          show 1 ≤ (a.2 ++ a2.2 ++ [_]).length
          rw [List.length_append, List.length_singleton]; omega
      · cases h
    · split at h
      · cases Q with
        | none => cases h
        | some P =>
          obtain ⟨a, h1, h2⟩ := bindR_ok h
          cases h2
          show 1 ≤ (a.2 ++ [60]).length
          rw [List.length_append, List.length_singleton]; omega
      · cases hk : partIx tb n kind c with
        | some k => rw [hk] at h; cases h; exact Nat.le_refl 1
        | none =>
          rw [hk] at h
          obtain ⟨a, h1, h2⟩ := bindR_ok h
          cases h2
          exact Nat.le_refl 1
theorem one_part {tb : Nat → Nat} {n kind : Nat} : ∀ d, oneP (rdPart tb n kind d)
  | 0 => one_partB (Q := none) (fun P hp => by cases hp)
  | d + 1 => one_partB (Q := some (rdPart tb n kind d)) (fun P hp => by cases hp; exact one_part d)
theorem ll_sum {tb : Nat → Nat} {n kn w : Nat} {o : LkR} {xa : Nat} {xv xt : Int32} {xz : Nat} {xf xp : Int32} {ya : Nat} {yv yt : Int32} {yz : Nat} {yf yp : Int32} {jd jm : Nat} {ju jr : Int32} {jc jx : Nat} {j1 jf jt jb jw : Nat → Int32} {jc2 jx2 : Nat} {j12 jf2 jt2 : Nat → Int32} (htb : ∀ j, tb j ≤ 255) (hn : n ≤ 1600) (h : llO tb n o xa xv xt xz xf xp jd jm ju jr jc jx j1 jf jt jb jw) (hw : w < 3) (hk : (xt = 261 ∧ w = 0 ∧ kn = 0) ∨ (xt = 262 ∧ w = 1 ∧ kn = 1) ∨ (xt = 263 ∧ w = 2 ∧ kn = 0)) (h5 : len5 o) (hs : smO tb n kn w (lr o) ya yv yt yz yf yp jc jc2 jx2 j12 jf jf2 jt jt2) : llO tb n (bindR o (bodyR tb n)) ya yv yt yz yf yp jd jm ju jr jc2 jx2 j12 jf2 jt2 jb jw := by
  cases o with
  | error e =>
    refine ⟨?_, fun r hr => by cases hr⟩
    rcases hs with ⟨-, q, -⟩ | ⟨-, q, -⟩ <;> exact q.1
  | ok r =>
    obtain ⟨L, c⟩ := r
    have ht : xt = tokOf tb n c := (ll_t h rfl).2.2.2.2.1
    obtain ⟨k1, k2, k3, k4, k5, k6, k7, k8⟩ := h.2 _ rfl
    have hb : bindR (.ok (L, c)) (bodyR tb n) = sumL tb n L w kn c := by
      show bodyP tb n L c = _
      rw [body_tok htb ht]
      rcases hk with ⟨t, rfl, rfl⟩ | ⟨t, rfl, rfl⟩ | ⟨t, rfl, rfl⟩
      · rw [if_neg (by rw [t]; decide), if_neg (by rw [t]; decide), if_neg (by rw [t]; decide), if_pos t]
      · rw [if_neg (by rw [t]; decide), if_neg (by rw [t]; decide), if_neg (by rw [t]; decide), if_neg (by rw [t]; decide), if_pos t]
      · rw [if_neg (by rw [t]; decide), if_neg (by rw [t]; decide), if_neg (by rw [t]; decide), if_neg (by rw [t]; decide), if_neg (by rw [t]; decide), if_pos t]
    rw [hb]
    have hlt := sg_lt (k8 w hw)
    have h5' : (lK L).length + 5 ≤ c.1 := h5 _ rfl
    have hcn : c.1 ≤ n := (ll_t h rfl).2.2.2.1
    unfold sumL
    rcases hs with ⟨t, q, e1, e2⟩ | ⟨t, q, e1, e2⟩
    · rw [if_pos (hlt.mp t)]
      exact ⟨q.1, fun s hs => by cases hs⟩
    · rw [if_neg (fun z => t (hlt.mpr z))]
      have q1 : rsO tb n (bindR (sumD tb n kn 6 (nx tb n c.1)) (fun z => .ok (z.1, lK L ++ z.2))) ya yv yt yz yf yp jc2 jx2 j12 := q
      cases hx : sumD tb n kn 6 (nx tb n c.1) with
      | error e =>
        rw [hx] at q1
        exact ⟨q1.1, fun s hs => by cases hs⟩
      | ok x =>
        rw [hx] at q1
        refine ⟨q1.1, fun s hs => ?_⟩
        cases hs
        have q2 := q1.2 _ rfl
        have o1 := one_sum (tb := tb) (n := n) (one_part 6) _ _ hx
        have o2 := len_sum (tb := tb) (n := n) (len_part 6) _ _ hx
        have o3 := (show rdC tb n x.1 ya yv yt yz yf yp from q1.1).2.2.2.1
        have o4 := nx_ge tb n c.1
        refine ⟨k1, k2, k3, k4, k5, k6, q2, fun v hv => ?_⟩
        have hj : jc = (lK L).length := k7.1
        have hj2 : jc2 = (lK L).length + x.2.length := by have := q2.1; rw [List.length_append] at this; exact this
        rw [e1, e2]
        show sgO (updG (lG L) w (some ((lK L).length, (lK L).length + x.2.length)) v) _ _
        unfold updG upd
        by_cases e : v = w
        · rw [if_pos e, if_pos e, if_pos e, hj, hj2]
          exact ⟨rfl, rfl, by show (lK L).length < (lK L).length + x.2.length; omega, by show (lK L).length + x.2.length ≤ 1600; omega⟩
        · rw [if_neg e, if_neg e, if_neg e]; exact k8 v hv
/-- statements go forward, and have no more steps than bytes -/
theorem num_gt {tb : Nat → Nat} {n lo hi : Nat} {c : Cur} {r : Nat × Cur} (h : numP tb n lo hi c = .ok r) : c.1 < r.2.1 := by
  have := numP_ok h
  rw [this.2]; exact nx_gt this.1
theorem body_len {tb : Nat → Nat} {n : Nat} {L : LkS} {c : Cur} {r : LkS × Cur} (h : bodyP tb n L c = .ok r) (h5 : (lK L).length + 5 ≤ c.1) : (lK r.1).length + 5 ≤ r.2.1 := by
  have hx := nx_ge tb n c.1
  have am : ∀ x, amtP tb n (lD L) c = .ok x → c.1 ≤ x.2.1 := fun x hx2 => by
    obtain ⟨y, h1, h2⟩ := bindR_ok hx2
    obtain ⟨z, h3, h4⟩ := bindR_ok h2
    cases h4
    have a := num_gt h1
    have b := num_gt h3
    show c.1 ≤ z.2.1
    omega
  have sm : ∀ w kn, sumL tb n L w kn c = .ok r → (lK r.1).length + 5 ≤ r.2.1 := fun w kn hs => by
    unfold sumL at hs
    split at hs
    · cases hs
    · obtain ⟨y, h1, h2⟩ := bindR_ok hs
      cases h2
      have o2 := len_sum (tb := tb) (n := n) (len_part 6) _ _ h1
      show (lK L ++ y.2).length + 5 ≤ y.1.1
      rw [List.length_append]; omega
  unfold bodyP at h
  split at h
  · obtain ⟨x, h1, h2⟩ := bindR_ok h
    cases h2
    have := am x h1
    show (lK L).length + 5 ≤ x.2.1
    omega
  · split at h
    · obtain ⟨x, h1, h2⟩ := bindR_ok h
      cases h2
      have := am x h1
      show (lK L).length + 5 ≤ x.2.1
      omega
    · split at h
      · obtain ⟨x, h1, h2⟩ := bindR_ok h
        have := num_gt h1
        split at h2
        · cases h2
        · cases h2
          show (lK L).length + 5 ≤ x.2.1
          omega
      · split at h
        · exact sm _ _ h
        · split at h
          · exact sm _ _ h
          · split at h
            · exact sm _ _ h
            · split at h
              · obtain ⟨x, h1, h2⟩ := bindR_ok h
                cases h2
                have := num_gt h1
                show (lK L).length + 5 ≤ x.2.1
                omega
              · cases h
theorem len5_b {tb : Nat → Nat} {n : Nat} {o : LkR} (h : len5 o) : len5 (bindR o (bodyR tb n)) := fun q hq => by
  obtain ⟨r, h1, h2⟩ := bindR_ok hq
  exact body_len h2 (h r h1)
theorem len5_ld {o : LkR} {F : Cur → Except Err Cur} (hF : fwd F) (h : len5 o) : len5 (ld o F) := fun q hq => by
  obtain ⟨r, h3, h4⟩ := bindR_ok hq
  obtain ⟨c, h5, h6⟩ := bindR_ok h4
  cases h6
  have := h r h3
  have b := hF _ _ h5
  show (lK r.1).length + 5 ≤ c.1
  omega
theorem word_gt {tb : Nat → Nat} {n : Nat} {w : List Nat} {c c1 : Cur} (h : wordP tb n w c = .ok c1) : c.1 < c1.1 := by
  unfold wordP at h
  split at h
  · next hw => cases h; exact nx_gt (isW_lt hw)
  · cases h
theorem len5_open {tb : Nat → Nat} {n : Nat} {c : Cur} : len5 (openP tb n c) := fun q hq => by
  obtain ⟨c1, h1, h2⟩ := bindR_ok hq
  obtain ⟨d, h3, h4⟩ := bindR_ok h2
  obtain ⟨c2, h5, h6⟩ := bindR_ok h4
  obtain ⟨m, h7, h8⟩ := bindR_ok h6
  obtain ⟨c3, h9, h10⟩ := bindR_ok h8
  cases h10
  have a1 := word_gt h1
  have a2 := num_gt h3
  have a3 := word_gt h5
  have a4 := num_gt h7
  have a5 := (signP_ok h9).2.2
  show 0 + 5 ≤ c3.1
  omega
/-- the loop over statements -/
theorem lk_s {tb : Nat → Nat} {n y : Nat} {o wo : LkR} {xa : Nat} {xv xt : Int32} {xz : Nat} {xf xp : Int32} {jd jm : Nat} {ju jr : Int32} {jc jx : Nat} {j1 jf jt jb jw : Nat → Int32} (htb : ∀ j, tb j ≤ 255) (h : llO tb n o xa xv xt xz xf xp jd jm ju jr jc jx j1 jf jt jb jw) (ht : ¬ xt = -1) (hy : y < 60) (hw : wo = bindR o (bodyR tb n)) (hr : bindR o (stP tb n (60 - y)) = lockP tb n) : bindR (ld wo (tkF tb n 59)) (stP tb n (60 - (y + 1))) = lockP tb n := by
  rw [← hr, hw, tk59 htb]
  cases o with
  | error e => rfl
  | ok r =>
    have hx : ¬ n ≤ r.2.1 := fun q => ht ((ll_t h rfl).2.2.2.2.1.trans ((tok_E htb).mpr q))
    show _ = stP tb n (60 - y) r
    rw [show 60 - y = (60 - (y + 1)) + 1 by omega, stP, if_neg hx]
    rfl
def fnO (P : Except Err (LkS × Nat)) (xf xp : Int32) (jn jd jm : Nat) (ju jr : Int32) (jc jx : Nat) (j1 jf jt jb jw : Nat → Int32) : Prop := match P with
  | .ok r => xf = 0 ∧ xp = -1 ∧ jn = r.2 ∧ lkC r.1 jd jm ju jr jc jx j1 jf jt jb jw ∧ (lK r.1).length + 5 ≤ 1600
  | .error e => xf = nI e.1 ∧ xp = nI e.2 ∧ 1 ≤ e.1 ∧ e.1 ≤ 5 ∧ e.2 ≤ 1700
theorem fin_er {tb : Nat → Nat} {n y : Nat} {o : LkR} {xa : Nat} {xv xt : Int32} {xz : Nat} {xf xp : Int32} {jd jm : Nat} {ju jr : Int32} {jc jx : Nat} {j1 jf jt jb jw : Nat → Int32} (h : llO tb n o xa xv xt xz xf xp jd jm ju jr jc jx j1 jf jt jb jw) (hf : ¬ xf = 0) (hr : bindR o (stP tb n (60 - y)) = lockP tb n) : fnO (lockP tb n) xf xp y jd jm ju jr jc jx j1 jf jt jb jw := by
  obtain ⟨e, he, hx⟩ := rdO_er h.1 hf
  cases o with
  | ok r => cases he
  | error e2 =>
    cases he
    rw [← hr]
    exact ⟨hx.1, hx.2.1, hx.2.2.1, hx.2.2.2.1, hx.2.2.2.2.1⟩
theorem fin_end {tb : Nat → Nat} {n y : Nat} {o : LkR} {xa : Nat} {xv xt : Int32} {xz : Nat} {xf xp : Int32} {jd jm : Nat} {ju jr : Int32} {jc jx : Nat} {j1 jf jt jb jw : Nat → Int32} (htb : ∀ j, tb j ≤ 255) (hn : n ≤ 1600) (h : llO tb n o xa xv xt xz xf xp jd jm ju jr jc jx j1 jf jt jb jw) (hf : xf = 0) (ht : xt = -1) (hy : y ≤ 60) (h5 : len5 o) (hr : bindR o (stP tb n (60 - y)) = lockP tb n) : fnO (lockP tb n) xf xp y jd jm ju jr jc jx j1 jf jt jb jw := by
  cases o with
  | error e => exact absurd hf (er_ne h.1)
  | ok r =>
    have hc := ll_t h rfl
    have hx : n ≤ r.2.1 := (tok_E htb).mp (hc.2.2.2.2.1.symm.trans ht)
    have e : stP tb n (60 - y) r = .ok (r.1, y) := by
      cases hk : 60 - y with
      | zero => rw [stP, if_pos hx, show y = 60 by omega]
      | succ f => rw [stP, if_pos hx, ← hk, show 60 - (60 - y) = y by omega]
    have hr2 : stP tb n (60 - y) r = lockP tb n := hr
    rw [← hr2, e]
    have := h5 r rfl
    exact ⟨hf, hc.2.1, rfl, h.2 r rfl, by show (lK r.1).length + 5 ≤ 1600; have := hc.2.2.2.1; omega⟩
theorem fin_many {tb : Nat → Nat} {n y : Nat} {o : LkR} {xa : Nat} {xv xt : Int32} {xz : Nat} {xf xp : Int32} {ya : Nat} {yv yt : Int32} {yz : Nat} {yf yp : Int32} {jd jm : Nat} {ju jr : Int32} {jc jx : Nat} {j1 jf jt jb jw : Nat → Int32} (htb : ∀ j, tb j ≤ 255) (h : llO tb n o xa xv xt xz xf xp jd jm ju jr jc jx j1 jf jt jb jw) (hf : xf = 0) (ht : ¬ xt = -1) (hy : 60 ≤ y) (h2 : rdO tb n (bindR (lc o) (fun _ => .error (5, xz))) ya yv yt yz yf yp) (hr : bindR o (stP tb n (60 - y)) = lockP tb n) : fnO (lockP tb n) yf yp y jd jm ju jr jc jx j1 jf jt jb jw := by
  cases o with
  | error e => exact absurd hf (er_ne h.1)
  | ok r =>
    have hc := ll_t h rfl
    have hx : ¬ n ≤ r.2.1 := fun q => ht (hc.2.2.2.2.1.trans ((tok_E htb).mpr q))
    have hr2 : stP tb n (60 - y) r = lockP tb n := hr
    rw [← hr2, show 60 - y = 0 by omega, stP, if_neg hx, ← hc.2.2.1]
    exact ⟨h2.1, h2.2.1, h2.2.2.1, h2.2.2.2.1, h2.2.2.2.2.1⟩
/-! sums that were not told -/
def untS (L : LkS) (w : Nat) : LkS := if (lG L w).isSome = true then L else stS L w [if w = 1 then 45 else 40]
def untN (L : LkS) : Nat → LkS
  | 0 => L
  | i + 1 => untS (untN L i) i
def lkF (L : LkS) : LkS := untN L 3
def unR (P : Except Err (LkS × Nat)) (i : Nat) : Res := bindR P (fun r => .ok ((0, false), lK (untN r.1 i)))
def unO (P : Except Err (LkS × Nat)) (i jd jm : Nat) (ju jr : Int32) (jc jx : Nat) (j1 jf jt jb jw : Nat → Int32) : Prop := ∀ r, P = .ok r → lkC (untN r.1 i) jd jm ju jr jc jx j1 jf jt jb jw ∧ (lK (untN r.1 i)).length + 5 ≤ 1600 + i
theorem un_co {P : Except Err (LkS × Nat)} {i : Nat} {jd jm : Nat} {ju jr : Int32} {jc jx : Nat} {j1 jf jt jb jw : Nat → Int32} (h : unO P i jd jm ju jr jc jx j1 jf jt jb jw) : coO (unR P i) jc jx j1 := fun q hq => by
  obtain ⟨r, h1, h2⟩ := bindR_ok hq
  cases h2
  exact (h r h1).1.2.2.2.2.2.2.1
theorem un_rm {P : Except Err (LkS × Nat)} {i : Nat} {jd jm : Nat} {ju jr : Int32} {jc jx : Nat} {j1 jf jt jb jw : Nat → Int32} (h : unO P i jd jm ju jr jc jx j1 jf jt jb jw) (hi : i < 3) : ∀ q, unR P i = .ok q → q.2.length < 1600 := fun q hq => by
  obtain ⟨r, h1, h2⟩ := bindR_ok hq
  cases h2
  have := (h r h1).2
  show (lK (untN r.1 i)).length < 1600
  omega
theorem un_has {P : Except Err (LkS × Nat)} {i : Nat} {jd jm : Nat} {ju jr : Int32} {jc jx : Nat} {j1 jf jt jb jw : Nat → Int32} (h : unO P i jd jm ju jr jc jx j1 jf jt jb jw) (hi : i < 3) (hs : jf i < jt i) : unO P (i + 1) jd jm ju jr jc jx j1 jf jt jb jw := fun r hr => by
  obtain ⟨h1, h2⟩ := h r hr
  have e : untN r.1 (i + 1) = untN r.1 i := by
    show untS (untN r.1 i) i = _
    unfold untS
    rw [if_pos ((sg_lt (h1.2.2.2.2.2.2.2 i hi)).mp hs)]
  rw [e]; exact ⟨h1, by omega⟩
theorem un_add {P : Except Err (LkS × Nat)} {i : Nat} {jd jm : Nat} {ju jr : Int32} {jc jx : Nat} {j1 jf jt jb jw : Nat → Int32} {jc2 jx2 : Nat} {k1 : Nat → Int32} (h : unO P i jd jm ju jr jc jx j1 jf jt jb jw) (hi : i < 3) (hs : ¬ jf i < jt i) (hc : coO (ad (unR P i) (if i = 1 then 45 else 40)) jc2 jx2 k1) : unO P (i + 1) jd jm ju jr jc2 jx2 k1 (upd jf i (nI jc)) (upd jt i (nI jc2)) jb jw := fun r hr => by
  obtain ⟨h1, h2⟩ := h r hr
  have e : untN r.1 (i + 1) = stS (untN r.1 i) i [if i = 1 then 45 else 40] := by
    show untS (untN r.1 i) i = _
    unfold untS
    rw [if_neg (fun q => hs ((sg_lt (h1.2.2.2.2.2.2.2 i hi)).mpr q))]
  have q := hc ((0, false), lK (untN r.1 i) ++ [if i = 1 then 45 else 40]) (by rw [hr]; rfl)
  rw [e]
  generalize untN r.1 i = L at *
  obtain ⟨k1', k2, k3, k4, k5, k6, k7, k8⟩ := h1
  have hj : jc = (lK L).length := k7.1
  have hj2 : jc2 = (lK L).length + 1 := by have := q.1; rw [List.length_append, List.length_singleton] at this; exact this
  refine ⟨⟨k1', k2, k3, k4, k5, k6, q, fun v hv => ?_⟩, ?_⟩
  · show sgO (updG (lG L) i (some ((lK L).length, (lK L).length + 1)) v) _ _
    unfold updG upd
    by_cases e : v = i
    · rw [if_pos e, if_pos e, if_pos e, hj, hj2]
      exact ⟨rfl, rfl, by show (lK L).length < (lK L).length + 1; omega, by show (lK L).length + 1 ≤ 1600; omega⟩
    · rw [if_neg e, if_neg e, if_neg e]; exact k8 v hv
  · show (lK L ++ [_]).length + 5 ≤ _
    rw [List.length_append, List.length_singleton]; omega
def finO (tb : Nat → Nat) (n : Nat) (xf xp : Int32) (jn jd jm : Nat) (ju jr : Int32) (jc jx : Nat) (j1 jf jt jb jw : Nat → Int32) : Prop := match lockP tb n with
  | .ok r => xf = 0 ∧ xp = -1 ∧ jn = r.2 ∧ lkC (lkF r.1) jd jm ju jr jc jx j1 jf jt jb jw
  | .error e => xf = nI e.1 ∧ xp = nI e.2 ∧ 1 ≤ e.1 ∧ e.1 ≤ 5 ∧ e.2 ≤ 1700
theorem un_0 {P : Except Err (LkS × Nat)} {xf xp : Int32} {jn : Nat} {jd jm : Nat} {ju jr : Int32} {jc jx : Nat} {j1 jf jt jb jw : Nat → Int32} (h : fnO P xf xp jn jd jm ju jr jc jx j1 jf jt jb jw) : unO P 0 jd jm ju jr jc jx j1 jf jt jb jw := fun r hr => by
  subst hr
  exact ⟨h.2.2.2.1, h.2.2.2.2⟩
theorem fin_un {tb : Nat → Nat} {n : Nat} {xf xp : Int32} {jn : Nat} {jd jm : Nat} {ju jr : Int32} {jc jx : Nat} {j1 jf jt jb jw : Nat → Int32} {jc2 jx2 : Nat} {k1 kf kt : Nat → Int32} (h : fnO (lockP tb n) xf xp jn jd jm ju jr jc jx j1 jf jt jb jw) (h2 : unO (lockP tb n) 3 jd jm ju jr jc2 jx2 k1 kf kt jb jw) : finO tb n xf xp jn jd jm ju jr jc2 jx2 k1 kf kt jb jw := by
  unfold finO
  cases hP : lockP tb n with
  | error e => rw [hP] at h; exact h
  | ok r =>
    rw [hP] at h
    exact ⟨h.1, h.2.1, h.2.2.1, (h2 r hP).1⟩
