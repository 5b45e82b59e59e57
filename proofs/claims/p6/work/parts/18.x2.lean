set_option maxHeartbeats 4000000 in
set_option maxRecDepth 100000 in
theorem c_erd_begin (l : Launch) (D : va_G) (cI cJ cC cZ cS : ClassId) (zk zv : Nat) (zf : Value) (q : Nat → Nat) (xa : Nat) (xv : Int32) (xo : Nat) (xt : Int32) (xz : Nat) (xf : Int32) (xp : Int32) (tl : Nat) (tb : Nat → Nat) (hxa : xa ≤ 1600) (hxz : xz ≤ 1600) (htl : tl ≤ 1600) (htb : ∀ j, tb j ≤ 255) : skMZ zk zv zf l yX6_begin cX6_begin 1 none 6 131 0 0 D (skT cI cJ cC cZ cS) [.ref (q 2)] [(q 2, .inr (6, [.ref (q 0), .int (nI xa), .int xv, .int (nI xo), .int xt, .int (nI xz), .int xf, .int xp])), (q 0, .inr (10, [.ref (q 20), .int (nI tl)])), (q 20, .inl (cI, 1600, .inl (fun j => nI (tb j))))] (skV D (skT cI cJ cC cZ cS) (fun (u : va_W) => ∃ (xa2 : Nat), ∃ (xv2 : Int32), ∃ (xt2 : Int32), ∃ (xz2 : Nat), xa2 ≤ 1600 ∧ xz2 ≤ 1600 ∧ rdO tb tl (.ok (sk tb tl 0, false)) xa2 xv2 xt2 xz2 0 (-1) ∧ u = [(q 2, .inr (6, [.ref (q 0), .int (nI xa2), .int xv2, .int 0, .int xt2, .int (nI xz2), .int 0, .int (-1)])), (q 0, .inr (10, [.ref (q 20), .int (nI tl)])), (q 20, .inl (cI, 1600, .inl (fun j => nI (tb j))))])) := by
  refine skMZ_of (by decide +kernel) (Nat.le_of_ble_eq_true rfl) ?_
  intro p e s m below meth c A ls E hP hD hZ hl
  obtain ⟨hx, hb, hr, hml, hlocks, hin, hown, hts, hK, hA⟩ := E
  have hown : s.vm.findClass RX6 = some m.cls := hown
  have hS : va_S A s.heap s.heap [] := va_S.rf
  have hl : lv_has ls 1 [(0, .ref (q 2))] := hl
  refine lv_aload_n hx hb dX6_begin_0 rfl (lv_at hl 0 rfl) ?_
  refine lv_iconst (v := 0) hx hb dX6_begin_1 (by decide) ?_
  refine sk_put (ws' := [(q 2, .inr (6, [.ref (q 0), .int 0, .int xv, .int (nI xo), .int xt, .int (nI xz), .int xf, .int xp])), (q 0, .inr (10, [.ref (q 20), .int (nI tl)])), (q 20, .inl (cI, 1600, .inl (fun j => nI (tb j))))]) (C := RX6) (T := TX6) (N := 8) (v := .int 0) hx hb hts inlX6 tyX6 tyX6_ok nmX6 hown hK hP hD hS 0 rfl rfl 1 (by decide) w_1_57 rfl rfl rfl (Nat.le_of_ble_eq_true rfl) rfl dX6_begin_2 (fun H locs hP hD hS => ?_)
  refine lv_aload_n hx hb dX6_begin_5 rfl (lv_at hl 0 rfl) ?_
  refine lv_iconst (v := 0) hx hb dX6_begin_6 (by decide) ?_
  refine sk_put (ws' := [(q 2, .inr (6, [.ref (q 0), .int 0, .int xv, .int 0, .int xt, .int (nI xz), .int xf, .int xp])), (q 0, .inr (10, [.ref (q 20), .int (nI tl)])), (q 20, .inl (cI, 1600, .inl (fun j => nI (tb j))))]) (C := RX6) (T := TX6) (N := 8) (v := .int 0) hx hb hts inlX6 tyX6 tyX6_ok nmX6 hown hK hP hD hS 0 rfl rfl 3 (by decide) w_1_59 rfl rfl rfl (Nat.le_of_ble_eq_true rfl) rfl dX6_begin_7 (fun H locs hP hD hS => ?_)
  refine lv_aload_n hx hb dX6_begin_10 rfl (lv_at hl 0 rfl) ?_
  refine lv_iconst (v := 0) hx hb dX6_begin_11 (by decide) ?_
  refine sk_put (ws' := [(q 2, .inr (6, [.ref (q 0), .int 0, .int xv, .int 0, .int xt, .int (nI xz), .int 0, .int xp])), (q 0, .inr (10, [.ref (q 20), .int (nI tl)])), (q 20, .inl (cI, 1600, .inl (fun j => nI (tb j))))]) (C := RX6) (T := TX6) (N := 8) (v := .int 0) hx hb hts inlX6 tyX6 tyX6_ok nmX6 hown hK hP hD hS 0 rfl rfl 6 (by decide) w_1_66 rfl rfl rfl (Nat.le_of_ble_eq_true rfl) rfl dX6_begin_12 (fun H locs hP hD hS => ?_)
  refine lv_aload_n hx hb dX6_begin_15 rfl (lv_at hl 0 rfl) ?_
  refine lv_iconst (v := (-1)) hx hb dX6_begin_16 (by decide) ?_
  refine sk_put (ws' := [(q 2, .inr (6, [.ref (q 0), .int 0, .int xv, .int 0, .int xt, .int (nI xz), .int 0, .int (-1)])), (q 0, .inr (10, [.ref (q 20), .int (nI tl)])), (q 20, .inl (cI, 1600, .inl (fun j => nI (tb j))))]) (C := RX6) (T := TX6) (N := 8) (v := .int (-1)) hx hb hts inlX6 tyX6 tyX6_ok nmX6 hown hK hP hD hS 0 rfl rfl 7 (by decide) w_1_69 rfl rfl rfl (Nat.le_of_ble_eq_true rfl) rfl dX6_begin_17 (fun H locs hP hD hS => ?_)
  refine lv_aload_n hx hb dX6_begin_20 rfl (lv_at hl 0 rfl) ?_
  refine lv_iconst (v := (-1)) hx hb dX6_begin_21 (by decide) ?_
  refine sk_put (ws' := [(q 2, .inr (6, [.ref (q 0), .int 0, .int xv, .int 0, .int (-1), .int (nI xz), .int 0, .int (-1)])), (q 0, .inr (10, [.ref (q 20), .int (nI tl)])), (q 20, .inl (cI, 1600, .inl (fun j => nI (tb j))))]) (C := RX6) (T := TX6) (N := 8) (v := .int (-1)) hx hb hts inlX6 tyX6 tyX6_ok nmX6 hown hK hP hD hS 0 rfl rfl 4 (by decide) w_1_60 rfl rfl rfl (Nat.le_of_ble_eq_true rfl) rfl dX6_begin_22 (fun H locs hP hD hS => ?_)
  refine lv_aload_n hx hb dX6_begin_25 rfl (lv_at hl 0 rfl) ?_
  refine sk_VvZ (q0 := 0) (n := 0) (rest := []) (wr := []) ⟨hx, hb, hml, hown, hts⟩ hl.1 (c_erd_step l D cI cJ cC cZ cS zk zv zf q 0 xv 0 (-1) xz 0 (-1) tl tb (.ok (0, false)) (by omega) (by omega) (by omega) htb (st_0 tb tl)) w_2_225 w_2_226 w_2_227 w_1_4 w_2_228 (by decide +kernel) ⟨⟨(Nat.le_of_ble_eq_true rfl), (Nat.le_of_ble_eq_true rfl)⟩, (Nat.le_of_ble_eq_true rfl), (Nat.le_of_ble_eq_true rfl)⟩ hK hP hD hS hZ hA [0, 1, 2] [] rfl rfl (by decide +kernel) (by decide +kernel) (by decide +kernel) rfl rfl rfl rfl (Nat.le_of_ble_eq_true rfl) dX6_begin_26 (fun u H locs hw hP hD hS => ?_)
  obtain ⟨xa2_1, xv2_2, xt2_3, xz2_4, hxa2_5, hxz2_6, hO2_7, rfl⟩ := hw
  have hP : va_P D vwCl [(q 2, .inr (6, [.ref (q 0), .int (nI xa2_1), .int xv2_2, .int 0, .int xt2_3, .int (nI xz2_4), .int 0, .int (-1)])), (q 0, .inr (10, [.ref (q 20), .int (nI tl)])), (q 20, .inl (cI, 1600, .inl (fun j => nI (tb j))))] H := hP
  have hD : va_D A [(q 2, .inr (6, [.ref (q 0), .int (nI xa2_1), .int xv2_2, .int 0, .int xt2_3, .int (nI xz2_4), .int 0, .int (-1)])), (q 0, .inr (10, [.ref (q 20), .int (nI tl)])), (q 20, .inl (cI, 1600, .inl (fun j => nI (tb j))))] := hD
  exact sk_vret hx hb hr hlocks hK hP hD hS (⟨xa2_1, xv2_2, xt2_3, xz2_4, by omega, by omega, hO2_7, rfl⟩) (Nat.le_of_ble_eq_true rfl) (Nat.le_of_ble_eq_true rfl) dX6_begin_29
set_option maxHeartbeats 4000000 in
set_option maxRecDepth 100000 in
theorem c_erd_needs (l : Launch) (D : va_G) (cI cJ cC cZ cS : ClassId) (zk zv : Nat) (zf : Value) (q : Nat → Nat) (xa : Nat) (xv : Int32) (xo : Nat) (xt : Int32) (xz : Nat) (xf : Int32) (xp : Int32) (tl : Nat) (tb : Nat → Nat) (w : Int32) (og : Except Err Cur) (hxa : xa ≤ 1600) (hxz : xz ≤ 1600) (htl : tl ≤ 1600) (htb : ∀ j, tb j ≤ 255) (hwr : ¬ w = -1 ∧ ¬ w = -2) (hO : rdO tb tl og xa xv xt xz xf xp) : skMZ zk zv zf l yX6_needs cX6_needs 2 none 6 131 0 0 D (skT cI cJ cC cZ cS) [.ref (q 2), .int w] [(q 2, .inr (6, [.ref (q 0), .int (nI xa), .int xv, .int (nI xo), .int xt, .int (nI xz), .int xf, .int xp])), (q 0, .inr (10, [.ref (q 20), .int (nI tl)])), (q 20, .inl (cI, 1600, .inl (fun j => nI (tb j))))] (skV D (skT cI cJ cC cZ cS) (fun (u : va_W) => ∃ (xa2 : Nat), ∃ (xv2 : Int32), ∃ (xt2 : Int32), ∃ (xz2 : Nat), ∃ (xf2 : Int32), ∃ (xp2 : Int32), xa2 ≤ 1600 ∧ xz2 ≤ 1600 ∧ rdO tb tl (bindR og (tkF tb tl w)) xa2 xv2 xt2 xz2 xf2 xp2 ∧ u = [(q 2, .inr (6, [.ref (q 0), .int (nI xa2), .int xv2, .int (nI xo), .int xt2, .int (nI xz2), .int xf2, .int xp2])), (q 0, .inr (10, [.ref (q 20), .int (nI tl)])), (q 20, .inl (cI, 1600, .inl (fun j => nI (tb j))))])) := by
  refine skMZ_of (by decide +kernel) (Nat.le_of_ble_eq_true rfl) ?_
  intro p e s m below meth c A ls E hP hD hZ hl
  obtain ⟨hx, hb, hr, hml, hlocks, hin, hown, hts, hK, hA⟩ := E
  have hown : s.vm.findClass RX6 = some m.cls := hown
  have hS : va_S A s.heap s.heap [] := va_S.rf
  have hl : lv_has ls 2 [(0, .ref (q 2)), (1, .int w)] := hl
  refine lv_aload_n hx hb dX6_needs_0 rfl (lv_at hl 0 rfl) ?_
  refine sk_get (v := .int xt) (C := RX6) (T := TX6) (N := 8) hx hb hts inlX6 hown hK hP 0 rfl rfl 4 (by decide) w_1_60 rfl dX6_needs_1 ?_
  refine lv_iload_n hx hb dX6_needs_4 rfl (lv_at hl 1 rfl) ?_
  refine lv_icmp_ne (tgt := 15) hx hb dX6_needs_5 (by decide) (fun c_1 => ?_) (fun c_1 => ?_)
  · skip
    refine lv_aload_n hx hb dX6_needs_15 rfl (lv_at hl 0 rfl) ?_
    refine sk_Vv (q0 := 0) (n := 0) (rest := []) (wr := [(q 0, .inr (10, [.ref (q 20), .int (nI tl)])), (q 20, .inl (cI, 1600, .inl (fun j => nI (tb j))))]) ⟨hx, hb, hml, hown, hts⟩ hl.1 (c_erd_failHere l D cI cJ cC cZ cS q xa xv xo xt xz xf xp tl tb og (by omega) hO) w_3_54 w_3_55 w_3_56 w_1_4 w_3_57 (by decide +kernel) ⟨⟨(Nat.le_of_ble_eq_true rfl), (Nat.le_of_ble_eq_true rfl)⟩, (Nat.le_of_ble_eq_true rfl), (Nat.le_of_ble_eq_true rfl)⟩ hK hP hD hS hA [0] [1, 2] rfl rfl (by decide +kernel) (by decide +kernel) (by decide +kernel) rfl rfl rfl rfl (Nat.le_of_ble_eq_true rfl) dX6_needs_16 (fun u H locs hw hP hD hS => ?_)
    obtain ⟨xf2_2, xp2_3, hO2_4, rfl⟩ := hw
    have hP : va_P D vwCl [(q 0, .inr (10, [.ref (q 20), .int (nI tl)])), (q 20, .inl (cI, 1600, .inl (fun j => nI (tb j)))), (q 2, .inr (6, [.ref (q 0), .int (nI xa), .int xv, .int (nI xo), .int (-2), .int (nI xz), .int xf2_2, .int xp2_3]))] H := hP
    have hD : va_D A [(q 0, .inr (10, [.ref (q 20), .int (nI tl)])), (q 20, .inl (cI, 1600, .inl (fun j => nI (tb j)))), (q 2, .inr (6, [.ref (q 0), .int (nI xa), .int xv, .int (nI xo), .int (-2), .int (nI xz), .int xf2_2, .int xp2_3]))] := hD
    have hP := hP.sub (ws' := [(q 2, .inr (6, [.ref (q 0), .int (nI xa), .int xv, .int (nI xo), .int (-2), .int (nI xz), .int xf2_2, .int xp2_3])), (q 0, .inr (10, [.ref (q 20), .int (nI tl)])), (q 20, .inl (cI, 1600, .inl (fun j => nI (tb j))))]) [2, 0, 1] rfl
    have hD := hD.sub (ws' := [(q 2, .inr (6, [.ref (q 0), .int (nI xa), .int xv, .int (nI xo), .int (-2), .int (nI xz), .int xf2_2, .int xp2_3])), (q 0, .inr (10, [.ref (q 20), .int (nI tl)])), (q 20, .inl (cI, 1600, .inl (fun j => nI (tb j))))]) [2, 0, 1] (by decide +kernel) rfl
    exact sk_vret hx hb hr hlocks hK hP hD hS (⟨xa, xv, (-2), xz, xf2_2, xp2_3, by omega, by omega, nd_f hO c_1 hO2_4, rfl⟩) (Nat.le_of_ble_eq_true rfl) (Nat.le_of_ble_eq_true rfl) dX6_needs_19
  · skip
    refine lv_aload_n hx hb dX6_needs_8 rfl (lv_at hl 0 rfl) ?_
    refine sk_VvZ (q0 := 0) (n := 0) (rest := []) (wr := []) ⟨hx, hb, hml, hown, hts⟩ hl.1 (c_erd_step l D cI cJ cC cZ cS zk zv zf q xa xv xo xt xz xf xp tl tb (bindR og (beF tb tl)) (by omega) (by omega) (by omega) htb (rd_st htb hO (by rw [c_1]; exact hwr))) w_2_225 w_2_226 w_2_227 w_1_4 w_2_228 (by decide +kernel) ⟨⟨(Nat.le_of_ble_eq_true rfl), (Nat.le_of_ble_eq_true rfl)⟩, (Nat.le_of_ble_eq_true rfl), (Nat.le_of_ble_eq_true rfl)⟩ hK hP hD hS hZ hA [0, 1, 2] [] rfl rfl (by decide +kernel) (by decide +kernel) (by decide +kernel) rfl rfl rfl rfl (Nat.le_of_ble_eq_true rfl) dX6_needs_9 (fun u H locs hw hP hD hS => ?_)
    obtain ⟨xa2_5, xv2_6, xt2_7, xz2_8, hxa2_9, hxz2_10, hO2_11, rfl⟩ := hw
    have hP : va_P D vwCl [(q 2, .inr (6, [.ref (q 0), .int (nI xa2_5), .int xv2_6, .int (nI xo), .int xt2_7, .int (nI xz2_8), .int xf, .int xp])), (q 0, .inr (10, [.ref (q 20), .int (nI tl)])), (q 20, .inl (cI, 1600, .inl (fun j => nI (tb j))))] H := hP
    have hD : va_D A [(q 2, .inr (6, [.ref (q 0), .int (nI xa2_5), .int xv2_6, .int (nI xo), .int xt2_7, .int (nI xz2_8), .int xf, .int xp])), (q 0, .inr (10, [.ref (q 20), .int (nI tl)])), (q 20, .inl (cI, 1600, .inl (fun j => nI (tb j))))] := hD
    rw [stF_nx] at hO2_11
    refine lv_goto (tgt := 19) hx hb dX6_needs_12 (by decide) ?_
    exact sk_vret hx hb hr hlocks hK hP hD hS (⟨xa2_5, xv2_6, xt2_7, xz2_8, xf, xp, by omega, by omega, nd_t hO c_1 hO2_11, rfl⟩) (Nat.le_of_ble_eq_true rfl) (Nat.le_of_ble_eq_true rfl) dX6_needs_19
set_option maxHeartbeats 4000000 in
set_option maxRecDepth 100000 in
theorem c_erd_takes (l : Launch) (D : va_G) (cI cJ cC cZ cS : ClassId) (zk zv : Nat) (zf : Value) (q : Nat → Nat) (xa : Nat) (xv : Int32) (xo : Nat) (xt : Int32) (xz : Nat) (xf : Int32) (xp : Int32) (tl : Nat) (tb : Nat → Nat) (w : Int32) (og : Except Err Cur) (hxa : xa ≤ 1600) (hxz : xz ≤ 1600) (htl : tl ≤ 1600) (htb : ∀ j, tb j ≤ 255) (hwr : ¬ w = -1 ∧ ¬ w = -2) (hO : rdO tb tl og xa xv xt xz xf xp) : skMZ zk zv zf l yX6_takes cX6_takes 2 (some .boolean) 6 131 0 0 D (skT cI cJ cC cZ cS) [.ref (q 2), .int w] [(q 2, .inr (6, [.ref (q 0), .int (nI xa), .int xv, .int (nI xo), .int xt, .int (nI xz), .int xf, .int xp])), (q 0, .inr (10, [.ref (q 20), .int (nI tl)])), (q 20, .inl (cI, 1600, .inl (fun j => nI (tb j))))] (skI D (skT cI cJ cC cZ cS) (fun (r : Int32) (u : va_W) => ∃ (xa2 : Nat), ∃ (xv2 : Int32), ∃ (xt2 : Int32), ∃ (xz2 : Nat), ∃ (xf2 : Int32), ∃ (xp2 : Int32), ∃ (b : Nat), xa2 ≤ 1600 ∧ xz2 ≤ 1600 ∧ b ≤ 1 ∧ ((b = 0 ∧ ¬ xt = w ∧ rdO tb tl og xa2 xv2 xt2 xz2 xf2 xp2) ∨ (b = 1 ∧ xt = w ∧ rdO tb tl (bindR og (nxF tb tl)) xa2 xv2 xt2 xz2 xf2 xp2)) ∧ r = nI b ∧ u = [(q 2, .inr (6, [.ref (q 0), .int (nI xa2), .int xv2, .int (nI xo), .int xt2, .int (nI xz2), .int xf2, .int xp2])), (q 0, .inr (10, [.ref (q 20), .int (nI tl)])), (q 20, .inl (cI, 1600, .inl (fun j => nI (tb j))))])) := by
  refine skMZ_of (by decide +kernel) (Nat.le_of_ble_eq_true rfl) ?_
  intro p e s m below meth c A ls E hP hD hZ hl
  obtain ⟨hx, hb, hr, hml, hlocks, hin, hown, hts, hK, hA⟩ := E
  have hown : s.vm.findClass RX6 = some m.cls := hown
  have hS : va_S A s.heap s.heap [] := va_S.rf
  have hl : lv_has ls 2 [(0, .ref (q 2)), (1, .int w)] := hl
  refine lv_aload_n hx hb dX6_takes_0 rfl (lv_at hl 0 rfl) ?_
  refine sk_get (v := .int xt) (C := RX6) (T := TX6) (N := 8) hx hb hts inlX6 hown hK hP 0 rfl rfl 4 (by decide) w_1_60 rfl dX6_takes_1 ?_
  refine lv_iload_n hx hb dX6_takes_4 rfl (lv_at hl 1 rfl) ?_
  refine lv_icmp_eq (tgt := 10) hx hb dX6_takes_5 (by decide) (fun c_1 => ?_) (fun c_1 => ?_)
  · skip
    refine lv_aload_n hx hb dX6_takes_10 rfl (lv_at hl 0 rfl) ?_
    refine sk_VvZ (q0 := 0) (n := 0) (rest := []) (wr := []) ⟨hx, hb, hml, hown, hts⟩ hl.1 (c_erd_step l D cI cJ cC cZ cS zk zv zf q xa xv xo xt xz xf xp tl tb (bindR og (beF tb tl)) (by omega) (by omega) (by omega) htb (rd_st htb hO (by rw [c_1]; exact hwr))) w_2_225 w_2_226 w_2_227 w_1_4 w_2_228 (by decide +kernel) ⟨⟨(Nat.le_of_ble_eq_true rfl), (Nat.le_of_ble_eq_true rfl)⟩, (Nat.le_of_ble_eq_true rfl), (Nat.le_of_ble_eq_true rfl)⟩ hK hP hD hS hZ hA [0, 1, 2] [] rfl rfl (by decide +kernel) (by decide +kernel) (by decide +kernel) rfl rfl rfl rfl (Nat.le_of_ble_eq_true rfl) dX6_takes_11 (fun u H locs hw hP hD hS => ?_)
    obtain ⟨xa2_2, xv2_3, xt2_4, xz2_5, hxa2_6, hxz2_7, hO2_8, rfl⟩ := hw
    have hP : va_P D vwCl [(q 2, .inr (6, [.ref (q 0), .int (nI xa2_2), .int xv2_3, .int (nI xo), .int xt2_4, .int (nI xz2_5), .int xf, .int xp])), (q 0, .inr (10, [.ref (q 20), .int (nI tl)])), (q 20, .inl (cI, 1600, .inl (fun j => nI (tb j))))] H := hP
    have hD : va_D A [(q 2, .inr (6, [.ref (q 0), .int (nI xa2_2), .int xv2_3, .int (nI xo), .int xt2_4, .int (nI xz2_5), .int xf, .int xp])), (q 0, .inr (10, [.ref (q 20), .int (nI tl)])), (q 20, .inl (cI, 1600, .inl (fun j => nI (tb j))))] := hD
    rw [stF_nx] at hO2_8
    refine lv_iconst (v := 1) hx hb dX6_takes_14 (by decide) ?_
    exact sk_iret hx hb hr rfl hlocks hK hP hD hS (⟨xa2_2, xv2_3, xt2_4, xz2_5, xf, xp, 1, by omega, by omega, by omega, (Or.inr ⟨rfl, c_1, hO2_8⟩), rfl, rfl⟩) (Nat.le_of_ble_eq_true rfl) (Nat.le_of_ble_eq_true rfl) dX6_takes_15
  · skip
    refine lv_iconst (v := 0) hx hb dX6_takes_8 (by decide) ?_
    exact sk_iret hx hb hr rfl hlocks hK hP hD hS (⟨xa, xv, xt, xz, xf, xp, 0, by omega, by omega, by omega, (Or.inl ⟨rfl, c_1, hO⟩), rfl, rfl⟩) (Nat.le_of_ble_eq_true rfl) (Nat.le_of_ble_eq_true rfl) dX6_takes_9
set_option maxHeartbeats 4000000 in
set_option maxRecDepth 100000 in
theorem c_erd_takeNumber (l : Launch) (D : va_G) (cI cJ cC cZ cS : ClassId) (zk zv : Nat) (zf : Value) (q : Nat → Nat) (xa : Nat) (xv : Int32) (xo : Nat) (xt : Int32) (xz : Nat) (xf : Int32) (xp : Int32) (tl : Nat) (tb : Nat → Nat) (lo : Nat) (hi : Nat) (og : Except Err Cur) (hxa : xa ≤ 1600) (hxz : xz ≤ 1600) (htl : tl ≤ 1600) (htb : ∀ j, tb j ≤ 255) (hlo : lo ≤ hi) (hhi : hi ≤ 9999) (hO : rdO tb tl og xa xv xt xz xf xp) : skMZ zk zv zf l yX6_takeNumber cX6_takeNumber 4 (some .int) 6 131 0 0 D (skT cI cJ cC cZ cS) [.ref (q 2), .int (nI lo), .int (nI hi)] [(q 2, .inr (6, [.ref (q 0), .int (nI xa), .int xv, .int (nI xo), .int xt, .int (nI xz), .int xf, .int xp])), (q 0, .inr (10, [.ref (q 20), .int (nI tl)])), (q 20, .inl (cI, 1600, .inl (fun j => nI (tb j))))] (skI D (skT cI cJ cC cZ cS) (fun (r : Int32) (u : va_W) => ∃ (xa2 : Nat), ∃ (xv2 : Int32), ∃ (xt2 : Int32), ∃ (xz2 : Nat), ∃ (xf2 : Int32), ∃ (xp2 : Int32), ∃ (v : Nat), xa2 ≤ 1600 ∧ xz2 ≤ 1600 ∧ lo ≤ v ∧ v ≤ hi ∧ nvO tb tl lo hi og v ∧ rdO tb tl (bindR og (nmF tb tl lo hi)) xa2 xv2 xt2 xz2 xf2 xp2 ∧ r = nI v ∧ u = [(q 2, .inr (6, [.ref (q 0), .int (nI xa2), .int xv2, .int (nI xo), .int xt2, .int (nI xz2), .int xf2, .int xp2])), (q 0, .inr (10, [.ref (q 20), .int (nI tl)])), (q 20, .inl (cI, 1600, .inl (fun j => nI (tb j))))])) := by
  refine skMZ_of (by decide +kernel) (Nat.le_of_ble_eq_true rfl) ?_
  intro p e s m below meth c A ls E hP hD hZ hl
  obtain ⟨hx, hb, hr, hml, hlocks, hin, hown, hts, hK, hA⟩ := E
  have hown : s.vm.findClass RX6 = some m.cls := hown
  have hS : va_S A s.heap s.heap [] := va_S.rf
  have hl : lv_has ls 4 [(0, .ref (q 2)), (1, .int (nI lo)), (2, .int (nI hi))] := hl
  refine lv_aload_n hx hb dX6_takeNumber_0 rfl (lv_at hl 0 rfl) ?_
  refine sk_get (v := .int xv) (C := RX6) (T := TX6) (N := 8) hx hb hts inlX6 hown hK hP 0 rfl rfl 2 (by decide) w_1_58 rfl dX6_takeNumber_1 ?_
  refine lv_istore_n (lv' := [(3, .int xv), (0, .ref (q 2)), (1, .int (nI lo)), (2, .int (nI hi))]) hx hb dX6_takeNumber_4 rfl hl (by decide) rfl (fun ls hl => ?_)
  refine lv_aload_n hx hb dX6_takeNumber_5 rfl (lv_at hl 1 rfl) ?_
  refine sk_get (v := .int xt) (C := RX6) (T := TX6) (N := 8) hx hb hts inlX6 hown hK hP 0 rfl rfl 4 (by decide) w_1_60 rfl dX6_takeNumber_6 ?_
  refine lv_bipush (v := (-3)) hx hb dX6_takeNumber_9 (by decide) ?_
  refine lv_icmp_eq (tgt := 20) hx hb dX6_takeNumber_11 (by decide) (fun c_1 => ?_) (fun c_1 => ?_)
  · have hnc := nm_c htb hO c_1
    have hzle := hnc.2.1
    have hnl := numV_le tb tl xz
    obtain rfl := hnc.1
    refine lv_aload_n hx hb dX6_takeNumber_20 rfl (lv_at hl 1 rfl) ?_
    refine sk_get (v := .int (nI xa)) (C := RX6) (T := TX6) (N := 8) hx hb hts inlX6 hown hK hP 0 rfl rfl 1 (by decide) w_1_57 rfl dX6_takeNumber_21 ?_
    refine lv_aload_n hx hb dX6_takeNumber_24 rfl (lv_at hl 1 rfl) ?_
    refine sk_get (v := .int (nI xz)) (C := RX6) (T := TX6) (N := 8) hx hb hts inlX6 hown hK hP 0 rfl rfl 5 (by decide) w_1_64 rfl dX6_takeNumber_25 ?_
    refine lv_isub hx hb dX6_takeNumber_28 ?_
    refine sk_top (nI (xa - xz)) (nsub xa xz (by omega)) ?_
    refine lv_iconst (v := 4) hx hb dX6_takeNumber_29 (by decide) ?_
    refine lv_icmp_le (tgt := 46) hx hb dX6_takeNumber_30 (by decide) (fun c_2 => ?_) (fun c_2 => ?_)
    · have c_2 : xa - xz ≤ 4 := (nle (xa - xz) 4 (by omega) (by omega)).mp c_2
      refine lv_iload_n hx hb dX6_takeNumber_46 rfl (lv_at hl 0 rfl) ?_
      refine lv_iload_n hx hb dX6_takeNumber_47 rfl (lv_at hl 2 rfl) ?_
      refine lv_icmp_lt (tgt := 56) hx hb dX6_takeNumber_48 (by decide) (fun c_3 => ?_) (fun c_3 => ?_)
      · have c_3 : numV tb tl xz < lo := (nlt (numV tb tl xz) lo (by omega) (by omega)).mp c_3
        refine lv_aload_n hx hb dX6_takeNumber_56 rfl (lv_at hl 1 rfl) ?_
        refine lv_iconst (v := 2) hx hb dX6_takeNumber_57 (by decide) ?_
        refine lv_aload_n hx hb dX6_takeNumber_58 rfl (lv_at hl 1 rfl) ?_
        refine sk_get (v := .int (nI xz)) (C := RX6) (T := TX6) (N := 8) hx hb hts inlX6 hown hK hP 0 rfl rfl 5 (by decide) w_1_64 rfl dX6_takeNumber_59 ?_
        refine sk_Vv (q0 := 0) (n := 2) (rest := []) (wr := [(q 0, .inr (10, [.ref (q 20), .int (nI tl)])), (q 20, .inl (cI, 1600, .inl (fun j => nI (tb j))))]) ⟨hx, hb, hml, hown, hts⟩ hl.1 (c_erd_fail l D cI cJ cC cZ cS q xa (nI (numV tb tl xz)) xo xt xz xf xp tl tb 2 xz og (by omega) (by omega) (by omega) hO) w_3_58 w_3_59 w_3_60 w_1_4 w_3_61 (by decide +kernel) ⟨⟨(Nat.le_of_ble_eq_true rfl), (Nat.le_of_ble_eq_true rfl)⟩, (Nat.le_of_ble_eq_true rfl), (Nat.le_of_ble_eq_true rfl)⟩ hK hP hD hS hA [0] [1, 2] rfl rfl (by decide +kernel) (by decide +kernel) (by decide +kernel) rfl rfl rfl rfl (Nat.le_of_ble_eq_true rfl) dX6_takeNumber_62 (fun u H locs hw hP hD hS => ?_)
        obtain ⟨xf2_4, xp2_5, hO2_6, rfl⟩ := hw
        have hP : va_P D vwCl [(q 0, .inr (10, [.ref (q 20), .int (nI tl)])), (q 20, .inl (cI, 1600, .inl (fun j => nI (tb j)))), (q 2, .inr (6, [.ref (q 0), .int (nI xa), .int (nI (numV tb tl xz)), .int (nI xo), .int (-2), .int (nI xz), .int xf2_4, .int xp2_5]))] H := hP
        have hD : va_D A [(q 0, .inr (10, [.ref (q 20), .int (nI tl)])), (q 20, .inl (cI, 1600, .inl (fun j => nI (tb j)))), (q 2, .inr (6, [.ref (q 0), .int (nI xa), .int (nI (numV tb tl xz)), .int (nI xo), .int (-2), .int (nI xz), .int xf2_4, .int xp2_5]))] := hD
        refine lv_iload_n hx hb dX6_takeNumber_65 rfl (lv_at hl 2 rfl) ?_
        have hP := hP.sub (ws' := [(q 2, .inr (6, [.ref (q 0), .int (nI xa), .int (nI (numV tb tl xz)), .int (nI xo), .int (-2), .int (nI xz), .int xf2_4, .int xp2_5])), (q 0, .inr (10, [.ref (q 20), .int (nI tl)])), (q 20, .inl (cI, 1600, .inl (fun j => nI (tb j))))]) [2, 0, 1] rfl
        have hD := hD.sub (ws' := [(q 2, .inr (6, [.ref (q 0), .int (nI xa), .int (nI (numV tb tl xz)), .int (nI xo), .int (-2), .int (nI xz), .int xf2_4, .int xp2_5])), (q 0, .inr (10, [.ref (q 20), .int (nI tl)])), (q 20, .inl (cI, 1600, .inl (fun j => nI (tb j))))]) [2, 0, 1] (by decide +kernel) rfl
        exact sk_iret hx hb hr rfl hlocks hK hP hD hS (⟨xa, nI (numV tb tl xz), (-2), xz, xf2_4, xp2_5, lo, by omega, by omega, by omega, by omega, nv_no (nm_3 htb hO c_1 (by omega) (by omega) hO2_6) (er_f hO2_6 (fun _ => ⟨_, rfl⟩)), nm_3 htb hO c_1 (by omega) (by omega) hO2_6, rfl, rfl⟩) (Nat.le_of_ble_eq_true rfl) (Nat.le_of_ble_eq_true rfl) dX6_takeNumber_66
      · have c_3 : ¬ (numV tb tl xz < lo) := fun h => c_3 ((nlt (numV tb tl xz) lo (by omega) (by omega)).mpr h)
        refine lv_iload_n hx hb dX6_takeNumber_51 rfl (lv_at hl 0 rfl) ?_
        refine lv_iload_n hx hb dX6_takeNumber_52 rfl (lv_at hl 3 rfl) ?_
        refine lv_icmp_le (tgt := 67) hx hb dX6_takeNumber_53 (by decide) (fun c_7 => ?_) (fun c_7 => ?_)
        · have c_7 : numV tb tl xz ≤ hi := (nle (numV tb tl xz) hi (by omega) (by omega)).mp c_7
          refine lv_aload_n hx hb dX6_takeNumber_67 rfl (lv_at hl 1 rfl) ?_
          refine sk_VvZ (q0 := 0) (n := 0) (rest := []) (wr := []) ⟨hx, hb, hml, hown, hts⟩ hl.1 (c_erd_step l D cI cJ cC cZ cS zk zv zf q xa (nI (numV tb tl xz)) xo xt xz xf xp tl tb (bindR og (beF tb tl)) (by omega) (by omega) (by omega) htb (rd_st htb hO ⟨by rw [c_1]; decide, by rw [c_1]; decide⟩)) w_2_225 w_2_226 w_2_227 w_1_4 w_2_228 (by decide +kernel) ⟨⟨(Nat.le_of_ble_eq_true rfl), (Nat.le_of_ble_eq_true rfl)⟩, (Nat.le_of_ble_eq_true rfl), (Nat.le_of_ble_eq_true rfl)⟩ hK hP hD hS hZ hA [0, 1, 2] [] rfl rfl (by decide +kernel) (by decide +kernel) (by decide +kernel) rfl rfl rfl rfl (Nat.le_of_ble_eq_true rfl) dX6_takeNumber_68 (fun u H locs hw hP hD hS => ?_)
          obtain ⟨xa2_8, xv2_9, xt2_10, xz2_11, hxa2_12, hxz2_13, hO2_14, rfl⟩ := hw
          have hP : va_P D vwCl [(q 2, .inr (6, [.ref (q 0), .int (nI xa2_8), .int xv2_9, .int (nI xo), .int xt2_10, .int (nI xz2_11), .int xf, .int xp])), (q 0, .inr (10, [.ref (q 20), .int (nI tl)])), (q 20, .inl (cI, 1600, .inl (fun j => nI (tb j))))] H := hP
          have hD : va_D A [(q 2, .inr (6, [.ref (q 0), .int (nI xa2_8), .int xv2_9, .int (nI xo), .int xt2_10, .int (nI xz2_11), .int xf, .int xp])), (q 0, .inr (10, [.ref (q 20), .int (nI tl)])), (q 20, .inl (cI, 1600, .inl (fun j => nI (tb j))))] := hD
          rw [stF_nx] at hO2_14
          refine lv_iload_n hx hb dX6_takeNumber_71 rfl (lv_at hl 0 rfl) ?_
          exact sk_iret hx hb hr rfl hlocks hK hP hD hS (⟨xa2_8, xv2_9, xt2_10, xz2_11, xf, xp, numV tb tl xz, by omega, by omega, by omega, by omega, nv_yes htb hO c_1 (by omega), nm_4 htb hO c_1 (by omega) (by omega) hO2_14, rfl, rfl⟩) (Nat.le_of_ble_eq_true rfl) (Nat.le_of_ble_eq_true rfl) dX6_takeNumber_72
        · have c_7 : ¬ (numV tb tl xz ≤ hi) := fun h => c_7 ((nle (numV tb tl xz) hi (by omega) (by omega)).mpr h)
          refine lv_aload_n hx hb dX6_takeNumber_56 rfl (lv_at hl 1 rfl) ?_
          refine lv_iconst (v := 2) hx hb dX6_takeNumber_57 (by decide) ?_
          refine lv_aload_n hx hb dX6_takeNumber_58 rfl (lv_at hl 1 rfl) ?_
          refine sk_get (v := .int (nI xz)) (C := RX6) (T := TX6) (N := 8) hx hb hts inlX6 hown hK hP 0 rfl rfl 5 (by decide) w_1_64 rfl dX6_takeNumber_59 ?_
          refine sk_Vv (q0 := 0) (n := 2) (rest := []) (wr := [(q 0, .inr (10, [.ref (q 20), .int (nI tl)])), (q 20, .inl (cI, 1600, .inl (fun j => nI (tb j))))]) ⟨hx, hb, hml, hown, hts⟩ hl.1 (c_erd_fail l D cI cJ cC cZ cS q xa (nI (numV tb tl xz)) xo xt xz xf xp tl tb 2 xz og (by omega) (by omega) (by omega) hO) w_3_58 w_3_59 w_3_60 w_1_4 w_3_61 (by decide +kernel) ⟨⟨(Nat.le_of_ble_eq_true rfl), (Nat.le_of_ble_eq_true rfl)⟩, (Nat.le_of_ble_eq_true rfl), (Nat.le_of_ble_eq_true rfl)⟩ hK hP hD hS hA [0] [1, 2] rfl rfl (by decide +kernel) (by decide +kernel) (by decide +kernel) rfl rfl rfl rfl (Nat.le_of_ble_eq_true rfl) dX6_takeNumber_62 (fun u H locs hw hP hD hS => ?_)
          obtain ⟨xf2_15, xp2_16, hO2_17, rfl⟩ := hw
          have hP : va_P D vwCl [(q 0, .inr (10, [.ref (q 20), .int (nI tl)])), (q 20, .inl (cI, 1600, .inl (fun j => nI (tb j)))), (q 2, .inr (6, [.ref (q 0), .int (nI xa), .int (nI (numV tb tl xz)), .int (nI xo), .int (-2), .int (nI xz), .int xf2_15, .int xp2_16]))] H := hP
          have hD : va_D A [(q 0, .inr (10, [.ref (q 20), .int (nI tl)])), (q 20, .inl (cI, 1600, .inl (fun j => nI (tb j)))), (q 2, .inr (6, [.ref (q 0), .int (nI xa), .int (nI (numV tb tl xz)), .int (nI xo), .int (-2), .int (nI xz), .int xf2_15, .int xp2_16]))] := hD
          refine lv_iload_n hx hb dX6_takeNumber_65 rfl (lv_at hl 2 rfl) ?_
          have hP := hP.sub (ws' := [(q 2, .inr (6, [.ref (q 0), .int (nI xa), .int (nI (numV tb tl xz)), .int (nI xo), .int (-2), .int (nI xz), .int xf2_15, .int xp2_16])), (q 0, .inr (10, [.ref (q 20), .int (nI tl)])), (q 20, .inl (cI, 1600, .inl (fun j => nI (tb j))))]) [2, 0, 1] rfl
          have hD := hD.sub (ws' := [(q 2, .inr (6, [.ref (q 0), .int (nI xa), .int (nI (numV tb tl xz)), .int (nI xo), .int (-2), .int (nI xz), .int xf2_15, .int xp2_16])), (q 0, .inr (10, [.ref (q 20), .int (nI tl)])), (q 20, .inl (cI, 1600, .inl (fun j => nI (tb j))))]) [2, 0, 1] (by decide +kernel) rfl
          exact sk_iret hx hb hr rfl hlocks hK hP hD hS (⟨xa, nI (numV tb tl xz), (-2), xz, xf2_15, xp2_16, lo, by omega, by omega, by omega, by omega, nv_no (nm_3 htb hO c_1 (by omega) (by omega) hO2_17) (er_f hO2_17 (fun _ => ⟨_, rfl⟩)), nm_3 htb hO c_1 (by omega) (by omega) hO2_17, rfl, rfl⟩) (Nat.le_of_ble_eq_true rfl) (Nat.le_of_ble_eq_true rfl) dX6_takeNumber_66
    · have c_2 : ¬ (xa - xz ≤ 4) := fun h => c_2 ((nle (xa - xz) 4 (by omega) (by omega)).mpr h)
      refine lv_aload_n hx hb dX6_takeNumber_33 rfl (lv_at hl 1 rfl) ?_
      refine lv_iconst (v := 1) hx hb dX6_takeNumber_34 (by decide) ?_
      refine lv_aload_n hx hb dX6_takeNumber_35 rfl (lv_at hl 1 rfl) ?_
      refine sk_get (v := .int (nI xz)) (C := RX6) (T := TX6) (N := 8) hx hb hts inlX6 hown hK hP 0 rfl rfl 5 (by decide) w_1_64 rfl dX6_takeNumber_36 ?_
      refine lv_iconst (v := 4) hx hb dX6_takeNumber_39 (by decide) ?_
      refine lv_iadd hx hb dX6_takeNumber_40 ?_
      refine sk_top (nI (xz + 4)) (nI_add xz 4) ?_
      refine sk_Vv (q0 := 0) (n := 2) (rest := []) (wr := [(q 0, .inr (10, [.ref (q 20), .int (nI tl)])), (q 20, .inl (cI, 1600, .inl (fun j => nI (tb j))))]) ⟨hx, hb, hml, hown, hts⟩ hl.1 (c_erd_fail l D cI cJ cC cZ cS q xa (nI (numV tb tl xz)) xo xt xz xf xp tl tb 1 (xz + 4) og (by omega) (by omega) (by omega) hO) w_3_58 w_3_59 w_3_60 w_1_4 w_3_61 (by decide +kernel) ⟨⟨(Nat.le_of_ble_eq_true rfl), (Nat.le_of_ble_eq_true rfl)⟩, (Nat.le_of_ble_eq_true rfl), (Nat.le_of_ble_eq_true rfl)⟩ hK hP hD hS hA [0] [1, 2] rfl rfl (by decide +kernel) (by decide +kernel) (by decide +kernel) rfl rfl rfl rfl (Nat.le_of_ble_eq_true rfl) dX6_takeNumber_41 (fun u H locs hw hP hD hS => ?_)
      obtain ⟨xf2_18, xp2_19, hO2_20, rfl⟩ := hw
      have hP : va_P D vwCl [(q 0, .inr (10, [.ref (q 20), .int (nI tl)])), (q 20, .inl (cI, 1600, .inl (fun j => nI (tb j)))), (q 2, .inr (6, [.ref (q 0), .int (nI xa), .int (nI (numV tb tl xz)), .int (nI xo), .int (-2), .int (nI xz), .int xf2_18, .int xp2_19]))] H := hP
      have hD : va_D A [(q 0, .inr (10, [.ref (q 20), .int (nI tl)])), (q 20, .inl (cI, 1600, .inl (fun j => nI (tb j)))), (q 2, .inr (6, [.ref (q 0), .int (nI xa), .int (nI (numV tb tl xz)), .int (nI xo), .int (-2), .int (nI xz), .int xf2_18, .int xp2_19]))] := hD
      refine lv_iload_n hx hb dX6_takeNumber_44 rfl (lv_at hl 2 rfl) ?_
      have hP := hP.sub (ws' := [(q 2, .inr (6, [.ref (q 0), .int (nI xa), .int (nI (numV tb tl xz)), .int (nI xo), .int (-2), .int (nI xz), .int xf2_18, .int xp2_19])), (q 0, .inr (10, [.ref (q 20), .int (nI tl)])), (q 20, .inl (cI, 1600, .inl (fun j => nI (tb j))))]) [2, 0, 1] rfl
      have hD := hD.sub (ws' := [(q 2, .inr (6, [.ref (q 0), .int (nI xa), .int (nI (numV tb tl xz)), .int (nI xo), .int (-2), .int (nI xz), .int xf2_18, .int xp2_19])), (q 0, .inr (10, [.ref (q 20), .int (nI tl)])), (q 20, .inl (cI, 1600, .inl (fun j => nI (tb j))))]) [2, 0, 1] (by decide +kernel) rfl
      exact sk_iret hx hb hr rfl hlocks hK hP hD hS (⟨xa, nI (numV tb tl xz), (-2), xz, xf2_18, xp2_19, lo, by omega, by omega, by omega, by omega, nv_no (nm_2 htb hO c_1 (by omega) hO2_20) (er_f hO2_20 (fun _ => ⟨_, rfl⟩)), nm_2 htb hO c_1 (by omega) hO2_20, rfl, rfl⟩) (Nat.le_of_ble_eq_true rfl) (Nat.le_of_ble_eq_true rfl) dX6_takeNumber_45
  · skip
    refine lv_aload_n hx hb dX6_takeNumber_14 rfl (lv_at hl 1 rfl) ?_
    refine sk_Vv (q0 := 0) (n := 0) (rest := []) (wr := [(q 0, .inr (10, [.ref (q 20), .int (nI tl)])), (q 20, .inl (cI, 1600, .inl (fun j => nI (tb j))))]) ⟨hx, hb, hml, hown, hts⟩ hl.1 (c_erd_failHere l D cI cJ cC cZ cS q xa xv xo xt xz xf xp tl tb og (by omega) hO) w_3_54 w_3_55 w_3_56 w_1_4 w_3_57 (by decide +kernel) ⟨⟨(Nat.le_of_ble_eq_true rfl), (Nat.le_of_ble_eq_true rfl)⟩, (Nat.le_of_ble_eq_true rfl), (Nat.le_of_ble_eq_true rfl)⟩ hK hP hD hS hA [0] [1, 2] rfl rfl (by decide +kernel) (by decide +kernel) (by decide +kernel) rfl rfl rfl rfl (Nat.le_of_ble_eq_true rfl) dX6_takeNumber_15 (fun u H locs hw hP hD hS => ?_)
    obtain ⟨xf2_21, xp2_22, hO2_23, rfl⟩ := hw
    have hP : va_P D vwCl [(q 0, .inr (10, [.ref (q 20), .int (nI tl)])), (q 20, .inl (cI, 1600, .inl (fun j => nI (tb j)))), (q 2, .inr (6, [.ref (q 0), .int (nI xa), .int xv, .int (nI xo), .int (-2), .int (nI xz), .int xf2_21, .int xp2_22]))] H := hP
    have hD : va_D A [(q 0, .inr (10, [.ref (q 20), .int (nI tl)])), (q 20, .inl (cI, 1600, .inl (fun j => nI (tb j)))), (q 2, .inr (6, [.ref (q 0), .int (nI xa), .int xv, .int (nI xo), .int (-2), .int (nI xz), .int xf2_21, .int xp2_22]))] := hD
    refine lv_iload_n hx hb dX6_takeNumber_18 rfl (lv_at hl 2 rfl) ?_
    have hP := hP.sub (ws' := [(q 2, .inr (6, [.ref (q 0), .int (nI xa), .int xv, .int (nI xo), .int (-2), .int (nI xz), .int xf2_21, .int xp2_22])), (q 0, .inr (10, [.ref (q 20), .int (nI tl)])), (q 20, .inl (cI, 1600, .inl (fun j => nI (tb j))))]) [2, 0, 1] rfl
    have hD := hD.sub (ws' := [(q 2, .inr (6, [.ref (q 0), .int (nI xa), .int xv, .int (nI xo), .int (-2), .int (nI xz), .int xf2_21, .int xp2_22])), (q 0, .inr (10, [.ref (q 20), .int (nI tl)])), (q 20, .inl (cI, 1600, .inl (fun j => nI (tb j))))]) [2, 0, 1] (by decide +kernel) rfl
    exact sk_iret hx hb hr rfl hlocks hK hP hD hS (⟨xa, xv, (-2), xz, xf2_21, xp2_22, lo, by omega, by omega, by omega, by omega, nv_no (nm_1 htb hO c_1 hO2_23) (er_f hO2_23 (fun _ => ⟨_, rfl⟩)), nm_1 htb hO c_1 hO2_23, rfl, rfl⟩) (Nat.le_of_ble_eq_true rfl) (Nat.le_of_ble_eq_true rfl) dX6_takeNumber_19
set_option maxHeartbeats 4000000 in
set_option maxRecDepth 100000 in
theorem c_erd_opens (l : Launch) (D : va_G) (cI cJ cC cZ cS : ClassId) (zk zv : Nat) (zf : Value) (q : Nat → Nat) (xa : Nat) (xv : Int32) (xo : Nat) (xt : Int32) (xz : Nat) (xf : Int32) (xp : Int32) (tl : Nat) (tb : Nat → Nat) (w : Int32) (og : Except Err Cur) (hxa : xa ≤ 1600) (hxz : xz ≤ 1600) (htl : tl ≤ 1600) (htb : ∀ j, tb j ≤ 255) (hwr : ¬ w = -1 ∧ ¬ w = -2) (hxo : xo ≤ 6) (hO : rdO tb tl og xa xv xt xz xf xp) : skMZ zk zv zf l yX6_opens cX6_opens 2 (some .boolean) 6 131 0 0 D (skT cI cJ cC cZ cS) [.ref (q 2), .int w] [(q 2, .inr (6, [.ref (q 0), .int (nI xa), .int xv, .int (nI xo), .int xt, .int (nI xz), .int xf, .int xp])), (q 0, .inr (10, [.ref (q 20), .int (nI tl)])), (q 20, .inl (cI, 1600, .inl (fun j => nI (tb j))))] (skI D (skT cI cJ cC cZ cS) (fun (r : Int32) (u : va_W) => ∃ (xa2 : Nat), ∃ (xv2 : Int32), ∃ (xt2 : Int32), ∃ (xz2 : Nat), ∃ (xf2 : Int32), ∃ (xp2 : Int32), ∃ (b : Nat), xa2 ≤ 1600 ∧ xz2 ≤ 1600 ∧ ((b = 0 ∧ (xt = w → xo = 6)) ∨ (b = 1 ∧ xo + 1 ≤ 6 ∧ xt = w)) ∧ rdO tb tl (bindR og (opF tb tl w xo)) xa2 xv2 xt2 xz2 xf2 xp2 ∧ r = nI b ∧ u = [(q 2, .inr (6, [.ref (q 0), .int (nI xa2), .int xv2, .int (nI (xo + b)), .int xt2, .int (nI xz2), .int xf2, .int xp2])), (q 0, .inr (10, [.ref (q 20), .int (nI tl)])), (q 20, .inl (cI, 1600, .inl (fun j => nI (tb j))))])) := by
  refine skMZ_of (by decide +kernel) (Nat.le_of_ble_eq_true rfl) ?_
  intro p e s m below meth c A ls E hP hD hZ hl
  obtain ⟨hx, hb, hr, hml, hlocks, hin, hown, hts, hK, hA⟩ := E
  have hown : s.vm.findClass RX6 = some m.cls := hown
  have hS : va_S A s.heap s.heap [] := va_S.rf
  have hl : lv_has ls 2 [(0, .ref (q 2)), (1, .int w)] := hl
  refine lv_aload_n hx hb dX6_opens_0 rfl (lv_at hl 0 rfl) ?_
  refine sk_get (v := .int xt) (C := RX6) (T := TX6) (N := 8) hx hb hts inlX6 hown hK hP 0 rfl rfl 4 (by decide) w_1_60 rfl dX6_opens_1 ?_
  refine lv_iload_n hx hb dX6_opens_4 rfl (lv_at hl 1 rfl) ?_
  refine lv_icmp_eq (tgt := 14) hx hb dX6_opens_5 (by decide) (fun c_1 => ?_) (fun c_1 => ?_)
  · skip
    refine lv_aload_n hx hb dX6_opens_14 rfl (lv_at hl 0 rfl) ?_
    refine sk_get (v := .int (nI xo)) (C := RX6) (T := TX6) (N := 8) hx hb hts inlX6 hown hK hP 0 rfl rfl 3 (by decide) w_1_59 rfl dX6_opens_15 ?_
    refine lv_bipush (v := 6) hx hb dX6_opens_18 (by decide) ?_
    refine lv_icmp_lt (tgt := 34) hx hb dX6_opens_20 (by decide) (fun c_2 => ?_) (fun c_2 => ?_)
    · have c_2 : xo < 6 := (nlt xo 6 (by omega) (by omega)).mp c_2
      refine lv_aload_n hx hb dX6_opens_34 rfl (lv_at hl 0 rfl) ?_
      refine lv_dup hx hb dX6_opens_35 rfl ?_
      refine sk_get (v := .int (nI xo)) (C := RX6) (T := TX6) (N := 8) hx hb hts inlX6 hown hK hP 0 rfl rfl 3 (by decide) w_1_59 rfl dX6_opens_36 ?_
      refine lv_iconst (v := 1) hx hb dX6_opens_39 (by decide) ?_
      refine lv_iadd hx hb dX6_opens_40 ?_
      refine sk_top (nI (xo + 1)) (nI_add xo 1) ?_
      refine sk_put (ws' := [(q 2, .inr (6, [.ref (q 0), .int (nI xa), .int xv, .int (nI (xo + 1)), .int xt, .int (nI xz), .int xf, .int xp])), (q 0, .inr (10, [.ref (q 20), .int (nI tl)])), (q 20, .inl (cI, 1600, .inl (fun j => nI (tb j))))]) (C := RX6) (T := TX6) (N := 8) (v := .int (nI (xo + 1))) hx hb hts inlX6 tyX6 tyX6_ok nmX6 hown hK hP hD hS 0 rfl rfl 3 (by decide) w_1_59 rfl rfl rfl (Nat.le_of_ble_eq_true rfl) rfl dX6_opens_41 (fun H locs hP hD hS => ?_)
      refine lv_aload_n hx hb dX6_opens_44 rfl (lv_at hl 0 rfl) ?_
      refine sk_VvZ (q0 := 0) (n := 0) (rest := []) (wr := []) ⟨hx, hb, hml, hown, hts⟩ hl.1 (c_erd_step l D cI cJ cC cZ cS zk zv zf q xa xv (xo + 1) xt xz xf xp tl tb (bindR og (beF tb tl)) (by omega) (by omega) (by omega) htb (rd_st htb hO (by rw [c_1]; exact hwr))) w_2_225 w_2_226 w_2_227 w_1_4 w_2_228 (by decide +kernel) ⟨⟨(Nat.le_of_ble_eq_true rfl), (Nat.le_of_ble_eq_true rfl)⟩, (Nat.le_of_ble_eq_true rfl), (Nat.le_of_ble_eq_true rfl)⟩ hK hP hD hS hZ hA [0, 1, 2] [] rfl rfl (by decide +kernel) (by decide +kernel) (by decide +kernel) rfl rfl rfl rfl (Nat.le_of_ble_eq_true rfl) dX6_opens_45 (fun u H locs hw hP hD hS => ?_)
      obtain ⟨xa2_3, xv2_4, xt2_5, xz2_6, hxa2_7, hxz2_8, hO2_9, rfl⟩ := hw
      have hP : va_P D vwCl [(q 2, .inr (6, [.ref (q 0), .int (nI xa2_3), .int xv2_4, .int (nI (xo + 1)), .int xt2_5, .int (nI xz2_6), .int xf, .int xp])), (q 0, .inr (10, [.ref (q 20), .int (nI tl)])), (q 20, .inl (cI, 1600, .inl (fun j => nI (tb j))))] H := hP
      have hD : va_D A [(q 2, .inr (6, [.ref (q 0), .int (nI xa2_3), .int xv2_4, .int (nI (xo + 1)), .int xt2_5, .int (nI xz2_6), .int xf, .int xp])), (q 0, .inr (10, [.ref (q 20), .int (nI tl)])), (q 20, .inl (cI, 1600, .inl (fun j => nI (tb j))))] := hD
      rw [stF_nx] at hO2_9
      refine lv_iconst (v := 1) hx hb dX6_opens_48 (by decide) ?_
      exact sk_iret hx hb hr rfl hlocks hK hP hD hS (⟨xa2_3, xv2_4, xt2_5, xz2_6, xf, xp, 1, by omega, by omega, Or.inr ⟨rfl, by omega, c_1⟩, op_1 hO c_1 (by omega) hO2_9, rfl, rfl⟩) (Nat.le_of_ble_eq_true rfl) (Nat.le_of_ble_eq_true rfl) dX6_opens_49
    · have c_2 : ¬ (xo < 6) := fun h => c_2 ((nlt xo 6 (by omega) (by omega)).mpr h)
      refine lv_aload_n hx hb dX6_opens_23 rfl (lv_at hl 0 rfl) ?_
      refine lv_iconst (v := 4) hx hb dX6_opens_24 (by decide) ?_
      refine lv_aload_n hx hb dX6_opens_25 rfl (lv_at hl 0 rfl) ?_
      refine sk_get (v := .int (nI xz)) (C := RX6) (T := TX6) (N := 8) hx hb hts inlX6 hown hK hP 0 rfl rfl 5 (by decide) w_1_64 rfl dX6_opens_26 ?_
      refine sk_Vv (q0 := 0) (n := 2) (rest := []) (wr := [(q 0, .inr (10, [.ref (q 20), .int (nI tl)])), (q 20, .inl (cI, 1600, .inl (fun j => nI (tb j))))]) ⟨hx, hb, hml, hown, hts⟩ hl.1 (c_erd_fail l D cI cJ cC cZ cS q xa xv xo xt xz xf xp tl tb 4 xz og (by omega) (by omega) (by omega) hO) w_3_58 w_3_59 w_3_60 w_1_4 w_3_61 (by decide +kernel) ⟨⟨(Nat.le_of_ble_eq_true rfl), (Nat.le_of_ble_eq_true rfl)⟩, (Nat.le_of_ble_eq_true rfl), (Nat.le_of_ble_eq_true rfl)⟩ hK hP hD hS hA [0] [1, 2] rfl rfl (by decide +kernel) (by decide +kernel) (by decide +kernel) rfl rfl rfl rfl (Nat.le_of_ble_eq_true rfl) dX6_opens_29 (fun u H locs hw hP hD hS => ?_)
      obtain ⟨xf2_10, xp2_11, hO2_12, rfl⟩ := hw
      have hP : va_P D vwCl [(q 0, .inr (10, [.ref (q 20), .int (nI tl)])), (q 20, .inl (cI, 1600, .inl (fun j => nI (tb j)))), (q 2, .inr (6, [.ref (q 0), .int (nI xa), .int xv, .int (nI xo), .int (-2), .int (nI xz), .int xf2_10, .int xp2_11]))] H := hP
      have hD : va_D A [(q 0, .inr (10, [.ref (q 20), .int (nI tl)])), (q 20, .inl (cI, 1600, .inl (fun j => nI (tb j)))), (q 2, .inr (6, [.ref (q 0), .int (nI xa), .int xv, .int (nI xo), .int (-2), .int (nI xz), .int xf2_10, .int xp2_11]))] := hD
      refine lv_iconst (v := 0) hx hb dX6_opens_32 (by decide) ?_
      have hP := hP.sub (ws' := [(q 2, .inr (6, [.ref (q 0), .int (nI xa), .int xv, .int (nI xo), .int (-2), .int (nI xz), .int xf2_10, .int xp2_11])), (q 0, .inr (10, [.ref (q 20), .int (nI tl)])), (q 20, .inl (cI, 1600, .inl (fun j => nI (tb j))))]) [2, 0, 1] rfl
      have hD := hD.sub (ws' := [(q 2, .inr (6, [.ref (q 0), .int (nI xa), .int xv, .int (nI xo), .int (-2), .int (nI xz), .int xf2_10, .int xp2_11])), (q 0, .inr (10, [.ref (q 20), .int (nI tl)])), (q 20, .inl (cI, 1600, .inl (fun j => nI (tb j))))]) [2, 0, 1] (by decide +kernel) rfl
      exact sk_iret hx hb hr rfl hlocks hK hP hD hS (⟨xa, xv, (-2), xz, xf2_10, xp2_11, 0, by omega, by omega, Or.inl ⟨rfl, fun _ => by omega⟩, op_2 hO c_1 (by omega) hO2_12, rfl, rfl⟩) (Nat.le_of_ble_eq_true rfl) (Nat.le_of_ble_eq_true rfl) dX6_opens_33
  · skip
    refine lv_aload_n hx hb dX6_opens_8 rfl (lv_at hl 0 rfl) ?_
    refine sk_Vv (q0 := 0) (n := 0) (rest := []) (wr := [(q 0, .inr (10, [.ref (q 20), .int (nI tl)])), (q 20, .inl (cI, 1600, .inl (fun j => nI (tb j))))]) ⟨hx, hb, hml, hown, hts⟩ hl.1 (c_erd_failHere l D cI cJ cC cZ cS q xa xv xo xt xz xf xp tl tb og (by omega) hO) w_3_54 w_3_55 w_3_56 w_1_4 w_3_57 (by decide +kernel) ⟨⟨(Nat.le_of_ble_eq_true rfl), (Nat.le_of_ble_eq_true rfl)⟩, (Nat.le_of_ble_eq_true rfl), (Nat.le_of_ble_eq_true rfl)⟩ hK hP hD hS hA [0] [1, 2] rfl rfl (by decide +kernel) (by decide +kernel) (by decide +kernel) rfl rfl rfl rfl (Nat.le_of_ble_eq_true rfl) dX6_opens_9 (fun u H locs hw hP hD hS => ?_)
    obtain ⟨xf2_13, xp2_14, hO2_15, rfl⟩ := hw
    have hP : va_P D vwCl [(q 0, .inr (10, [.ref (q 20), .int (nI tl)])), (q 20, .inl (cI, 1600, .inl (fun j => nI (tb j)))), (q 2, .inr (6, [.ref (q 0), .int (nI xa), .int xv, .int (nI xo), .int (-2), .int (nI xz), .int xf2_13, .int xp2_14]))] H := hP
    have hD : va_D A [(q 0, .inr (10, [.ref (q 20), .int (nI tl)])), (q 20, .inl (cI, 1600, .inl (fun j => nI (tb j)))), (q 2, .inr (6, [.ref (q 0), .int (nI xa), .int xv, .int (nI xo), .int (-2), .int (nI xz), .int xf2_13, .int xp2_14]))] := hD
    refine lv_iconst (v := 0) hx hb dX6_opens_12 (by decide) ?_
    have hP := hP.sub (ws' := [(q 2, .inr (6, [.ref (q 0), .int (nI xa), .int xv, .int (nI xo), .int (-2), .int (nI xz), .int xf2_13, .int xp2_14])), (q 0, .inr (10, [.ref (q 20), .int (nI tl)])), (q 20, .inl (cI, 1600, .inl (fun j => nI (tb j))))]) [2, 0, 1] rfl
    have hD := hD.sub (ws' := [(q 2, .inr (6, [.ref (q 0), .int (nI xa), .int xv, .int (nI xo), .int (-2), .int (nI xz), .int xf2_13, .int xp2_14])), (q 0, .inr (10, [.ref (q 20), .int (nI tl)])), (q 20, .inl (cI, 1600, .inl (fun j => nI (tb j))))]) [2, 0, 1] (by decide +kernel) rfl
    exact sk_iret hx hb hr rfl hlocks hK hP hD hS (⟨xa, xv, (-2), xz, xf2_13, xp2_14, 0, by omega, by omega, Or.inl ⟨rfl, fun hq => absurd hq c_1⟩, op_3 hO c_1 hO2_15, rfl, rfl⟩) (Nat.le_of_ble_eq_true rfl) (Nat.le_of_ble_eq_true rfl) dX6_opens_13
set_option maxHeartbeats 4000000 in
set_option maxRecDepth 100000 in
theorem c_erd_shuts (l : Launch) (D : va_G) (cI cJ cC cZ cS : ClassId) (q : Nat → Nat) (xa : Nat) (xv : Int32) (xo : Nat) (xt : Int32) (xz : Nat) (xf : Int32) (xp : Int32) (hxo : 1 ≤ xo) (hxo6 : xo ≤ 6) : skM l yX6_shuts cX6_shuts 1 none 0 0 0 0 D (skT cI cJ cC cZ cS) [.ref (q 2)] [(q 2, .inr (6, [.ref (q 0), .int (nI xa), .int xv, .int (nI xo), .int xt, .int (nI xz), .int xf, .int xp]))] (skV D (skT cI cJ cC cZ cS) (fun (u : va_W) => u = [(q 2, .inr (6, [.ref (q 0), .int (nI xa), .int xv, .int (nI (xo - 1)), .int xt, .int (nI xz), .int xf, .int xp]))])) := by
  refine skM_of (by decide +kernel) (Nat.le_of_ble_eq_true rfl) ?_
  intro p e s m below meth c A ls E hP hD hl
  obtain ⟨hx, hb, hr, hml, hlocks, hin, hown, hts, hK, hA⟩ := E
  have hown : s.vm.findClass RX6 = some m.cls := hown
  have hS : va_S A s.heap s.heap [] := va_S.rf
  have hl : lv_has ls 1 [(0, .ref (q 2))] := hl
  refine lv_aload_n hx hb dX6_shuts_0 rfl (lv_at hl 0 rfl) ?_
  refine lv_dup hx hb dX6_shuts_1 rfl ?_
  refine sk_get (v := .int (nI xo)) (C := RX6) (T := TX6) (N := 8) hx hb hts inlX6 hown hK hP 0 rfl rfl 3 (by decide) w_1_59 rfl dX6_shuts_2 ?_
  refine lv_iconst (v := 1) hx hb dX6_shuts_5 (by decide) ?_
  refine lv_isub hx hb dX6_shuts_6 ?_
  refine sk_top (nI (xo - 1)) (nsub xo 1 (by omega)) ?_
  refine sk_put (ws' := [(q 2, .inr (6, [.ref (q 0), .int (nI xa), .int xv, .int (nI (xo - 1)), .int xt, .int (nI xz), .int xf, .int xp]))]) (C := RX6) (T := TX6) (N := 8) (v := .int (nI (xo - 1))) hx hb hts inlX6 tyX6 tyX6_ok nmX6 hown hK hP hD hS 0 rfl rfl 3 (by decide) w_1_59 rfl rfl rfl (Nat.le_of_ble_eq_true rfl) rfl dX6_shuts_7 (fun H locs hP hD hS => ?_)
  exact sk_vret hx hb hr hlocks hK hP hD hS rfl (Nat.le_of_ble_eq_true rfl) (Nat.le_of_ble_eq_true rfl) dX6_shuts_10
