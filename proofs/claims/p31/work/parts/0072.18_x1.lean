set_option maxHeartbeats 4000000 in
set_option maxRecDepth 100000 in
theorem c_erd_fail (l : Launch) (D : va_G) (cI cJ cC cZ cS : ClassId) (q : Nat → Nat) (xa : Nat) (xv : Int32) (xo : Nat) (xt : Int32) (xz : Nat) (xf : Int32) (xp : Int32) (tl : Nat) (tb : Nat → Nat) (k : Nat) (w : Nat) (og : Except Err Cur) (hk1 : 1 ≤ k) (hk5 : k ≤ 5) (hw : w ≤ 1700) (hO : rdO tb tl og xa xv xt xz xf xp) : skM l yX6_fail cX6_fail 3 none 0 0 0 0 D (skT cI cJ cC cZ cS) [.ref (q 2), .int (nI k), .int (nI w)] [(q 2, .inr (6, [.ref (q 0), .int (nI xa), .int xv, .int (nI xo), .int xt, .int (nI xz), .int xf, .int xp]))] (skV D (skT cI cJ cC cZ cS) (fun (u : va_W) => ∃ (xf2 : Int32), ∃ (xp2 : Int32), rdO tb tl (bindR og (fun _ => .error (k, w))) xa xv (-2) xz xf2 xp2 ∧ u = [(q 2, .inr (6, [.ref (q 0), .int (nI xa), .int xv, .int (nI xo), .int (-2), .int (nI xz), .int xf2, .int xp2]))])) := by
  refine skM_of pf_X6_fail (Nat.le_of_ble_eq_true rfl) ?_
  intro p e s m below meth c A ls E hP hD hl
  refine skE_el E (fun hx hb hr hml hlocks hin hown hts hK hA => ?_)
  have hown : s.vm.findClass RX6 = some m.cls := hown
  have hS : va_S A s.heap s.heap [] := va_S.rf
  have hl : lv_has ls 3 [(0, .ref (q 2)), (1, .int (nI k)), (2, .int (nI w))] := hl
  refine lv_aload_n hx hb dX6_fail_0 rfl (lv_at hl 0 rfl) ?_
  refine sk_get (v := .int xf) (C := RX6) (T := TX6) (N := 8) hx hb hts inlX6 hown hK hP 0 rfl rfl 6 (by decide) w_1_66 rfl dX6_fail_1 ?_
  refine lv_if_ne (tgt := 17) hx hb dX6_fail_4 (by decide) (fun c_1 => ?_) (fun c_1 => ?_)
  · skip
    refine lv_aload_n hx hb dX6_fail_17 rfl (lv_at hl 0 rfl) ?_
    refine lv_bipush (v := (-2)) hx hb dX6_fail_18 (by decide) ?_
    refine sk_put (ws' := [(q 2, .inr (6, [.ref (q 0), .int (nI xa), .int xv, .int (nI xo), .int (-2), .int (nI xz), .int xf, .int xp]))]) (C := RX6) (T := TX6) (N := 8) (v := .int (-2)) hx hb hts inlX6 tyX6 tyX6_ok nmX6 hown hK hP hD hS 0 rfl rfl 4 (by decide) w_1_60 rfl rfl rfl (Nat.le_of_ble_eq_true rfl) rfl dX6_fail_20 (fun H locs hP hD hS => ?_)
    exact sk_vret hx hb hr hlocks hK hP hD hS (⟨xf, xp, fail_er hO c_1, rfl⟩) (Nat.le_of_ble_eq_true rfl) (Nat.le_of_ble_eq_true rfl) dX6_fail_23
  · skip
    refine lv_aload_n hx hb dX6_fail_7 rfl (lv_at hl 0 rfl) ?_
    refine lv_iload_n hx hb dX6_fail_8 rfl (lv_at hl 1 rfl) ?_
    refine sk_put (ws' := [(q 2, .inr (6, [.ref (q 0), .int (nI xa), .int xv, .int (nI xo), .int xt, .int (nI xz), .int (nI k), .int xp]))]) (C := RX6) (T := TX6) (N := 8) (v := .int (nI k)) hx hb hts inlX6 tyX6 tyX6_ok nmX6 hown hK hP hD hS 0 rfl rfl 6 (by decide) w_1_66 rfl rfl rfl (Nat.le_of_ble_eq_true rfl) rfl dX6_fail_9 (fun H locs hP hD hS => ?_)
    refine lv_aload_n hx hb dX6_fail_12 rfl (lv_at hl 0 rfl) ?_
    refine lv_iload_n hx hb dX6_fail_13 rfl (lv_at hl 2 rfl) ?_
    refine sk_put (ws' := [(q 2, .inr (6, [.ref (q 0), .int (nI xa), .int xv, .int (nI xo), .int xt, .int (nI xz), .int (nI k), .int (nI w)]))]) (C := RX6) (T := TX6) (N := 8) (v := .int (nI w)) hx hb hts inlX6 tyX6 tyX6_ok nmX6 hown hK hP hD hS 0 rfl rfl 7 (by decide) w_1_69 rfl rfl rfl (Nat.le_of_ble_eq_true rfl) rfl dX6_fail_14 (fun H locs hP hD hS => ?_)
    refine lv_aload_n hx hb dX6_fail_17 rfl (lv_at hl 0 rfl) ?_
    refine lv_bipush (v := (-2)) hx hb dX6_fail_18 (by decide) ?_
    refine sk_put (ws' := [(q 2, .inr (6, [.ref (q 0), .int (nI xa), .int xv, .int (nI xo), .int (-2), .int (nI xz), .int (nI k), .int (nI w)]))]) (C := RX6) (T := TX6) (N := 8) (v := .int (-2)) hx hb hts inlX6 tyX6 tyX6_ok nmX6 hown hK hP hD hS 0 rfl rfl 4 (by decide) w_1_60 rfl rfl rfl (Nat.le_of_ble_eq_true rfl) rfl dX6_fail_20 (fun H locs hP hD hS => ?_)
    exact sk_vret hx hb hr hlocks hK hP hD hS (⟨nI k, nI w, fail_ok hO c_1 hk1 hk5 hw, rfl⟩) (Nat.le_of_ble_eq_true rfl) (Nat.le_of_ble_eq_true rfl) dX6_fail_23
set_option maxHeartbeats 4000000 in
set_option maxRecDepth 100000 in
theorem c_erd_failHere (l : Launch) (D : va_G) (cI cJ cC cZ cS : ClassId) (q : Nat → Nat) (xa : Nat) (xv : Int32) (xo : Nat) (xt : Int32) (xz : Nat) (xf : Int32) (xp : Int32) (tl : Nat) (tb : Nat → Nat) (og : Except Err Cur) (hxz : xz ≤ 1600) (hO : rdO tb tl og xa xv xt xz xf xp) : skM l yX6_failHere cX6_failHere 1 none 1 22 0 0 D (skT cI cJ cC cZ cS) [.ref (q 2)] [(q 2, .inr (6, [.ref (q 0), .int (nI xa), .int xv, .int (nI xo), .int xt, .int (nI xz), .int xf, .int xp]))] (skV D (skT cI cJ cC cZ cS) (fun (u : va_W) => ∃ (xf2 : Int32), ∃ (xp2 : Int32), rdO tb tl (bindR og (hereF 1)) xa xv (-2) xz xf2 xp2 ∧ u = [(q 2, .inr (6, [.ref (q 0), .int (nI xa), .int xv, .int (nI xo), .int (-2), .int (nI xz), .int xf2, .int xp2]))])) := by
  refine skM_of pf_X6_failHere (Nat.le_of_ble_eq_true rfl) ?_
  intro p e s m below meth c A ls E hP hD hl
  refine skE_el E (fun hx hb hr hml hlocks hin hown hts hK hA => ?_)
  have hown : s.vm.findClass RX6 = some m.cls := hown
  have hS : va_S A s.heap s.heap [] := va_S.rf
  have hl : lv_has ls 1 [(0, .ref (q 2))] := hl
  refine lv_aload_n hx hb dX6_failHere_0 rfl (lv_at hl 0 rfl) ?_
  refine lv_iconst (v := 1) hx hb dX6_failHere_1 (by decide) ?_
  refine lv_aload_n hx hb dX6_failHere_2 rfl (lv_at hl 0 rfl) ?_
  refine sk_get (v := .int (nI xz)) (C := RX6) (T := TX6) (N := 8) hx hb hts inlX6 hown hK hP 0 rfl rfl 5 (by decide) w_1_64 rfl dX6_failHere_3 ?_
  refine sk_Vv (q0 := 0) (n := 2) (rest := []) (wr := fmR om_1_1 _) ⟨hx, hb, hml, hown, hts⟩ hl.1 (c_erd_fail l D cI cJ cC cZ cS q xa xv xo xt xz xf xp tl tb 1 xz og (by omega) (by omega) (by omega) hO) w_3_58 w_3_59 w_3_60 w_1_4 w_3_61 hd_X6_fail_2 ⟨⟨(Nat.le_of_ble_eq_true rfl), (Nat.le_of_ble_eq_true rfl)⟩, (Nat.le_of_ble_eq_true rfl), (Nat.le_of_ble_eq_true rfl)⟩ hK hP hD hS hA (fmT om_1_1 0) (fmF om_1_1 0) (fm_C1 rfl rfl) (fm_R rfl rfl) (fm_nT om_1_1 0) (fm_nF om_1_1 0) (fm_di om_1_1 0) rfl rfl rfl rfl (Nat.le_of_ble_eq_true rfl) dX6_failHere_6 (fun u H locs hw hP hD hS => ?_)
  refine exE hw (fun xf2_1 hw1 => exE hw1 (fun xp2_2 hw2 => anE hw2 (fun hO2_3 eu_4 => ?_)))
  clear hw hw1 hw2
  refine o_mgE (ws' := [(q 2, .inr (6, [.ref (q 0), .int (nI xa), .int xv, .int (nI xo), .int (-2), .int (nI xz), .int xf2_1, .int xp2_2]))]) eu_4 hP hD rfl (fun hP hD => ?_)
  exact sk_vret hx hb hr hlocks hK hP hD hS (⟨xf2_1, xp2_2, fh_eq hO hO2_3, rfl⟩) (Nat.le_of_ble_eq_true rfl) (Nat.le_of_ble_eq_true rfl) dX6_failHere_9
set_option maxHeartbeats 4000000 in
set_option maxRecDepth 100000 in
theorem c_erd_readNumber (l : Launch) (D : va_G) (cI cJ cC cZ cS : ClassId) (q : Nat → Nat) (xa : Nat) (xv : Int32) (xo : Nat) (xt : Int32) (xz : Nat) (xf : Int32) (xp : Int32) (tl : Nat) (tb : Nat → Nat) (hxa : xa ≤ 1600) (hxz : xz ≤ 1600) (htl : tl ≤ 1600) (htb : ∀ j, tb j ≤ 255) (hax : xa = xz) : skM l yX6_readNumber cX6_readNumber 1 none 0 0 0 0 D (skT cI cJ cC cZ cS) [.ref (q 2)] [(q 2, .inr (6, [.ref (q 0), .int (nI xa), .int xv, .int (nI xo), .int xt, .int (nI xz), .int xf, .int xp])), (q 0, .inr (10, [.ref (q 20), .int (nI tl)])), (q 20, .inl (cI, 1600, .inl (fun j => nI (tb j))))] (skV D (skT cI cJ cC cZ cS) (fun (u : va_W) => ∃ (xa2 : Nat), ∃ (xv2 : Int32), xa2 ≤ 1600 ∧ xa2 = ext qD tb tl xz ∧ xv2 = nI (numV tb tl xz) ∧ u = [(q 2, .inr (6, [.ref (q 0), .int (nI xa2), .int xv2, .int (nI xo), .int (-3), .int (nI xz), .int xf, .int xp])), (q 0, .inr (10, [.ref (q 20), .int (nI tl)])), (q 20, .inl (cI, 1600, .inl (fun j => nI (tb j))))])) := by
  refine skM_of pf_X6_readNumber (Nat.le_of_ble_eq_true rfl) ?_
  intro p e s m below meth c A ls E hP hD hl
  refine skE_el E (fun hx hb hr hml hlocks hin hown hts hK hA => ?_)
  have hown : s.vm.findClass RX6 = some m.cls := hown
  have hS : va_S A s.heap s.heap [] := va_S.rf
  have hl : lv_has ls 1 [(0, .ref (q 2))] := hl
  refine lv_aload_n hx hb dX6_readNumber_0 rfl (lv_at hl 0 rfl) ?_
  refine lv_iconst (v := 0) hx hb dX6_readNumber_1 (by decide) ?_
  refine sk_put (ws' := [(q 2, .inr (6, [.ref (q 0), .int (nI xa), .int 0, .int (nI xo), .int xt, .int (nI xz), .int xf, .int xp])), (q 0, .inr (10, [.ref (q 20), .int (nI tl)])), (q 20, .inl (cI, 1600, .inl (fun j => nI (tb j))))]) (C := RX6) (T := TX6) (N := 8) (v := .int 0) hx hb hts inlX6 tyX6 tyX6_ok nmX6 hown hK hP hD hS 0 rfl rfl 2 (by decide) w_1_58 rfl rfl rfl (Nat.le_of_ble_eq_true rfl) rfl dX6_readNumber_2 (fun H locs hP hD hS => ?_)
  have lp_1 : ∀ (n_2 : Nat) (za : Nat) (zw : Nat) (H : Heap) (locs : List Loc) (ls : Array Slot), tl - za < n_2 → (za ≤ 1600) → (xz ≤ za) → (ext qD tb tl za = ext qD tb tl xz) → (zw = vd tb xz (min 4 (za - xz))) → va_P D vwCl [(q 2, .inr (6, [.ref (q 0), .int (nI za), .int (nI zw), .int (nI xo), .int xt, .int (nI xz), .int xf, .int xp])), (q 0, .inr (10, [.ref (q 20), .int (nI tl)])), (q 20, .inl (cI, 1600, .inl (fun j => nI (tb j))))] H → va_D A [(q 2, .inr (6, [.ref (q 0), .int (nI za), .int (nI zw), .int (nI xo), .int xt, .int (nI xz), .int xf, .int xp])), (q 0, .inr (10, [.ref (q 20), .int (nI tl)])), (q 20, .inl (cI, 1600, .inl (fun j => nI (tb j))))] → va_S A s.heap H locs → lv_has ls 1 [(0, .ref (q 2))] → W p l e { frames := 0, cells := 0, slots := 0, locals := 0 } s m ([.ref (q 2)] : List Value).toArray below meth c H locs 0 0 (MQ below (skV D (skT cI cJ cC cZ cS) (fun (u : va_W) => ∃ (xa2 : Nat), ∃ (xv2 : Int32), xa2 ≤ 1600 ∧ xa2 = ext qD tb tl xz ∧ xv2 = nI (numV tb tl xz) ∧ u = [(q 2, .inr (6, [.ref (q 0), .int (nI xa2), .int xv2, .int (nI xo), .int (-3), .int (nI xz), .int xf, .int xp])), (q 0, .inr (10, [.ref (q 20), .int (nI tl)])), (q 20, .inl (cI, 1600, .inl (fun j => nI (tb j))))]) A) ([.ref (q 2)] : List Value).toArray s 0 0 A) (F0 m 5 ls []) := by
    intro n_2
    induction n_2 with
    | zero => intro za zw H locs ls hm; exact absurd hm (Nat.not_lt_zero _)
    | succ n_2 ih_lp_1 =>
      intro za zw H locs ls hm hza hxza hze hzv hP hD hS hl
      refine lv_aload_n hx hb dX6_readNumber_5 rfl (lv_at hl 0 rfl) ?_
      refine sk_get (v := .int (nI za)) (C := RX6) (T := TX6) (N := 8) hx hb hts inlX6 hown hK hP 0 rfl rfl 1 (by decide) w_1_57 rfl dX6_readNumber_6 ?_
      refine lv_aload_n hx hb dX6_readNumber_9 rfl (lv_at hl 0 rfl) ?_
      refine sk_get (v := .ref (q 0)) (C := RX6) (T := TX6) (N := 8) hx hb hts inlX6 hown hK hP 0 rfl rfl 0 (by decide) w_1_56 rfl dX6_readNumber_10 ?_
      refine sk_get (v := .int (nI tl)) (C := RX10) (T := TX10) (N := 2) hx hb hts inlX10 hown hK hP 1 rfl rfl 1 (by decide) w_1_43 rfl dX6_readNumber_13 ?_
      refine lv_icmp_ge (tgt := 106) hx hb dX6_readNumber_16 (by decide) (fun c_3 => ?_) (fun c_3 => ?_)
      · have c_3 : tl ≤ za := (nle tl za (by omega) (by omega)).mp c_3
        refine lv_aload_n hx hb dX6_readNumber_106 rfl (lv_at hl 0 rfl) ?_
        refine lv_bipush (v := (-3)) hx hb dX6_readNumber_107 (by decide) ?_
        refine sk_put (ws' := [(q 2, .inr (6, [.ref (q 0), .int (nI za), .int (nI zw), .int (nI xo), .int (-3), .int (nI xz), .int xf, .int xp])), (q 0, .inr (10, [.ref (q 20), .int (nI tl)])), (q 20, .inl (cI, 1600, .inl (fun j => nI (tb j))))]) (C := RX6) (T := TX6) (N := 8) (v := .int (-3)) hx hb hts inlX6 tyX6 tyX6_ok nmX6 hown hK hP hD hS 0 rfl rfl 4 (by decide) w_1_60 rfl rfl rfl (Nat.le_of_ble_eq_true rfl) rfl dX6_readNumber_109 (fun H locs hP hD hS => ?_)
        exact sk_vret hx hb hr hlocks hK hP hD hS (⟨za, nI zw, by omega, ext_fin hze (by rw [qD_t]; omega), congrArg nI (vd_fin hzv (ext_fin hze (by rw [qD_t]; omega))), rfl⟩) (Nat.le_of_ble_eq_true rfl) (Nat.le_of_ble_eq_true rfl) dX6_readNumber_112
      · have c_3 : ¬ (tl ≤ za) := fun h => c_3 ((nle tl za (by omega) (by omega)).mpr h)
        refine lv_aload_n hx hb dX6_readNumber_19 rfl (lv_at hl 0 rfl) ?_
        refine sk_get (v := .ref (q 0)) (C := RX6) (T := TX6) (N := 8) hx hb hts inlX6 hown hK hP 0 rfl rfl 0 (by decide) w_1_56 rfl dX6_readNumber_20 ?_
        refine sk_get (v := .ref (q 20)) (C := RX10) (T := TX10) (N := 2) hx hb hts inlX10 hown hK hP 1 rfl rfl 0 (by decide) w_1_40 rfl dX6_readNumber_23 ?_
        refine lv_aload_n hx hb dX6_readNumber_26 rfl (lv_at hl 0 rfl) ?_
        refine sk_get (v := .int (nI za)) (C := RX6) (T := TX6) (N := 8) hx hb hts inlX6 hown hK hP 0 rfl rfl 1 (by decide) w_1_57 rfl dX6_readNumber_27 ?_
        refine va_iald hx hb hK.1 hP 2 0 rfl rfl (vin za 1600 (by omega) (by omega)) dX6_readNumber_30 ?_
        refine sk_top (nI (tb za)) (nrd tb za (by omega)) ?_
        have hb_4 := htb za
        refine lv_bipush (v := 48) hx hb dX6_readNumber_31 (by decide) ?_
        refine lv_icmp_lt (tgt := 106) hx hb dX6_readNumber_33 (by decide) (fun c_5 => ?_) (fun c_5 => ?_)
        · have c_5 : tb za < 48 := (nlt (tb za) 48 (by omega) (by omega)).mp c_5
          refine lv_aload_n hx hb dX6_readNumber_106 rfl (lv_at hl 0 rfl) ?_
          refine lv_bipush (v := (-3)) hx hb dX6_readNumber_107 (by decide) ?_
          refine sk_put (ws' := [(q 2, .inr (6, [.ref (q 0), .int (nI za), .int (nI zw), .int (nI xo), .int (-3), .int (nI xz), .int xf, .int xp])), (q 0, .inr (10, [.ref (q 20), .int (nI tl)])), (q 20, .inl (cI, 1600, .inl (fun j => nI (tb j))))]) (C := RX6) (T := TX6) (N := 8) (v := .int (-3)) hx hb hts inlX6 tyX6 tyX6_ok nmX6 hown hK hP hD hS 0 rfl rfl 4 (by decide) w_1_60 rfl rfl rfl (Nat.le_of_ble_eq_true rfl) rfl dX6_readNumber_109 (fun H locs hP hD hS => ?_)
          exact sk_vret hx hb hr hlocks hK hP hD hS (⟨za, nI zw, by omega, ext_fin hze (by rw [qD_t]; omega), congrArg nI (vd_fin hzv (ext_fin hze (by rw [qD_t]; omega))), rfl⟩) (Nat.le_of_ble_eq_true rfl) (Nat.le_of_ble_eq_true rfl) dX6_readNumber_112
        · have c_5 : ¬ (tb za < 48) := fun h => c_5 ((nlt (tb za) 48 (by omega) (by omega)).mpr h)
          refine lv_aload_n hx hb dX6_readNumber_36 rfl (lv_at hl 0 rfl) ?_
          refine sk_get (v := .ref (q 0)) (C := RX6) (T := TX6) (N := 8) hx hb hts inlX6 hown hK hP 0 rfl rfl 0 (by decide) w_1_56 rfl dX6_readNumber_37 ?_
          refine sk_get (v := .ref (q 20)) (C := RX10) (T := TX10) (N := 2) hx hb hts inlX10 hown hK hP 1 rfl rfl 0 (by decide) w_1_40 rfl dX6_readNumber_40 ?_
          refine lv_aload_n hx hb dX6_readNumber_43 rfl (lv_at hl 0 rfl) ?_
          refine sk_get (v := .int (nI za)) (C := RX6) (T := TX6) (N := 8) hx hb hts inlX6 hown hK hP 0 rfl rfl 1 (by decide) w_1_57 rfl dX6_readNumber_44 ?_
          refine va_iald hx hb hK.1 hP 2 0 rfl rfl (vin za 1600 (by omega) (by omega)) dX6_readNumber_47 ?_
          refine sk_top (nI (tb za)) (nrd tb za (by omega)) ?_
          have hb_6 := htb za
          refine lv_bipush (v := 57) hx hb dX6_readNumber_48 (by decide) ?_
          refine lv_icmp_gt (tgt := 106) hx hb dX6_readNumber_50 (by decide) (fun c_7 => ?_) (fun c_7 => ?_)
          · have c_7 : 57 < tb za := (nlt 57 (tb za) (by omega) (by omega)).mp c_7
            refine lv_aload_n hx hb dX6_readNumber_106 rfl (lv_at hl 0 rfl) ?_
            refine lv_bipush (v := (-3)) hx hb dX6_readNumber_107 (by decide) ?_
            refine sk_put (ws' := [(q 2, .inr (6, [.ref (q 0), .int (nI za), .int (nI zw), .int (nI xo), .int (-3), .int (nI xz), .int xf, .int xp])), (q 0, .inr (10, [.ref (q 20), .int (nI tl)])), (q 20, .inl (cI, 1600, .inl (fun j => nI (tb j))))]) (C := RX6) (T := TX6) (N := 8) (v := .int (-3)) hx hb hts inlX6 tyX6 tyX6_ok nmX6 hown hK hP hD hS 0 rfl rfl 4 (by decide) w_1_60 rfl rfl rfl (Nat.le_of_ble_eq_true rfl) rfl dX6_readNumber_109 (fun H locs hP hD hS => ?_)
            exact sk_vret hx hb hr hlocks hK hP hD hS (⟨za, nI zw, by omega, ext_fin hze (by rw [qD_t]; omega), congrArg nI (vd_fin hzv (ext_fin hze (by rw [qD_t]; omega))), rfl⟩) (Nat.le_of_ble_eq_true rfl) (Nat.le_of_ble_eq_true rfl) dX6_readNumber_112
          · have c_7 : ¬ (57 < tb za) := fun h => c_7 ((nlt 57 (tb za) (by omega) (by omega)).mpr h)
            refine lv_aload_n hx hb dX6_readNumber_53 rfl (lv_at hl 0 rfl) ?_
            refine sk_get (v := .int (nI za)) (C := RX6) (T := TX6) (N := 8) hx hb hts inlX6 hown hK hP 0 rfl rfl 1 (by decide) w_1_57 rfl dX6_readNumber_54 ?_
            refine lv_aload_n hx hb dX6_readNumber_57 rfl (lv_at hl 0 rfl) ?_
            refine sk_get (v := .int (nI xz)) (C := RX6) (T := TX6) (N := 8) hx hb hts inlX6 hown hK hP 0 rfl rfl 5 (by decide) w_1_64 rfl dX6_readNumber_58 ?_
            refine lv_isub hx hb dX6_readNumber_61 ?_
            refine sk_top (nI (za - xz)) (nsub za xz (by omega)) ?_
            refine lv_iconst (v := 4) hx hb dX6_readNumber_62 (by decide) ?_
            refine lv_icmp_ge (tgt := 93) hx hb dX6_readNumber_63 (by decide) (fun c_8 => ?_) (fun c_8 => ?_)
            · have c_8 : 4 ≤ za - xz := (nle 4 (za - xz) (by omega) (by omega)).mp c_8
              refine lv_aload_n hx hb dX6_readNumber_93 rfl (lv_at hl 0 rfl) ?_
              refine lv_dup hx hb dX6_readNumber_94 rfl ?_
              refine sk_get (v := .int (nI za)) (C := RX6) (T := TX6) (N := 8) hx hb hts inlX6 hown hK hP 0 rfl rfl 1 (by decide) w_1_57 rfl dX6_readNumber_95 ?_
              refine lv_iconst (v := 1) hx hb dX6_readNumber_98 (by decide) ?_
              refine lv_iadd hx hb dX6_readNumber_99 ?_
              refine sk_top (nI (za + 1)) (nI_add za 1) ?_
              refine sk_put (ws' := [(q 2, .inr (6, [.ref (q 0), .int (nI (za + 1)), .int (nI zw), .int (nI xo), .int xt, .int (nI xz), .int xf, .int xp])), (q 0, .inr (10, [.ref (q 20), .int (nI tl)])), (q 20, .inl (cI, 1600, .inl (fun j => nI (tb j))))]) (C := RX6) (T := TX6) (N := 8) (v := .int (nI (za + 1))) hx hb hts inlX6 tyX6 tyX6_ok nmX6 hown hK hP hD hS 0 rfl rfl 1 (by decide) w_1_57 rfl rfl rfl (Nat.le_of_ble_eq_true rfl) rfl dX6_readNumber_100 (fun H locs hP hD hS => ?_)
              refine lv_goto (tgt := 5) hx hb dX6_readNumber_103 (by decide) ?_
              exact ih_lp_1 (za + 1) zw _ _ _ (by omega) (by omega) (by omega) (ext_nxt hze (by omega) (qD_t.mpr (by omega))) (vd_st (by omega) hzv) hP hD hS (lv_sub hl [0] rfl)
            · have c_8 : ¬ (4 ≤ za - xz) := fun h => c_8 ((nle 4 (za - xz) (by omega) (by omega)).mpr h)
              refine lv_aload_n hx hb dX6_readNumber_66 rfl (lv_at hl 0 rfl) ?_
              refine lv_aload_n hx hb dX6_readNumber_67 rfl (lv_at hl 0 rfl) ?_
              refine sk_get (v := .int (nI zw)) (C := RX6) (T := TX6) (N := 8) hx hb hts inlX6 hown hK hP 0 rfl rfl 2 (by decide) w_1_58 rfl dX6_readNumber_68 ?_
              refine lv_bipush (v := 10) hx hb dX6_readNumber_71 (by decide) ?_
              refine lv_imul hx hb dX6_readNumber_73 ?_
              refine sk_top (nI (zw * 10)) (nmul zw 10) ?_
              refine lv_aload_n hx hb dX6_readNumber_74 rfl (lv_at hl 0 rfl) ?_
              refine sk_get (v := .ref (q 0)) (C := RX6) (T := TX6) (N := 8) hx hb hts inlX6 hown hK hP 0 rfl rfl 0 (by decide) w_1_56 rfl dX6_readNumber_75 ?_
              refine sk_get (v := .ref (q 20)) (C := RX10) (T := TX10) (N := 2) hx hb hts inlX10 hown hK hP 1 rfl rfl 0 (by decide) w_1_40 rfl dX6_readNumber_78 ?_
              refine lv_aload_n hx hb dX6_readNumber_81 rfl (lv_at hl 0 rfl) ?_
              refine sk_get (v := .int (nI za)) (C := RX6) (T := TX6) (N := 8) hx hb hts inlX6 hown hK hP 0 rfl rfl 1 (by decide) w_1_57 rfl dX6_readNumber_82 ?_
              refine va_iald hx hb hK.1 hP 2 0 rfl rfl (vin za 1600 (by omega) (by omega)) dX6_readNumber_85 ?_
              refine sk_top (nI (tb za)) (nrd tb za (by omega)) ?_
              have hb_9 := htb za
              refine lv_iadd hx hb dX6_readNumber_86 ?_
              refine sk_top (nI (zw * 10 + (tb za))) (nI_add (zw * 10) (tb za)) ?_
              refine lv_bipush (v := 48) hx hb dX6_readNumber_87 (by decide) ?_
              refine lv_isub hx hb dX6_readNumber_89 ?_
              refine sk_top (nI (zw * 10 + (tb za) - 48)) (nsub (zw * 10 + (tb za)) 48 (by omega)) ?_
              refine sk_put (ws' := [(q 2, .inr (6, [.ref (q 0), .int (nI za), .int (nI (zw * 10 + (tb za) - 48)), .int (nI xo), .int xt, .int (nI xz), .int xf, .int xp])), (q 0, .inr (10, [.ref (q 20), .int (nI tl)])), (q 20, .inl (cI, 1600, .inl (fun j => nI (tb j))))]) (C := RX6) (T := TX6) (N := 8) (v := .int (nI (zw * 10 + (tb za) - 48))) hx hb hts inlX6 tyX6 tyX6_ok nmX6 hown hK hP hD hS 0 rfl rfl 2 (by decide) w_1_58 rfl rfl rfl (Nat.le_of_ble_eq_true rfl) rfl dX6_readNumber_90 (fun H locs hP hD hS => ?_)
              refine lv_aload_n hx hb dX6_readNumber_93 rfl (lv_at hl 0 rfl) ?_
              refine lv_dup hx hb dX6_readNumber_94 rfl ?_
              refine sk_get (v := .int (nI za)) (C := RX6) (T := TX6) (N := 8) hx hb hts inlX6 hown hK hP 0 rfl rfl 1 (by decide) w_1_57 rfl dX6_readNumber_95 ?_
              refine lv_iconst (v := 1) hx hb dX6_readNumber_98 (by decide) ?_
              refine lv_iadd hx hb dX6_readNumber_99 ?_
              refine sk_top (nI (za + 1)) (nI_add za 1) ?_
              refine sk_put (ws' := [(q 2, .inr (6, [.ref (q 0), .int (nI (za + 1)), .int (nI (zw * 10 + (tb za) - 48)), .int (nI xo), .int xt, .int (nI xz), .int xf, .int xp])), (q 0, .inr (10, [.ref (q 20), .int (nI tl)])), (q 20, .inl (cI, 1600, .inl (fun j => nI (tb j))))]) (C := RX6) (T := TX6) (N := 8) (v := .int (nI (za + 1))) hx hb hts inlX6 tyX6 tyX6_ok nmX6 hown hK hP hD hS 0 rfl rfl 1 (by decide) w_1_57 rfl rfl rfl (Nat.le_of_ble_eq_true rfl) rfl dX6_readNumber_100 (fun H locs hP hD hS => ?_)
              refine lv_goto (tgt := 5) hx hb dX6_readNumber_103 (by decide) ?_
              exact ih_lp_1 (za + 1) (zw * 10 + (tb za) - 48) _ _ _ (by omega) (by omega) (by omega) (ext_nxt hze (by omega) (qD_t.mpr (by omega))) (vd_up (by omega) (by omega) hzv (by omega)) hP hD hS (lv_sub hl [0] rfl)
  exact lp_1 (tl - xa + 1) xa 0 _ _ _ (Nat.lt_succ_self _) (by omega) (by omega) (by rw [hax]) (by rw [hax, Nat.sub_self]; rfl) hP hD hS (lv_sub hl [0] rfl)
