set_option maxHeartbeats 4000000 in
set_option maxRecDepth 100000 in
theorem c_erd_fail (l : Launch) (D : va_G) (cI cJ cC cZ cS : ClassId) (q : Nat → Nat) (xa : Nat) (xv : Int32) (xo : Nat) (xt : Int32) (xz : Nat) (xf : Int32) (xp : Int32) (tl : Nat) (tb : Nat → Nat) (k : Nat) (w : Nat) (og : Except Err Cur) (hk1 : 1 ≤ k) (hk5 : k ≤ 5) (hw : w ≤ 1700) (hO : rdO tb tl og xa xv xt xz xf xp) : skM l yX6_fail cX6_fail 3 none 0 0 0 0 D (skT cI cJ cC cZ cS) [.ref (q 2), .int (nI k), .int (nI w)] [ro_rnininii (q 2) 6 (q 0) xa xv xo xt xz xf xp] (skV D (skT cI cJ cC cZ cS) (fun (u : va_W) => ∃ (xf2 : Int32), ∃ (xp2 : Int32), rdO tb tl (bindR og (fun _ => .error (k, w))) xa xv (-2) xz xf2 xp2 ∧ u = [ro_rnininii (q 2) 6 (q 0) xa xv xo (-2) xz xf2 xp2])) := by
  refine skM_of pf_X6_fail (Nat.le_of_ble_eq_true rfl) ?_
  intro p e s m below meth c A ls E hP hD hl
  refine skE_el E (fun hx hb hr hml hlocks hin hown hts hK hA => ?_)
  have hown : s.vm.findClass RX6 = some m.cls := hown
  have hS : va_S A s.heap s.heap [] := va_S.rf
  have hl : lv_has ls 3 [(0, .ref (q 2)), (1, .int (nI k)), (2, .int (nI w))] := hl
  refine lv_aload_n hx hb dX6_fail_0 rfl (lv_at hl 0 rfl) ?_
  refine sk_get (v := .int xf) (C := RX6) (T := TX6) (N := 8) hx hb hts inlX6 hown hK hP 0 rfl rfl 6 (Nat.le_of_ble_eq_true rfl) w_1_66 rfl dX6_fail_1 ?_
  refine lv_if_ne (tgt := 17) hx hb dX6_fail_4 (by decide) (fun c_1 => ?_) (fun c_1 => ?_)
  · skip
    refine lv_aload_n hx hb dX6_fail_17 rfl (lv_at hl 0 rfl) ?_
    refine lv_bipush (v := (-2)) hx hb dX6_fail_18 (by decide) ?_
    refine sk_put (ws' := [ro_rnininii (q 2) 6 (q 0) xa xv xo (-2) xz xf xp]) (C := RX6) (T := TX6) (N := 8) (v := .int (-2)) hx hb hts inlX6 tyX6 tyX6_ok nmX6 hown hK hP hD hS 0 rfl rfl 4 (Nat.le_of_ble_eq_true rfl) w_1_60 rfl rfl rfl (Nat.le_of_ble_eq_true rfl) rfl dX6_fail_20 (fun H locs hP hD hS => ?_)
    exact sk_vret hx hb hr hlocks hK hP hD hS (⟨xf, xp, fail_er hO c_1, rfl⟩) (Nat.le_of_ble_eq_true rfl) (Nat.le_of_ble_eq_true rfl) dX6_fail_23
  · skip
    refine lv_aload_n hx hb dX6_fail_7 rfl (lv_at hl 0 rfl) ?_
    refine lv_iload_n hx hb dX6_fail_8 rfl (lv_at hl 1 rfl) ?_
    refine sk_put (ws' := [ro_rnininni (q 2) 6 (q 0) xa xv xo xt xz k xp]) (C := RX6) (T := TX6) (N := 8) (v := .int (nI k)) hx hb hts inlX6 tyX6 tyX6_ok nmX6 hown hK hP hD hS 0 rfl rfl 6 (Nat.le_of_ble_eq_true rfl) w_1_66 rfl rfl rfl (Nat.le_of_ble_eq_true rfl) rfl dX6_fail_9 (fun H locs hP hD hS => ?_)
    refine lv_aload_n hx hb dX6_fail_12 rfl (lv_at hl 0 rfl) ?_
    refine lv_iload_n hx hb dX6_fail_13 rfl (lv_at hl 2 rfl) ?_
    refine sk_put (ws' := [ro_rnininnn (q 2) 6 (q 0) xa xv xo xt xz k w]) (C := RX6) (T := TX6) (N := 8) (v := .int (nI w)) hx hb hts inlX6 tyX6 tyX6_ok nmX6 hown hK hP hD hS 0 rfl rfl 7 (Nat.le_of_ble_eq_true rfl) w_1_69 rfl rfl rfl (Nat.le_of_ble_eq_true rfl) rfl dX6_fail_14 (fun H locs hP hD hS => ?_)
    refine lv_aload_n hx hb dX6_fail_17 rfl (lv_at hl 0 rfl) ?_
    refine lv_bipush (v := (-2)) hx hb dX6_fail_18 (by decide) ?_
    refine sk_put (ws' := [ro_rnininnn (q 2) 6 (q 0) xa xv xo (-2) xz k w]) (C := RX6) (T := TX6) (N := 8) (v := .int (-2)) hx hb hts inlX6 tyX6 tyX6_ok nmX6 hown hK hP hD hS 0 rfl rfl 4 (Nat.le_of_ble_eq_true rfl) w_1_60 rfl rfl rfl (Nat.le_of_ble_eq_true rfl) rfl dX6_fail_20 (fun H locs hP hD hS => ?_)
    exact sk_vret hx hb hr hlocks hK hP hD hS (⟨nI k, nI w, fail_ok hO c_1 hk1 hk5 hw, rfl⟩) (Nat.le_of_ble_eq_true rfl) (Nat.le_of_ble_eq_true rfl) dX6_fail_23
set_option maxHeartbeats 4000000 in
set_option maxRecDepth 100000 in
theorem c_erd_failHere (l : Launch) (D : va_G) (cI cJ cC cZ cS : ClassId) (q : Nat → Nat) (xa : Nat) (xv : Int32) (xo : Nat) (xt : Int32) (xz : Nat) (xf : Int32) (xp : Int32) (tl : Nat) (tb : Nat → Nat) (og : Except Err Cur) (hxz : xz ≤ 1600) (hO : rdO tb tl og xa xv xt xz xf xp) : skM l yX6_failHere cX6_failHere 1 none 1 22 0 0 D (skT cI cJ cC cZ cS) [.ref (q 2)] [ro_rnininii (q 2) 6 (q 0) xa xv xo xt xz xf xp] (skV D (skT cI cJ cC cZ cS) (fun (u : va_W) => ∃ (xf2 : Int32), ∃ (xp2 : Int32), rdO tb tl (bindR og (hereF 1)) xa xv (-2) xz xf2 xp2 ∧ u = [ro_rnininii (q 2) 6 (q 0) xa xv xo (-2) xz xf2 xp2])) := by
  refine skM_of pf_X6_failHere (Nat.le_of_ble_eq_true rfl) ?_
  intro p e s m below meth c A ls E hP hD hl
  refine skE_el E (fun hx hb hr hml hlocks hin hown hts hK hA => ?_)
  have hown : s.vm.findClass RX6 = some m.cls := hown
  have hS : va_S A s.heap s.heap [] := va_S.rf
  have hl : lv_has ls 1 [(0, .ref (q 2))] := hl
  refine lv_aload_n hx hb dX6_failHere_0 rfl (lv_at hl 0 rfl) ?_
  refine lv_iconst (v := 1) hx hb dX6_failHere_1 ic_1 ?_
  refine lv_aload_n hx hb dX6_failHere_2 rfl (lv_at hl 0 rfl) ?_
  refine sk_get (v := .int (nI xz)) (C := RX6) (T := TX6) (N := 8) hx hb hts inlX6 hown hK hP 0 rfl rfl 5 (Nat.le_of_ble_eq_true rfl) w_1_64 rfl dX6_failHere_3 ?_
  refine sk_Vv (q0 := 0) (n := 2) (rest := []) (wr := fmR om_1_1 _) ⟨hx, hb, hml, hown, hts⟩ hl.1 (c_erd_fail l D cI cJ cC cZ cS q xa xv xo xt xz xf xp tl tb 1 xz og (by omega) (by omega) (by omega) hO) w_3_58 w_3_59 w_3_60 w_1_4 w_3_61 hd_X6_fail_2 ⟨⟨(Nat.le_of_ble_eq_true rfl), (Nat.le_of_ble_eq_true rfl)⟩, (Nat.le_of_ble_eq_true rfl), (Nat.le_of_ble_eq_true rfl)⟩ hK hP hD hS hA (fmT om_1_1 0) (fmF om_1_1 0) (fm_C1 rfl rfl) (fm_R rfl rfl) (fm_nT om_1_1 0) (fm_nF om_1_1 0) (fm_di om_1_1 0) rfl rfl rfl rfl (Nat.le_of_ble_eq_true rfl) dX6_failHere_6 (fun u H locs hw hP hD hS => ?_)
  refine exE hw (fun xf2_1 hw1 => exE hw1 (fun xp2_2 hw2 => anE hw2 (fun hO2_3 eu_4 => ?_)))
  clear hw hw1 hw2
  refine o_mgE (ws' := [ro_rnininii (q 2) 6 (q 0) xa xv xo (-2) xz xf2_1 xp2_2]) eu_4 hP hD rfl (fun hP hD => ?_)
  exact sk_vret hx hb hr hlocks hK hP hD hS (⟨xf2_1, xp2_2, fh_eq hO hO2_3, rfl⟩) (Nat.le_of_ble_eq_true rfl) (Nat.le_of_ble_eq_true rfl) dX6_failHere_9
set_option maxHeartbeats 4000000 in
set_option maxRecDepth 100000 in
theorem c_erd_readNumber (l : Launch) (D : va_G) (cI cJ cC cZ cS : ClassId) (q : Nat → Nat) (xa : Nat) (xv : Int32) (xo : Nat) (xt : Int32) (xz : Nat) (xf : Int32) (xp : Int32) (tl : Nat) (tb : Nat → Nat) (hxa : xa ≤ 1600) (hxz : xz ≤ 1600) (htl : tl ≤ 1600) (htb : ∀ j, tb j ≤ 255) (hax : xa = xz) : skM l yX6_readNumber cX6_readNumber 1 none 0 0 0 0 D (skT cI cJ cC cZ cS) [.ref (q 2)] [ro_rnininii (q 2) 6 (q 0) xa xv xo xt xz xf xp, ro_rn (q 0) 10 (q 20) tl, ra_N (q 20) cI 1600 tb] (skV D (skT cI cJ cC cZ cS) (fun (u : va_W) => ∃ (xa2 : Nat), ∃ (xv2 : Int32), xa2 ≤ 1600 ∧ xa2 = ext qD tb tl xz ∧ xv2 = nI (numV tb tl xz) ∧ u = [ro_rnininii (q 2) 6 (q 0) xa2 xv2 xo (-3) xz xf xp, ro_rn (q 0) 10 (q 20) tl, ra_N (q 20) cI 1600 tb])) := by
  refine skM_of pf_X6_readNumber (Nat.le_of_ble_eq_true rfl) ?_
  intro p e s m below meth c A ls E hP hD hl
  refine skE_el E (fun hx hb hr hml hlocks hin hown hts hK hA => ?_)
  have hown : s.vm.findClass RX6 = some m.cls := hown
  have hS : va_S A s.heap s.heap [] := va_S.rf
  have hl : lv_has ls 1 [(0, .ref (q 2))] := hl
  refine lv_aload_n hx hb dX6_readNumber_0 rfl (lv_at hl 0 rfl) ?_
  refine lv_iconst (v := 0) hx hb dX6_readNumber_1 ic_0 ?_
  refine sk_put (ws' := [ro_rnininii (q 2) 6 (q 0) xa 0 xo xt xz xf xp, ro_rn (q 0) 10 (q 20) tl, ra_N (q 20) cI 1600 tb]) (C := RX6) (T := TX6) (N := 8) (v := .int 0) hx hb hts inlX6 tyX6 tyX6_ok nmX6 hown hK hP hD hS 0 rfl rfl 2 (Nat.le_of_ble_eq_true rfl) w_1_58 rfl rfl rfl (Nat.le_of_ble_eq_true rfl) rfl dX6_readNumber_2 (fun H locs hP hD hS => ?_)
  have lp_1 : ∀ (n_2 : Nat) (za : Nat) (zw : Nat) (H : Heap) (locs : List Loc) (ls : Array Slot), tl - za < n_2 → (za ≤ 1600) → (xz ≤ za) → (ext qD tb tl za = ext qD tb tl xz) → (zw = vd tb xz (min 4 (za - xz))) → va_P D vwCl [ro_rnnninii (q 2) 6 (q 0) za zw xo xt xz xf xp, ro_rn (q 0) 10 (q 20) tl, ra_N (q 20) cI 1600 tb] H → va_D A [ro_rnnninii (q 2) 6 (q 0) za zw xo xt xz xf xp, ro_rn (q 0) 10 (q 20) tl, ra_N (q 20) cI 1600 tb] → va_S A s.heap H locs → lv_has ls 1 [(0, .ref (q 2))] → W p l e { frames := 0, cells := 0, slots := 0, locals := 0 } s m ([.ref (q 2)] : List Value).toArray below meth c H locs 0 0 (MQ below (skV D (skT cI cJ cC cZ cS) (fun (u : va_W) => ∃ (xa2 : Nat), ∃ (xv2 : Int32), xa2 ≤ 1600 ∧ xa2 = ext qD tb tl xz ∧ xv2 = nI (numV tb tl xz) ∧ u = [ro_rnininii (q 2) 6 (q 0) xa2 xv2 xo (-3) xz xf xp, ro_rn (q 0) 10 (q 20) tl, ra_N (q 20) cI 1600 tb]) A) ([.ref (q 2)] : List Value).toArray s 0 0 A) (F0 m 5 ls []) := by
    intro n_2
    induction n_2 with
    | zero => intro za zw H locs ls hm; exact absurd hm (Nat.not_lt_zero _)
    | succ n_2 ih_lp_1 =>
      intro za zw H locs ls hm hza hxza hze hzv hP hD hS hl
      refine lv_aload_n hx hb dX6_readNumber_5 rfl (lv_at hl 0 rfl) ?_
      refine sk_get (v := .int (nI za)) (C := RX6) (T := TX6) (N := 8) hx hb hts inlX6 hown hK hP 0 rfl rfl 1 (Nat.le_of_ble_eq_true rfl) w_1_57 rfl dX6_readNumber_6 ?_
      refine lv_aload_n hx hb dX6_readNumber_9 rfl (lv_at hl 0 rfl) ?_
      refine sk_get (v := .ref (q 0)) (C := RX6) (T := TX6) (N := 8) hx hb hts inlX6 hown hK hP 0 rfl rfl 0 (Nat.le_of_ble_eq_true rfl) w_1_56 rfl dX6_readNumber_10 ?_
      refine sk_get (v := .int (nI tl)) (C := RX10) (T := TX10) (N := 2) hx hb hts inlX10 hown hK hP 1 rfl rfl 1 (Nat.le_of_ble_eq_true rfl) w_1_43 rfl dX6_readNumber_13 ?_
      refine lv_icmp_ge (tgt := 106) hx hb dX6_readNumber_16 (by decide) (fun c_3 => ?_) (fun c_3 => ?_)
      · have c_3 : tl ≤ za := (nle tl za (by omega) (by omega)).mp c_3
        refine lv_aload_n hx hb dX6_readNumber_106 rfl (lv_at hl 0 rfl) ?_
        refine lv_bipush (v := (-3)) hx hb dX6_readNumber_107 (by decide) ?_
        refine sk_put (ws' := [ro_rnnninii (q 2) 6 (q 0) za zw xo (-3) xz xf xp, ro_rn (q 0) 10 (q 20) tl, ra_N (q 20) cI 1600 tb]) (C := RX6) (T := TX6) (N := 8) (v := .int (-3)) hx hb hts inlX6 tyX6 tyX6_ok nmX6 hown hK hP hD hS 0 rfl rfl 4 (Nat.le_of_ble_eq_true rfl) w_1_60 rfl rfl rfl (Nat.le_of_ble_eq_true rfl) rfl dX6_readNumber_109 (fun H locs hP hD hS => ?_)
        exact sk_vret hx hb hr hlocks hK hP hD hS (⟨za, nI zw, hza, ext_fin hze (by rw [qD_t]; omega), congrArg nI (vd_fin hzv (ext_fin hze (by rw [qD_t]; omega))), rfl⟩) (Nat.le_of_ble_eq_true rfl) (Nat.le_of_ble_eq_true rfl) dX6_readNumber_112
      · have c_3 : ¬ (tl ≤ za) := fun h => c_3 ((nle tl za (by omega) (by omega)).mpr h)
        refine lv_aload_n hx hb dX6_readNumber_19 rfl (lv_at hl 0 rfl) ?_
        refine sk_get (v := .ref (q 0)) (C := RX6) (T := TX6) (N := 8) hx hb hts inlX6 hown hK hP 0 rfl rfl 0 (Nat.le_of_ble_eq_true rfl) w_1_56 rfl dX6_readNumber_20 ?_
        refine sk_get (v := .ref (q 20)) (C := RX10) (T := TX10) (N := 2) hx hb hts inlX10 hown hK hP 1 rfl rfl 0 (Nat.le_of_ble_eq_true rfl) w_1_40 rfl dX6_readNumber_23 ?_
        refine lv_aload_n hx hb dX6_readNumber_26 rfl (lv_at hl 0 rfl) ?_
        refine sk_get (v := .int (nI za)) (C := RX6) (T := TX6) (N := 8) hx hb hts inlX6 hown hK hP 0 rfl rfl 1 (Nat.le_of_ble_eq_true rfl) w_1_57 rfl dX6_readNumber_27 ?_
        refine va_iald hx hb hK.1 hP 2 0 rfl rfl (vin za 1600 (by omega) (Nat.le_of_ble_eq_true rfl)) dX6_readNumber_30 ?_
        refine sk_top (nI (tb za)) (nrd tb za (by omega)) ?_
        have hb_4 := htb za
        refine lv_bipush (v := 48) hx hb dX6_readNumber_31 (by decide) ?_
        refine lv_icmp_lt (tgt := 106) hx hb dX6_readNumber_33 (by decide) (fun c_5 => ?_) (fun c_5 => ?_)
        · have c_5 : tb za < 48 := (nlt (tb za) 48 (by omega) (Nat.le_of_ble_eq_true rfl)).mp c_5
          refine lv_aload_n hx hb dX6_readNumber_106 rfl (lv_at hl 0 rfl) ?_
          refine lv_bipush (v := (-3)) hx hb dX6_readNumber_107 (by decide) ?_
          refine sk_put (ws' := [ro_rnnninii (q 2) 6 (q 0) za zw xo (-3) xz xf xp, ro_rn (q 0) 10 (q 20) tl, ra_N (q 20) cI 1600 tb]) (C := RX6) (T := TX6) (N := 8) (v := .int (-3)) hx hb hts inlX6 tyX6 tyX6_ok nmX6 hown hK hP hD hS 0 rfl rfl 4 (Nat.le_of_ble_eq_true rfl) w_1_60 rfl rfl rfl (Nat.le_of_ble_eq_true rfl) rfl dX6_readNumber_109 (fun H locs hP hD hS => ?_)
          exact sk_vret hx hb hr hlocks hK hP hD hS (⟨za, nI zw, hza, ext_fin hze (by rw [qD_t]; omega), congrArg nI (vd_fin hzv (ext_fin hze (by rw [qD_t]; omega))), rfl⟩) (Nat.le_of_ble_eq_true rfl) (Nat.le_of_ble_eq_true rfl) dX6_readNumber_112
        · have c_5 : ¬ (tb za < 48) := fun h => c_5 ((nlt (tb za) 48 (by omega) (Nat.le_of_ble_eq_true rfl)).mpr h)
          refine lv_aload_n hx hb dX6_readNumber_36 rfl (lv_at hl 0 rfl) ?_
          refine sk_get (v := .ref (q 0)) (C := RX6) (T := TX6) (N := 8) hx hb hts inlX6 hown hK hP 0 rfl rfl 0 (Nat.le_of_ble_eq_true rfl) w_1_56 rfl dX6_readNumber_37 ?_
          refine sk_get (v := .ref (q 20)) (C := RX10) (T := TX10) (N := 2) hx hb hts inlX10 hown hK hP 1 rfl rfl 0 (Nat.le_of_ble_eq_true rfl) w_1_40 rfl dX6_readNumber_40 ?_
          refine lv_aload_n hx hb dX6_readNumber_43 rfl (lv_at hl 0 rfl) ?_
          refine sk_get (v := .int (nI za)) (C := RX6) (T := TX6) (N := 8) hx hb hts inlX6 hown hK hP 0 rfl rfl 1 (Nat.le_of_ble_eq_true rfl) w_1_57 rfl dX6_readNumber_44 ?_
          refine va_iald hx hb hK.1 hP 2 0 rfl rfl (vin za 1600 (by omega) (Nat.le_of_ble_eq_true rfl)) dX6_readNumber_47 ?_
          refine sk_top (nI (tb za)) (nrd tb za (by omega)) ?_
          have hb_6 := htb za
          refine lv_bipush (v := 57) hx hb dX6_readNumber_48 (by decide) ?_
          refine lv_icmp_gt (tgt := 106) hx hb dX6_readNumber_50 (by decide) (fun c_7 => ?_) (fun c_7 => ?_)
          · have c_7 : 57 < tb za := (nlt 57 (tb za) (Nat.le_of_ble_eq_true rfl) (by omega)).mp c_7
            refine lv_aload_n hx hb dX6_readNumber_106 rfl (lv_at hl 0 rfl) ?_
            refine lv_bipush (v := (-3)) hx hb dX6_readNumber_107 (by decide) ?_
            refine sk_put (ws' := [ro_rnnninii (q 2) 6 (q 0) za zw xo (-3) xz xf xp, ro_rn (q 0) 10 (q 20) tl, ra_N (q 20) cI 1600 tb]) (C := RX6) (T := TX6) (N := 8) (v := .int (-3)) hx hb hts inlX6 tyX6 tyX6_ok nmX6 hown hK hP hD hS 0 rfl rfl 4 (Nat.le_of_ble_eq_true rfl) w_1_60 rfl rfl rfl (Nat.le_of_ble_eq_true rfl) rfl dX6_readNumber_109 (fun H locs hP hD hS => ?_)
            exact sk_vret hx hb hr hlocks hK hP hD hS (⟨za, nI zw, hza, ext_fin hze (by rw [qD_t]; omega), congrArg nI (vd_fin hzv (ext_fin hze (by rw [qD_t]; omega))), rfl⟩) (Nat.le_of_ble_eq_true rfl) (Nat.le_of_ble_eq_true rfl) dX6_readNumber_112
          · have c_7 : ¬ (57 < tb za) := fun h => c_7 ((nlt 57 (tb za) (Nat.le_of_ble_eq_true rfl) (by omega)).mpr h)
            refine lv_aload_n hx hb dX6_readNumber_53 rfl (lv_at hl 0 rfl) ?_
            refine sk_get (v := .int (nI za)) (C := RX6) (T := TX6) (N := 8) hx hb hts inlX6 hown hK hP 0 rfl rfl 1 (Nat.le_of_ble_eq_true rfl) w_1_57 rfl dX6_readNumber_54 ?_
            refine lv_aload_n hx hb dX6_readNumber_57 rfl (lv_at hl 0 rfl) ?_
            refine sk_get (v := .int (nI xz)) (C := RX6) (T := TX6) (N := 8) hx hb hts inlX6 hown hK hP 0 rfl rfl 5 (Nat.le_of_ble_eq_true rfl) w_1_64 rfl dX6_readNumber_58 ?_
            refine lv_isub hx hb dX6_readNumber_61 ?_
            refine sk_top (nI (za - xz)) (nsub za xz (by omega)) ?_
            refine lv_iconst (v := 4) hx hb dX6_readNumber_62 ic_4 ?_
            refine lv_icmp_ge (tgt := 93) hx hb dX6_readNumber_63 (by decide) (fun c_8 => ?_) (fun c_8 => ?_)
            · have c_8 : 4 ≤ za - xz := (nle 4 (za - xz) (Nat.le_of_ble_eq_true rfl) (by omega)).mp c_8
              refine lv_aload_n hx hb dX6_readNumber_93 rfl (lv_at hl 0 rfl) ?_
              refine lv_dup hx hb dX6_readNumber_94 rfl ?_
              refine sk_get (v := .int (nI za)) (C := RX6) (T := TX6) (N := 8) hx hb hts inlX6 hown hK hP 0 rfl rfl 1 (Nat.le_of_ble_eq_true rfl) w_1_57 rfl dX6_readNumber_95 ?_
              refine lv_iconst (v := 1) hx hb dX6_readNumber_98 ic_1 ?_
              refine lv_iadd hx hb dX6_readNumber_99 ?_
              refine sk_top (nI (za + 1)) (nI_add za 1) ?_
              refine sk_put (ws' := [ro_rnnninii (q 2) 6 (q 0) (za + 1) zw xo xt xz xf xp, ro_rn (q 0) 10 (q 20) tl, ra_N (q 20) cI 1600 tb]) (C := RX6) (T := TX6) (N := 8) (v := .int (nI (za + 1))) hx hb hts inlX6 tyX6 tyX6_ok nmX6 hown hK hP hD hS 0 rfl rfl 1 (Nat.le_of_ble_eq_true rfl) w_1_57 rfl rfl rfl (Nat.le_of_ble_eq_true rfl) rfl dX6_readNumber_100 (fun H locs hP hD hS => ?_)
              refine lv_goto (tgt := 5) hx hb dX6_readNumber_103 (by decide) ?_
              exact ih_lp_1 (za + 1) zw _ _ _ (by omega) (by omega) (by omega) (ext_nxt hze (by omega) (qD_t.mpr (by omega))) (vd_st (by omega) hzv) hP hD hS (lv_sub hl [0] rfl)
            · have c_8 : ¬ (4 ≤ za - xz) := fun h => c_8 ((nle 4 (za - xz) (Nat.le_of_ble_eq_true rfl) (by omega)).mpr h)
              refine lv_aload_n hx hb dX6_readNumber_66 rfl (lv_at hl 0 rfl) ?_
              refine lv_aload_n hx hb dX6_readNumber_67 rfl (lv_at hl 0 rfl) ?_
              refine sk_get (v := .int (nI zw)) (C := RX6) (T := TX6) (N := 8) hx hb hts inlX6 hown hK hP 0 rfl rfl 2 (Nat.le_of_ble_eq_true rfl) w_1_58 rfl dX6_readNumber_68 ?_
              refine lv_bipush (v := 10) hx hb dX6_readNumber_71 (by decide) ?_
              refine lv_imul hx hb dX6_readNumber_73 ?_
              refine sk_top (nI (zw * 10)) (nmul zw 10) ?_
              refine lv_aload_n hx hb dX6_readNumber_74 rfl (lv_at hl 0 rfl) ?_
              refine sk_get (v := .ref (q 0)) (C := RX6) (T := TX6) (N := 8) hx hb hts inlX6 hown hK hP 0 rfl rfl 0 (Nat.le_of_ble_eq_true rfl) w_1_56 rfl dX6_readNumber_75 ?_
              refine sk_get (v := .ref (q 20)) (C := RX10) (T := TX10) (N := 2) hx hb hts inlX10 hown hK hP 1 rfl rfl 0 (Nat.le_of_ble_eq_true rfl) w_1_40 rfl dX6_readNumber_78 ?_
              refine lv_aload_n hx hb dX6_readNumber_81 rfl (lv_at hl 0 rfl) ?_
              refine sk_get (v := .int (nI za)) (C := RX6) (T := TX6) (N := 8) hx hb hts inlX6 hown hK hP 0 rfl rfl 1 (Nat.le_of_ble_eq_true rfl) w_1_57 rfl dX6_readNumber_82 ?_
              refine va_iald hx hb hK.1 hP 2 0 rfl rfl (vin za 1600 (by omega) (Nat.le_of_ble_eq_true rfl)) dX6_readNumber_85 ?_
              refine sk_top (nI (tb za)) (nrd tb za (by omega)) ?_
              have hb_9 := htb za
              refine lv_iadd hx hb dX6_readNumber_86 ?_
              refine sk_top (nI (zw * 10 + (tb za))) (nI_add (zw * 10) (tb za)) ?_
              refine lv_bipush (v := 48) hx hb dX6_readNumber_87 (by decide) ?_
              refine lv_isub hx hb dX6_readNumber_89 ?_
              refine sk_top (nI (zw * 10 + (tb za) - 48)) (nsub (zw * 10 + (tb za)) 48 (by omega)) ?_
              refine sk_put (ws' := [ro_rnnninii (q 2) 6 (q 0) za (zw * 10 + (tb za) - 48) xo xt xz xf xp, ro_rn (q 0) 10 (q 20) tl, ra_N (q 20) cI 1600 tb]) (C := RX6) (T := TX6) (N := 8) (v := .int (nI (zw * 10 + (tb za) - 48))) hx hb hts inlX6 tyX6 tyX6_ok nmX6 hown hK hP hD hS 0 rfl rfl 2 (Nat.le_of_ble_eq_true rfl) w_1_58 rfl rfl rfl (Nat.le_of_ble_eq_true rfl) rfl dX6_readNumber_90 (fun H locs hP hD hS => ?_)
              refine lv_aload_n hx hb dX6_readNumber_93 rfl (lv_at hl 0 rfl) ?_
              refine lv_dup hx hb dX6_readNumber_94 rfl ?_
              refine sk_get (v := .int (nI za)) (C := RX6) (T := TX6) (N := 8) hx hb hts inlX6 hown hK hP 0 rfl rfl 1 (Nat.le_of_ble_eq_true rfl) w_1_57 rfl dX6_readNumber_95 ?_
              refine lv_iconst (v := 1) hx hb dX6_readNumber_98 ic_1 ?_
              refine lv_iadd hx hb dX6_readNumber_99 ?_
              refine sk_top (nI (za + 1)) (nI_add za 1) ?_
              refine sk_put (ws' := [ro_rnnninii (q 2) 6 (q 0) (za + 1) (zw * 10 + (tb za) - 48) xo xt xz xf xp, ro_rn (q 0) 10 (q 20) tl, ra_N (q 20) cI 1600 tb]) (C := RX6) (T := TX6) (N := 8) (v := .int (nI (za + 1))) hx hb hts inlX6 tyX6 tyX6_ok nmX6 hown hK hP hD hS 0 rfl rfl 1 (Nat.le_of_ble_eq_true rfl) w_1_57 rfl rfl rfl (Nat.le_of_ble_eq_true rfl) rfl dX6_readNumber_100 (fun H locs hP hD hS => ?_)
              refine lv_goto (tgt := 5) hx hb dX6_readNumber_103 (by decide) ?_
              exact ih_lp_1 (za + 1) (zw * 10 + (tb za) - 48) _ _ _ (by omega) (by omega) (by omega) (ext_nxt hze (by omega) (qD_t.mpr (by omega))) (vd_up (by omega) (by omega) hzv (by omega)) hP hD hS (lv_sub hl [0] rfl)
  exact lp_1 (tl - xa + 1) xa 0 _ _ _ (Nat.lt_succ_self _) hxa (by omega) (by rw [hax]) (by rw [hax, Nat.sub_self]; rfl) hP hD hS (lv_sub hl [0] rfl)
set_option maxHeartbeats 4000000 in
set_option maxRecDepth 100000 in
theorem c_erd_readWord (l : Launch) (D : va_G) (cI cJ cC cZ cS : ClassId) (zk zv : Nat) (zf : Value) (q : Nat → Nat) (xa : Nat) (xv : Int32) (xo : Nat) (xt : Int32) (xz : Nat) (xf : Int32) (xp : Int32) (tl : Nat) (tb : Nat → Nat) (hxa : xa ≤ 1600) (hxz : xz ≤ 1600) (htl : tl ≤ 1600) (htb : ∀ j, tb j ≤ 255) (hax : xa = xz) : skMZ zk zv zf l yX6_readWord cX6_readWord 5 none 4 85 0 0 D (skT cI cJ cC cZ cS) [.ref (q 2)] [ro_rnininii (q 2) 6 (q 0) xa xv xo xt xz xf xp, ro_rn (q 0) 10 (q 20) tl, ra_N (q 20) cI 1600 tb] (skV D (skT cI cJ cC cZ cS) (fun (u : va_W) => ∃ (xa2 : Nat), ∃ (xt2 : Int32), xa2 ≤ 1600 ∧ xa2 = ext qL tb tl xz ∧ xt2 = wordTok (wl tb tl xz) ∧ u = [ro_rnininii (q 2) 6 (q 0) xa2 xv xo xt2 xz xf xp, ro_rn (q 0) 10 (q 20) tl, ra_N (q 20) cI 1600 tb])) := by
  refine skMZ_of pf_X6_readWord (Nat.le_of_ble_eq_true rfl) ?_
  intro p e s m below meth c A ls E hP hD hZ hl
  refine skE_el E (fun hx hb hr hml hlocks hin hown hts hK hA => ?_)
  have hown : s.vm.findClass RX6 = some m.cls := hown
  have hS : va_S A s.heap s.heap [] := va_S.rf
  have hl : lv_has ls 5 [(0, .ref (q 2))] := hl
  have lp_1 : ∀ (n_2 : Nat) (za : Nat) (H : Heap) (locs : List Loc) (ls : Array Slot), tl - za < n_2 → (za ≤ 1600) → (xz ≤ za) → (ext qL tb tl za = ext qL tb tl xz) → va_P D vwCl [ro_rnininii (q 2) 6 (q 0) za xv xo xt xz xf xp, ro_rn (q 0) 10 (q 20) tl, ra_N (q 20) cI 1600 tb] H → va_D A [ro_rnininii (q 2) 6 (q 0) za xv xo xt xz xf xp, ro_rn (q 0) 10 (q 20) tl, ra_N (q 20) cI 1600 tb] → va_S A s.heap H locs → lv_has ls 5 [(0, .ref (q 2))] → W p l e { frames := 4, cells := 0, slots := 0, locals := 85 } s m ([.ref (q 2)] : List Value).toArray below meth c H locs 0 0 (MQ below (skV D (skT cI cJ cC cZ cS) (fun (u : va_W) => ∃ (xa2 : Nat), ∃ (xt2 : Int32), xa2 ≤ 1600 ∧ xa2 = ext qL tb tl xz ∧ xt2 = wordTok (wl tb tl xz) ∧ u = [ro_rnininii (q 2) 6 (q 0) xa2 xv xo xt2 xz xf xp, ro_rn (q 0) 10 (q 20) tl, ra_N (q 20) cI 1600 tb]) A) ([.ref (q 2)] : List Value).toArray s 0 0 A) (F0 m 0 ls []) := by
    intro n_2
    induction n_2 with
    | zero => intro za H locs ls hm; exact absurd hm (Nat.not_lt_zero _)
    | succ n_2 ih_lp_1 =>
      intro za H locs ls hm hza hxza hze hP hD hS hl
      refine lv_aload_n hx hb dX6_readWord_0 rfl (lv_at hl 0 rfl) ?_
      refine sk_get (v := .int (nI za)) (C := RX6) (T := TX6) (N := 8) hx hb hts inlX6 hown hK hP 0 rfl rfl 1 (Nat.le_of_ble_eq_true rfl) w_1_57 rfl dX6_readWord_1 ?_
      refine lv_aload_n hx hb dX6_readWord_4 rfl (lv_at hl 0 rfl) ?_
      refine sk_get (v := .ref (q 0)) (C := RX6) (T := TX6) (N := 8) hx hb hts inlX6 hown hK hP 0 rfl rfl 0 (Nat.le_of_ble_eq_true rfl) w_1_56 rfl dX6_readWord_5 ?_
      refine sk_get (v := .int (nI tl)) (C := RX10) (T := TX10) (N := 2) hx hb hts inlX10 hown hK hP 1 rfl rfl 1 (Nat.le_of_ble_eq_true rfl) w_1_43 rfl dX6_readWord_8 ?_
      refine lv_icmp_ge (tgt := 61) hx hb dX6_readWord_11 (by decide) (fun c_3 => ?_) (fun c_3 => ?_)
      · have c_3 : tl ≤ za := (nle tl za (by omega) (by omega)).mp c_3
        have hend : za = ext qL tb tl xz := ext_fin hze (by rw [qL_t]; omega)
        have hlen : (wl tb tl xz).length = za - xz := by rw [wl_len, ← hend]
        refine lv_aload_n hx hb dX6_readWord_61 rfl (lv_at hl 0 rfl) ?_
        refine lv_bipush (v := (-2)) hx hb dX6_readWord_62 (by decide) ?_
        refine sk_put (ws' := [ro_rnininii (q 2) 6 (q 0) za xv xo (-2) xz xf xp, ro_rn (q 0) 10 (q 20) tl, ra_N (q 20) cI 1600 tb]) (C := RX6) (T := TX6) (N := 8) (v := .int (-2)) hx hb hts inlX6 tyX6 tyX6_ok nmX6 hown hK hP hD hS 0 rfl rfl 4 (Nat.le_of_ble_eq_true rfl) w_1_60 rfl rfl rfl (Nat.le_of_ble_eq_true rfl) rfl dX6_readWord_64 (fun H locs hP hD hS => ?_)
        refine lv_aload_n hx hb dX6_readWord_67 rfl (lv_at hl 0 rfl) ?_
        refine sk_get (v := .int (nI za)) (C := RX6) (T := TX6) (N := 8) hx hb hts inlX6 hown hK hP 0 rfl rfl 1 (Nat.le_of_ble_eq_true rfl) w_1_57 rfl dX6_readWord_68 ?_
        refine lv_aload_n hx hb dX6_readWord_71 rfl (lv_at hl 0 rfl) ?_
        refine sk_get (v := .int (nI xz)) (C := RX6) (T := TX6) (N := 8) hx hb hts inlX6 hown hK hP 0 rfl rfl 5 (Nat.le_of_ble_eq_true rfl) w_1_64 rfl dX6_readWord_72 ?_
        refine lv_isub hx hb dX6_readWord_75 ?_
        refine sk_top (nI (za - xz)) (nsub za xz (by omega)) ?_
        refine lv_bipush (v := 6) hx hb dX6_readWord_76 (by decide) ?_
        refine lv_icmp_le (tgt := 82) hx hb dX6_readWord_78 (by decide) (fun c_4 => ?_) (fun c_4 => ?_)
        · have c_4 : za - xz ≤ 6 := (nle (za - xz) 6 (by omega) (Nat.le_of_ble_eq_true rfl)).mp c_4
          refine lv_iconst (v := 0) hx hb dX6_readWord_82 ic_0 ?_
          refine lv_istore_n (lv' := [(1, .int 0), (0, .ref (q 2))]) hx hb dX6_readWord_83 rfl hl (by decide) rfl (fun ls hl => ?_)
          have lp_5 : ∀ (n_6 : Nat) (i : Nat) (H : Heap) (locs : List Loc) (ls : Array Slot), 168 - i < n_6 → (i ≤ 168) → (i % 6 = 0) → (noW (i / 6) (wl tb tl xz)) → va_P D vwCl [ro_rnininii (q 2) 6 (q 0) za xv xo (-2) xz xf xp, ro_rn (q 0) 10 (q 20) tl, ra_N (q 20) cI 1600 tb] H → va_D A [ro_rnininii (q 2) 6 (q 0) za xv xo (-2) xz xf xp, ro_rn (q 0) 10 (q 20) tl, ra_N (q 20) cI 1600 tb] → va_S A s.heap H locs → lv_has ls 5 [(1, .int (nI i)), (0, .ref (q 2))] → W p l e { frames := 4, cells := 0, slots := 0, locals := 85 } s m ([.ref (q 2)] : List Value).toArray below meth c H locs 0 0 (MQ below (skV D (skT cI cJ cC cZ cS) (fun (u : va_W) => ∃ (xa2 : Nat), ∃ (xt2 : Int32), xa2 ≤ 1600 ∧ xa2 = ext qL tb tl xz ∧ xt2 = wordTok (wl tb tl xz) ∧ u = [ro_rnininii (q 2) 6 (q 0) xa2 xv xo xt2 xz xf xp, ro_rn (q 0) 10 (q 20) tl, ra_N (q 20) cI 1600 tb]) A) ([.ref (q 2)] : List Value).toArray s 0 0 A) (F0 m 84 ls []) := by
            intro n_6
            induction n_6 with
            | zero => intro i H locs ls hm; exact absurd hm (Nat.not_lt_zero _)
            | succ n_6 ih_lp_5 =>
              intro i H locs ls hm hi h6 hno hP hD hS hl
              refine lv_iload_n hx hb dX6_readWord_84 rfl (lv_at hl 0 rfl) ?_
              refine lv_bipush (v := 6) hx hb dX6_readWord_85 (by decide) ?_
              refine lv_iadd hx hb dX6_readWord_87 ?_
              refine sk_top (nI (i + 6)) (nI_add i 6) ?_
              refine va_ldcS hx hb hown hZ.1 dX6_readWord_88 ?_
              refine sk_ViS (n := 0) (rest := [.int (nI (i + 6))]) (wr := [ro_rnininii (q 2) 6 (q 0) za xv xo (-2) xz xf xp, ro_rn (q 0) 10 (q 20) tl, ra_N (q 20) cI 1600 tb]) ⟨hx, hb, hml, hown, hts⟩ hl.1 (c_str_length l D cI cJ cC cZ cS zk zv zf) w_2_234 w_2_235 w_2_236 w_1_16 w_2_237 hd_J0_length_8abf5_0 ⟨⟨(Nat.le_of_ble_eq_true rfl), (Nat.le_of_ble_eq_true rfl)⟩, (Nat.le_of_ble_eq_true rfl), (Nat.le_of_ble_eq_true rfl)⟩ hK hP hD hS hZ hA [] [0, 1, 2] rfl rfl (by decide +kernel) (by decide +kernel) (by decide +kernel) rfl rfl rfl rfl (Nat.le_of_ble_eq_true rfl) dX6_readWord_90 (fun r_7 u H locs hw hP hD hS => ?_)
              obtain ⟨rfl, rfl⟩ := hw
              refine o_re (ws' := [ro_rnininii (q 2) 6 (q 0) za xv xo (-2) xz xf xp, ro_rn (q 0) 10 (q 20) tl, ra_N (q 20) cI 1600 tb]) hP hD rfl (fun hP hD => ?_)
              refine lv_icmp_gt (tgt := 192) hx hb dX6_readWord_93 (by decide) (fun c_8 => ?_) (fun c_8 => ?_)
              · have c_8 : 168 < i + 6 := (nlt 168 (i + 6) (Nat.le_of_ble_eq_true rfl) (by omega)).mp c_8
                exact sk_vret hx hb hr hlocks hK hP hD hS (⟨za, (-2), hza, hend, (wt_none (show noW 28 _ by rw [show 28 = i / 6 by omega]; exact hno)).symm, rfl⟩) (Nat.le_of_ble_eq_true rfl) (Nat.le_of_ble_eq_true rfl) dX6_readWord_192
              · have c_8 : ¬ (168 < i + 6) := fun h => c_8 ((nlt 168 (i + 6) (Nat.le_of_ble_eq_true rfl) (by omega)).mpr h)
                refine lv_iconst (v := 1) hx hb dX6_readWord_96 ic_1 ?_
                refine lv_istore_n (lv' := [(2, .int 1), (1, .int (nI i)), (0, .ref (q 2))]) hx hb dX6_readWord_97 rfl hl (by decide) rfl (fun ls hl => ?_)
                refine lv_iconst (v := 0) hx hb dX6_readWord_98 ic_0 ?_
                refine lv_istore_n (lv' := [(3, .int 0), (2, .int 1), (1, .int (nI i)), (0, .ref (q 2))]) hx hb dX6_readWord_99 rfl hl (by decide) rfl (fun ls hl => ?_)
                have lp_9 : ∀ (n_10 : Nat) (jj : Nat) (al : Nat) (H : Heap) (locs : List Loc) (ls : Array Slot), 6 - jj < n_10 → (jj ≤ 6) → ((al = 0 ∧ ¬ eqP i (wl tb tl xz) jj) ∨ (al = 1 ∧ eqP i (wl tb tl xz) jj)) → va_P D vwCl [ro_rnininii (q 2) 6 (q 0) za xv xo (-2) xz xf xp, ro_rn (q 0) 10 (q 20) tl, ra_N (q 20) cI 1600 tb] H → va_D A [ro_rnininii (q 2) 6 (q 0) za xv xo (-2) xz xf xp, ro_rn (q 0) 10 (q 20) tl, ra_N (q 20) cI 1600 tb] → va_S A s.heap H locs → lv_has ls 5 [(3, .int (nI jj)), (2, .int (nI al)), (1, .int (nI i)), (0, .ref (q 2))] → W p l e { frames := 4, cells := 0, slots := 0, locals := 85 } s m ([.ref (q 2)] : List Value).toArray below meth c H locs 0 0 (MQ below (skV D (skT cI cJ cC cZ cS) (fun (u : va_W) => ∃ (xa2 : Nat), ∃ (xt2 : Int32), xa2 ≤ 1600 ∧ xa2 = ext qL tb tl xz ∧ xt2 = wordTok (wl tb tl xz) ∧ u = [ro_rnininii (q 2) 6 (q 0) xa2 xv xo xt2 xz xf xp, ro_rn (q 0) 10 (q 20) tl, ra_N (q 20) cI 1600 tb]) A) ([.ref (q 2)] : List Value).toArray s 0 0 A) (F0 m 100 ls []) := by
                  intro n_10
                  induction n_10 with
                  | zero => intro jj al H locs ls hm; exact absurd hm (Nat.not_lt_zero _)
                  | succ n_10 ih_lp_9 =>
                    intro jj al H locs ls hm hjj hal hP hD hS hl
                    refine lv_iload_n hx hb dX6_readWord_100 rfl (lv_at hl 0 rfl) ?_
                    refine lv_bipush (v := 6) hx hb dX6_readWord_101 (by decide) ?_
                    refine lv_icmp_ge (tgt := 169) hx hb dX6_readWord_103 (by decide) (fun c_11 => ?_) (fun c_11 => ?_)
                    · have c_11 : 6 ≤ jj := (nle 6 jj (Nat.le_of_ble_eq_true rfl) (by omega)).mp c_11
                      refine lv_iload_n hx hb dX6_readWord_169 rfl (lv_at hl 1 rfl) ?_
                      refine lv_if_eq (tgt := 186) hx hb dX6_readWord_170 (by decide) (fun c_12 => ?_) (fun c_12 => ?_)
                      · have c_12 : al = 0 := (neq al 0 (by omega) (Nat.le_of_ble_eq_true rfl)).mp c_12
                        refine lv_iinc (v := nI (i + 6)) (lv' := [(1, .int (nI (i + 6))), (3, .int (nI jj)), (2, .int (nI al)), (0, .ref (q 2))]) hx hb dX6_readWord_186 hl (k := 2) rfl (ninc i 6 (by decide)) (by decide) rfl (fun ls hl => ?_)
                        refine lv_goto (tgt := 84) hx hb dX6_readWord_189 (by decide) ?_
                        exact ih_lp_5 (i + 6) _ _ _ (by omega) (by omega) (by omega) (by rw [show (i + 6) / 6 = i / 6 + 1 by omega]; exact noW_s hno (eqP_no (by omega) h6 (by omega) (rr_0 hal (by omega)))) hP hD hS (lv_sub hl [0, 3] rfl)
                      · have c_12 : ¬ (al = 0) := fun h => c_12 ((neq al 0 (by omega) (Nat.le_of_ble_eq_true rfl)).mpr h)
                        refine lv_aload_n hx hb dX6_readWord_173 rfl (lv_at hl 3 rfl) ?_
                        refine lv_sipush (v := 256) hx hb dX6_readWord_174 (by decide) ?_
                        refine lv_iload_n hx hb dX6_readWord_177 rfl (lv_at hl 2 rfl) ?_
                        refine lv_bipush (v := 6) hx hb dX6_readWord_178 (by decide) ?_
                        refine lv_idiv hx hb dX6_readWord_180 (by decide) ?_
                        refine sk_top (nI (i / 6)) (ndiv i 6 (by omega) (by omega) (by omega)) ?_
                        refine lv_iadd hx hb dX6_readWord_181 ?_
                        refine sk_top (nI (256 + (i / 6))) (nI_add 256 (i / 6)) ?_
                        refine sk_put (ws' := [ro_rninnnii (q 2) 6 (q 0) za xv xo (256 + (i / 6)) xz xf xp, ro_rn (q 0) 10 (q 20) tl, ra_N (q 20) cI 1600 tb]) (C := RX6) (T := TX6) (N := 8) (v := .int (nI (256 + (i / 6)))) hx hb hts inlX6 tyX6 tyX6_ok nmX6 hown hK hP hD hS 0 rfl rfl 4 (Nat.le_of_ble_eq_true rfl) w_1_60 rfl rfl rfl (Nat.le_of_ble_eq_true rfl) rfl dX6_readWord_182 (fun H locs hP hD hS => ?_)
                        exact sk_vret hx hb hr hlocks hK hP hD hS (⟨za, nI (256 + (i / 6)), hza, hend, (wt_some (by omega) hno (eqP_cw (by omega) h6 wl_let (by omega) (by rw [show 6 = jj by omega]; exact (rr_1 hal (by omega))))).symm, rfl⟩) (Nat.le_of_ble_eq_true rfl) (Nat.le_of_ble_eq_true rfl) dX6_readWord_185
                    · have c_11 : ¬ (6 ≤ jj) := fun h => c_11 ((nle 6 jj (Nat.le_of_ble_eq_true rfl) (by omega)).mpr h)
                      refine lv_iload_n hx hb dX6_readWord_106 rfl (lv_at hl 1 rfl) ?_
                      refine lv_if_eq (tgt := 169) hx hb dX6_readWord_107 (by decide) (fun c_13 => ?_) (fun c_13 => ?_)
                      · have c_13 : al = 0 := (neq al 0 (by omega) (Nat.le_of_ble_eq_true rfl)).mp c_13
                        refine lv_iload_n hx hb dX6_readWord_169 rfl (lv_at hl 1 rfl) ?_
                        refine lv_if_eq (tgt := 186) hx hb dX6_readWord_170 (by decide) (fun c_14 => ?_) (fun c_14 => ?_)
                        · have c_14 : al = 0 := (neq al 0 (by omega) (Nat.le_of_ble_eq_true rfl)).mp c_14
                          refine lv_iinc (v := nI (i + 6)) (lv' := [(1, .int (nI (i + 6))), (3, .int (nI jj)), (2, .int (nI al)), (0, .ref (q 2))]) hx hb dX6_readWord_186 hl (k := 2) rfl (ninc i 6 (by decide)) (by decide) rfl (fun ls hl => ?_)
                          refine lv_goto (tgt := 84) hx hb dX6_readWord_189 (by decide) ?_
                          exact ih_lp_5 (i + 6) _ _ _ (by omega) (by omega) (by omega) (by rw [show (i + 6) / 6 = i / 6 + 1 by omega]; exact noW_s hno (eqP_no (by omega) h6 (by omega) (rr_0 hal (by omega)))) hP hD hS (lv_sub hl [0, 3] rfl)
                        · have c_14 : ¬ (al = 0) := fun h => c_14 ((neq al 0 (by omega) (Nat.le_of_ble_eq_true rfl)).mpr h)
                          refine lv_aload_n hx hb dX6_readWord_173 rfl (lv_at hl 3 rfl) ?_
                          refine lv_sipush (v := 256) hx hb dX6_readWord_174 (by decide) ?_
                          refine lv_iload_n hx hb dX6_readWord_177 rfl (lv_at hl 2 rfl) ?_
                          refine lv_bipush (v := 6) hx hb dX6_readWord_178 (by decide) ?_
                          refine lv_idiv hx hb dX6_readWord_180 (by decide) ?_
                          refine sk_top (nI (i / 6)) (ndiv i 6 (by omega) (by omega) (by omega)) ?_
                          refine lv_iadd hx hb dX6_readWord_181 ?_
                          refine sk_top (nI (256 + (i / 6))) (nI_add 256 (i / 6)) ?_
                          refine sk_put (ws' := [ro_rninnnii (q 2) 6 (q 0) za xv xo (256 + (i / 6)) xz xf xp, ro_rn (q 0) 10 (q 20) tl, ra_N (q 20) cI 1600 tb]) (C := RX6) (T := TX6) (N := 8) (v := .int (nI (256 + (i / 6)))) hx hb hts inlX6 tyX6 tyX6_ok nmX6 hown hK hP hD hS 0 rfl rfl 4 (Nat.le_of_ble_eq_true rfl) w_1_60 rfl rfl rfl (Nat.le_of_ble_eq_true rfl) rfl dX6_readWord_182 (fun H locs hP hD hS => ?_)
                          exact sk_vret hx hb hr hlocks hK hP hD hS (⟨za, nI (256 + (i / 6)), hza, hend, (wt_some (by omega) hno (eqP_cw (by omega) h6 wl_let (by omega) (by rw [show 6 = jj by omega]; exact (rr_1 hal (by omega))))).symm, rfl⟩) (Nat.le_of_ble_eq_true rfl) (Nat.le_of_ble_eq_true rfl) dX6_readWord_185
                      · have c_13 : ¬ (al = 0) := fun h => c_13 ((neq al 0 (by omega) (Nat.le_of_ble_eq_true rfl)).mpr h)
                        have jn_15 : ∀ (lt : Nat) (H : Heap) (locs : List Loc) (ls : Array Slot), ((wl tb tl xz).getD jj 32 = lt) → (lt ≤ 255) → va_P D vwCl [ro_rnininii (q 2) 6 (q 0) za xv xo (-2) xz xf xp, ro_rn (q 0) 10 (q 20) tl, ra_N (q 20) cI 1600 tb] H → va_D A [ro_rnininii (q 2) 6 (q 0) za xv xo (-2) xz xf xp, ro_rn (q 0) 10 (q 20) tl, ra_N (q 20) cI 1600 tb] → va_S A s.heap H locs → lv_has ls 5 [(3, .int (nI jj)), (2, .int (nI al)), (1, .int (nI i)), (0, .ref (q 2))] → W p l e { frames := 4, cells := 0, slots := 0, locals := 85 } s m ([.ref (q 2)] : List Value).toArray below meth c H locs 0 0 (MQ below (skV D (skT cI cJ cC cZ cS) (fun (u : va_W) => ∃ (xa2 : Nat), ∃ (xt2 : Int32), xa2 ≤ 1600 ∧ xa2 = ext qL tb tl xz ∧ xt2 = wordTok (wl tb tl xz) ∧ u = [ro_rnininii (q 2) 6 (q 0) xa2 xv xo xt2 xz xf xp, ro_rn (q 0) 10 (q 20) tl, ra_N (q 20) cI 1600 tb]) A) ([.ref (q 2)] : List Value).toArray s 0 0 A) (F0 m 142 ls [.int (nI lt)]) := by
                          intro lt H locs ls hlt hltb hP hD hS hl
                          refine lv_istore (lv' := [(4, .int (nI lt)), (3, .int (nI jj)), (2, .int (nI al)), (1, .int (nI i)), (0, .ref (q 2))]) hx hb dX6_readWord_142 hl (by decide) rfl (fun ls hl => ?_)
                          refine va_ldcS hx hb hown hZ.1 dX6_readWord_144 ?_
                          refine lv_iload_n hx hb dX6_readWord_146 rfl (lv_at hl 3 rfl) ?_
                          refine lv_iload_n hx hb dX6_readWord_147 rfl (lv_at hl 1 rfl) ?_
                          refine lv_iadd hx hb dX6_readWord_148 ?_
                          refine sk_top (nI (i + jj)) (nI_add i jj) ?_
                          refine sk_ViS (n := 1) (rest := []) (wr := [ro_rnininii (q 2) 6 (q 0) za xv xo (-2) xz xf xp, ro_rn (q 0) 10 (q 20) tl, ra_N (q 20) cI 1600 tb]) ⟨hx, hb, hml, hown, hts⟩ hl.1 (c_str_charAt l D cI cJ cC cZ cS zk zv zf (i + jj) (by omega)) w_3_4 w_3_5 w_3_6 w_1_16 w_3_7 hd_J0_charAt_5068e_1 ⟨⟨(Nat.le_of_ble_eq_true rfl), (Nat.le_of_ble_eq_true rfl)⟩, (Nat.le_of_ble_eq_true rfl), (Nat.le_of_ble_eq_true rfl)⟩ hK hP hD hS hZ hA [] [0, 1, 2] rfl rfl (by decide +kernel) (by decide +kernel) (by decide +kernel) rfl rfl rfl rfl (Nat.le_of_ble_eq_true rfl) dX6_readWord_149 (fun r_16 u H locs hw hP hD hS => ?_)
                          obtain ⟨hv_17, rfl⟩ := hw
                          refine o_re (ws' := [ro_rnininii (q 2) 6 (q 0) za xv xo (-2) xz xf xp, ro_rn (q 0) 10 (q 20) tl, ra_N (q 20) cI 1600 tb]) hP hD rfl (fun hP hD => ?_)
                          refine lv_iload hx hb dX6_readWord_152 (lv_at hl 0 rfl) ?_
                          refine lv_icmp_ne (tgt := 161) hx hb dX6_readWord_154 (by decide) (fun c_18 => ?_) (fun c_18 => ?_)
                          · skip
                            refine lv_iconst (v := 0) hx hb dX6_readWord_161 ic_0 ?_
                            refine lv_istore_n (lv' := [(2, .int 0), (4, .int (nI lt)), (3, .int (nI jj)), (1, .int (nI i)), (0, .ref (q 2))]) hx hb dX6_readWord_162 rfl hl (by decide) rfl (fun ls hl => ?_)
                            refine lv_iinc (v := nI (jj + 1)) (lv' := [(3, .int (nI (jj + 1))), (2, .int 0), (4, .int (nI lt)), (1, .int (nI i)), (0, .ref (q 2))]) hx hb dX6_readWord_163 hl (k := 2) rfl (ninc jj 1 (by decide)) (by decide) rfl (fun ls hl => ?_)
                            refine lv_goto (tgt := 100) hx hb dX6_readWord_166 (by decide) ?_
                            exact ih_lp_9 (jj + 1) 0 _ _ _ (by omega) (by omega) (Or.inl ⟨rfl, eqP_n (fun hq => c_18 (by rw [hv_17, hq, hlt]))⟩) hP hD hS (lv_sub hl [0, 1, 3, 4] rfl)
                          · skip
                            refine lv_iconst (v := 1) hx hb dX6_readWord_157 ic_1 ?_
                            refine lv_goto (tgt := 162) hx hb dX6_readWord_158 (by decide) ?_
                            refine lv_istore_n (lv' := [(2, .int 1), (4, .int (nI lt)), (3, .int (nI jj)), (1, .int (nI i)), (0, .ref (q 2))]) hx hb dX6_readWord_162 rfl hl (by decide) rfl (fun ls hl => ?_)
                            refine lv_iinc (v := nI (jj + 1)) (lv' := [(3, .int (nI (jj + 1))), (2, .int 1), (4, .int (nI lt)), (1, .int (nI i)), (0, .ref (q 2))]) hx hb dX6_readWord_163 hl (k := 2) rfl (ninc jj 1 (by decide)) (by decide) rfl (fun ls hl => ?_)
                            refine lv_goto (tgt := 100) hx hb dX6_readWord_166 (by decide) ?_
                            exact ih_lp_9 (jj + 1) 1 _ _ _ (by omega) (by omega) (Or.inr ⟨rfl, eqP_s (rr_1 hal (by omega)) (by rw [← hv_17, c_18, hlt])⟩) hP hD hS (lv_sub hl [0, 1, 3, 4] rfl)
                        refine lv_aload_n hx hb dX6_readWord_110 rfl (lv_at hl 3 rfl) ?_
                        refine sk_get (v := .int (nI xz)) (C := RX6) (T := TX6) (N := 8) hx hb hts inlX6 hown hK hP 0 rfl rfl 5 (Nat.le_of_ble_eq_true rfl) w_1_64 rfl dX6_readWord_111 ?_
                        refine lv_iload_n hx hb dX6_readWord_114 rfl (lv_at hl 0 rfl) ?_
                        refine lv_iadd hx hb dX6_readWord_115 ?_
                        refine sk_top (nI (xz + jj)) (nI_add xz jj) ?_
                        refine lv_aload_n hx hb dX6_readWord_116 rfl (lv_at hl 3 rfl) ?_
                        refine sk_get (v := .int (nI za)) (C := RX6) (T := TX6) (N := 8) hx hb hts inlX6 hown hK hP 0 rfl rfl 1 (Nat.le_of_ble_eq_true rfl) w_1_57 rfl dX6_readWord_117 ?_
                        refine lv_icmp_ge (tgt := 140) hx hb dX6_readWord_120 (by decide) (fun c_19 => ?_) (fun c_19 => ?_)
                        · have c_19 : za ≤ xz + jj := (nle za (xz + jj) (by omega) (by omega)).mp c_19
                          refine lv_bipush (v := 32) hx hb dX6_readWord_140 (by decide) ?_
                          exact jn_15 32 _ _ _ (by rw [wl_getD, if_neg (by omega)]) (by omega) hP hD hS (lv_sub hl [0, 1, 2, 3] rfl)
                        · have c_19 : ¬ (za ≤ xz + jj) := fun h => c_19 ((nle za (xz + jj) (by omega) (by omega)).mpr h)
                          refine lv_aload_n hx hb dX6_readWord_123 rfl (lv_at hl 3 rfl) ?_
                          refine sk_get (v := .ref (q 0)) (C := RX6) (T := TX6) (N := 8) hx hb hts inlX6 hown hK hP 0 rfl rfl 0 (Nat.le_of_ble_eq_true rfl) w_1_56 rfl dX6_readWord_124 ?_
                          refine sk_get (v := .ref (q 20)) (C := RX10) (T := TX10) (N := 2) hx hb hts inlX10 hown hK hP 1 rfl rfl 0 (Nat.le_of_ble_eq_true rfl) w_1_40 rfl dX6_readWord_127 ?_
                          refine lv_aload_n hx hb dX6_readWord_130 rfl (lv_at hl 3 rfl) ?_
                          refine sk_get (v := .int (nI xz)) (C := RX6) (T := TX6) (N := 8) hx hb hts inlX6 hown hK hP 0 rfl rfl 5 (Nat.le_of_ble_eq_true rfl) w_1_64 rfl dX6_readWord_131 ?_
                          refine lv_iload_n hx hb dX6_readWord_134 rfl (lv_at hl 0 rfl) ?_
                          refine lv_iadd hx hb dX6_readWord_135 ?_
                          refine sk_top (nI (xz + jj)) (nI_add xz jj) ?_
                          refine va_iald hx hb hK.1 hP 2 0 rfl rfl (vin (xz + jj) 1600 (by omega) (Nat.le_of_ble_eq_true rfl)) dX6_readWord_136 ?_
                          refine sk_top (nI (tb (xz + jj))) (nrd tb (xz + jj) (by omega)) ?_
                          have hb_20 := htb (xz + jj)
                          refine lv_goto (tgt := 142) hx hb dX6_readWord_137 (by decide) ?_
                          exact jn_15 (tb (xz + jj)) _ _ _ (by rw [wl_getD, if_pos (by omega)]) (by omega) hP hD hS (lv_sub hl [0, 1, 2, 3] rfl)
                exact lp_9 (6 - 0 + 1) 0 1 _ _ _ (Nat.lt_succ_self _) (by omega) (Or.inr ⟨rfl, eqP_0 _ _⟩) hP hD hS (lv_sub hl [0, 1, 2, 3] rfl)
          exact lp_5 (168 - 0 + 1) 0 _ _ _ (Nat.lt_succ_self _) (by omega) (by omega) (noW_0 _) hP hD hS (lv_sub hl [0, 1] rfl)
        · have c_4 : ¬ (za - xz ≤ 6) := fun h => c_4 ((nle (za - xz) 6 (by omega) (Nat.le_of_ble_eq_true rfl)).mpr h)
          exact sk_vret hx hb hr hlocks hK hP hD hS (⟨za, (-2), hza, hend, (wt_long (by omega)).symm, rfl⟩) (Nat.le_of_ble_eq_true rfl) (Nat.le_of_ble_eq_true rfl) dX6_readWord_81
      · have c_3 : ¬ (tl ≤ za) := fun h => c_3 ((nle tl za (by omega) (by omega)).mpr h)
        refine lv_aload_n hx hb dX6_readWord_14 rfl (lv_at hl 0 rfl) ?_
        refine sk_get (v := .ref (q 0)) (C := RX6) (T := TX6) (N := 8) hx hb hts inlX6 hown hK hP 0 rfl rfl 0 (Nat.le_of_ble_eq_true rfl) w_1_56 rfl dX6_readWord_15 ?_
        refine sk_get (v := .ref (q 20)) (C := RX10) (T := TX10) (N := 2) hx hb hts inlX10 hown hK hP 1 rfl rfl 0 (Nat.le_of_ble_eq_true rfl) w_1_40 rfl dX6_readWord_18 ?_
        refine lv_aload_n hx hb dX6_readWord_21 rfl (lv_at hl 0 rfl) ?_
        refine sk_get (v := .int (nI za)) (C := RX6) (T := TX6) (N := 8) hx hb hts inlX6 hown hK hP 0 rfl rfl 1 (Nat.le_of_ble_eq_true rfl) w_1_57 rfl dX6_readWord_22 ?_
        refine va_iald hx hb hK.1 hP 2 0 rfl rfl (vin za 1600 (by omega) (Nat.le_of_ble_eq_true rfl)) dX6_readWord_25 ?_
        refine sk_top (nI (tb za)) (nrd tb za (by omega)) ?_
        have hb_21 := htb za
        refine lv_bipush (v := 97) hx hb dX6_readWord_26 (by decide) ?_
        refine lv_icmp_lt (tgt := 61) hx hb dX6_readWord_28 (by decide) (fun c_22 => ?_) (fun c_22 => ?_)
        · have c_22 : tb za < 97 := (nlt (tb za) 97 (by omega) (Nat.le_of_ble_eq_true rfl)).mp c_22
          have hend : za = ext qL tb tl xz := ext_fin hze (by rw [qL_t]; omega)
          have hlen : (wl tb tl xz).length = za - xz := by rw [wl_len, ← hend]
          refine lv_aload_n hx hb dX6_readWord_61 rfl (lv_at hl 0 rfl) ?_
          refine lv_bipush (v := (-2)) hx hb dX6_readWord_62 (by decide) ?_
          refine sk_put (ws' := [ro_rnininii (q 2) 6 (q 0) za xv xo (-2) xz xf xp, ro_rn (q 0) 10 (q 20) tl, ra_N (q 20) cI 1600 tb]) (C := RX6) (T := TX6) (N := 8) (v := .int (-2)) hx hb hts inlX6 tyX6 tyX6_ok nmX6 hown hK hP hD hS 0 rfl rfl 4 (Nat.le_of_ble_eq_true rfl) w_1_60 rfl rfl rfl (Nat.le_of_ble_eq_true rfl) rfl dX6_readWord_64 (fun H locs hP hD hS => ?_)
          refine lv_aload_n hx hb dX6_readWord_67 rfl (lv_at hl 0 rfl) ?_
          refine sk_get (v := .int (nI za)) (C := RX6) (T := TX6) (N := 8) hx hb hts inlX6 hown hK hP 0 rfl rfl 1 (Nat.le_of_ble_eq_true rfl) w_1_57 rfl dX6_readWord_68 ?_
          refine lv_aload_n hx hb dX6_readWord_71 rfl (lv_at hl 0 rfl) ?_
          refine sk_get (v := .int (nI xz)) (C := RX6) (T := TX6) (N := 8) hx hb hts inlX6 hown hK hP 0 rfl rfl 5 (Nat.le_of_ble_eq_true rfl) w_1_64 rfl dX6_readWord_72 ?_
          refine lv_isub hx hb dX6_readWord_75 ?_
          refine sk_top (nI (za - xz)) (nsub za xz (by omega)) ?_
          refine lv_bipush (v := 6) hx hb dX6_readWord_76 (by decide) ?_
          refine lv_icmp_le (tgt := 82) hx hb dX6_readWord_78 (by decide) (fun c_23 => ?_) (fun c_23 => ?_)
          · have c_23 : za - xz ≤ 6 := (nle (za - xz) 6 (by omega) (Nat.le_of_ble_eq_true rfl)).mp c_23
            refine lv_iconst (v := 0) hx hb dX6_readWord_82 ic_0 ?_
            refine lv_istore_n (lv' := [(1, .int 0), (0, .ref (q 2))]) hx hb dX6_readWord_83 rfl hl (by decide) rfl (fun ls hl => ?_)
            have lp_24 : ∀ (n_25 : Nat) (i : Nat) (H : Heap) (locs : List Loc) (ls : Array Slot), 168 - i < n_25 → (i ≤ 168) → (i % 6 = 0) → (noW (i / 6) (wl tb tl xz)) → va_P D vwCl [ro_rnininii (q 2) 6 (q 0) za xv xo (-2) xz xf xp, ro_rn (q 0) 10 (q 20) tl, ra_N (q 20) cI 1600 tb] H → va_D A [ro_rnininii (q 2) 6 (q 0) za xv xo (-2) xz xf xp, ro_rn (q 0) 10 (q 20) tl, ra_N (q 20) cI 1600 tb] → va_S A s.heap H locs → lv_has ls 5 [(1, .int (nI i)), (0, .ref (q 2))] → W p l e { frames := 4, cells := 0, slots := 0, locals := 85 } s m ([.ref (q 2)] : List Value).toArray below meth c H locs 0 0 (MQ below (skV D (skT cI cJ cC cZ cS) (fun (u : va_W) => ∃ (xa2 : Nat), ∃ (xt2 : Int32), xa2 ≤ 1600 ∧ xa2 = ext qL tb tl xz ∧ xt2 = wordTok (wl tb tl xz) ∧ u = [ro_rnininii (q 2) 6 (q 0) xa2 xv xo xt2 xz xf xp, ro_rn (q 0) 10 (q 20) tl, ra_N (q 20) cI 1600 tb]) A) ([.ref (q 2)] : List Value).toArray s 0 0 A) (F0 m 84 ls []) := by
              intro n_25
              induction n_25 with
              | zero => intro i H locs ls hm; exact absurd hm (Nat.not_lt_zero _)
              | succ n_25 ih_lp_24 =>
                intro i H locs ls hm hi h6 hno hP hD hS hl
                refine lv_iload_n hx hb dX6_readWord_84 rfl (lv_at hl 0 rfl) ?_
                refine lv_bipush (v := 6) hx hb dX6_readWord_85 (by decide) ?_
                refine lv_iadd hx hb dX6_readWord_87 ?_
                refine sk_top (nI (i + 6)) (nI_add i 6) ?_
                refine va_ldcS hx hb hown hZ.1 dX6_readWord_88 ?_
                refine sk_ViS (n := 0) (rest := [.int (nI (i + 6))]) (wr := [ro_rnininii (q 2) 6 (q 0) za xv xo (-2) xz xf xp, ro_rn (q 0) 10 (q 20) tl, ra_N (q 20) cI 1600 tb]) ⟨hx, hb, hml, hown, hts⟩ hl.1 (c_str_length l D cI cJ cC cZ cS zk zv zf) w_2_234 w_2_235 w_2_236 w_1_16 w_2_237 hd_J0_length_8abf5_0 ⟨⟨(Nat.le_of_ble_eq_true rfl), (Nat.le_of_ble_eq_true rfl)⟩, (Nat.le_of_ble_eq_true rfl), (Nat.le_of_ble_eq_true rfl)⟩ hK hP hD hS hZ hA [] [0, 1, 2] rfl rfl (by decide +kernel) (by decide +kernel) (by decide +kernel) rfl rfl rfl rfl (Nat.le_of_ble_eq_true rfl) dX6_readWord_90 (fun r_26 u H locs hw hP hD hS => ?_)
                obtain ⟨rfl, rfl⟩ := hw
                refine o_re (ws' := [ro_rnininii (q 2) 6 (q 0) za xv xo (-2) xz xf xp, ro_rn (q 0) 10 (q 20) tl, ra_N (q 20) cI 1600 tb]) hP hD rfl (fun hP hD => ?_)
                refine lv_icmp_gt (tgt := 192) hx hb dX6_readWord_93 (by decide) (fun c_27 => ?_) (fun c_27 => ?_)
                · have c_27 : 168 < i + 6 := (nlt 168 (i + 6) (Nat.le_of_ble_eq_true rfl) (by omega)).mp c_27
                  exact sk_vret hx hb hr hlocks hK hP hD hS (⟨za, (-2), hza, hend, (wt_none (show noW 28 _ by rw [show 28 = i / 6 by omega]; exact hno)).symm, rfl⟩) (Nat.le_of_ble_eq_true rfl) (Nat.le_of_ble_eq_true rfl) dX6_readWord_192
                · have c_27 : ¬ (168 < i + 6) := fun h => c_27 ((nlt 168 (i + 6) (Nat.le_of_ble_eq_true rfl) (by omega)).mpr h)
                  refine lv_iconst (v := 1) hx hb dX6_readWord_96 ic_1 ?_
                  refine lv_istore_n (lv' := [(2, .int 1), (1, .int (nI i)), (0, .ref (q 2))]) hx hb dX6_readWord_97 rfl hl (by decide) rfl (fun ls hl => ?_)
                  refine lv_iconst (v := 0) hx hb dX6_readWord_98 ic_0 ?_
                  refine lv_istore_n (lv' := [(3, .int 0), (2, .int 1), (1, .int (nI i)), (0, .ref (q 2))]) hx hb dX6_readWord_99 rfl hl (by decide) rfl (fun ls hl => ?_)
                  have lp_28 : ∀ (n_29 : Nat) (jj : Nat) (al : Nat) (H : Heap) (locs : List Loc) (ls : Array Slot), 6 - jj < n_29 → (jj ≤ 6) → ((al = 0 ∧ ¬ eqP i (wl tb tl xz) jj) ∨ (al = 1 ∧ eqP i (wl tb tl xz) jj)) → va_P D vwCl [ro_rnininii (q 2) 6 (q 0) za xv xo (-2) xz xf xp, ro_rn (q 0) 10 (q 20) tl, ra_N (q 20) cI 1600 tb] H → va_D A [ro_rnininii (q 2) 6 (q 0) za xv xo (-2) xz xf xp, ro_rn (q 0) 10 (q 20) tl, ra_N (q 20) cI 1600 tb] → va_S A s.heap H locs → lv_has ls 5 [(3, .int (nI jj)), (2, .int (nI al)), (1, .int (nI i)), (0, .ref (q 2))] → W p l e { frames := 4, cells := 0, slots := 0, locals := 85 } s m ([.ref (q 2)] : List Value).toArray below meth c H locs 0 0 (MQ below (skV D (skT cI cJ cC cZ cS) (fun (u : va_W) => ∃ (xa2 : Nat), ∃ (xt2 : Int32), xa2 ≤ 1600 ∧ xa2 = ext qL tb tl xz ∧ xt2 = wordTok (wl tb tl xz) ∧ u = [ro_rnininii (q 2) 6 (q 0) xa2 xv xo xt2 xz xf xp, ro_rn (q 0) 10 (q 20) tl, ra_N (q 20) cI 1600 tb]) A) ([.ref (q 2)] : List Value).toArray s 0 0 A) (F0 m 100 ls []) := by
                    intro n_29
                    induction n_29 with
                    | zero => intro jj al H locs ls hm; exact absurd hm (Nat.not_lt_zero _)
                    | succ n_29 ih_lp_28 =>
                      intro jj al H locs ls hm hjj hal hP hD hS hl
                      refine lv_iload_n hx hb dX6_readWord_100 rfl (lv_at hl 0 rfl) ?_
                      refine lv_bipush (v := 6) hx hb dX6_readWord_101 (by decide) ?_
                      refine lv_icmp_ge (tgt := 169) hx hb dX6_readWord_103 (by decide) (fun c_30 => ?_) (fun c_30 => ?_)
                      · have c_30 : 6 ≤ jj := (nle 6 jj (Nat.le_of_ble_eq_true rfl) (by omega)).mp c_30
                        refine lv_iload_n hx hb dX6_readWord_169 rfl (lv_at hl 1 rfl) ?_
                        refine lv_if_eq (tgt := 186) hx hb dX6_readWord_170 (by decide) (fun c_31 => ?_) (fun c_31 => ?_)
                        · have c_31 : al = 0 := (neq al 0 (by omega) (Nat.le_of_ble_eq_true rfl)).mp c_31
                          refine lv_iinc (v := nI (i + 6)) (lv' := [(1, .int (nI (i + 6))), (3, .int (nI jj)), (2, .int (nI al)), (0, .ref (q 2))]) hx hb dX6_readWord_186 hl (k := 2) rfl (ninc i 6 (by decide)) (by decide) rfl (fun ls hl => ?_)
                          refine lv_goto (tgt := 84) hx hb dX6_readWord_189 (by decide) ?_
                          exact ih_lp_24 (i + 6) _ _ _ (by omega) (by omega) (by omega) (by rw [show (i + 6) / 6 = i / 6 + 1 by omega]; exact noW_s hno (eqP_no (by omega) h6 (by omega) (rr_0 hal (by omega)))) hP hD hS (lv_sub hl [0, 3] rfl)
                        · have c_31 : ¬ (al = 0) := fun h => c_31 ((neq al 0 (by omega) (Nat.le_of_ble_eq_true rfl)).mpr h)
                          refine lv_aload_n hx hb dX6_readWord_173 rfl (lv_at hl 3 rfl) ?_
                          refine lv_sipush (v := 256) hx hb dX6_readWord_174 (by decide) ?_
                          refine lv_iload_n hx hb dX6_readWord_177 rfl (lv_at hl 2 rfl) ?_
                          refine lv_bipush (v := 6) hx hb dX6_readWord_178 (by decide) ?_
                          refine lv_idiv hx hb dX6_readWord_180 (by decide) ?_
                          refine sk_top (nI (i / 6)) (ndiv i 6 (by omega) (by omega) (by omega)) ?_
                          refine lv_iadd hx hb dX6_readWord_181 ?_
                          refine sk_top (nI (256 + (i / 6))) (nI_add 256 (i / 6)) ?_
                          refine sk_put (ws' := [ro_rninnnii (q 2) 6 (q 0) za xv xo (256 + (i / 6)) xz xf xp, ro_rn (q 0) 10 (q 20) tl, ra_N (q 20) cI 1600 tb]) (C := RX6) (T := TX6) (N := 8) (v := .int (nI (256 + (i / 6)))) hx hb hts inlX6 tyX6 tyX6_ok nmX6 hown hK hP hD hS 0 rfl rfl 4 (Nat.le_of_ble_eq_true rfl) w_1_60 rfl rfl rfl (Nat.le_of_ble_eq_true rfl) rfl dX6_readWord_182 (fun H locs hP hD hS => ?_)
                          exact sk_vret hx hb hr hlocks hK hP hD hS (⟨za, nI (256 + (i / 6)), hza, hend, (wt_some (by omega) hno (eqP_cw (by omega) h6 wl_let (by omega) (by rw [show 6 = jj by omega]; exact (rr_1 hal (by omega))))).symm, rfl⟩) (Nat.le_of_ble_eq_true rfl) (Nat.le_of_ble_eq_true rfl) dX6_readWord_185
                      · have c_30 : ¬ (6 ≤ jj) := fun h => c_30 ((nle 6 jj (Nat.le_of_ble_eq_true rfl) (by omega)).mpr h)
                        refine lv_iload_n hx hb dX6_readWord_106 rfl (lv_at hl 1 rfl) ?_
                        refine lv_if_eq (tgt := 169) hx hb dX6_readWord_107 (by decide) (fun c_32 => ?_) (fun c_32 => ?_)
                        · have c_32 : al = 0 := (neq al 0 (by omega) (Nat.le_of_ble_eq_true rfl)).mp c_32
                          refine lv_iload_n hx hb dX6_readWord_169 rfl (lv_at hl 1 rfl) ?_
                          refine lv_if_eq (tgt := 186) hx hb dX6_readWord_170 (by decide) (fun c_33 => ?_) (fun c_33 => ?_)
                          · have c_33 : al = 0 := (neq al 0 (by omega) (Nat.le_of_ble_eq_true rfl)).mp c_33
                            refine lv_iinc (v := nI (i + 6)) (lv' := [(1, .int (nI (i + 6))), (3, .int (nI jj)), (2, .int (nI al)), (0, .ref (q 2))]) hx hb dX6_readWord_186 hl (k := 2) rfl (ninc i 6 (by decide)) (by decide) rfl (fun ls hl => ?_)
                            refine lv_goto (tgt := 84) hx hb dX6_readWord_189 (by decide) ?_
                            exact ih_lp_24 (i + 6) _ _ _ (by omega) (by omega) (by omega) (by rw [show (i + 6) / 6 = i / 6 + 1 by omega]; exact noW_s hno (eqP_no (by omega) h6 (by omega) (rr_0 hal (by omega)))) hP hD hS (lv_sub hl [0, 3] rfl)
                          · have c_33 : ¬ (al = 0) := fun h => c_33 ((neq al 0 (by omega) (Nat.le_of_ble_eq_true rfl)).mpr h)
                            refine lv_aload_n hx hb dX6_readWord_173 rfl (lv_at hl 3 rfl) ?_
                            refine lv_sipush (v := 256) hx hb dX6_readWord_174 (by decide) ?_
                            refine lv_iload_n hx hb dX6_readWord_177 rfl (lv_at hl 2 rfl) ?_
                            refine lv_bipush (v := 6) hx hb dX6_readWord_178 (by decide) ?_
                            refine lv_idiv hx hb dX6_readWord_180 (by decide) ?_
                            refine sk_top (nI (i / 6)) (ndiv i 6 (by omega) (by omega) (by omega)) ?_
                            refine lv_iadd hx hb dX6_readWord_181 ?_
                            refine sk_top (nI (256 + (i / 6))) (nI_add 256 (i / 6)) ?_
                            refine sk_put (ws' := [ro_rninnnii (q 2) 6 (q 0) za xv xo (256 + (i / 6)) xz xf xp, ro_rn (q 0) 10 (q 20) tl, ra_N (q 20) cI 1600 tb]) (C := RX6) (T := TX6) (N := 8) (v := .int (nI (256 + (i / 6)))) hx hb hts inlX6 tyX6 tyX6_ok nmX6 hown hK hP hD hS 0 rfl rfl 4 (Nat.le_of_ble_eq_true rfl) w_1_60 rfl rfl rfl (Nat.le_of_ble_eq_true rfl) rfl dX6_readWord_182 (fun H locs hP hD hS => ?_)
                            exact sk_vret hx hb hr hlocks hK hP hD hS (⟨za, nI (256 + (i / 6)), hza, hend, (wt_some (by omega) hno (eqP_cw (by omega) h6 wl_let (by omega) (by rw [show 6 = jj by omega]; exact (rr_1 hal (by omega))))).symm, rfl⟩) (Nat.le_of_ble_eq_true rfl) (Nat.le_of_ble_eq_true rfl) dX6_readWord_185
                        · have c_32 : ¬ (al = 0) := fun h => c_32 ((neq al 0 (by omega) (Nat.le_of_ble_eq_true rfl)).mpr h)
                          have jn_34 : ∀ (lt : Nat) (H : Heap) (locs : List Loc) (ls : Array Slot), ((wl tb tl xz).getD jj 32 = lt) → (lt ≤ 255) → va_P D vwCl [ro_rnininii (q 2) 6 (q 0) za xv xo (-2) xz xf xp, ro_rn (q 0) 10 (q 20) tl, ra_N (q 20) cI 1600 tb] H → va_D A [ro_rnininii (q 2) 6 (q 0) za xv xo (-2) xz xf xp, ro_rn (q 0) 10 (q 20) tl, ra_N (q 20) cI 1600 tb] → va_S A s.heap H locs → lv_has ls 5 [(3, .int (nI jj)), (2, .int (nI al)), (1, .int (nI i)), (0, .ref (q 2))] → W p l e { frames := 4, cells := 0, slots := 0, locals := 85 } s m ([.ref (q 2)] : List Value).toArray below meth c H locs 0 0 (MQ below (skV D (skT cI cJ cC cZ cS) (fun (u : va_W) => ∃ (xa2 : Nat), ∃ (xt2 : Int32), xa2 ≤ 1600 ∧ xa2 = ext qL tb tl xz ∧ xt2 = wordTok (wl tb tl xz) ∧ u = [ro_rnininii (q 2) 6 (q 0) xa2 xv xo xt2 xz xf xp, ro_rn (q 0) 10 (q 20) tl, ra_N (q 20) cI 1600 tb]) A) ([.ref (q 2)] : List Value).toArray s 0 0 A) (F0 m 142 ls [.int (nI lt)]) := by
                            intro lt H locs ls hlt hltb hP hD hS hl
                            refine lv_istore (lv' := [(4, .int (nI lt)), (3, .int (nI jj)), (2, .int (nI al)), (1, .int (nI i)), (0, .ref (q 2))]) hx hb dX6_readWord_142 hl (by decide) rfl (fun ls hl => ?_)
                            refine va_ldcS hx hb hown hZ.1 dX6_readWord_144 ?_
                            refine lv_iload_n hx hb dX6_readWord_146 rfl (lv_at hl 3 rfl) ?_
                            refine lv_iload_n hx hb dX6_readWord_147 rfl (lv_at hl 1 rfl) ?_
                            refine lv_iadd hx hb dX6_readWord_148 ?_
                            refine sk_top (nI (i + jj)) (nI_add i jj) ?_
                            refine sk_ViS (n := 1) (rest := []) (wr := [ro_rnininii (q 2) 6 (q 0) za xv xo (-2) xz xf xp, ro_rn (q 0) 10 (q 20) tl, ra_N (q 20) cI 1600 tb]) ⟨hx, hb, hml, hown, hts⟩ hl.1 (c_str_charAt l D cI cJ cC cZ cS zk zv zf (i + jj) (by omega)) w_3_4 w_3_5 w_3_6 w_1_16 w_3_7 hd_J0_charAt_5068e_1 ⟨⟨(Nat.le_of_ble_eq_true rfl), (Nat.le_of_ble_eq_true rfl)⟩, (Nat.le_of_ble_eq_true rfl), (Nat.le_of_ble_eq_true rfl)⟩ hK hP hD hS hZ hA [] [0, 1, 2] rfl rfl (by decide +kernel) (by decide +kernel) (by decide +kernel) rfl rfl rfl rfl (Nat.le_of_ble_eq_true rfl) dX6_readWord_149 (fun r_35 u H locs hw hP hD hS => ?_)
                            obtain ⟨hv_36, rfl⟩ := hw
                            refine o_re (ws' := [ro_rnininii (q 2) 6 (q 0) za xv xo (-2) xz xf xp, ro_rn (q 0) 10 (q 20) tl, ra_N (q 20) cI 1600 tb]) hP hD rfl (fun hP hD => ?_)
                            refine lv_iload hx hb dX6_readWord_152 (lv_at hl 0 rfl) ?_
                            refine lv_icmp_ne (tgt := 161) hx hb dX6_readWord_154 (by decide) (fun c_37 => ?_) (fun c_37 => ?_)
                            · skip
                              refine lv_iconst (v := 0) hx hb dX6_readWord_161 ic_0 ?_
                              refine lv_istore_n (lv' := [(2, .int 0), (4, .int (nI lt)), (3, .int (nI jj)), (1, .int (nI i)), (0, .ref (q 2))]) hx hb dX6_readWord_162 rfl hl (by decide) rfl (fun ls hl => ?_)
                              refine lv_iinc (v := nI (jj + 1)) (lv' := [(3, .int (nI (jj + 1))), (2, .int 0), (4, .int (nI lt)), (1, .int (nI i)), (0, .ref (q 2))]) hx hb dX6_readWord_163 hl (k := 2) rfl (ninc jj 1 (by decide)) (by decide) rfl (fun ls hl => ?_)
                              refine lv_goto (tgt := 100) hx hb dX6_readWord_166 (by decide) ?_
                              exact ih_lp_28 (jj + 1) 0 _ _ _ (by omega) (by omega) (Or.inl ⟨rfl, eqP_n (fun hq => c_37 (by rw [hv_36, hq, hlt]))⟩) hP hD hS (lv_sub hl [0, 1, 3, 4] rfl)
                            · skip
                              refine lv_iconst (v := 1) hx hb dX6_readWord_157 ic_1 ?_
                              refine lv_goto (tgt := 162) hx hb dX6_readWord_158 (by decide) ?_
                              refine lv_istore_n (lv' := [(2, .int 1), (4, .int (nI lt)), (3, .int (nI jj)), (1, .int (nI i)), (0, .ref (q 2))]) hx hb dX6_readWord_162 rfl hl (by decide) rfl (fun ls hl => ?_)
                              refine lv_iinc (v := nI (jj + 1)) (lv' := [(3, .int (nI (jj + 1))), (2, .int 1), (4, .int (nI lt)), (1, .int (nI i)), (0, .ref (q 2))]) hx hb dX6_readWord_163 hl (k := 2) rfl (ninc jj 1 (by decide)) (by decide) rfl (fun ls hl => ?_)
                              refine lv_goto (tgt := 100) hx hb dX6_readWord_166 (by decide) ?_
                              exact ih_lp_28 (jj + 1) 1 _ _ _ (by omega) (by omega) (Or.inr ⟨rfl, eqP_s (rr_1 hal (by omega)) (by rw [← hv_36, c_37, hlt])⟩) hP hD hS (lv_sub hl [0, 1, 3, 4] rfl)
                          refine lv_aload_n hx hb dX6_readWord_110 rfl (lv_at hl 3 rfl) ?_
                          refine sk_get (v := .int (nI xz)) (C := RX6) (T := TX6) (N := 8) hx hb hts inlX6 hown hK hP 0 rfl rfl 5 (Nat.le_of_ble_eq_true rfl) w_1_64 rfl dX6_readWord_111 ?_
                          refine lv_iload_n hx hb dX6_readWord_114 rfl (lv_at hl 0 rfl) ?_
                          refine lv_iadd hx hb dX6_readWord_115 ?_
                          refine sk_top (nI (xz + jj)) (nI_add xz jj) ?_
                          refine lv_aload_n hx hb dX6_readWord_116 rfl (lv_at hl 3 rfl) ?_
                          refine sk_get (v := .int (nI za)) (C := RX6) (T := TX6) (N := 8) hx hb hts inlX6 hown hK hP 0 rfl rfl 1 (Nat.le_of_ble_eq_true rfl) w_1_57 rfl dX6_readWord_117 ?_
                          refine lv_icmp_ge (tgt := 140) hx hb dX6_readWord_120 (by decide) (fun c_38 => ?_) (fun c_38 => ?_)
                          · have c_38 : za ≤ xz + jj := (nle za (xz + jj) (by omega) (by omega)).mp c_38
                            refine lv_bipush (v := 32) hx hb dX6_readWord_140 (by decide) ?_
                            exact jn_34 32 _ _ _ (by rw [wl_getD, if_neg (by omega)]) (by omega) hP hD hS (lv_sub hl [0, 1, 2, 3] rfl)
                          · have c_38 : ¬ (za ≤ xz + jj) := fun h => c_38 ((nle za (xz + jj) (by omega) (by omega)).mpr h)
                            refine lv_aload_n hx hb dX6_readWord_123 rfl (lv_at hl 3 rfl) ?_
                            refine sk_get (v := .ref (q 0)) (C := RX6) (T := TX6) (N := 8) hx hb hts inlX6 hown hK hP 0 rfl rfl 0 (Nat.le_of_ble_eq_true rfl) w_1_56 rfl dX6_readWord_124 ?_
                            refine sk_get (v := .ref (q 20)) (C := RX10) (T := TX10) (N := 2) hx hb hts inlX10 hown hK hP 1 rfl rfl 0 (Nat.le_of_ble_eq_true rfl) w_1_40 rfl dX6_readWord_127 ?_
                            refine lv_aload_n hx hb dX6_readWord_130 rfl (lv_at hl 3 rfl) ?_
                            refine sk_get (v := .int (nI xz)) (C := RX6) (T := TX6) (N := 8) hx hb hts inlX6 hown hK hP 0 rfl rfl 5 (Nat.le_of_ble_eq_true rfl) w_1_64 rfl dX6_readWord_131 ?_
                            refine lv_iload_n hx hb dX6_readWord_134 rfl (lv_at hl 0 rfl) ?_
                            refine lv_iadd hx hb dX6_readWord_135 ?_
                            refine sk_top (nI (xz + jj)) (nI_add xz jj) ?_
                            refine va_iald hx hb hK.1 hP 2 0 rfl rfl (vin (xz + jj) 1600 (by omega) (Nat.le_of_ble_eq_true rfl)) dX6_readWord_136 ?_
                            refine sk_top (nI (tb (xz + jj))) (nrd tb (xz + jj) (by omega)) ?_
                            have hb_39 := htb (xz + jj)
                            refine lv_goto (tgt := 142) hx hb dX6_readWord_137 (by decide) ?_
                            exact jn_34 (tb (xz + jj)) _ _ _ (by rw [wl_getD, if_pos (by omega)]) (by omega) hP hD hS (lv_sub hl [0, 1, 2, 3] rfl)
                  exact lp_28 (6 - 0 + 1) 0 1 _ _ _ (Nat.lt_succ_self _) (by omega) (Or.inr ⟨rfl, eqP_0 _ _⟩) hP hD hS (lv_sub hl [0, 1, 2, 3] rfl)
            exact lp_24 (168 - 0 + 1) 0 _ _ _ (Nat.lt_succ_self _) (by omega) (by omega) (noW_0 _) hP hD hS (lv_sub hl [0, 1] rfl)
          · have c_23 : ¬ (za - xz ≤ 6) := fun h => c_23 ((nle (za - xz) 6 (by omega) (Nat.le_of_ble_eq_true rfl)).mpr h)
            exact sk_vret hx hb hr hlocks hK hP hD hS (⟨za, (-2), hza, hend, (wt_long (by omega)).symm, rfl⟩) (Nat.le_of_ble_eq_true rfl) (Nat.le_of_ble_eq_true rfl) dX6_readWord_81
        · have c_22 : ¬ (tb za < 97) := fun h => c_22 ((nlt (tb za) 97 (by omega) (Nat.le_of_ble_eq_true rfl)).mpr h)
          refine lv_aload_n hx hb dX6_readWord_31 rfl (lv_at hl 0 rfl) ?_
          refine sk_get (v := .ref (q 0)) (C := RX6) (T := TX6) (N := 8) hx hb hts inlX6 hown hK hP 0 rfl rfl 0 (Nat.le_of_ble_eq_true rfl) w_1_56 rfl dX6_readWord_32 ?_
          refine sk_get (v := .ref (q 20)) (C := RX10) (T := TX10) (N := 2) hx hb hts inlX10 hown hK hP 1 rfl rfl 0 (Nat.le_of_ble_eq_true rfl) w_1_40 rfl dX6_readWord_35 ?_
          refine lv_aload_n hx hb dX6_readWord_38 rfl (lv_at hl 0 rfl) ?_
          refine sk_get (v := .int (nI za)) (C := RX6) (T := TX6) (N := 8) hx hb hts inlX6 hown hK hP 0 rfl rfl 1 (Nat.le_of_ble_eq_true rfl) w_1_57 rfl dX6_readWord_39 ?_
          refine va_iald hx hb hK.1 hP 2 0 rfl rfl (vin za 1600 (by omega) (Nat.le_of_ble_eq_true rfl)) dX6_readWord_42 ?_
          refine sk_top (nI (tb za)) (nrd tb za (by omega)) ?_
          have hb_40 := htb za
          refine lv_bipush (v := 122) hx hb dX6_readWord_43 (by decide) ?_
          refine lv_icmp_gt (tgt := 61) hx hb dX6_readWord_45 (by decide) (fun c_41 => ?_) (fun c_41 => ?_)
          · have c_41 : 122 < tb za := (nlt 122 (tb za) (Nat.le_of_ble_eq_true rfl) (by omega)).mp c_41
            have hend : za = ext qL tb tl xz := ext_fin hze (by rw [qL_t]; omega)
            have hlen : (wl tb tl xz).length = za - xz := by rw [wl_len, ← hend]
            refine lv_aload_n hx hb dX6_readWord_61 rfl (lv_at hl 0 rfl) ?_
            refine lv_bipush (v := (-2)) hx hb dX6_readWord_62 (by decide) ?_
            refine sk_put (ws' := [ro_rnininii (q 2) 6 (q 0) za xv xo (-2) xz xf xp, ro_rn (q 0) 10 (q 20) tl, ra_N (q 20) cI 1600 tb]) (C := RX6) (T := TX6) (N := 8) (v := .int (-2)) hx hb hts inlX6 tyX6 tyX6_ok nmX6 hown hK hP hD hS 0 rfl rfl 4 (Nat.le_of_ble_eq_true rfl) w_1_60 rfl rfl rfl (Nat.le_of_ble_eq_true rfl) rfl dX6_readWord_64 (fun H locs hP hD hS => ?_)
            refine lv_aload_n hx hb dX6_readWord_67 rfl (lv_at hl 0 rfl) ?_
            refine sk_get (v := .int (nI za)) (C := RX6) (T := TX6) (N := 8) hx hb hts inlX6 hown hK hP 0 rfl rfl 1 (Nat.le_of_ble_eq_true rfl) w_1_57 rfl dX6_readWord_68 ?_
            refine lv_aload_n hx hb dX6_readWord_71 rfl (lv_at hl 0 rfl) ?_
            refine sk_get (v := .int (nI xz)) (C := RX6) (T := TX6) (N := 8) hx hb hts inlX6 hown hK hP 0 rfl rfl 5 (Nat.le_of_ble_eq_true rfl) w_1_64 rfl dX6_readWord_72 ?_
            refine lv_isub hx hb dX6_readWord_75 ?_
            refine sk_top (nI (za - xz)) (nsub za xz (by omega)) ?_
            refine lv_bipush (v := 6) hx hb dX6_readWord_76 (by decide) ?_
            refine lv_icmp_le (tgt := 82) hx hb dX6_readWord_78 (by decide) (fun c_42 => ?_) (fun c_42 => ?_)
            · have c_42 : za - xz ≤ 6 := (nle (za - xz) 6 (by omega) (Nat.le_of_ble_eq_true rfl)).mp c_42
              refine lv_iconst (v := 0) hx hb dX6_readWord_82 ic_0 ?_
              refine lv_istore_n (lv' := [(1, .int 0), (0, .ref (q 2))]) hx hb dX6_readWord_83 rfl hl (by decide) rfl (fun ls hl => ?_)
              have lp_43 : ∀ (n_44 : Nat) (i : Nat) (H : Heap) (locs : List Loc) (ls : Array Slot), 168 - i < n_44 → (i ≤ 168) → (i % 6 = 0) → (noW (i / 6) (wl tb tl xz)) → va_P D vwCl [ro_rnininii (q 2) 6 (q 0) za xv xo (-2) xz xf xp, ro_rn (q 0) 10 (q 20) tl, ra_N (q 20) cI 1600 tb] H → va_D A [ro_rnininii (q 2) 6 (q 0) za xv xo (-2) xz xf xp, ro_rn (q 0) 10 (q 20) tl, ra_N (q 20) cI 1600 tb] → va_S A s.heap H locs → lv_has ls 5 [(1, .int (nI i)), (0, .ref (q 2))] → W p l e { frames := 4, cells := 0, slots := 0, locals := 85 } s m ([.ref (q 2)] : List Value).toArray below meth c H locs 0 0 (MQ below (skV D (skT cI cJ cC cZ cS) (fun (u : va_W) => ∃ (xa2 : Nat), ∃ (xt2 : Int32), xa2 ≤ 1600 ∧ xa2 = ext qL tb tl xz ∧ xt2 = wordTok (wl tb tl xz) ∧ u = [ro_rnininii (q 2) 6 (q 0) xa2 xv xo xt2 xz xf xp, ro_rn (q 0) 10 (q 20) tl, ra_N (q 20) cI 1600 tb]) A) ([.ref (q 2)] : List Value).toArray s 0 0 A) (F0 m 84 ls []) := by
                intro n_44
                induction n_44 with
                | zero => intro i H locs ls hm; exact absurd hm (Nat.not_lt_zero _)
                | succ n_44 ih_lp_43 =>
                  intro i H locs ls hm hi h6 hno hP hD hS hl
                  refine lv_iload_n hx hb dX6_readWord_84 rfl (lv_at hl 0 rfl) ?_
                  refine lv_bipush (v := 6) hx hb dX6_readWord_85 (by decide) ?_
                  refine lv_iadd hx hb dX6_readWord_87 ?_
                  refine sk_top (nI (i + 6)) (nI_add i 6) ?_
                  refine va_ldcS hx hb hown hZ.1 dX6_readWord_88 ?_
                  refine sk_ViS (n := 0) (rest := [.int (nI (i + 6))]) (wr := [ro_rnininii (q 2) 6 (q 0) za xv xo (-2) xz xf xp, ro_rn (q 0) 10 (q 20) tl, ra_N (q 20) cI 1600 tb]) ⟨hx, hb, hml, hown, hts⟩ hl.1 (c_str_length l D cI cJ cC cZ cS zk zv zf) w_2_234 w_2_235 w_2_236 w_1_16 w_2_237 hd_J0_length_8abf5_0 ⟨⟨(Nat.le_of_ble_eq_true rfl), (Nat.le_of_ble_eq_true rfl)⟩, (Nat.le_of_ble_eq_true rfl), (Nat.le_of_ble_eq_true rfl)⟩ hK hP hD hS hZ hA [] [0, 1, 2] rfl rfl (by decide +kernel) (by decide +kernel) (by decide +kernel) rfl rfl rfl rfl (Nat.le_of_ble_eq_true rfl) dX6_readWord_90 (fun r_45 u H locs hw hP hD hS => ?_)
                  obtain ⟨rfl, rfl⟩ := hw
                  refine o_re (ws' := [ro_rnininii (q 2) 6 (q 0) za xv xo (-2) xz xf xp, ro_rn (q 0) 10 (q 20) tl, ra_N (q 20) cI 1600 tb]) hP hD rfl (fun hP hD => ?_)
                  refine lv_icmp_gt (tgt := 192) hx hb dX6_readWord_93 (by decide) (fun c_46 => ?_) (fun c_46 => ?_)
                  · have c_46 : 168 < i + 6 := (nlt 168 (i + 6) (Nat.le_of_ble_eq_true rfl) (by omega)).mp c_46
                    exact sk_vret hx hb hr hlocks hK hP hD hS (⟨za, (-2), hza, hend, (wt_none (show noW 28 _ by rw [show 28 = i / 6 by omega]; exact hno)).symm, rfl⟩) (Nat.le_of_ble_eq_true rfl) (Nat.le_of_ble_eq_true rfl) dX6_readWord_192
                  · have c_46 : ¬ (168 < i + 6) := fun h => c_46 ((nlt 168 (i + 6) (Nat.le_of_ble_eq_true rfl) (by omega)).mpr h)
                    refine lv_iconst (v := 1) hx hb dX6_readWord_96 ic_1 ?_
                    refine lv_istore_n (lv' := [(2, .int 1), (1, .int (nI i)), (0, .ref (q 2))]) hx hb dX6_readWord_97 rfl hl (by decide) rfl (fun ls hl => ?_)
                    refine lv_iconst (v := 0) hx hb dX6_readWord_98 ic_0 ?_
                    refine lv_istore_n (lv' := [(3, .int 0), (2, .int 1), (1, .int (nI i)), (0, .ref (q 2))]) hx hb dX6_readWord_99 rfl hl (by decide) rfl (fun ls hl => ?_)
                    have lp_47 : ∀ (n_48 : Nat) (jj : Nat) (al : Nat) (H : Heap) (locs : List Loc) (ls : Array Slot), 6 - jj < n_48 → (jj ≤ 6) → ((al = 0 ∧ ¬ eqP i (wl tb tl xz) jj) ∨ (al = 1 ∧ eqP i (wl tb tl xz) jj)) → va_P D vwCl [ro_rnininii (q 2) 6 (q 0) za xv xo (-2) xz xf xp, ro_rn (q 0) 10 (q 20) tl, ra_N (q 20) cI 1600 tb] H → va_D A [ro_rnininii (q 2) 6 (q 0) za xv xo (-2) xz xf xp, ro_rn (q 0) 10 (q 20) tl, ra_N (q 20) cI 1600 tb] → va_S A s.heap H locs → lv_has ls 5 [(3, .int (nI jj)), (2, .int (nI al)), (1, .int (nI i)), (0, .ref (q 2))] → W p l e { frames := 4, cells := 0, slots := 0, locals := 85 } s m ([.ref (q 2)] : List Value).toArray below meth c H locs 0 0 (MQ below (skV D (skT cI cJ cC cZ cS) (fun (u : va_W) => ∃ (xa2 : Nat), ∃ (xt2 : Int32), xa2 ≤ 1600 ∧ xa2 = ext qL tb tl xz ∧ xt2 = wordTok (wl tb tl xz) ∧ u = [ro_rnininii (q 2) 6 (q 0) xa2 xv xo xt2 xz xf xp, ro_rn (q 0) 10 (q 20) tl, ra_N (q 20) cI 1600 tb]) A) ([.ref (q 2)] : List Value).toArray s 0 0 A) (F0 m 100 ls []) := by
                      intro n_48
                      induction n_48 with
                      | zero => intro jj al H locs ls hm; exact absurd hm (Nat.not_lt_zero _)
                      | succ n_48 ih_lp_47 =>
                        intro jj al H locs ls hm hjj hal hP hD hS hl
                        refine lv_iload_n hx hb dX6_readWord_100 rfl (lv_at hl 0 rfl) ?_
                        refine lv_bipush (v := 6) hx hb dX6_readWord_101 (by decide) ?_
                        refine lv_icmp_ge (tgt := 169) hx hb dX6_readWord_103 (by decide) (fun c_49 => ?_) (fun c_49 => ?_)
                        · have c_49 : 6 ≤ jj := (nle 6 jj (Nat.le_of_ble_eq_true rfl) (by omega)).mp c_49
                          refine lv_iload_n hx hb dX6_readWord_169 rfl (lv_at hl 1 rfl) ?_
                          refine lv_if_eq (tgt := 186) hx hb dX6_readWord_170 (by decide) (fun c_50 => ?_) (fun c_50 => ?_)
                          · have c_50 : al = 0 := (neq al 0 (by omega) (Nat.le_of_ble_eq_true rfl)).mp c_50
                            refine lv_iinc (v := nI (i + 6)) (lv' := [(1, .int (nI (i + 6))), (3, .int (nI jj)), (2, .int (nI al)), (0, .ref (q 2))]) hx hb dX6_readWord_186 hl (k := 2) rfl (ninc i 6 (by decide)) (by decide) rfl (fun ls hl => ?_)
                            refine lv_goto (tgt := 84) hx hb dX6_readWord_189 (by decide) ?_
                            exact ih_lp_43 (i + 6) _ _ _ (by omega) (by omega) (by omega) (by rw [show (i + 6) / 6 = i / 6 + 1 by omega]; exact noW_s hno (eqP_no (by omega) h6 (by omega) (rr_0 hal (by omega)))) hP hD hS (lv_sub hl [0, 3] rfl)
                          · have c_50 : ¬ (al = 0) := fun h => c_50 ((neq al 0 (by omega) (Nat.le_of_ble_eq_true rfl)).mpr h)
                            refine lv_aload_n hx hb dX6_readWord_173 rfl (lv_at hl 3 rfl) ?_
                            refine lv_sipush (v := 256) hx hb dX6_readWord_174 (by decide) ?_
                            refine lv_iload_n hx hb dX6_readWord_177 rfl (lv_at hl 2 rfl) ?_
                            refine lv_bipush (v := 6) hx hb dX6_readWord_178 (by decide) ?_
                            refine lv_idiv hx hb dX6_readWord_180 (by decide) ?_
                            refine sk_top (nI (i / 6)) (ndiv i 6 (by omega) (by omega) (by omega)) ?_
                            refine lv_iadd hx hb dX6_readWord_181 ?_
                            refine sk_top (nI (256 + (i / 6))) (nI_add 256 (i / 6)) ?_
                            refine sk_put (ws' := [ro_rninnnii (q 2) 6 (q 0) za xv xo (256 + (i / 6)) xz xf xp, ro_rn (q 0) 10 (q 20) tl, ra_N (q 20) cI 1600 tb]) (C := RX6) (T := TX6) (N := 8) (v := .int (nI (256 + (i / 6)))) hx hb hts inlX6 tyX6 tyX6_ok nmX6 hown hK hP hD hS 0 rfl rfl 4 (Nat.le_of_ble_eq_true rfl) w_1_60 rfl rfl rfl (Nat.le_of_ble_eq_true rfl) rfl dX6_readWord_182 (fun H locs hP hD hS => ?_)
                            exact sk_vret hx hb hr hlocks hK hP hD hS (⟨za, nI (256 + (i / 6)), hza, hend, (wt_some (by omega) hno (eqP_cw (by omega) h6 wl_let (by omega) (by rw [show 6 = jj by omega]; exact (rr_1 hal (by omega))))).symm, rfl⟩) (Nat.le_of_ble_eq_true rfl) (Nat.le_of_ble_eq_true rfl) dX6_readWord_185
                        · have c_49 : ¬ (6 ≤ jj) := fun h => c_49 ((nle 6 jj (Nat.le_of_ble_eq_true rfl) (by omega)).mpr h)
                          refine lv_iload_n hx hb dX6_readWord_106 rfl (lv_at hl 1 rfl) ?_
                          refine lv_if_eq (tgt := 169) hx hb dX6_readWord_107 (by decide) (fun c_51 => ?_) (fun c_51 => ?_)
                          · have c_51 : al = 0 := (neq al 0 (by omega) (Nat.le_of_ble_eq_true rfl)).mp c_51
                            refine lv_iload_n hx hb dX6_readWord_169 rfl (lv_at hl 1 rfl) ?_
                            refine lv_if_eq (tgt := 186) hx hb dX6_readWord_170 (by decide) (fun c_52 => ?_) (fun c_52 => ?_)
                            · have c_52 : al = 0 := (neq al 0 (by omega) (Nat.le_of_ble_eq_true rfl)).mp c_52
                              refine lv_iinc (v := nI (i + 6)) (lv' := [(1, .int (nI (i + 6))), (3, .int (nI jj)), (2, .int (nI al)), (0, .ref (q 2))]) hx hb dX6_readWord_186 hl (k := 2) rfl (ninc i 6 (by decide)) (by decide) rfl (fun ls hl => ?_)
                              refine lv_goto (tgt := 84) hx hb dX6_readWord_189 (by decide) ?_
                              exact ih_lp_43 (i + 6) _ _ _ (by omega) (by omega) (by omega) (by rw [show (i + 6) / 6 = i / 6 + 1 by omega]; exact noW_s hno (eqP_no (by omega) h6 (by omega) (rr_0 hal (by omega)))) hP hD hS (lv_sub hl [0, 3] rfl)
                            · have c_52 : ¬ (al = 0) := fun h => c_52 ((neq al 0 (by omega) (Nat.le_of_ble_eq_true rfl)).mpr h)
                              refine lv_aload_n hx hb dX6_readWord_173 rfl (lv_at hl 3 rfl) ?_
                              refine lv_sipush (v := 256) hx hb dX6_readWord_174 (by decide) ?_
                              refine lv_iload_n hx hb dX6_readWord_177 rfl (lv_at hl 2 rfl) ?_
                              refine lv_bipush (v := 6) hx hb dX6_readWord_178 (by decide) ?_
                              refine lv_idiv hx hb dX6_readWord_180 (by decide) ?_
                              refine sk_top (nI (i / 6)) (ndiv i 6 (by omega) (by omega) (by omega)) ?_
                              refine lv_iadd hx hb dX6_readWord_181 ?_
                              refine sk_top (nI (256 + (i / 6))) (nI_add 256 (i / 6)) ?_
                              refine sk_put (ws' := [ro_rninnnii (q 2) 6 (q 0) za xv xo (256 + (i / 6)) xz xf xp, ro_rn (q 0) 10 (q 20) tl, ra_N (q 20) cI 1600 tb]) (C := RX6) (T := TX6) (N := 8) (v := .int (nI (256 + (i / 6)))) hx hb hts inlX6 tyX6 tyX6_ok nmX6 hown hK hP hD hS 0 rfl rfl 4 (Nat.le_of_ble_eq_true rfl) w_1_60 rfl rfl rfl (Nat.le_of_ble_eq_true rfl) rfl dX6_readWord_182 (fun H locs hP hD hS => ?_)
                              exact sk_vret hx hb hr hlocks hK hP hD hS (⟨za, nI (256 + (i / 6)), hza, hend, (wt_some (by omega) hno (eqP_cw (by omega) h6 wl_let (by omega) (by rw [show 6 = jj by omega]; exact (rr_1 hal (by omega))))).symm, rfl⟩) (Nat.le_of_ble_eq_true rfl) (Nat.le_of_ble_eq_true rfl) dX6_readWord_185
                          · have c_51 : ¬ (al = 0) := fun h => c_51 ((neq al 0 (by omega) (Nat.le_of_ble_eq_true rfl)).mpr h)
                            have jn_53 : ∀ (lt : Nat) (H : Heap) (locs : List Loc) (ls : Array Slot), ((wl tb tl xz).getD jj 32 = lt) → (lt ≤ 255) → va_P D vwCl [ro_rnininii (q 2) 6 (q 0) za xv xo (-2) xz xf xp, ro_rn (q 0) 10 (q 20) tl, ra_N (q 20) cI 1600 tb] H → va_D A [ro_rnininii (q 2) 6 (q 0) za xv xo (-2) xz xf xp, ro_rn (q 0) 10 (q 20) tl, ra_N (q 20) cI 1600 tb] → va_S A s.heap H locs → lv_has ls 5 [(3, .int (nI jj)), (2, .int (nI al)), (1, .int (nI i)), (0, .ref (q 2))] → W p l e { frames := 4, cells := 0, slots := 0, locals := 85 } s m ([.ref (q 2)] : List Value).toArray below meth c H locs 0 0 (MQ below (skV D (skT cI cJ cC cZ cS) (fun (u : va_W) => ∃ (xa2 : Nat), ∃ (xt2 : Int32), xa2 ≤ 1600 ∧ xa2 = ext qL tb tl xz ∧ xt2 = wordTok (wl tb tl xz) ∧ u = [ro_rnininii (q 2) 6 (q 0) xa2 xv xo xt2 xz xf xp, ro_rn (q 0) 10 (q 20) tl, ra_N (q 20) cI 1600 tb]) A) ([.ref (q 2)] : List Value).toArray s 0 0 A) (F0 m 142 ls [.int (nI lt)]) := by
                              intro lt H locs ls hlt hltb hP hD hS hl
                              refine lv_istore (lv' := [(4, .int (nI lt)), (3, .int (nI jj)), (2, .int (nI al)), (1, .int (nI i)), (0, .ref (q 2))]) hx hb dX6_readWord_142 hl (by decide) rfl (fun ls hl => ?_)
                              refine va_ldcS hx hb hown hZ.1 dX6_readWord_144 ?_
                              refine lv_iload_n hx hb dX6_readWord_146 rfl (lv_at hl 3 rfl) ?_
                              refine lv_iload_n hx hb dX6_readWord_147 rfl (lv_at hl 1 rfl) ?_
                              refine lv_iadd hx hb dX6_readWord_148 ?_
                              refine sk_top (nI (i + jj)) (nI_add i jj) ?_
                              refine sk_ViS (n := 1) (rest := []) (wr := [ro_rnininii (q 2) 6 (q 0) za xv xo (-2) xz xf xp, ro_rn (q 0) 10 (q 20) tl, ra_N (q 20) cI 1600 tb]) ⟨hx, hb, hml, hown, hts⟩ hl.1 (c_str_charAt l D cI cJ cC cZ cS zk zv zf (i + jj) (by omega)) w_3_4 w_3_5 w_3_6 w_1_16 w_3_7 hd_J0_charAt_5068e_1 ⟨⟨(Nat.le_of_ble_eq_true rfl), (Nat.le_of_ble_eq_true rfl)⟩, (Nat.le_of_ble_eq_true rfl), (Nat.le_of_ble_eq_true rfl)⟩ hK hP hD hS hZ hA [] [0, 1, 2] rfl rfl (by decide +kernel) (by decide +kernel) (by decide +kernel) rfl rfl rfl rfl (Nat.le_of_ble_eq_true rfl) dX6_readWord_149 (fun r_54 u H locs hw hP hD hS => ?_)
                              obtain ⟨hv_55, rfl⟩ := hw
                              refine o_re (ws' := [ro_rnininii (q 2) 6 (q 0) za xv xo (-2) xz xf xp, ro_rn (q 0) 10 (q 20) tl, ra_N (q 20) cI 1600 tb]) hP hD rfl (fun hP hD => ?_)
                              refine lv_iload hx hb dX6_readWord_152 (lv_at hl 0 rfl) ?_
                              refine lv_icmp_ne (tgt := 161) hx hb dX6_readWord_154 (by decide) (fun c_56 => ?_) (fun c_56 => ?_)
                              · skip
                                refine lv_iconst (v := 0) hx hb dX6_readWord_161 ic_0 ?_
                                refine lv_istore_n (lv' := [(2, .int 0), (4, .int (nI lt)), (3, .int (nI jj)), (1, .int (nI i)), (0, .ref (q 2))]) hx hb dX6_readWord_162 rfl hl (by decide) rfl (fun ls hl => ?_)
                                refine lv_iinc (v := nI (jj + 1)) (lv' := [(3, .int (nI (jj + 1))), (2, .int 0), (4, .int (nI lt)), (1, .int (nI i)), (0, .ref (q 2))]) hx hb dX6_readWord_163 hl (k := 2) rfl (ninc jj 1 (by decide)) (by decide) rfl (fun ls hl => ?_)
                                refine lv_goto (tgt := 100) hx hb dX6_readWord_166 (by decide) ?_
                                exact ih_lp_47 (jj + 1) 0 _ _ _ (by omega) (by omega) (Or.inl ⟨rfl, eqP_n (fun hq => c_56 (by rw [hv_55, hq, hlt]))⟩) hP hD hS (lv_sub hl [0, 1, 3, 4] rfl)
                              · skip
                                refine lv_iconst (v := 1) hx hb dX6_readWord_157 ic_1 ?_
                                refine lv_goto (tgt := 162) hx hb dX6_readWord_158 (by decide) ?_
                                refine lv_istore_n (lv' := [(2, .int 1), (4, .int (nI lt)), (3, .int (nI jj)), (1, .int (nI i)), (0, .ref (q 2))]) hx hb dX6_readWord_162 rfl hl (by decide) rfl (fun ls hl => ?_)
                                refine lv_iinc (v := nI (jj + 1)) (lv' := [(3, .int (nI (jj + 1))), (2, .int 1), (4, .int (nI lt)), (1, .int (nI i)), (0, .ref (q 2))]) hx hb dX6_readWord_163 hl (k := 2) rfl (ninc jj 1 (by decide)) (by decide) rfl (fun ls hl => ?_)
                                refine lv_goto (tgt := 100) hx hb dX6_readWord_166 (by decide) ?_
                                exact ih_lp_47 (jj + 1) 1 _ _ _ (by omega) (by omega) (Or.inr ⟨rfl, eqP_s (rr_1 hal (by omega)) (by rw [← hv_55, c_56, hlt])⟩) hP hD hS (lv_sub hl [0, 1, 3, 4] rfl)
                            refine lv_aload_n hx hb dX6_readWord_110 rfl (lv_at hl 3 rfl) ?_
                            refine sk_get (v := .int (nI xz)) (C := RX6) (T := TX6) (N := 8) hx hb hts inlX6 hown hK hP 0 rfl rfl 5 (Nat.le_of_ble_eq_true rfl) w_1_64 rfl dX6_readWord_111 ?_
                            refine lv_iload_n hx hb dX6_readWord_114 rfl (lv_at hl 0 rfl) ?_
                            refine lv_iadd hx hb dX6_readWord_115 ?_
                            refine sk_top (nI (xz + jj)) (nI_add xz jj) ?_
                            refine lv_aload_n hx hb dX6_readWord_116 rfl (lv_at hl 3 rfl) ?_
                            refine sk_get (v := .int (nI za)) (C := RX6) (T := TX6) (N := 8) hx hb hts inlX6 hown hK hP 0 rfl rfl 1 (Nat.le_of_ble_eq_true rfl) w_1_57 rfl dX6_readWord_117 ?_
                            refine lv_icmp_ge (tgt := 140) hx hb dX6_readWord_120 (by decide) (fun c_57 => ?_) (fun c_57 => ?_)
                            · have c_57 : za ≤ xz + jj := (nle za (xz + jj) (by omega) (by omega)).mp c_57
                              refine lv_bipush (v := 32) hx hb dX6_readWord_140 (by decide) ?_
                              exact jn_53 32 _ _ _ (by rw [wl_getD, if_neg (by omega)]) (by omega) hP hD hS (lv_sub hl [0, 1, 2, 3] rfl)
                            · have c_57 : ¬ (za ≤ xz + jj) := fun h => c_57 ((nle za (xz + jj) (by omega) (by omega)).mpr h)
                              refine lv_aload_n hx hb dX6_readWord_123 rfl (lv_at hl 3 rfl) ?_
                              refine sk_get (v := .ref (q 0)) (C := RX6) (T := TX6) (N := 8) hx hb hts inlX6 hown hK hP 0 rfl rfl 0 (Nat.le_of_ble_eq_true rfl) w_1_56 rfl dX6_readWord_124 ?_
                              refine sk_get (v := .ref (q 20)) (C := RX10) (T := TX10) (N := 2) hx hb hts inlX10 hown hK hP 1 rfl rfl 0 (Nat.le_of_ble_eq_true rfl) w_1_40 rfl dX6_readWord_127 ?_
                              refine lv_aload_n hx hb dX6_readWord_130 rfl (lv_at hl 3 rfl) ?_
                              refine sk_get (v := .int (nI xz)) (C := RX6) (T := TX6) (N := 8) hx hb hts inlX6 hown hK hP 0 rfl rfl 5 (Nat.le_of_ble_eq_true rfl) w_1_64 rfl dX6_readWord_131 ?_
                              refine lv_iload_n hx hb dX6_readWord_134 rfl (lv_at hl 0 rfl) ?_
                              refine lv_iadd hx hb dX6_readWord_135 ?_
                              refine sk_top (nI (xz + jj)) (nI_add xz jj) ?_
                              refine va_iald hx hb hK.1 hP 2 0 rfl rfl (vin (xz + jj) 1600 (by omega) (Nat.le_of_ble_eq_true rfl)) dX6_readWord_136 ?_
                              refine sk_top (nI (tb (xz + jj))) (nrd tb (xz + jj) (by omega)) ?_
                              have hb_58 := htb (xz + jj)
                              refine lv_goto (tgt := 142) hx hb dX6_readWord_137 (by decide) ?_
                              exact jn_53 (tb (xz + jj)) _ _ _ (by rw [wl_getD, if_pos (by omega)]) (by omega) hP hD hS (lv_sub hl [0, 1, 2, 3] rfl)
                    exact lp_47 (6 - 0 + 1) 0 1 _ _ _ (Nat.lt_succ_self _) (by omega) (Or.inr ⟨rfl, eqP_0 _ _⟩) hP hD hS (lv_sub hl [0, 1, 2, 3] rfl)
              exact lp_43 (168 - 0 + 1) 0 _ _ _ (Nat.lt_succ_self _) (by omega) (by omega) (noW_0 _) hP hD hS (lv_sub hl [0, 1] rfl)
            · have c_42 : ¬ (za - xz ≤ 6) := fun h => c_42 ((nle (za - xz) 6 (by omega) (Nat.le_of_ble_eq_true rfl)).mpr h)
              exact sk_vret hx hb hr hlocks hK hP hD hS (⟨za, (-2), hza, hend, (wt_long (by omega)).symm, rfl⟩) (Nat.le_of_ble_eq_true rfl) (Nat.le_of_ble_eq_true rfl) dX6_readWord_81
          · have c_41 : ¬ (122 < tb za) := fun h => c_41 ((nlt 122 (tb za) (Nat.le_of_ble_eq_true rfl) (by omega)).mpr h)
            refine lv_aload_n hx hb dX6_readWord_48 rfl (lv_at hl 0 rfl) ?_
            refine lv_dup hx hb dX6_readWord_49 rfl ?_
            refine sk_get (v := .int (nI za)) (C := RX6) (T := TX6) (N := 8) hx hb hts inlX6 hown hK hP 0 rfl rfl 1 (Nat.le_of_ble_eq_true rfl) w_1_57 rfl dX6_readWord_50 ?_
            refine lv_iconst (v := 1) hx hb dX6_readWord_53 ic_1 ?_
            refine lv_iadd hx hb dX6_readWord_54 ?_
            refine sk_top (nI (za + 1)) (nI_add za 1) ?_
            refine sk_put (ws' := [ro_rnininii (q 2) 6 (q 0) (za + 1) xv xo xt xz xf xp, ro_rn (q 0) 10 (q 20) tl, ra_N (q 20) cI 1600 tb]) (C := RX6) (T := TX6) (N := 8) (v := .int (nI (za + 1))) hx hb hts inlX6 tyX6 tyX6_ok nmX6 hown hK hP hD hS 0 rfl rfl 1 (Nat.le_of_ble_eq_true rfl) w_1_57 rfl rfl rfl (Nat.le_of_ble_eq_true rfl) rfl dX6_readWord_55 (fun H locs hP hD hS => ?_)
            refine lv_goto (tgt := 0) hx hb dX6_readWord_58 (by decide) ?_
            exact ih_lp_1 (za + 1) _ _ _ (by omega) (by omega) (by omega) (ext_nxt hze (by omega) (qL_t.mpr (by omega))) hP hD hS (lv_sub hl [0] rfl)
  exact lp_1 (tl - xa + 1) xa _ _ _ (Nat.lt_succ_self _) hxa (by omega) (by rw [hax]) hP hD hS (lv_sub hl [0] rfl)
set_option maxHeartbeats 4000000 in
set_option maxRecDepth 100000 in
theorem c_erd_step (l : Launch) (D : va_G) (cI cJ cC cZ cS : ClassId) (zk zv : Nat) (zf : Value) (q : Nat → Nat) (xa : Nat) (xv : Int32) (xo : Nat) (xt : Int32) (xz : Nat) (xf : Int32) (xp : Int32) (tl : Nat) (tb : Nat → Nat) (bg : Except Err Cur) (hxa : xa ≤ 1600) (hxz : xz ≤ 1600) (htl : tl ≤ 1600) (htb : ∀ j, tb j ≤ 255) (hO : stO tl bg xa xt xf xp) : skMZ zk zv zf l yX6_step cX6_step 3 none 5 109 0 0 D (skT cI cJ cC cZ cS) [.ref (q 2)] [ro_rnininii (q 2) 6 (q 0) xa xv xo xt xz xf xp, ro_rn (q 0) 10 (q 20) tl, ra_N (q 20) cI 1600 tb] (skV D (skT cI cJ cC cZ cS) (fun (u : va_W) => ∃ (xa2 : Nat), ∃ (xv2 : Int32), ∃ (xt2 : Int32), ∃ (xz2 : Nat), xa2 ≤ 1600 ∧ xz2 ≤ 1600 ∧ rdO tb tl (bindR bg (stF tb tl)) xa2 xv2 xt2 xz2 xf xp ∧ u = [ro_rnininii (q 2) 6 (q 0) xa2 xv2 xo xt2 xz2 xf xp, ro_rn (q 0) 10 (q 20) tl, ra_N (q 20) cI 1600 tb])) := by
  refine skMZ_of pf_X6_step (Nat.le_of_ble_eq_true rfl) ?_
  intro p e s m below meth c A ls E hP hD hZ hl
  refine skE_el E (fun hx hb hr hml hlocks hin hown hts hK hA => ?_)
  have hown : s.vm.findClass RX6 = some m.cls := hown
  have hS : va_S A s.heap s.heap [] := va_S.rf
  have hl : lv_has ls 3 [(0, .ref (q 2))] := hl
  refine lv_aload_n hx hb dX6_step_0 rfl (lv_at hl 0 rfl) ?_
  refine sk_get (v := .int xf) (C := RX6) (T := TX6) (N := 8) hx hb hts inlX6 hown hK hP 0 rfl rfl 6 (Nat.le_of_ble_eq_true rfl) w_1_66 rfl dX6_step_1 ?_
  refine lv_if_eq (tgt := 8) hx hb dX6_step_4 (by decide) (fun c_1 => ?_) (fun c_1 => ?_)
  · obtain ⟨cu, hbg, hxp, hxc, hcn, hfl⟩ := stO_ok hO c_1
    have jn_2 : ∀ (bh : Int32) (H : Heap) (locs : List Loc) (ls : Array Slot), (bhO cu bh) → va_P D vwCl [ro_rnininii (q 2) 6 (q 0) xa xv xo xt xz xf xp, ro_rn (q 0) 10 (q 20) tl, ra_N (q 20) cI 1600 tb] H → va_D A [ro_rnininii (q 2) 6 (q 0) xa xv xo xt xz xf xp, ro_rn (q 0) 10 (q 20) tl, ra_N (q 20) cI 1600 tb] → va_S A s.heap H locs → lv_has ls 3 [(0, .ref (q 2))] → W p l e { frames := 5, cells := 0, slots := 0, locals := 109 } s m ([.ref (q 2)] : List Value).toArray below meth c H locs 0 0 (MQ below (skV D (skT cI cJ cC cZ cS) (fun (u : va_W) => ∃ (xa2 : Nat), ∃ (xv2 : Int32), ∃ (xt2 : Int32), ∃ (xz2 : Nat), xa2 ≤ 1600 ∧ xz2 ≤ 1600 ∧ rdO tb tl (bindR bg (stF tb tl)) xa2 xv2 xt2 xz2 xf xp ∧ u = [ro_rnininii (q 2) 6 (q 0) xa2 xv2 xo xt2 xz2 xf xp, ro_rn (q 0) 10 (q 20) tl, ra_N (q 20) cI 1600 tb]) A) ([.ref (q 2)] : List Value).toArray s 0 0 A) (F0 m 35 ls [.int bh]) := by
      intro bh H locs ls hbh hP hD hS hl
      refine lv_istore_n (lv' := [(1, .int bh), (0, .ref (q 2))]) hx hb dX6_step_35 rfl hl (by decide) rfl (fun ls hl => ?_)
      have lp_3 : ∀ (n_4 : Nat) (za : Nat) (H : Heap) (locs : List Loc) (ls : Array Slot), tl - za < n_4 → (za ≤ 1600) → (ext qB tb tl za = ext qB tb tl xa) → va_P D vwCl [ro_rnininii (q 2) 6 (q 0) za xv xo xt xz xf xp, ro_rn (q 0) 10 (q 20) tl, ra_N (q 20) cI 1600 tb] H → va_D A [ro_rnininii (q 2) 6 (q 0) za xv xo xt xz xf xp, ro_rn (q 0) 10 (q 20) tl, ra_N (q 20) cI 1600 tb] → va_S A s.heap H locs → lv_has ls 3 [(1, .int bh), (0, .ref (q 2))] → W p l e { frames := 5, cells := 0, slots := 0, locals := 109 } s m ([.ref (q 2)] : List Value).toArray below meth c H locs 0 0 (MQ below (skV D (skT cI cJ cC cZ cS) (fun (u : va_W) => ∃ (xa2 : Nat), ∃ (xv2 : Int32), ∃ (xt2 : Int32), ∃ (xz2 : Nat), xa2 ≤ 1600 ∧ xz2 ≤ 1600 ∧ rdO tb tl (bindR bg (stF tb tl)) xa2 xv2 xt2 xz2 xf xp ∧ u = [ro_rnininii (q 2) 6 (q 0) xa2 xv2 xo xt2 xz2 xf xp, ro_rn (q 0) 10 (q 20) tl, ra_N (q 20) cI 1600 tb]) A) ([.ref (q 2)] : List Value).toArray s 0 0 A) (F0 m 36 ls []) := by
        intro n_4
        induction n_4 with
        | zero => intro za H locs ls hm; exact absurd hm (Nat.not_lt_zero _)
        | succ n_4 ih_lp_3 =>
          intro za H locs ls hm hza hze hP hD hS hl
          refine lv_aload_n hx hb dX6_step_36 rfl (lv_at hl 1 rfl) ?_
          refine sk_get (v := .int (nI za)) (C := RX6) (T := TX6) (N := 8) hx hb hts inlX6 hown hK hP 0 rfl rfl 1 (Nat.le_of_ble_eq_true rfl) w_1_57 rfl dX6_step_37 ?_
          refine lv_aload_n hx hb dX6_step_40 rfl (lv_at hl 1 rfl) ?_
          refine sk_get (v := .ref (q 0)) (C := RX6) (T := TX6) (N := 8) hx hb hts inlX6 hown hK hP 0 rfl rfl 0 (Nat.le_of_ble_eq_true rfl) w_1_56 rfl dX6_step_41 ?_
          refine sk_get (v := .int (nI tl)) (C := RX10) (T := TX10) (N := 2) hx hb hts inlX10 hown hK hP 1 rfl rfl 1 (Nat.le_of_ble_eq_true rfl) w_1_43 rfl dX6_step_44 ?_
          refine lv_icmp_ge (tgt := 97) hx hb dX6_step_47 (by decide) (fun c_5 => ?_) (fun c_5 => ?_)
          · have c_5 : tl ≤ za := (nle tl za (by omega) (by omega)).mp c_5
            have hzs : za = sk tb tl cu.1 := by rw [← hxc]; exact ext_fin hze (by rw [qB_t]; omega)
            have jn_6 : ∀ (ya : Nat) (yv : Int32) (yk : Int32) (yz : Nat) (H : Heap) (locs : List Loc) (ls : Array Slot), (ya ≤ 1600) → (yz = za) → (za < tl) → (ya = te tb tl za) → (tkU tb tl za yk yv) → va_P D vwCl [ro_rnininii (q 2) 6 (q 0) ya yv xo yk yz xf xp, ro_rn (q 0) 10 (q 20) tl, ra_N (q 20) cI 1600 tb] H → va_D A [ro_rnininii (q 2) 6 (q 0) ya yv xo yk yz xf xp, ro_rn (q 0) 10 (q 20) tl, ra_N (q 20) cI 1600 tb] → va_S A s.heap H locs → lv_has ls 3 [(1, .int bh), (0, .ref (q 2))] → W p l e { frames := 5, cells := 0, slots := 0, locals := 109 } s m ([.ref (q 2)] : List Value).toArray below meth c H locs 0 0 (MQ below (skV D (skT cI cJ cC cZ cS) (fun (u : va_W) => ∃ (xa2 : Nat), ∃ (xv2 : Int32), ∃ (xt2 : Int32), ∃ (xz2 : Nat), xa2 ≤ 1600 ∧ xz2 ≤ 1600 ∧ rdO tb tl (bindR bg (stF tb tl)) xa2 xv2 xt2 xz2 xf xp ∧ u = [ro_rnininii (q 2) 6 (q 0) xa2 xv2 xo xt2 xz2 xf xp, ro_rn (q 0) 10 (q 20) tl, ra_N (q 20) cI 1600 tb]) A) ([.ref (q 2)] : List Value).toArray s 0 0 A) (F0 m 192 ls []) := by
              intro ya yv yk yz H locs ls hya hyz hyl hye hyt hP hD hS hl
              refine lv_aload_n hx hb dX6_step_192 rfl (lv_at hl 1 rfl) ?_
              refine sk_get (v := .int (nI yz)) (C := RX6) (T := TX6) (N := 8) hx hb hts inlX6 hown hK hP 0 rfl rfl 5 (Nat.le_of_ble_eq_true rfl) w_1_64 rfl dX6_step_193 ?_
              refine lv_iload_n hx hb dX6_step_196 rfl (lv_at hl 0 rfl) ?_
              refine lv_icmp_ne (tgt := 206) hx hb dX6_step_197 (by decide) (fun c_7 => ?_) (fun c_7 => ?_)
              · skip
                exact sk_vret hx hb hr hlocks hK hP hD hS (⟨ya, yv, yk, yz, hya, by omega, by subst hyz; exact st_wnN hbg c_1 hxp hzs (by omega) htl hcn hyt hye hbh c_7, rfl⟩) (Nat.le_of_ble_eq_true rfl) (Nat.le_of_ble_eq_true rfl) dX6_step_206
              · skip
                refine lv_aload_n hx hb dX6_step_200 rfl (lv_at hl 1 rfl) ?_
                refine lv_bipush (v := (-2)) hx hb dX6_step_201 (by decide) ?_
                refine sk_put (ws' := [ro_rnininii (q 2) 6 (q 0) ya yv xo (-2) yz xf xp, ro_rn (q 0) 10 (q 20) tl, ra_N (q 20) cI 1600 tb]) (C := RX6) (T := TX6) (N := 8) (v := .int (-2)) hx hb hts inlX6 tyX6 tyX6_ok nmX6 hown hK hP hD hS 0 rfl rfl 4 (Nat.le_of_ble_eq_true rfl) w_1_60 rfl rfl rfl (Nat.le_of_ble_eq_true rfl) rfl dX6_step_203 (fun H locs hP hD hS => ?_)
                exact sk_vret hx hb hr hlocks hK hP hD hS (⟨ya, yv, (-2), yz, hya, by omega, by subst hyz; exact st_wnE hbg c_1 hxp hzs (by omega) htl hcn hyt hye hbh c_7, rfl⟩) (Nat.le_of_ble_eq_true rfl) (Nat.le_of_ble_eq_true rfl) dX6_step_206
            refine lv_aload_n hx hb dX6_step_97 rfl (lv_at hl 1 rfl) ?_
            refine lv_aload_n hx hb dX6_step_98 rfl (lv_at hl 1 rfl) ?_
            refine sk_get (v := .int (nI za)) (C := RX6) (T := TX6) (N := 8) hx hb hts inlX6 hown hK hP 0 rfl rfl 1 (Nat.le_of_ble_eq_true rfl) w_1_57 rfl dX6_step_99 ?_
            refine sk_put (ws' := [ro_rnininii (q 2) 6 (q 0) za xv xo xt za xf xp, ro_rn (q 0) 10 (q 20) tl, ra_N (q 20) cI 1600 tb]) (C := RX6) (T := TX6) (N := 8) (v := .int (nI za)) hx hb hts inlX6 tyX6 tyX6_ok nmX6 hown hK hP hD hS 0 rfl rfl 5 (Nat.le_of_ble_eq_true rfl) w_1_64 rfl rfl rfl (Nat.le_of_ble_eq_true rfl) rfl dX6_step_102 (fun H locs hP hD hS => ?_)
            refine lv_aload_n hx hb dX6_step_105 rfl (lv_at hl 1 rfl) ?_
            refine sk_get (v := .int (nI za)) (C := RX6) (T := TX6) (N := 8) hx hb hts inlX6 hown hK hP 0 rfl rfl 1 (Nat.le_of_ble_eq_true rfl) w_1_57 rfl dX6_step_106 ?_
            refine lv_aload_n hx hb dX6_step_109 rfl (lv_at hl 1 rfl) ?_
            refine sk_get (v := .ref (q 0)) (C := RX6) (T := TX6) (N := 8) hx hb hts inlX6 hown hK hP 0 rfl rfl 0 (Nat.le_of_ble_eq_true rfl) w_1_56 rfl dX6_step_110 ?_
            refine sk_get (v := .int (nI tl)) (C := RX10) (T := TX10) (N := 2) hx hb hts inlX10 hown hK hP 1 rfl rfl 1 (Nat.le_of_ble_eq_true rfl) w_1_43 rfl dX6_step_113 ?_
            refine lv_icmp_lt (tgt := 125) hx hb dX6_step_116 (by decide) (fun c_8 => ?_) (fun c_8 => ?_)
            · have c_8 : za < tl := (nlt za tl (by omega) (by omega)).mp c_8
              refine lv_aload_n hx hb dX6_step_125 rfl (lv_at hl 1 rfl) ?_
              refine sk_get (v := .ref (q 0)) (C := RX6) (T := TX6) (N := 8) hx hb hts inlX6 hown hK hP 0 rfl rfl 0 (Nat.le_of_ble_eq_true rfl) w_1_56 rfl dX6_step_126 ?_
              refine sk_get (v := .ref (q 20)) (C := RX10) (T := TX10) (N := 2) hx hb hts inlX10 hown hK hP 1 rfl rfl 0 (Nat.le_of_ble_eq_true rfl) w_1_40 rfl dX6_step_129 ?_
              refine lv_aload_n hx hb dX6_step_132 rfl (lv_at hl 1 rfl) ?_
              refine sk_get (v := .int (nI za)) (C := RX6) (T := TX6) (N := 8) hx hb hts inlX6 hown hK hP 0 rfl rfl 1 (Nat.le_of_ble_eq_true rfl) w_1_57 rfl dX6_step_133 ?_
              refine va_iald hx hb hK.1 hP 2 0 rfl rfl (vin za 1600 (by omega) (Nat.le_of_ble_eq_true rfl)) dX6_step_136 ?_
              refine sk_top (nI (tb za)) (nrd tb za (by omega)) ?_
              have hb_9 := htb za
              refine lv_istore_n (lv' := [(2, .int (nI (tb za))), (1, .int bh), (0, .ref (q 2))]) hx hb dX6_step_137 rfl hl (by decide) rfl (fun ls hl => ?_)
              refine lv_iload_n hx hb dX6_step_138 rfl (lv_at hl 0 rfl) ?_
              refine lv_bipush (v := 97) hx hb dX6_step_139 (by decide) ?_
              refine lv_icmp_lt (tgt := 157) hx hb dX6_step_141 (by decide) (fun c_10 => ?_) (fun c_10 => ?_)
              · have c_10 : tb za < 97 := (nlt (tb za) 97 (by omega) (Nat.le_of_ble_eq_true rfl)).mp c_10
                refine lv_iload_n hx hb dX6_step_157 rfl (lv_at hl 0 rfl) ?_
                refine lv_bipush (v := 48) hx hb dX6_step_158 (by decide) ?_
                refine lv_icmp_lt (tgt := 176) hx hb dX6_step_160 (by decide) (fun c_11 => ?_) (fun c_11 => ?_)
                · have c_11 : tb za < 48 := (nlt (tb za) 48 (by omega) (Nat.le_of_ble_eq_true rfl)).mp c_11
                  refine lv_aload_n hx hb dX6_step_176 rfl (lv_at hl 2 rfl) ?_
                  refine lv_dup hx hb dX6_step_177 rfl ?_
                  refine sk_get (v := .int (nI za)) (C := RX6) (T := TX6) (N := 8) hx hb hts inlX6 hown hK hP 0 rfl rfl 1 (Nat.le_of_ble_eq_true rfl) w_1_57 rfl dX6_step_178 ?_
                  refine lv_iconst (v := 1) hx hb dX6_step_181 ic_1 ?_
                  refine lv_iadd hx hb dX6_step_182 ?_
                  refine sk_top (nI (za + 1)) (nI_add za 1) ?_
                  refine sk_put (ws' := [ro_rnininii (q 2) 6 (q 0) (za + 1) xv xo xt za xf xp, ro_rn (q 0) 10 (q 20) tl, ra_N (q 20) cI 1600 tb]) (C := RX6) (T := TX6) (N := 8) (v := .int (nI (za + 1))) hx hb hts inlX6 tyX6 tyX6_ok nmX6 hown hK hP hD hS 0 rfl rfl 1 (Nat.le_of_ble_eq_true rfl) w_1_57 rfl rfl rfl (Nat.le_of_ble_eq_true rfl) rfl dX6_step_183 (fun H locs hP hD hS => ?_)
                  refine lv_aload_n hx hb dX6_step_186 rfl (lv_at hl 2 rfl) ?_
                  refine lv_iload_n hx hb dX6_step_187 rfl (lv_at hl 0 rfl) ?_
                  refine sk_put (ws' := [ro_rninnnii (q 2) 6 (q 0) (za + 1) xv xo (tb za) za xf xp, ro_rn (q 0) 10 (q 20) tl, ra_N (q 20) cI 1600 tb]) (C := RX6) (T := TX6) (N := 8) (v := .int (nI (tb za))) hx hb hts inlX6 tyX6 tyX6_ok nmX6 hown hK hP hD hS 0 rfl rfl 4 (Nat.le_of_ble_eq_true rfl) w_1_60 rfl rfl rfl (Nat.le_of_ble_eq_true rfl) rfl dX6_step_188 (fun H locs hP hD hS => ?_)
                  exact sk_vret hx hb hr hlocks hK hP hD hS (⟨za + 1, xv, nI (tb za), za, by omega, hza, st_sign htb hbg c_1 hxp hzs (by omega) (qL_f (by omega)) (qD_f (by omega)), rfl⟩) (Nat.le_of_ble_eq_true rfl) (Nat.le_of_ble_eq_true rfl) dX6_step_191
                · have c_11 : ¬ (tb za < 48) := fun h => c_11 ((nlt (tb za) 48 (by omega) (Nat.le_of_ble_eq_true rfl)).mpr h)
                  refine lv_iload_n hx hb dX6_step_163 rfl (lv_at hl 0 rfl) ?_
                  refine lv_bipush (v := 57) hx hb dX6_step_164 (by decide) ?_
                  refine lv_icmp_gt (tgt := 176) hx hb dX6_step_166 (by decide) (fun c_12 => ?_) (fun c_12 => ?_)
                  · have c_12 : 57 < tb za := (nlt 57 (tb za) (Nat.le_of_ble_eq_true rfl) (by omega)).mp c_12
                    refine lv_aload_n hx hb dX6_step_176 rfl (lv_at hl 2 rfl) ?_
                    refine lv_dup hx hb dX6_step_177 rfl ?_
                    refine sk_get (v := .int (nI za)) (C := RX6) (T := TX6) (N := 8) hx hb hts inlX6 hown hK hP 0 rfl rfl 1 (Nat.le_of_ble_eq_true rfl) w_1_57 rfl dX6_step_178 ?_
                    refine lv_iconst (v := 1) hx hb dX6_step_181 ic_1 ?_
                    refine lv_iadd hx hb dX6_step_182 ?_
                    refine sk_top (nI (za + 1)) (nI_add za 1) ?_
                    refine sk_put (ws' := [ro_rnininii (q 2) 6 (q 0) (za + 1) xv xo xt za xf xp, ro_rn (q 0) 10 (q 20) tl, ra_N (q 20) cI 1600 tb]) (C := RX6) (T := TX6) (N := 8) (v := .int (nI (za + 1))) hx hb hts inlX6 tyX6 tyX6_ok nmX6 hown hK hP hD hS 0 rfl rfl 1 (Nat.le_of_ble_eq_true rfl) w_1_57 rfl rfl rfl (Nat.le_of_ble_eq_true rfl) rfl dX6_step_183 (fun H locs hP hD hS => ?_)
                    refine lv_aload_n hx hb dX6_step_186 rfl (lv_at hl 2 rfl) ?_
                    refine lv_iload_n hx hb dX6_step_187 rfl (lv_at hl 0 rfl) ?_
                    refine sk_put (ws' := [ro_rninnnii (q 2) 6 (q 0) (za + 1) xv xo (tb za) za xf xp, ro_rn (q 0) 10 (q 20) tl, ra_N (q 20) cI 1600 tb]) (C := RX6) (T := TX6) (N := 8) (v := .int (nI (tb za))) hx hb hts inlX6 tyX6 tyX6_ok nmX6 hown hK hP hD hS 0 rfl rfl 4 (Nat.le_of_ble_eq_true rfl) w_1_60 rfl rfl rfl (Nat.le_of_ble_eq_true rfl) rfl dX6_step_188 (fun H locs hP hD hS => ?_)
                    exact sk_vret hx hb hr hlocks hK hP hD hS (⟨za + 1, xv, nI (tb za), za, by omega, hza, st_sign htb hbg c_1 hxp hzs (by omega) (qL_f (by omega)) (qD_f (by omega)), rfl⟩) (Nat.le_of_ble_eq_true rfl) (Nat.le_of_ble_eq_true rfl) dX6_step_191
                  · have c_12 : ¬ (57 < tb za) := fun h => c_12 ((nlt 57 (tb za) (Nat.le_of_ble_eq_true rfl) (by omega)).mpr h)
                    refine lv_aload_n hx hb dX6_step_169 rfl (lv_at hl 2 rfl) ?_
                    refine sk_Vv (q0 := 0) (n := 0) (rest := []) (wr := fmR om_3_7 _) ⟨hx, hb, hml, hown, hts⟩ hl.1 (c_erd_readNumber l D cI cJ cC cZ cS q za xv xo xt za xf xp tl tb hza hza htl htb (by omega)) w_3_42 w_3_44 w_0_3 w_1_4 w_3_45 hd_X6_readNumber_0 ⟨⟨(Nat.le_of_ble_eq_true rfl), (Nat.le_of_ble_eq_true rfl)⟩, (Nat.le_of_ble_eq_true rfl), (Nat.le_of_ble_eq_true rfl)⟩ hK hP hD hS hA (fmT om_3_7 0) (fmF om_3_7 0) (fm_C1 rfl rfl) (fm_R rfl rfl) (fm_nT om_3_7 0) (fm_nF om_3_7 0) (fm_di om_3_7 0) rfl rfl rfl rfl (Nat.le_of_ble_eq_true rfl) dX6_step_170 (fun u H locs hw hP hD hS => ?_)
                    refine exE hw (fun xa2_13 hw1 => exE hw1 (fun xv2_14 hw2 => anE hw2 (fun hxa2_15 hw3 => anE hw3 (fun hxe_16 hw4 => anE hw4 (fun hxv_17 eu_18 => ?_)))))
                    clear hw hw1 hw2 hw3 hw4
                    refine o_mgE (ws' := [ro_rnininii (q 2) 6 (q 0) xa2_13 xv2_14 xo (-3) za xf xp, ro_rn (q 0) 10 (q 20) tl, ra_N (q 20) cI 1600 tb]) eu_18 hP hD rfl (fun hP hD => ?_)
                    refine lv_goto (tgt := 192) hx hb dX6_step_173 (by decide) ?_
                    exact jn_6 xa2_13 xv2_14 (-3) za _ _ _ hxa2_15 rfl (by omega) (by rw [hxe_16, te_n (qL_f (by omega)) (qD_t.mpr (by omega))]) (Or.inr ⟨qL_f (by omega), qD_t.mpr (by omega), rfl, hxv_17⟩) hP hD hS (lv_sub hl [1, 2] rfl)
              · have c_10 : ¬ (tb za < 97) := fun h => c_10 ((nlt (tb za) 97 (by omega) (Nat.le_of_ble_eq_true rfl)).mpr h)
                refine lv_iload_n hx hb dX6_step_144 rfl (lv_at hl 0 rfl) ?_
                refine lv_bipush (v := 122) hx hb dX6_step_145 (by decide) ?_
                refine lv_icmp_gt (tgt := 157) hx hb dX6_step_147 (by decide) (fun c_19 => ?_) (fun c_19 => ?_)
                · have c_19 : 122 < tb za := (nlt 122 (tb za) (Nat.le_of_ble_eq_true rfl) (by omega)).mp c_19
                  refine lv_iload_n hx hb dX6_step_157 rfl (lv_at hl 0 rfl) ?_
                  refine lv_bipush (v := 48) hx hb dX6_step_158 (by decide) ?_
                  refine lv_icmp_lt (tgt := 176) hx hb dX6_step_160 (by decide) (fun c_20 => ?_) (fun c_20 => ?_)
                  · have c_20 : tb za < 48 := (nlt (tb za) 48 (by omega) (Nat.le_of_ble_eq_true rfl)).mp c_20
                    refine lv_aload_n hx hb dX6_step_176 rfl (lv_at hl 2 rfl) ?_
                    refine lv_dup hx hb dX6_step_177 rfl ?_
                    refine sk_get (v := .int (nI za)) (C := RX6) (T := TX6) (N := 8) hx hb hts inlX6 hown hK hP 0 rfl rfl 1 (Nat.le_of_ble_eq_true rfl) w_1_57 rfl dX6_step_178 ?_
                    refine lv_iconst (v := 1) hx hb dX6_step_181 ic_1 ?_
                    refine lv_iadd hx hb dX6_step_182 ?_
                    refine sk_top (nI (za + 1)) (nI_add za 1) ?_
                    refine sk_put (ws' := [ro_rnininii (q 2) 6 (q 0) (za + 1) xv xo xt za xf xp, ro_rn (q 0) 10 (q 20) tl, ra_N (q 20) cI 1600 tb]) (C := RX6) (T := TX6) (N := 8) (v := .int (nI (za + 1))) hx hb hts inlX6 tyX6 tyX6_ok nmX6 hown hK hP hD hS 0 rfl rfl 1 (Nat.le_of_ble_eq_true rfl) w_1_57 rfl rfl rfl (Nat.le_of_ble_eq_true rfl) rfl dX6_step_183 (fun H locs hP hD hS => ?_)
                    refine lv_aload_n hx hb dX6_step_186 rfl (lv_at hl 2 rfl) ?_
                    refine lv_iload_n hx hb dX6_step_187 rfl (lv_at hl 0 rfl) ?_
                    refine sk_put (ws' := [ro_rninnnii (q 2) 6 (q 0) (za + 1) xv xo (tb za) za xf xp, ro_rn (q 0) 10 (q 20) tl, ra_N (q 20) cI 1600 tb]) (C := RX6) (T := TX6) (N := 8) (v := .int (nI (tb za))) hx hb hts inlX6 tyX6 tyX6_ok nmX6 hown hK hP hD hS 0 rfl rfl 4 (Nat.le_of_ble_eq_true rfl) w_1_60 rfl rfl rfl (Nat.le_of_ble_eq_true rfl) rfl dX6_step_188 (fun H locs hP hD hS => ?_)
                    exact sk_vret hx hb hr hlocks hK hP hD hS (⟨za + 1, xv, nI (tb za), za, by omega, hza, st_sign htb hbg c_1 hxp hzs (by omega) (qL_f (by omega)) (qD_f (by omega)), rfl⟩) (Nat.le_of_ble_eq_true rfl) (Nat.le_of_ble_eq_true rfl) dX6_step_191
                  · have c_20 : ¬ (tb za < 48) := fun h => c_20 ((nlt (tb za) 48 (by omega) (Nat.le_of_ble_eq_true rfl)).mpr h)
                    refine lv_iload_n hx hb dX6_step_163 rfl (lv_at hl 0 rfl) ?_
                    refine lv_bipush (v := 57) hx hb dX6_step_164 (by decide) ?_
                    refine lv_icmp_gt (tgt := 176) hx hb dX6_step_166 (by decide) (fun c_21 => ?_) (fun c_21 => ?_)
                    · have c_21 : 57 < tb za := (nlt 57 (tb za) (Nat.le_of_ble_eq_true rfl) (by omega)).mp c_21
                      refine lv_aload_n hx hb dX6_step_176 rfl (lv_at hl 2 rfl) ?_
                      refine lv_dup hx hb dX6_step_177 rfl ?_
                      refine sk_get (v := .int (nI za)) (C := RX6) (T := TX6) (N := 8) hx hb hts inlX6 hown hK hP 0 rfl rfl 1 (Nat.le_of_ble_eq_true rfl) w_1_57 rfl dX6_step_178 ?_
                      refine lv_iconst (v := 1) hx hb dX6_step_181 ic_1 ?_
                      refine lv_iadd hx hb dX6_step_182 ?_
                      refine sk_top (nI (za + 1)) (nI_add za 1) ?_
                      refine sk_put (ws' := [ro_rnininii (q 2) 6 (q 0) (za + 1) xv xo xt za xf xp, ro_rn (q 0) 10 (q 20) tl, ra_N (q 20) cI 1600 tb]) (C := RX6) (T := TX6) (N := 8) (v := .int (nI (za + 1))) hx hb hts inlX6 tyX6 tyX6_ok nmX6 hown hK hP hD hS 0 rfl rfl 1 (Nat.le_of_ble_eq_true rfl) w_1_57 rfl rfl rfl (Nat.le_of_ble_eq_true rfl) rfl dX6_step_183 (fun H locs hP hD hS => ?_)
                      refine lv_aload_n hx hb dX6_step_186 rfl (lv_at hl 2 rfl) ?_
                      refine lv_iload_n hx hb dX6_step_187 rfl (lv_at hl 0 rfl) ?_
                      refine sk_put (ws' := [ro_rninnnii (q 2) 6 (q 0) (za + 1) xv xo (tb za) za xf xp, ro_rn (q 0) 10 (q 20) tl, ra_N (q 20) cI 1600 tb]) (C := RX6) (T := TX6) (N := 8) (v := .int (nI (tb za))) hx hb hts inlX6 tyX6 tyX6_ok nmX6 hown hK hP hD hS 0 rfl rfl 4 (Nat.le_of_ble_eq_true rfl) w_1_60 rfl rfl rfl (Nat.le_of_ble_eq_true rfl) rfl dX6_step_188 (fun H locs hP hD hS => ?_)
                      exact sk_vret hx hb hr hlocks hK hP hD hS (⟨za + 1, xv, nI (tb za), za, by omega, hza, st_sign htb hbg c_1 hxp hzs (by omega) (qL_f (by omega)) (qD_f (by omega)), rfl⟩) (Nat.le_of_ble_eq_true rfl) (Nat.le_of_ble_eq_true rfl) dX6_step_191
                    · have c_21 : ¬ (57 < tb za) := fun h => c_21 ((nlt 57 (tb za) (Nat.le_of_ble_eq_true rfl) (by omega)).mpr h)
                      refine lv_aload_n hx hb dX6_step_169 rfl (lv_at hl 2 rfl) ?_
                      refine sk_Vv (q0 := 0) (n := 0) (rest := []) (wr := fmR om_3_7 _) ⟨hx, hb, hml, hown, hts⟩ hl.1 (c_erd_readNumber l D cI cJ cC cZ cS q za xv xo xt za xf xp tl tb hza hza htl htb (by omega)) w_3_42 w_3_44 w_0_3 w_1_4 w_3_45 hd_X6_readNumber_0 ⟨⟨(Nat.le_of_ble_eq_true rfl), (Nat.le_of_ble_eq_true rfl)⟩, (Nat.le_of_ble_eq_true rfl), (Nat.le_of_ble_eq_true rfl)⟩ hK hP hD hS hA (fmT om_3_7 0) (fmF om_3_7 0) (fm_C1 rfl rfl) (fm_R rfl rfl) (fm_nT om_3_7 0) (fm_nF om_3_7 0) (fm_di om_3_7 0) rfl rfl rfl rfl (Nat.le_of_ble_eq_true rfl) dX6_step_170 (fun u H locs hw hP hD hS => ?_)
                      refine exE hw (fun xa2_22 hw1 => exE hw1 (fun xv2_23 hw2 => anE hw2 (fun hxa2_24 hw3 => anE hw3 (fun hxe_25 hw4 => anE hw4 (fun hxv_26 eu_27 => ?_)))))
                      clear hw hw1 hw2 hw3 hw4
                      refine o_mgE (ws' := [ro_rnininii (q 2) 6 (q 0) xa2_22 xv2_23 xo (-3) za xf xp, ro_rn (q 0) 10 (q 20) tl, ra_N (q 20) cI 1600 tb]) eu_27 hP hD rfl (fun hP hD => ?_)
                      refine lv_goto (tgt := 192) hx hb dX6_step_173 (by decide) ?_
                      exact jn_6 xa2_22 xv2_23 (-3) za _ _ _ hxa2_24 rfl (by omega) (by rw [hxe_25, te_n (qL_f (by omega)) (qD_t.mpr (by omega))]) (Or.inr ⟨qL_f (by omega), qD_t.mpr (by omega), rfl, hxv_26⟩) hP hD hS (lv_sub hl [1, 2] rfl)
                · have c_19 : ¬ (122 < tb za) := fun h => c_19 ((nlt 122 (tb za) (Nat.le_of_ble_eq_true rfl) (by omega)).mpr h)
                  refine lv_aload_n hx hb dX6_step_150 rfl (lv_at hl 2 rfl) ?_
                  refine sk_VvZ (q0 := 0) (n := 0) (rest := []) (wr := fmR om_3_7 _) ⟨hx, hb, hml, hown, hts⟩ hl.1 (c_erd_readWord l D cI cJ cC cZ cS zk zv zf q za xv xo xt za xf xp tl tb hza hza htl htb (by omega)) w_2_229 w_2_231 w_0_2 w_1_4 w_2_232 hd_X6_readWord_0 ⟨⟨(Nat.le_of_ble_eq_true rfl), (Nat.le_of_ble_eq_true rfl)⟩, (Nat.le_of_ble_eq_true rfl), (Nat.le_of_ble_eq_true rfl)⟩ hK hP hD hS hZ hA (fmT om_3_7 0) (fmF om_3_7 0) (fm_C1 rfl rfl) (fm_R rfl rfl) (fm_nT om_3_7 0) (fm_nF om_3_7 0) (fm_di om_3_7 0) rfl rfl rfl rfl (Nat.le_of_ble_eq_true rfl) dX6_step_151 (fun u H locs hw hP hD hS => ?_)
                  refine exE hw (fun xa2_28 hw1 => exE hw1 (fun xt2_29 hw2 => anE hw2 (fun hxa2_30 hw3 => anE hw3 (fun hxe_31 hw4 => anE hw4 (fun hxt_32 eu_33 => ?_)))))
                  clear hw hw1 hw2 hw3 hw4
                  refine o_mgE (ws' := [ro_rnininii (q 2) 6 (q 0) xa2_28 xv xo xt2_29 za xf xp, ro_rn (q 0) 10 (q 20) tl, ra_N (q 20) cI 1600 tb]) eu_33 hP hD rfl (fun hP hD => ?_)
                  refine lv_goto (tgt := 192) hx hb dX6_step_154 (by decide) ?_
                  exact jn_6 xa2_28 xv xt2_29 za _ _ _ hxa2_30 rfl (by omega) (by rw [hxe_31, te_w (qL_t.mpr (by omega))]) (Or.inl ⟨qL_t.mpr (by omega), hxt_32⟩) hP hD hS (lv_sub hl [1, 2] rfl)
            · have c_8 : ¬ (za < tl) := fun h => c_8 ((nlt za tl (by omega) (by omega)).mpr h)
              refine lv_aload_n hx hb dX6_step_119 rfl (lv_at hl 1 rfl) ?_
              refine lv_iconst (v := (-1)) hx hb dX6_step_120 (by decide) ?_
              refine sk_put (ws' := [ro_rnininii (q 2) 6 (q 0) za xv xo (-1) za xf xp, ro_rn (q 0) 10 (q 20) tl, ra_N (q 20) cI 1600 tb]) (C := RX6) (T := TX6) (N := 8) (v := .int (-1)) hx hb hts inlX6 tyX6 tyX6_ok nmX6 hown hK hP hD hS 0 rfl rfl 4 (Nat.le_of_ble_eq_true rfl) w_1_60 rfl rfl rfl (Nat.le_of_ble_eq_true rfl) rfl dX6_step_121 (fun H locs hP hD hS => ?_)
              exact sk_vret hx hb hr hlocks hK hP hD hS (⟨za, xv, (-1), za, hza, hza, st_end hbg c_1 hxp hcn hzs (by omega), rfl⟩) (Nat.le_of_ble_eq_true rfl) (Nat.le_of_ble_eq_true rfl) dX6_step_124
          · have c_5 : ¬ (tl ≤ za) := fun h => c_5 ((nle tl za (by omega) (by omega)).mpr h)
            refine lv_aload_n hx hb dX6_step_50 rfl (lv_at hl 1 rfl) ?_
            refine sk_get (v := .ref (q 0)) (C := RX6) (T := TX6) (N := 8) hx hb hts inlX6 hown hK hP 0 rfl rfl 0 (Nat.le_of_ble_eq_true rfl) w_1_56 rfl dX6_step_51 ?_
            refine sk_get (v := .ref (q 20)) (C := RX10) (T := TX10) (N := 2) hx hb hts inlX10 hown hK hP 1 rfl rfl 0 (Nat.le_of_ble_eq_true rfl) w_1_40 rfl dX6_step_54 ?_
            refine lv_aload_n hx hb dX6_step_57 rfl (lv_at hl 1 rfl) ?_
            refine sk_get (v := .int (nI za)) (C := RX6) (T := TX6) (N := 8) hx hb hts inlX6 hown hK hP 0 rfl rfl 1 (Nat.le_of_ble_eq_true rfl) w_1_57 rfl dX6_step_58 ?_
            refine va_iald hx hb hK.1 hP 2 0 rfl rfl (vin za 1600 (by omega) (Nat.le_of_ble_eq_true rfl)) dX6_step_61 ?_
            refine sk_top (nI (tb za)) (nrd tb za (by omega)) ?_
            have hb_34 := htb za
            refine lv_bipush (v := 32) hx hb dX6_step_62 (by decide) ?_
            refine lv_icmp_eq (tgt := 84) hx hb dX6_step_64 (by decide) (fun c_35 => ?_) (fun c_35 => ?_)
            · have c_35 : tb za = 32 := (neq (tb za) 32 (by omega) (Nat.le_of_ble_eq_true rfl)).mp c_35
              refine lv_aload_n hx hb dX6_step_84 rfl (lv_at hl 1 rfl) ?_
              refine lv_dup hx hb dX6_step_85 rfl ?_
              refine sk_get (v := .int (nI za)) (C := RX6) (T := TX6) (N := 8) hx hb hts inlX6 hown hK hP 0 rfl rfl 1 (Nat.le_of_ble_eq_true rfl) w_1_57 rfl dX6_step_86 ?_
              refine lv_iconst (v := 1) hx hb dX6_step_89 ic_1 ?_
              refine lv_iadd hx hb dX6_step_90 ?_
              refine sk_top (nI (za + 1)) (nI_add za 1) ?_
              refine sk_put (ws' := [ro_rnininii (q 2) 6 (q 0) (za + 1) xv xo xt xz xf xp, ro_rn (q 0) 10 (q 20) tl, ra_N (q 20) cI 1600 tb]) (C := RX6) (T := TX6) (N := 8) (v := .int (nI (za + 1))) hx hb hts inlX6 tyX6 tyX6_ok nmX6 hown hK hP hD hS 0 rfl rfl 1 (Nat.le_of_ble_eq_true rfl) w_1_57 rfl rfl rfl (Nat.le_of_ble_eq_true rfl) rfl dX6_step_91 (fun H locs hP hD hS => ?_)
              refine lv_goto (tgt := 36) hx hb dX6_step_94 (by decide) ?_
              exact ih_lp_3 (za + 1) _ _ _ (by omega) (by omega) (ext_nxt hze (by omega) (qB_t.mpr (by omega))) hP hD hS (lv_sub hl [0, 1] rfl)
            · have c_35 : ¬ (tb za = 32) := fun h => c_35 ((neq (tb za) 32 (by omega) (Nat.le_of_ble_eq_true rfl)).mpr h)
              refine lv_aload_n hx hb dX6_step_67 rfl (lv_at hl 1 rfl) ?_
              refine sk_get (v := .ref (q 0)) (C := RX6) (T := TX6) (N := 8) hx hb hts inlX6 hown hK hP 0 rfl rfl 0 (Nat.le_of_ble_eq_true rfl) w_1_56 rfl dX6_step_68 ?_
              refine sk_get (v := .ref (q 20)) (C := RX10) (T := TX10) (N := 2) hx hb hts inlX10 hown hK hP 1 rfl rfl 0 (Nat.le_of_ble_eq_true rfl) w_1_40 rfl dX6_step_71 ?_
              refine lv_aload_n hx hb dX6_step_74 rfl (lv_at hl 1 rfl) ?_
              refine sk_get (v := .int (nI za)) (C := RX6) (T := TX6) (N := 8) hx hb hts inlX6 hown hK hP 0 rfl rfl 1 (Nat.le_of_ble_eq_true rfl) w_1_57 rfl dX6_step_75 ?_
              refine va_iald hx hb hK.1 hP 2 0 rfl rfl (vin za 1600 (by omega) (Nat.le_of_ble_eq_true rfl)) dX6_step_78 ?_
              refine sk_top (nI (tb za)) (nrd tb za (by omega)) ?_
              have hb_36 := htb za
              refine lv_bipush (v := 10) hx hb dX6_step_79 (by decide) ?_
              refine lv_icmp_ne (tgt := 97) hx hb dX6_step_81 (by decide) (fun c_37 => ?_) (fun c_37 => ?_)
              · have c_37 : ¬ (tb za = 10) := fun h => c_37 ((neq (tb za) 10 (by omega) (Nat.le_of_ble_eq_true rfl)).mpr h)
                have hzs : za = sk tb tl cu.1 := by rw [← hxc]; exact ext_fin hze (by rw [qB_t]; omega)
                have jn_38 : ∀ (ya : Nat) (yv : Int32) (yk : Int32) (yz : Nat) (H : Heap) (locs : List Loc) (ls : Array Slot), (ya ≤ 1600) → (yz = za) → (za < tl) → (ya = te tb tl za) → (tkU tb tl za yk yv) → va_P D vwCl [ro_rnininii (q 2) 6 (q 0) ya yv xo yk yz xf xp, ro_rn (q 0) 10 (q 20) tl, ra_N (q 20) cI 1600 tb] H → va_D A [ro_rnininii (q 2) 6 (q 0) ya yv xo yk yz xf xp, ro_rn (q 0) 10 (q 20) tl, ra_N (q 20) cI 1600 tb] → va_S A s.heap H locs → lv_has ls 3 [(1, .int bh), (0, .ref (q 2))] → W p l e { frames := 5, cells := 0, slots := 0, locals := 109 } s m ([.ref (q 2)] : List Value).toArray below meth c H locs 0 0 (MQ below (skV D (skT cI cJ cC cZ cS) (fun (u : va_W) => ∃ (xa2 : Nat), ∃ (xv2 : Int32), ∃ (xt2 : Int32), ∃ (xz2 : Nat), xa2 ≤ 1600 ∧ xz2 ≤ 1600 ∧ rdO tb tl (bindR bg (stF tb tl)) xa2 xv2 xt2 xz2 xf xp ∧ u = [ro_rnininii (q 2) 6 (q 0) xa2 xv2 xo xt2 xz2 xf xp, ro_rn (q 0) 10 (q 20) tl, ra_N (q 20) cI 1600 tb]) A) ([.ref (q 2)] : List Value).toArray s 0 0 A) (F0 m 192 ls []) := by
                  intro ya yv yk yz H locs ls hya hyz hyl hye hyt hP hD hS hl
                  refine lv_aload_n hx hb dX6_step_192 rfl (lv_at hl 1 rfl) ?_
                  refine sk_get (v := .int (nI yz)) (C := RX6) (T := TX6) (N := 8) hx hb hts inlX6 hown hK hP 0 rfl rfl 5 (Nat.le_of_ble_eq_true rfl) w_1_64 rfl dX6_step_193 ?_
                  refine lv_iload_n hx hb dX6_step_196 rfl (lv_at hl 0 rfl) ?_
                  refine lv_icmp_ne (tgt := 206) hx hb dX6_step_197 (by decide) (fun c_39 => ?_) (fun c_39 => ?_)
                  · skip
                    exact sk_vret hx hb hr hlocks hK hP hD hS (⟨ya, yv, yk, yz, hya, by omega, by subst hyz; exact st_wnN hbg c_1 hxp hzs (by omega) htl hcn hyt hye hbh c_39, rfl⟩) (Nat.le_of_ble_eq_true rfl) (Nat.le_of_ble_eq_true rfl) dX6_step_206
                  · skip
                    refine lv_aload_n hx hb dX6_step_200 rfl (lv_at hl 1 rfl) ?_
                    refine lv_bipush (v := (-2)) hx hb dX6_step_201 (by decide) ?_
                    refine sk_put (ws' := [ro_rnininii (q 2) 6 (q 0) ya yv xo (-2) yz xf xp, ro_rn (q 0) 10 (q 20) tl, ra_N (q 20) cI 1600 tb]) (C := RX6) (T := TX6) (N := 8) (v := .int (-2)) hx hb hts inlX6 tyX6 tyX6_ok nmX6 hown hK hP hD hS 0 rfl rfl 4 (Nat.le_of_ble_eq_true rfl) w_1_60 rfl rfl rfl (Nat.le_of_ble_eq_true rfl) rfl dX6_step_203 (fun H locs hP hD hS => ?_)
                    exact sk_vret hx hb hr hlocks hK hP hD hS (⟨ya, yv, (-2), yz, hya, by omega, by subst hyz; exact st_wnE hbg c_1 hxp hzs (by omega) htl hcn hyt hye hbh c_39, rfl⟩) (Nat.le_of_ble_eq_true rfl) (Nat.le_of_ble_eq_true rfl) dX6_step_206
                refine lv_aload_n hx hb dX6_step_97 rfl (lv_at hl 1 rfl) ?_
                refine lv_aload_n hx hb dX6_step_98 rfl (lv_at hl 1 rfl) ?_
                refine sk_get (v := .int (nI za)) (C := RX6) (T := TX6) (N := 8) hx hb hts inlX6 hown hK hP 0 rfl rfl 1 (Nat.le_of_ble_eq_true rfl) w_1_57 rfl dX6_step_99 ?_
                refine sk_put (ws' := [ro_rnininii (q 2) 6 (q 0) za xv xo xt za xf xp, ro_rn (q 0) 10 (q 20) tl, ra_N (q 20) cI 1600 tb]) (C := RX6) (T := TX6) (N := 8) (v := .int (nI za)) hx hb hts inlX6 tyX6 tyX6_ok nmX6 hown hK hP hD hS 0 rfl rfl 5 (Nat.le_of_ble_eq_true rfl) w_1_64 rfl rfl rfl (Nat.le_of_ble_eq_true rfl) rfl dX6_step_102 (fun H locs hP hD hS => ?_)
                refine lv_aload_n hx hb dX6_step_105 rfl (lv_at hl 1 rfl) ?_
                refine sk_get (v := .int (nI za)) (C := RX6) (T := TX6) (N := 8) hx hb hts inlX6 hown hK hP 0 rfl rfl 1 (Nat.le_of_ble_eq_true rfl) w_1_57 rfl dX6_step_106 ?_
                refine lv_aload_n hx hb dX6_step_109 rfl (lv_at hl 1 rfl) ?_
                refine sk_get (v := .ref (q 0)) (C := RX6) (T := TX6) (N := 8) hx hb hts inlX6 hown hK hP 0 rfl rfl 0 (Nat.le_of_ble_eq_true rfl) w_1_56 rfl dX6_step_110 ?_
                refine sk_get (v := .int (nI tl)) (C := RX10) (T := TX10) (N := 2) hx hb hts inlX10 hown hK hP 1 rfl rfl 1 (Nat.le_of_ble_eq_true rfl) w_1_43 rfl dX6_step_113 ?_
                refine lv_icmp_lt (tgt := 125) hx hb dX6_step_116 (by decide) (fun c_40 => ?_) (fun c_40 => ?_)
                · have c_40 : za < tl := (nlt za tl (by omega) (by omega)).mp c_40
                  refine lv_aload_n hx hb dX6_step_125 rfl (lv_at hl 1 rfl) ?_
                  refine sk_get (v := .ref (q 0)) (C := RX6) (T := TX6) (N := 8) hx hb hts inlX6 hown hK hP 0 rfl rfl 0 (Nat.le_of_ble_eq_true rfl) w_1_56 rfl dX6_step_126 ?_
                  refine sk_get (v := .ref (q 20)) (C := RX10) (T := TX10) (N := 2) hx hb hts inlX10 hown hK hP 1 rfl rfl 0 (Nat.le_of_ble_eq_true rfl) w_1_40 rfl dX6_step_129 ?_
                  refine lv_aload_n hx hb dX6_step_132 rfl (lv_at hl 1 rfl) ?_
                  refine sk_get (v := .int (nI za)) (C := RX6) (T := TX6) (N := 8) hx hb hts inlX6 hown hK hP 0 rfl rfl 1 (Nat.le_of_ble_eq_true rfl) w_1_57 rfl dX6_step_133 ?_
                  refine va_iald hx hb hK.1 hP 2 0 rfl rfl (vin za 1600 (by omega) (Nat.le_of_ble_eq_true rfl)) dX6_step_136 ?_
                  refine sk_top (nI (tb za)) (nrd tb za (by omega)) ?_
                  have hb_41 := htb za
                  refine lv_istore_n (lv' := [(2, .int (nI (tb za))), (1, .int bh), (0, .ref (q 2))]) hx hb dX6_step_137 rfl hl (by decide) rfl (fun ls hl => ?_)
                  refine lv_iload_n hx hb dX6_step_138 rfl (lv_at hl 0 rfl) ?_
                  refine lv_bipush (v := 97) hx hb dX6_step_139 (by decide) ?_
                  refine lv_icmp_lt (tgt := 157) hx hb dX6_step_141 (by decide) (fun c_42 => ?_) (fun c_42 => ?_)
                  · have c_42 : tb za < 97 := (nlt (tb za) 97 (by omega) (Nat.le_of_ble_eq_true rfl)).mp c_42
                    refine lv_iload_n hx hb dX6_step_157 rfl (lv_at hl 0 rfl) ?_
                    refine lv_bipush (v := 48) hx hb dX6_step_158 (by decide) ?_
                    refine lv_icmp_lt (tgt := 176) hx hb dX6_step_160 (by decide) (fun c_43 => ?_) (fun c_43 => ?_)
                    · have c_43 : tb za < 48 := (nlt (tb za) 48 (by omega) (Nat.le_of_ble_eq_true rfl)).mp c_43
                      refine lv_aload_n hx hb dX6_step_176 rfl (lv_at hl 2 rfl) ?_
                      refine lv_dup hx hb dX6_step_177 rfl ?_
                      refine sk_get (v := .int (nI za)) (C := RX6) (T := TX6) (N := 8) hx hb hts inlX6 hown hK hP 0 rfl rfl 1 (Nat.le_of_ble_eq_true rfl) w_1_57 rfl dX6_step_178 ?_
                      refine lv_iconst (v := 1) hx hb dX6_step_181 ic_1 ?_
                      refine lv_iadd hx hb dX6_step_182 ?_
                      refine sk_top (nI (za + 1)) (nI_add za 1) ?_
                      refine sk_put (ws' := [ro_rnininii (q 2) 6 (q 0) (za + 1) xv xo xt za xf xp, ro_rn (q 0) 10 (q 20) tl, ra_N (q 20) cI 1600 tb]) (C := RX6) (T := TX6) (N := 8) (v := .int (nI (za + 1))) hx hb hts inlX6 tyX6 tyX6_ok nmX6 hown hK hP hD hS 0 rfl rfl 1 (Nat.le_of_ble_eq_true rfl) w_1_57 rfl rfl rfl (Nat.le_of_ble_eq_true rfl) rfl dX6_step_183 (fun H locs hP hD hS => ?_)
                      refine lv_aload_n hx hb dX6_step_186 rfl (lv_at hl 2 rfl) ?_
                      refine lv_iload_n hx hb dX6_step_187 rfl (lv_at hl 0 rfl) ?_
                      refine sk_put (ws' := [ro_rninnnii (q 2) 6 (q 0) (za + 1) xv xo (tb za) za xf xp, ro_rn (q 0) 10 (q 20) tl, ra_N (q 20) cI 1600 tb]) (C := RX6) (T := TX6) (N := 8) (v := .int (nI (tb za))) hx hb hts inlX6 tyX6 tyX6_ok nmX6 hown hK hP hD hS 0 rfl rfl 4 (Nat.le_of_ble_eq_true rfl) w_1_60 rfl rfl rfl (Nat.le_of_ble_eq_true rfl) rfl dX6_step_188 (fun H locs hP hD hS => ?_)
                      exact sk_vret hx hb hr hlocks hK hP hD hS (⟨za + 1, xv, nI (tb za), za, by omega, hza, st_sign htb hbg c_1 hxp hzs (by omega) (qL_f (by omega)) (qD_f (by omega)), rfl⟩) (Nat.le_of_ble_eq_true rfl) (Nat.le_of_ble_eq_true rfl) dX6_step_191
                    · have c_43 : ¬ (tb za < 48) := fun h => c_43 ((nlt (tb za) 48 (by omega) (Nat.le_of_ble_eq_true rfl)).mpr h)
                      refine lv_iload_n hx hb dX6_step_163 rfl (lv_at hl 0 rfl) ?_
                      refine lv_bipush (v := 57) hx hb dX6_step_164 (by decide) ?_
                      refine lv_icmp_gt (tgt := 176) hx hb dX6_step_166 (by decide) (fun c_44 => ?_) (fun c_44 => ?_)
                      · have c_44 : 57 < tb za := (nlt 57 (tb za) (Nat.le_of_ble_eq_true rfl) (by omega)).mp c_44
                        refine lv_aload_n hx hb dX6_step_176 rfl (lv_at hl 2 rfl) ?_
                        refine lv_dup hx hb dX6_step_177 rfl ?_
                        refine sk_get (v := .int (nI za)) (C := RX6) (T := TX6) (N := 8) hx hb hts inlX6 hown hK hP 0 rfl rfl 1 (Nat.le_of_ble_eq_true rfl) w_1_57 rfl dX6_step_178 ?_
                        refine lv_iconst (v := 1) hx hb dX6_step_181 ic_1 ?_
                        refine lv_iadd hx hb dX6_step_182 ?_
                        refine sk_top (nI (za + 1)) (nI_add za 1) ?_
                        refine sk_put (ws' := [ro_rnininii (q 2) 6 (q 0) (za + 1) xv xo xt za xf xp, ro_rn (q 0) 10 (q 20) tl, ra_N (q 20) cI 1600 tb]) (C := RX6) (T := TX6) (N := 8) (v := .int (nI (za + 1))) hx hb hts inlX6 tyX6 tyX6_ok nmX6 hown hK hP hD hS 0 rfl rfl 1 (Nat.le_of_ble_eq_true rfl) w_1_57 rfl rfl rfl (Nat.le_of_ble_eq_true rfl) rfl dX6_step_183 (fun H locs hP hD hS => ?_)
                        refine lv_aload_n hx hb dX6_step_186 rfl (lv_at hl 2 rfl) ?_
                        refine lv_iload_n hx hb dX6_step_187 rfl (lv_at hl 0 rfl) ?_
                        refine sk_put (ws' := [ro_rninnnii (q 2) 6 (q 0) (za + 1) xv xo (tb za) za xf xp, ro_rn (q 0) 10 (q 20) tl, ra_N (q 20) cI 1600 tb]) (C := RX6) (T := TX6) (N := 8) (v := .int (nI (tb za))) hx hb hts inlX6 tyX6 tyX6_ok nmX6 hown hK hP hD hS 0 rfl rfl 4 (Nat.le_of_ble_eq_true rfl) w_1_60 rfl rfl rfl (Nat.le_of_ble_eq_true rfl) rfl dX6_step_188 (fun H locs hP hD hS => ?_)
                        exact sk_vret hx hb hr hlocks hK hP hD hS (⟨za + 1, xv, nI (tb za), za, by omega, hza, st_sign htb hbg c_1 hxp hzs (by omega) (qL_f (by omega)) (qD_f (by omega)), rfl⟩) (Nat.le_of_ble_eq_true rfl) (Nat.le_of_ble_eq_true rfl) dX6_step_191
                      · have c_44 : ¬ (57 < tb za) := fun h => c_44 ((nlt 57 (tb za) (Nat.le_of_ble_eq_true rfl) (by omega)).mpr h)
                        refine lv_aload_n hx hb dX6_step_169 rfl (lv_at hl 2 rfl) ?_
                        refine sk_Vv (q0 := 0) (n := 0) (rest := []) (wr := fmR om_3_7 _) ⟨hx, hb, hml, hown, hts⟩ hl.1 (c_erd_readNumber l D cI cJ cC cZ cS q za xv xo xt za xf xp tl tb hza hza htl htb (by omega)) w_3_42 w_3_44 w_0_3 w_1_4 w_3_45 hd_X6_readNumber_0 ⟨⟨(Nat.le_of_ble_eq_true rfl), (Nat.le_of_ble_eq_true rfl)⟩, (Nat.le_of_ble_eq_true rfl), (Nat.le_of_ble_eq_true rfl)⟩ hK hP hD hS hA (fmT om_3_7 0) (fmF om_3_7 0) (fm_C1 rfl rfl) (fm_R rfl rfl) (fm_nT om_3_7 0) (fm_nF om_3_7 0) (fm_di om_3_7 0) rfl rfl rfl rfl (Nat.le_of_ble_eq_true rfl) dX6_step_170 (fun u H locs hw hP hD hS => ?_)
                        refine exE hw (fun xa2_45 hw1 => exE hw1 (fun xv2_46 hw2 => anE hw2 (fun hxa2_47 hw3 => anE hw3 (fun hxe_48 hw4 => anE hw4 (fun hxv_49 eu_50 => ?_)))))
                        clear hw hw1 hw2 hw3 hw4
                        refine o_mgE (ws' := [ro_rnininii (q 2) 6 (q 0) xa2_45 xv2_46 xo (-3) za xf xp, ro_rn (q 0) 10 (q 20) tl, ra_N (q 20) cI 1600 tb]) eu_50 hP hD rfl (fun hP hD => ?_)
                        refine lv_goto (tgt := 192) hx hb dX6_step_173 (by decide) ?_
                        exact jn_38 xa2_45 xv2_46 (-3) za _ _ _ hxa2_47 rfl (by omega) (by rw [hxe_48, te_n (qL_f (by omega)) (qD_t.mpr (by omega))]) (Or.inr ⟨qL_f (by omega), qD_t.mpr (by omega), rfl, hxv_49⟩) hP hD hS (lv_sub hl [1, 2] rfl)
                  · have c_42 : ¬ (tb za < 97) := fun h => c_42 ((nlt (tb za) 97 (by omega) (Nat.le_of_ble_eq_true rfl)).mpr h)
                    refine lv_iload_n hx hb dX6_step_144 rfl (lv_at hl 0 rfl) ?_
                    refine lv_bipush (v := 122) hx hb dX6_step_145 (by decide) ?_
                    refine lv_icmp_gt (tgt := 157) hx hb dX6_step_147 (by decide) (fun c_51 => ?_) (fun c_51 => ?_)
                    · have c_51 : 122 < tb za := (nlt 122 (tb za) (Nat.le_of_ble_eq_true rfl) (by omega)).mp c_51
                      refine lv_iload_n hx hb dX6_step_157 rfl (lv_at hl 0 rfl) ?_
                      refine lv_bipush (v := 48) hx hb dX6_step_158 (by decide) ?_
                      refine lv_icmp_lt (tgt := 176) hx hb dX6_step_160 (by decide) (fun c_52 => ?_) (fun c_52 => ?_)
                      · have c_52 : tb za < 48 := (nlt (tb za) 48 (by omega) (Nat.le_of_ble_eq_true rfl)).mp c_52
                        refine lv_aload_n hx hb dX6_step_176 rfl (lv_at hl 2 rfl) ?_
                        refine lv_dup hx hb dX6_step_177 rfl ?_
                        refine sk_get (v := .int (nI za)) (C := RX6) (T := TX6) (N := 8) hx hb hts inlX6 hown hK hP 0 rfl rfl 1 (Nat.le_of_ble_eq_true rfl) w_1_57 rfl dX6_step_178 ?_
                        refine lv_iconst (v := 1) hx hb dX6_step_181 ic_1 ?_
                        refine lv_iadd hx hb dX6_step_182 ?_
                        refine sk_top (nI (za + 1)) (nI_add za 1) ?_
                        refine sk_put (ws' := [ro_rnininii (q 2) 6 (q 0) (za + 1) xv xo xt za xf xp, ro_rn (q 0) 10 (q 20) tl, ra_N (q 20) cI 1600 tb]) (C := RX6) (T := TX6) (N := 8) (v := .int (nI (za + 1))) hx hb hts inlX6 tyX6 tyX6_ok nmX6 hown hK hP hD hS 0 rfl rfl 1 (Nat.le_of_ble_eq_true rfl) w_1_57 rfl rfl rfl (Nat.le_of_ble_eq_true rfl) rfl dX6_step_183 (fun H locs hP hD hS => ?_)
                        refine lv_aload_n hx hb dX6_step_186 rfl (lv_at hl 2 rfl) ?_
                        refine lv_iload_n hx hb dX6_step_187 rfl (lv_at hl 0 rfl) ?_
                        refine sk_put (ws' := [ro_rninnnii (q 2) 6 (q 0) (za + 1) xv xo (tb za) za xf xp, ro_rn (q 0) 10 (q 20) tl, ra_N (q 20) cI 1600 tb]) (C := RX6) (T := TX6) (N := 8) (v := .int (nI (tb za))) hx hb hts inlX6 tyX6 tyX6_ok nmX6 hown hK hP hD hS 0 rfl rfl 4 (Nat.le_of_ble_eq_true rfl) w_1_60 rfl rfl rfl (Nat.le_of_ble_eq_true rfl) rfl dX6_step_188 (fun H locs hP hD hS => ?_)
                        exact sk_vret hx hb hr hlocks hK hP hD hS (⟨za + 1, xv, nI (tb za), za, by omega, hza, st_sign htb hbg c_1 hxp hzs (by omega) (qL_f (by omega)) (qD_f (by omega)), rfl⟩) (Nat.le_of_ble_eq_true rfl) (Nat.le_of_ble_eq_true rfl) dX6_step_191
                      · have c_52 : ¬ (tb za < 48) := fun h => c_52 ((nlt (tb za) 48 (by omega) (Nat.le_of_ble_eq_true rfl)).mpr h)
                        refine lv_iload_n hx hb dX6_step_163 rfl (lv_at hl 0 rfl) ?_
                        refine lv_bipush (v := 57) hx hb dX6_step_164 (by decide) ?_
                        refine lv_icmp_gt (tgt := 176) hx hb dX6_step_166 (by decide) (fun c_53 => ?_) (fun c_53 => ?_)
                        · have c_53 : 57 < tb za := (nlt 57 (tb za) (Nat.le_of_ble_eq_true rfl) (by omega)).mp c_53
                          refine lv_aload_n hx hb dX6_step_176 rfl (lv_at hl 2 rfl) ?_
                          refine lv_dup hx hb dX6_step_177 rfl ?_
                          refine sk_get (v := .int (nI za)) (C := RX6) (T := TX6) (N := 8) hx hb hts inlX6 hown hK hP 0 rfl rfl 1 (Nat.le_of_ble_eq_true rfl) w_1_57 rfl dX6_step_178 ?_
                          refine lv_iconst (v := 1) hx hb dX6_step_181 ic_1 ?_
                          refine lv_iadd hx hb dX6_step_182 ?_
                          refine sk_top (nI (za + 1)) (nI_add za 1) ?_
                          refine sk_put (ws' := [ro_rnininii (q 2) 6 (q 0) (za + 1) xv xo xt za xf xp, ro_rn (q 0) 10 (q 20) tl, ra_N (q 20) cI 1600 tb]) (C := RX6) (T := TX6) (N := 8) (v := .int (nI (za + 1))) hx hb hts inlX6 tyX6 tyX6_ok nmX6 hown hK hP hD hS 0 rfl rfl 1 (Nat.le_of_ble_eq_true rfl) w_1_57 rfl rfl rfl (Nat.le_of_ble_eq_true rfl) rfl dX6_step_183 (fun H locs hP hD hS => ?_)
                          refine lv_aload_n hx hb dX6_step_186 rfl (lv_at hl 2 rfl) ?_
                          refine lv_iload_n hx hb dX6_step_187 rfl (lv_at hl 0 rfl) ?_
                          refine sk_put (ws' := [ro_rninnnii (q 2) 6 (q 0) (za + 1) xv xo (tb za) za xf xp, ro_rn (q 0) 10 (q 20) tl, ra_N (q 20) cI 1600 tb]) (C := RX6) (T := TX6) (N := 8) (v := .int (nI (tb za))) hx hb hts inlX6 tyX6 tyX6_ok nmX6 hown hK hP hD hS 0 rfl rfl 4 (Nat.le_of_ble_eq_true rfl) w_1_60 rfl rfl rfl (Nat.le_of_ble_eq_true rfl) rfl dX6_step_188 (fun H locs hP hD hS => ?_)
                          exact sk_vret hx hb hr hlocks hK hP hD hS (⟨za + 1, xv, nI (tb za), za, by omega, hza, st_sign htb hbg c_1 hxp hzs (by omega) (qL_f (by omega)) (qD_f (by omega)), rfl⟩) (Nat.le_of_ble_eq_true rfl) (Nat.le_of_ble_eq_true rfl) dX6_step_191
                        · have c_53 : ¬ (57 < tb za) := fun h => c_53 ((nlt 57 (tb za) (Nat.le_of_ble_eq_true rfl) (by omega)).mpr h)
                          refine lv_aload_n hx hb dX6_step_169 rfl (lv_at hl 2 rfl) ?_
                          refine sk_Vv (q0 := 0) (n := 0) (rest := []) (wr := fmR om_3_7 _) ⟨hx, hb, hml, hown, hts⟩ hl.1 (c_erd_readNumber l D cI cJ cC cZ cS q za xv xo xt za xf xp tl tb hza hza htl htb (by omega)) w_3_42 w_3_44 w_0_3 w_1_4 w_3_45 hd_X6_readNumber_0 ⟨⟨(Nat.le_of_ble_eq_true rfl), (Nat.le_of_ble_eq_true rfl)⟩, (Nat.le_of_ble_eq_true rfl), (Nat.le_of_ble_eq_true rfl)⟩ hK hP hD hS hA (fmT om_3_7 0) (fmF om_3_7 0) (fm_C1 rfl rfl) (fm_R rfl rfl) (fm_nT om_3_7 0) (fm_nF om_3_7 0) (fm_di om_3_7 0) rfl rfl rfl rfl (Nat.le_of_ble_eq_true rfl) dX6_step_170 (fun u H locs hw hP hD hS => ?_)
                          refine exE hw (fun xa2_54 hw1 => exE hw1 (fun xv2_55 hw2 => anE hw2 (fun hxa2_56 hw3 => anE hw3 (fun hxe_57 hw4 => anE hw4 (fun hxv_58 eu_59 => ?_)))))
                          clear hw hw1 hw2 hw3 hw4
                          refine o_mgE (ws' := [ro_rnininii (q 2) 6 (q 0) xa2_54 xv2_55 xo (-3) za xf xp, ro_rn (q 0) 10 (q 20) tl, ra_N (q 20) cI 1600 tb]) eu_59 hP hD rfl (fun hP hD => ?_)
                          refine lv_goto (tgt := 192) hx hb dX6_step_173 (by decide) ?_
                          exact jn_38 xa2_54 xv2_55 (-3) za _ _ _ hxa2_56 rfl (by omega) (by rw [hxe_57, te_n (qL_f (by omega)) (qD_t.mpr (by omega))]) (Or.inr ⟨qL_f (by omega), qD_t.mpr (by omega), rfl, hxv_58⟩) hP hD hS (lv_sub hl [1, 2] rfl)
                    · have c_51 : ¬ (122 < tb za) := fun h => c_51 ((nlt 122 (tb za) (Nat.le_of_ble_eq_true rfl) (by omega)).mpr h)
                      refine lv_aload_n hx hb dX6_step_150 rfl (lv_at hl 2 rfl) ?_
                      refine sk_VvZ (q0 := 0) (n := 0) (rest := []) (wr := fmR om_3_7 _) ⟨hx, hb, hml, hown, hts⟩ hl.1 (c_erd_readWord l D cI cJ cC cZ cS zk zv zf q za xv xo xt za xf xp tl tb hza hza htl htb (by omega)) w_2_229 w_2_231 w_0_2 w_1_4 w_2_232 hd_X6_readWord_0 ⟨⟨(Nat.le_of_ble_eq_true rfl), (Nat.le_of_ble_eq_true rfl)⟩, (Nat.le_of_ble_eq_true rfl), (Nat.le_of_ble_eq_true rfl)⟩ hK hP hD hS hZ hA (fmT om_3_7 0) (fmF om_3_7 0) (fm_C1 rfl rfl) (fm_R rfl rfl) (fm_nT om_3_7 0) (fm_nF om_3_7 0) (fm_di om_3_7 0) rfl rfl rfl rfl (Nat.le_of_ble_eq_true rfl) dX6_step_151 (fun u H locs hw hP hD hS => ?_)
                      refine exE hw (fun xa2_60 hw1 => exE hw1 (fun xt2_61 hw2 => anE hw2 (fun hxa2_62 hw3 => anE hw3 (fun hxe_63 hw4 => anE hw4 (fun hxt_64 eu_65 => ?_)))))
                      clear hw hw1 hw2 hw3 hw4
                      refine o_mgE (ws' := [ro_rnininii (q 2) 6 (q 0) xa2_60 xv xo xt2_61 za xf xp, ro_rn (q 0) 10 (q 20) tl, ra_N (q 20) cI 1600 tb]) eu_65 hP hD rfl (fun hP hD => ?_)
                      refine lv_goto (tgt := 192) hx hb dX6_step_154 (by decide) ?_
                      exact jn_38 xa2_60 xv xt2_61 za _ _ _ hxa2_62 rfl (by omega) (by rw [hxe_63, te_w (qL_t.mpr (by omega))]) (Or.inl ⟨qL_t.mpr (by omega), hxt_64⟩) hP hD hS (lv_sub hl [1, 2] rfl)
                · have c_40 : ¬ (za < tl) := fun h => c_40 ((nlt za tl (by omega) (by omega)).mpr h)
                  refine lv_aload_n hx hb dX6_step_119 rfl (lv_at hl 1 rfl) ?_
                  refine lv_iconst (v := (-1)) hx hb dX6_step_120 (by decide) ?_
                  refine sk_put (ws' := [ro_rnininii (q 2) 6 (q 0) za xv xo (-1) za xf xp, ro_rn (q 0) 10 (q 20) tl, ra_N (q 20) cI 1600 tb]) (C := RX6) (T := TX6) (N := 8) (v := .int (-1)) hx hb hts inlX6 tyX6 tyX6_ok nmX6 hown hK hP hD hS 0 rfl rfl 4 (Nat.le_of_ble_eq_true rfl) w_1_60 rfl rfl rfl (Nat.le_of_ble_eq_true rfl) rfl dX6_step_121 (fun H locs hP hD hS => ?_)
                  exact sk_vret hx hb hr hlocks hK hP hD hS (⟨za, xv, (-1), za, hza, hza, st_end hbg c_1 hxp hcn hzs (by omega), rfl⟩) (Nat.le_of_ble_eq_true rfl) (Nat.le_of_ble_eq_true rfl) dX6_step_124
              · have c_37 : tb za = 10 := (neq (tb za) 10 (by omega) (Nat.le_of_ble_eq_true rfl)).mp c_37
                refine lv_aload_n hx hb dX6_step_84 rfl (lv_at hl 1 rfl) ?_
                refine lv_dup hx hb dX6_step_85 rfl ?_
                refine sk_get (v := .int (nI za)) (C := RX6) (T := TX6) (N := 8) hx hb hts inlX6 hown hK hP 0 rfl rfl 1 (Nat.le_of_ble_eq_true rfl) w_1_57 rfl dX6_step_86 ?_
                refine lv_iconst (v := 1) hx hb dX6_step_89 ic_1 ?_
                refine lv_iadd hx hb dX6_step_90 ?_
                refine sk_top (nI (za + 1)) (nI_add za 1) ?_
                refine sk_put (ws' := [ro_rnininii (q 2) 6 (q 0) (za + 1) xv xo xt xz xf xp, ro_rn (q 0) 10 (q 20) tl, ra_N (q 20) cI 1600 tb]) (C := RX6) (T := TX6) (N := 8) (v := .int (nI (za + 1))) hx hb hts inlX6 tyX6 tyX6_ok nmX6 hown hK hP hD hS 0 rfl rfl 1 (Nat.le_of_ble_eq_true rfl) w_1_57 rfl rfl rfl (Nat.le_of_ble_eq_true rfl) rfl dX6_step_91 (fun H locs hP hD hS => ?_)
                refine lv_goto (tgt := 36) hx hb dX6_step_94 (by decide) ?_
                exact ih_lp_3 (za + 1) _ _ _ (by omega) (by omega) (ext_nxt hze (by omega) (qB_t.mpr (by omega))) hP hD hS (lv_sub hl [0, 1] rfl)
      exact lp_3 (tl - xa + 1) xa _ _ _ (Nat.lt_succ_self _) hxa rfl hP hD hS (lv_sub hl [0, 1] rfl)
    refine lv_aload_n hx hb dX6_step_8 rfl (lv_at hl 0 rfl) ?_
    refine sk_get (v := .int xt) (C := RX6) (T := TX6) (N := 8) hx hb hts inlX6 hown hK hP 0 rfl rfl 4 (Nat.le_of_ble_eq_true rfl) w_1_60 rfl dX6_step_9 ?_
    refine lv_bipush (v := (-3)) hx hb dX6_step_12 (by decide) ?_
    refine lv_icmp_eq (tgt := 27) hx hb dX6_step_14 (by decide) (fun c_66 => ?_) (fun c_66 => ?_)
    · skip
      refine lv_aload_n hx hb dX6_step_27 rfl (lv_at hl 0 rfl) ?_
      refine sk_get (v := .int (nI xa)) (C := RX6) (T := TX6) (N := 8) hx hb hts inlX6 hown hK hP 0 rfl rfl 1 (Nat.le_of_ble_eq_true rfl) w_1_57 rfl dX6_step_28 ?_
      refine lv_goto (tgt := 35) hx hb dX6_step_31 (by decide) ?_
      exact jn_2 (nI xa) _ _ _ (bh_1 hxc hfl (Or.inl c_66)) hP hD hS (lv_sub hl [0] rfl)
    · skip
      refine lv_aload_n hx hb dX6_step_17 rfl (lv_at hl 0 rfl) ?_
      refine sk_get (v := .int xt) (C := RX6) (T := TX6) (N := 8) hx hb hts inlX6 hown hK hP 0 rfl rfl 4 (Nat.le_of_ble_eq_true rfl) w_1_60 rfl dX6_step_18 ?_
      refine lv_sipush (v := 256) hx hb dX6_step_21 (by decide) ?_
      refine lv_icmp_lt (tgt := 34) hx hb dX6_step_24 (by decide) (fun c_67 => ?_) (fun c_67 => ?_)
      · skip
        refine lv_iconst (v := (-1)) hx hb dX6_step_34 (by decide) ?_
        exact jn_2 (-1) _ _ _ (bh_2 hfl (by intro hq; rcases hq with hq | hq; exact absurd hq c_66; exact absurd c_67 (Int32.not_lt.mpr hq))) hP hD hS (lv_sub hl [0] rfl)
      · obtain ⟨k_68, hk_68, h1k_68, rfl⟩ := nofge xt 256 (by omega) c_67
        refine lv_aload_n hx hb dX6_step_27 rfl (lv_at hl 0 rfl) ?_
        refine sk_get (v := .int (nI xa)) (C := RX6) (T := TX6) (N := 8) hx hb hts inlX6 hown hK hP 0 rfl rfl 1 (Nat.le_of_ble_eq_true rfl) w_1_57 rfl dX6_step_28 ?_
        refine lv_goto (tgt := 35) hx hb dX6_step_31 (by decide) ?_
        exact jn_2 (nI xa) _ _ _ (bh_1 hxc hfl (Or.inr (Int32.not_lt.mp c_67))) hP hD hS (lv_sub hl [0] rfl)
  · skip
    exact sk_vret hx hb hr hlocks hK hP hD hS (⟨xa, xv, xt, xz, hxa, hxz, st_err hO c_1, rfl⟩) (Nat.le_of_ble_eq_true rfl) (Nat.le_of_ble_eq_true rfl) dX6_step_7
set_option maxHeartbeats 4000000 in
set_option maxRecDepth 100000 in
theorem c_erd_begin (l : Launch) (D : va_G) (cI cJ cC cZ cS : ClassId) (zk zv : Nat) (zf : Value) (q : Nat → Nat) (xa : Nat) (xv : Int32) (xo : Nat) (xt : Int32) (xz : Nat) (xf : Int32) (xp : Int32) (tl : Nat) (tb : Nat → Nat) (hxa : xa ≤ 1600) (hxz : xz ≤ 1600) (htl : tl ≤ 1600) (htb : ∀ j, tb j ≤ 255) : skMZ zk zv zf l yX6_begin cX6_begin 1 none 6 131 0 0 D (skT cI cJ cC cZ cS) [.ref (q 2)] [ro_rnininii (q 2) 6 (q 0) xa xv xo xt xz xf xp, ro_rn (q 0) 10 (q 20) tl, ra_N (q 20) cI 1600 tb] (skV D (skT cI cJ cC cZ cS) (fun (u : va_W) => ∃ (xa2 : Nat), ∃ (xv2 : Int32), ∃ (xt2 : Int32), ∃ (xz2 : Nat), xa2 ≤ 1600 ∧ xz2 ≤ 1600 ∧ rdO tb tl (.ok (sk tb tl 0, false)) xa2 xv2 xt2 xz2 0 (-1) ∧ u = [ro_rniiinii (q 2) 6 (q 0) xa2 xv2 0 xt2 xz2 0 (-1), ro_rn (q 0) 10 (q 20) tl, ra_N (q 20) cI 1600 tb])) := by
  refine skMZ_of pf_X6_begin (Nat.le_of_ble_eq_true rfl) ?_
  intro p e s m below meth c A ls E hP hD hZ hl
  refine skE_el E (fun hx hb hr hml hlocks hin hown hts hK hA => ?_)
  have hown : s.vm.findClass RX6 = some m.cls := hown
  have hS : va_S A s.heap s.heap [] := va_S.rf
  have hl : lv_has ls 1 [(0, .ref (q 2))] := hl
  refine lv_aload_n hx hb dX6_begin_0 rfl (lv_at hl 0 rfl) ?_
  refine lv_iconst (v := 0) hx hb dX6_begin_1 ic_0 ?_
  refine sk_put (ws' := [ro_riininii (q 2) 6 (q 0) 0 xv xo xt xz xf xp, ro_rn (q 0) 10 (q 20) tl, ra_N (q 20) cI 1600 tb]) (C := RX6) (T := TX6) (N := 8) (v := .int 0) hx hb hts inlX6 tyX6 tyX6_ok nmX6 hown hK hP hD hS 0 rfl rfl 1 (Nat.le_of_ble_eq_true rfl) w_1_57 rfl rfl rfl (Nat.le_of_ble_eq_true rfl) rfl dX6_begin_2 (fun H locs hP hD hS => ?_)
  refine lv_aload_n hx hb dX6_begin_5 rfl (lv_at hl 0 rfl) ?_
  refine lv_iconst (v := 0) hx hb dX6_begin_6 ic_0 ?_
  refine sk_put (ws' := [ro_riiiinii (q 2) 6 (q 0) 0 xv 0 xt xz xf xp, ro_rn (q 0) 10 (q 20) tl, ra_N (q 20) cI 1600 tb]) (C := RX6) (T := TX6) (N := 8) (v := .int 0) hx hb hts inlX6 tyX6 tyX6_ok nmX6 hown hK hP hD hS 0 rfl rfl 3 (Nat.le_of_ble_eq_true rfl) w_1_59 rfl rfl rfl (Nat.le_of_ble_eq_true rfl) rfl dX6_begin_7 (fun H locs hP hD hS => ?_)
  refine lv_aload_n hx hb dX6_begin_10 rfl (lv_at hl 0 rfl) ?_
  refine lv_iconst (v := 0) hx hb dX6_begin_11 ic_0 ?_
  refine sk_put (ws' := [ro_riiiinii (q 2) 6 (q 0) 0 xv 0 xt xz 0 xp, ro_rn (q 0) 10 (q 20) tl, ra_N (q 20) cI 1600 tb]) (C := RX6) (T := TX6) (N := 8) (v := .int 0) hx hb hts inlX6 tyX6 tyX6_ok nmX6 hown hK hP hD hS 0 rfl rfl 6 (Nat.le_of_ble_eq_true rfl) w_1_66 rfl rfl rfl (Nat.le_of_ble_eq_true rfl) rfl dX6_begin_12 (fun H locs hP hD hS => ?_)
  refine lv_aload_n hx hb dX6_begin_15 rfl (lv_at hl 0 rfl) ?_
  refine lv_iconst (v := (-1)) hx hb dX6_begin_16 (by decide) ?_
  refine sk_put (ws' := [ro_riiiinii (q 2) 6 (q 0) 0 xv 0 xt xz 0 (-1), ro_rn (q 0) 10 (q 20) tl, ra_N (q 20) cI 1600 tb]) (C := RX6) (T := TX6) (N := 8) (v := .int (-1)) hx hb hts inlX6 tyX6 tyX6_ok nmX6 hown hK hP hD hS 0 rfl rfl 7 (Nat.le_of_ble_eq_true rfl) w_1_69 rfl rfl rfl (Nat.le_of_ble_eq_true rfl) rfl dX6_begin_17 (fun H locs hP hD hS => ?_)
  refine lv_aload_n hx hb dX6_begin_20 rfl (lv_at hl 0 rfl) ?_
  refine lv_iconst (v := (-1)) hx hb dX6_begin_21 (by decide) ?_
  refine sk_put (ws' := [ro_riiiinii (q 2) 6 (q 0) 0 xv 0 (-1) xz 0 (-1), ro_rn (q 0) 10 (q 20) tl, ra_N (q 20) cI 1600 tb]) (C := RX6) (T := TX6) (N := 8) (v := .int (-1)) hx hb hts inlX6 tyX6 tyX6_ok nmX6 hown hK hP hD hS 0 rfl rfl 4 (Nat.le_of_ble_eq_true rfl) w_1_60 rfl rfl rfl (Nat.le_of_ble_eq_true rfl) rfl dX6_begin_22 (fun H locs hP hD hS => ?_)
  refine lv_aload_n hx hb dX6_begin_25 rfl (lv_at hl 0 rfl) ?_
  refine sk_VvZ (q0 := 0) (n := 0) (rest := []) (wr := fmR om_3_7 _) ⟨hx, hb, hml, hown, hts⟩ hl.1 (c_erd_step l D cI cJ cC cZ cS zk zv zf q 0 xv 0 (-1) xz 0 (-1) tl tb (.ok (0, false)) (by omega) hxz htl htb (st_0 tb tl)) w_2_225 w_2_226 w_2_227 w_1_4 w_2_228 hd_X6_step_0 ⟨⟨(Nat.le_of_ble_eq_true rfl), (Nat.le_of_ble_eq_true rfl)⟩, (Nat.le_of_ble_eq_true rfl), (Nat.le_of_ble_eq_true rfl)⟩ hK hP hD hS hZ hA (fmT om_3_7 0) (fmF om_3_7 0) (fm_C1 rfl rfl) (fm_R rfl rfl) (fm_nT om_3_7 0) (fm_nF om_3_7 0) (fm_di om_3_7 0) rfl rfl rfl rfl (Nat.le_of_ble_eq_true rfl) dX6_begin_26 (fun u H locs hw hP hD hS => ?_)
  refine exE hw (fun xa2_1 hw1 => exE hw1 (fun xv2_2 hw2 => exE hw2 (fun xt2_3 hw3 => exE hw3 (fun xz2_4 hw4 => anE hw4 (fun hxa2_5 hw5 => anE hw5 (fun hxz2_6 hw6 => anE hw6 (fun hO2_7 eu_8 => ?_)))))))
  clear hw hw1 hw2 hw3 hw4 hw5 hw6
  refine o_mgE (ws' := [ro_rniiinii (q 2) 6 (q 0) xa2_1 xv2_2 0 xt2_3 xz2_4 0 (-1), ro_rn (q 0) 10 (q 20) tl, ra_N (q 20) cI 1600 tb]) eu_8 hP hD rfl (fun hP hD => ?_)
  exact sk_vret hx hb hr hlocks hK hP hD hS (⟨xa2_1, xv2_2, xt2_3, xz2_4, hxa2_5, hxz2_6, hO2_7, rfl⟩) (Nat.le_of_ble_eq_true rfl) (Nat.le_of_ble_eq_true rfl) dX6_begin_29
set_option maxHeartbeats 4000000 in
set_option maxRecDepth 100000 in
theorem c_erd_needs (l : Launch) (D : va_G) (cI cJ cC cZ cS : ClassId) (zk zv : Nat) (zf : Value) (q : Nat → Nat) (xa : Nat) (xv : Int32) (xo : Nat) (xt : Int32) (xz : Nat) (xf : Int32) (xp : Int32) (tl : Nat) (tb : Nat → Nat) (w : Int32) (og : Except Err Cur) (hxa : xa ≤ 1600) (hxz : xz ≤ 1600) (htl : tl ≤ 1600) (htb : ∀ j, tb j ≤ 255) (hwr : ¬ w = -1 ∧ ¬ w = -2) (hO : rdO tb tl og xa xv xt xz xf xp) : skMZ zk zv zf l yX6_needs cX6_needs 2 none 6 131 0 0 D (skT cI cJ cC cZ cS) [.ref (q 2), .int w] [ro_rnininii (q 2) 6 (q 0) xa xv xo xt xz xf xp, ro_rn (q 0) 10 (q 20) tl, ra_N (q 20) cI 1600 tb] (skV D (skT cI cJ cC cZ cS) (fun (u : va_W) => ∃ (xa2 : Nat), ∃ (xv2 : Int32), ∃ (xt2 : Int32), ∃ (xz2 : Nat), ∃ (xf2 : Int32), ∃ (xp2 : Int32), xa2 ≤ 1600 ∧ xz2 ≤ 1600 ∧ rdO tb tl (bindR og (tkF tb tl w)) xa2 xv2 xt2 xz2 xf2 xp2 ∧ u = [ro_rnininii (q 2) 6 (q 0) xa2 xv2 xo xt2 xz2 xf2 xp2, ro_rn (q 0) 10 (q 20) tl, ra_N (q 20) cI 1600 tb])) := by
  refine skMZ_of pf_X6_needs (Nat.le_of_ble_eq_true rfl) ?_
  intro p e s m below meth c A ls E hP hD hZ hl
  refine skE_el E (fun hx hb hr hml hlocks hin hown hts hK hA => ?_)
  have hown : s.vm.findClass RX6 = some m.cls := hown
  have hS : va_S A s.heap s.heap [] := va_S.rf
  have hl : lv_has ls 2 [(0, .ref (q 2)), (1, .int w)] := hl
  refine lv_aload_n hx hb dX6_needs_0 rfl (lv_at hl 0 rfl) ?_
  refine sk_get (v := .int xt) (C := RX6) (T := TX6) (N := 8) hx hb hts inlX6 hown hK hP 0 rfl rfl 4 (Nat.le_of_ble_eq_true rfl) w_1_60 rfl dX6_needs_1 ?_
  refine lv_iload_n hx hb dX6_needs_4 rfl (lv_at hl 1 rfl) ?_
  refine lv_icmp_ne (tgt := 15) hx hb dX6_needs_5 (by decide) (fun c_1 => ?_) (fun c_1 => ?_)
  · skip
    refine lv_aload_n hx hb dX6_needs_15 rfl (lv_at hl 0 rfl) ?_
    refine sk_Vv (q0 := 0) (n := 0) (rest := []) (wr := fmR om_3_4 _) ⟨hx, hb, hml, hown, hts⟩ hl.1 (c_erd_failHere l D cI cJ cC cZ cS q xa xv xo xt xz xf xp tl tb og hxz hO) w_3_54 w_3_55 w_3_56 w_1_4 w_3_57 hd_X6_failHere_0 ⟨⟨(Nat.le_of_ble_eq_true rfl), (Nat.le_of_ble_eq_true rfl)⟩, (Nat.le_of_ble_eq_true rfl), (Nat.le_of_ble_eq_true rfl)⟩ hK hP hD hS hA (fmT om_3_4 0) (fmF om_3_4 0) (fm_C1 rfl rfl) (fm_R rfl rfl) (fm_nT om_3_4 0) (fm_nF om_3_4 0) (fm_di om_3_4 0) rfl rfl rfl rfl (Nat.le_of_ble_eq_true rfl) dX6_needs_16 (fun u H locs hw hP hD hS => ?_)
    refine exE hw (fun xf2_2 hw1 => exE hw1 (fun xp2_3 hw2 => anE hw2 (fun hO2_4 eu_5 => ?_)))
    clear hw hw1 hw2
    refine o_mgE (ws' := [ro_rnininii (q 2) 6 (q 0) xa xv xo (-2) xz xf2_2 xp2_3, ro_rn (q 0) 10 (q 20) tl, ra_N (q 20) cI 1600 tb]) eu_5 hP hD rfl (fun hP hD => ?_)
    exact sk_vret hx hb hr hlocks hK hP hD hS (⟨xa, xv, (-2), xz, xf2_2, xp2_3, hxa, hxz, nd_f hO c_1 hO2_4, rfl⟩) (Nat.le_of_ble_eq_true rfl) (Nat.le_of_ble_eq_true rfl) dX6_needs_19
  · skip
    refine lv_aload_n hx hb dX6_needs_8 rfl (lv_at hl 0 rfl) ?_
    refine sk_VvZ (q0 := 0) (n := 0) (rest := []) (wr := fmR om_3_7 _) ⟨hx, hb, hml, hown, hts⟩ hl.1 (c_erd_step l D cI cJ cC cZ cS zk zv zf q xa xv xo xt xz xf xp tl tb (bindR og (beF tb tl)) hxa hxz htl htb (rd_st htb hO (by rw [c_1]; exact hwr))) w_2_225 w_2_226 w_2_227 w_1_4 w_2_228 hd_X6_step_0 ⟨⟨(Nat.le_of_ble_eq_true rfl), (Nat.le_of_ble_eq_true rfl)⟩, (Nat.le_of_ble_eq_true rfl), (Nat.le_of_ble_eq_true rfl)⟩ hK hP hD hS hZ hA (fmT om_3_7 0) (fmF om_3_7 0) (fm_C1 rfl rfl) (fm_R rfl rfl) (fm_nT om_3_7 0) (fm_nF om_3_7 0) (fm_di om_3_7 0) rfl rfl rfl rfl (Nat.le_of_ble_eq_true rfl) dX6_needs_9 (fun u H locs hw hP hD hS => ?_)
    refine exE hw (fun xa2_6 hw1 => exE hw1 (fun xv2_7 hw2 => exE hw2 (fun xt2_8 hw3 => exE hw3 (fun xz2_9 hw4 => anE hw4 (fun hxa2_10 hw5 => anE hw5 (fun hxz2_11 hw6 => anE hw6 (fun hO2_12 eu_13 => ?_)))))))
    clear hw hw1 hw2 hw3 hw4 hw5 hw6
    refine o_mgE (ws' := [ro_rnininii (q 2) 6 (q 0) xa2_6 xv2_7 xo xt2_8 xz2_9 xf xp, ro_rn (q 0) 10 (q 20) tl, ra_N (q 20) cI 1600 tb]) eu_13 hP hD rfl (fun hP hD => ?_)
    rw [stF_nx] at hO2_12
    refine lv_goto (tgt := 19) hx hb dX6_needs_12 (by decide) ?_
    exact sk_vret hx hb hr hlocks hK hP hD hS (⟨xa2_6, xv2_7, xt2_8, xz2_9, xf, xp, hxa2_10, hxz2_11, nd_t hO c_1 hO2_12, rfl⟩) (Nat.le_of_ble_eq_true rfl) (Nat.le_of_ble_eq_true rfl) dX6_needs_19
set_option maxHeartbeats 4000000 in
set_option maxRecDepth 100000 in
theorem c_erd_takes (l : Launch) (D : va_G) (cI cJ cC cZ cS : ClassId) (zk zv : Nat) (zf : Value) (q : Nat → Nat) (xa : Nat) (xv : Int32) (xo : Nat) (xt : Int32) (xz : Nat) (xf : Int32) (xp : Int32) (tl : Nat) (tb : Nat → Nat) (w : Int32) (og : Except Err Cur) (hxa : xa ≤ 1600) (hxz : xz ≤ 1600) (htl : tl ≤ 1600) (htb : ∀ j, tb j ≤ 255) (hwr : ¬ w = -1 ∧ ¬ w = -2) (hO : rdO tb tl og xa xv xt xz xf xp) : skMZ zk zv zf l yX6_takes cX6_takes 2 (some .boolean) 6 131 0 0 D (skT cI cJ cC cZ cS) [.ref (q 2), .int w] [ro_rnininii (q 2) 6 (q 0) xa xv xo xt xz xf xp, ro_rn (q 0) 10 (q 20) tl, ra_N (q 20) cI 1600 tb] (skI D (skT cI cJ cC cZ cS) (fun (r : Int32) (u : va_W) => ∃ (xa2 : Nat), ∃ (xv2 : Int32), ∃ (xt2 : Int32), ∃ (xz2 : Nat), ∃ (xf2 : Int32), ∃ (xp2 : Int32), ∃ (b : Nat), xa2 ≤ 1600 ∧ xz2 ≤ 1600 ∧ b ≤ 1 ∧ ((b = 0 ∧ ¬ xt = w ∧ rdO tb tl og xa2 xv2 xt2 xz2 xf2 xp2) ∨ (b = 1 ∧ xt = w ∧ rdO tb tl (bindR og (nxF tb tl)) xa2 xv2 xt2 xz2 xf2 xp2)) ∧ r = nI b ∧ u = [ro_rnininii (q 2) 6 (q 0) xa2 xv2 xo xt2 xz2 xf2 xp2, ro_rn (q 0) 10 (q 20) tl, ra_N (q 20) cI 1600 tb])) := by
  refine skMZ_of pf_X6_takes (Nat.le_of_ble_eq_true rfl) ?_
  intro p e s m below meth c A ls E hP hD hZ hl
  refine skE_el E (fun hx hb hr hml hlocks hin hown hts hK hA => ?_)
  have hown : s.vm.findClass RX6 = some m.cls := hown
  have hS : va_S A s.heap s.heap [] := va_S.rf
  have hl : lv_has ls 2 [(0, .ref (q 2)), (1, .int w)] := hl
  refine lv_aload_n hx hb dX6_takes_0 rfl (lv_at hl 0 rfl) ?_
  refine sk_get (v := .int xt) (C := RX6) (T := TX6) (N := 8) hx hb hts inlX6 hown hK hP 0 rfl rfl 4 (Nat.le_of_ble_eq_true rfl) w_1_60 rfl dX6_takes_1 ?_
  refine lv_iload_n hx hb dX6_takes_4 rfl (lv_at hl 1 rfl) ?_
  refine lv_icmp_eq (tgt := 10) hx hb dX6_takes_5 (by decide) (fun c_1 => ?_) (fun c_1 => ?_)
  · skip
    refine lv_aload_n hx hb dX6_takes_10 rfl (lv_at hl 0 rfl) ?_
    refine sk_VvZ (q0 := 0) (n := 0) (rest := []) (wr := fmR om_3_7 _) ⟨hx, hb, hml, hown, hts⟩ hl.1 (c_erd_step l D cI cJ cC cZ cS zk zv zf q xa xv xo xt xz xf xp tl tb (bindR og (beF tb tl)) hxa hxz htl htb (rd_st htb hO (by rw [c_1]; exact hwr))) w_2_225 w_2_226 w_2_227 w_1_4 w_2_228 hd_X6_step_0 ⟨⟨(Nat.le_of_ble_eq_true rfl), (Nat.le_of_ble_eq_true rfl)⟩, (Nat.le_of_ble_eq_true rfl), (Nat.le_of_ble_eq_true rfl)⟩ hK hP hD hS hZ hA (fmT om_3_7 0) (fmF om_3_7 0) (fm_C1 rfl rfl) (fm_R rfl rfl) (fm_nT om_3_7 0) (fm_nF om_3_7 0) (fm_di om_3_7 0) rfl rfl rfl rfl (Nat.le_of_ble_eq_true rfl) dX6_takes_11 (fun u H locs hw hP hD hS => ?_)
    refine exE hw (fun xa2_2 hw1 => exE hw1 (fun xv2_3 hw2 => exE hw2 (fun xt2_4 hw3 => exE hw3 (fun xz2_5 hw4 => anE hw4 (fun hxa2_6 hw5 => anE hw5 (fun hxz2_7 hw6 => anE hw6 (fun hO2_8 eu_9 => ?_)))))))
    clear hw hw1 hw2 hw3 hw4 hw5 hw6
    refine o_mgE (ws' := [ro_rnininii (q 2) 6 (q 0) xa2_2 xv2_3 xo xt2_4 xz2_5 xf xp, ro_rn (q 0) 10 (q 20) tl, ra_N (q 20) cI 1600 tb]) eu_9 hP hD rfl (fun hP hD => ?_)
    rw [stF_nx] at hO2_8
    refine lv_iconst (v := 1) hx hb dX6_takes_14 ic_1 ?_
    exact sk_iret hx hb hr rfl hlocks hK hP hD hS (⟨xa2_2, xv2_3, xt2_4, xz2_5, xf, xp, 1, hxa2_6, hxz2_7, by omega, (Or.inr ⟨rfl, c_1, hO2_8⟩), rfl, rfl⟩) (Nat.le_of_ble_eq_true rfl) (Nat.le_of_ble_eq_true rfl) dX6_takes_15
  · skip
    refine lv_iconst (v := 0) hx hb dX6_takes_8 ic_0 ?_
    exact sk_iret hx hb hr rfl hlocks hK hP hD hS (⟨xa, xv, xt, xz, xf, xp, 0, hxa, hxz, by omega, (Or.inl ⟨rfl, c_1, hO⟩), rfl, rfl⟩) (Nat.le_of_ble_eq_true rfl) (Nat.le_of_ble_eq_true rfl) dX6_takes_9
set_option maxHeartbeats 4000000 in
set_option maxRecDepth 100000 in
theorem c_erd_takeNumber (l : Launch) (D : va_G) (cI cJ cC cZ cS : ClassId) (zk zv : Nat) (zf : Value) (q : Nat → Nat) (xa : Nat) (xv : Int32) (xo : Nat) (xt : Int32) (xz : Nat) (xf : Int32) (xp : Int32) (tl : Nat) (tb : Nat → Nat) (lo : Nat) (hi : Nat) (og : Except Err Cur) (hxa : xa ≤ 1600) (hxz : xz ≤ 1600) (htl : tl ≤ 1600) (htb : ∀ j, tb j ≤ 255) (hlo : lo ≤ hi) (hhi : hi ≤ 9999) (hO : rdO tb tl og xa xv xt xz xf xp) : skMZ zk zv zf l yX6_takeNumber cX6_takeNumber 4 (some .int) 6 131 0 0 D (skT cI cJ cC cZ cS) [.ref (q 2), .int (nI lo), .int (nI hi)] [ro_rnininii (q 2) 6 (q 0) xa xv xo xt xz xf xp, ro_rn (q 0) 10 (q 20) tl, ra_N (q 20) cI 1600 tb] (skI D (skT cI cJ cC cZ cS) (fun (r : Int32) (u : va_W) => ∃ (xa2 : Nat), ∃ (xv2 : Int32), ∃ (xt2 : Int32), ∃ (xz2 : Nat), ∃ (xf2 : Int32), ∃ (xp2 : Int32), ∃ (v : Nat), xa2 ≤ 1600 ∧ xz2 ≤ 1600 ∧ lo ≤ v ∧ v ≤ hi ∧ nvO tb tl lo hi og v ∧ rdO tb tl (bindR og (nmF tb tl lo hi)) xa2 xv2 xt2 xz2 xf2 xp2 ∧ r = nI v ∧ u = [ro_rnininii (q 2) 6 (q 0) xa2 xv2 xo xt2 xz2 xf2 xp2, ro_rn (q 0) 10 (q 20) tl, ra_N (q 20) cI 1600 tb])) := by
  refine skMZ_of pf_X6_takeNumber (Nat.le_of_ble_eq_true rfl) ?_
  intro p e s m below meth c A ls E hP hD hZ hl
  refine skE_el E (fun hx hb hr hml hlocks hin hown hts hK hA => ?_)
  have hown : s.vm.findClass RX6 = some m.cls := hown
  have hS : va_S A s.heap s.heap [] := va_S.rf
  have hl : lv_has ls 4 [(0, .ref (q 2)), (1, .int (nI lo)), (2, .int (nI hi))] := hl
  refine lv_aload_n hx hb dX6_takeNumber_0 rfl (lv_at hl 0 rfl) ?_
  refine sk_get (v := .int xv) (C := RX6) (T := TX6) (N := 8) hx hb hts inlX6 hown hK hP 0 rfl rfl 2 (Nat.le_of_ble_eq_true rfl) w_1_58 rfl dX6_takeNumber_1 ?_
  refine lv_istore_n (lv' := [(3, .int xv), (0, .ref (q 2)), (1, .int (nI lo)), (2, .int (nI hi))]) hx hb dX6_takeNumber_4 rfl hl (by decide) rfl (fun ls hl => ?_)
  refine lv_aload_n hx hb dX6_takeNumber_5 rfl (lv_at hl 1 rfl) ?_
  refine sk_get (v := .int xt) (C := RX6) (T := TX6) (N := 8) hx hb hts inlX6 hown hK hP 0 rfl rfl 4 (Nat.le_of_ble_eq_true rfl) w_1_60 rfl dX6_takeNumber_6 ?_
  refine lv_bipush (v := (-3)) hx hb dX6_takeNumber_9 (by decide) ?_
  refine lv_icmp_eq (tgt := 20) hx hb dX6_takeNumber_11 (by decide) (fun c_1 => ?_) (fun c_1 => ?_)
  · have hnc := nm_c htb hO c_1
    have hzle := hnc.2.1
    have hnl := numV_le tb tl xz
    obtain rfl := hnc.1
    refine lv_aload_n hx hb dX6_takeNumber_20 rfl (lv_at hl 1 rfl) ?_
    refine sk_get (v := .int (nI xa)) (C := RX6) (T := TX6) (N := 8) hx hb hts inlX6 hown hK hP 0 rfl rfl 1 (Nat.le_of_ble_eq_true rfl) w_1_57 rfl dX6_takeNumber_21 ?_
    refine lv_aload_n hx hb dX6_takeNumber_24 rfl (lv_at hl 1 rfl) ?_
    refine sk_get (v := .int (nI xz)) (C := RX6) (T := TX6) (N := 8) hx hb hts inlX6 hown hK hP 0 rfl rfl 5 (Nat.le_of_ble_eq_true rfl) w_1_64 rfl dX6_takeNumber_25 ?_
    refine lv_isub hx hb dX6_takeNumber_28 ?_
    refine sk_top (nI (xa - xz)) (nsub xa xz (by omega)) ?_
    refine lv_iconst (v := 4) hx hb dX6_takeNumber_29 ic_4 ?_
    refine lv_icmp_le (tgt := 46) hx hb dX6_takeNumber_30 (by decide) (fun c_2 => ?_) (fun c_2 => ?_)
    · have c_2 : xa - xz ≤ 4 := (nle (xa - xz) 4 (by omega) (Nat.le_of_ble_eq_true rfl)).mp c_2
      refine lv_iload_n hx hb dX6_takeNumber_46 rfl (lv_at hl 0 rfl) ?_
      refine lv_iload_n hx hb dX6_takeNumber_47 rfl (lv_at hl 2 rfl) ?_
      refine lv_icmp_lt (tgt := 56) hx hb dX6_takeNumber_48 (by decide) (fun c_3 => ?_) (fun c_3 => ?_)
      · have c_3 : numV tb tl xz < lo := (nlt (numV tb tl xz) lo (by omega) (by omega)).mp c_3
        refine lv_aload_n hx hb dX6_takeNumber_56 rfl (lv_at hl 1 rfl) ?_
        refine lv_iconst (v := 2) hx hb dX6_takeNumber_57 ic_2 ?_
        refine lv_aload_n hx hb dX6_takeNumber_58 rfl (lv_at hl 1 rfl) ?_
        refine sk_get (v := .int (nI xz)) (C := RX6) (T := TX6) (N := 8) hx hb hts inlX6 hown hK hP 0 rfl rfl 5 (Nat.le_of_ble_eq_true rfl) w_1_64 rfl dX6_takeNumber_59 ?_
        refine sk_Vv (q0 := 0) (n := 2) (rest := []) (wr := fmR om_3_4 _) ⟨hx, hb, hml, hown, hts⟩ hl.1 (c_erd_fail l D cI cJ cC cZ cS q xa (nI (numV tb tl xz)) xo xt xz xf xp tl tb 2 xz og (by omega) (by omega) (by omega) hO) w_3_58 w_3_59 w_3_60 w_1_4 w_3_61 hd_X6_fail_2 ⟨⟨(Nat.le_of_ble_eq_true rfl), (Nat.le_of_ble_eq_true rfl)⟩, (Nat.le_of_ble_eq_true rfl), (Nat.le_of_ble_eq_true rfl)⟩ hK hP hD hS hA (fmT om_3_4 0) (fmF om_3_4 0) (fm_C1 rfl rfl) (fm_R rfl rfl) (fm_nT om_3_4 0) (fm_nF om_3_4 0) (fm_di om_3_4 0) rfl rfl rfl rfl (Nat.le_of_ble_eq_true rfl) dX6_takeNumber_62 (fun u H locs hw hP hD hS => ?_)
        refine exE hw (fun xf2_4 hw1 => exE hw1 (fun xp2_5 hw2 => anE hw2 (fun hO2_6 eu_7 => ?_)))
        clear hw hw1 hw2
        refine o_mgE (ws' := [ro_rnnninii (q 2) 6 (q 0) xa (numV tb tl xz) xo (-2) xz xf2_4 xp2_5, ro_rn (q 0) 10 (q 20) tl, ra_N (q 20) cI 1600 tb]) eu_7 hP hD rfl (fun hP hD => ?_)
        refine lv_iload_n hx hb dX6_takeNumber_65 rfl (lv_at hl 2 rfl) ?_
        exact sk_iret hx hb hr rfl hlocks hK hP hD hS (⟨xa, nI (numV tb tl xz), (-2), xz, xf2_4, xp2_5, lo, hxa, hxz, by omega, hlo, nv_no (nm_3 htb hO c_1 (by omega) (by omega) hO2_6) (er_f hO2_6 (fun _ => ⟨_, rfl⟩)), nm_3 htb hO c_1 (by omega) (by omega) hO2_6, rfl, rfl⟩) (Nat.le_of_ble_eq_true rfl) (Nat.le_of_ble_eq_true rfl) dX6_takeNumber_66
      · have c_3 : ¬ (numV tb tl xz < lo) := fun h => c_3 ((nlt (numV tb tl xz) lo (by omega) (by omega)).mpr h)
        refine lv_iload_n hx hb dX6_takeNumber_51 rfl (lv_at hl 0 rfl) ?_
        refine lv_iload_n hx hb dX6_takeNumber_52 rfl (lv_at hl 3 rfl) ?_
        refine lv_icmp_le (tgt := 67) hx hb dX6_takeNumber_53 (by decide) (fun c_8 => ?_) (fun c_8 => ?_)
        · have c_8 : numV tb tl xz ≤ hi := (nle (numV tb tl xz) hi (by omega) (by omega)).mp c_8
          refine lv_aload_n hx hb dX6_takeNumber_67 rfl (lv_at hl 1 rfl) ?_
          refine sk_VvZ (q0 := 0) (n := 0) (rest := []) (wr := fmR om_3_7 _) ⟨hx, hb, hml, hown, hts⟩ hl.1 (c_erd_step l D cI cJ cC cZ cS zk zv zf q xa (nI (numV tb tl xz)) xo xt xz xf xp tl tb (bindR og (beF tb tl)) hxa hxz htl htb (rd_st htb hO ⟨by rw [c_1]; decide, by rw [c_1]; decide⟩)) w_2_225 w_2_226 w_2_227 w_1_4 w_2_228 hd_X6_step_0 ⟨⟨(Nat.le_of_ble_eq_true rfl), (Nat.le_of_ble_eq_true rfl)⟩, (Nat.le_of_ble_eq_true rfl), (Nat.le_of_ble_eq_true rfl)⟩ hK hP hD hS hZ hA (fmT om_3_7 0) (fmF om_3_7 0) (fm_C1 rfl rfl) (fm_R rfl rfl) (fm_nT om_3_7 0) (fm_nF om_3_7 0) (fm_di om_3_7 0) rfl rfl rfl rfl (Nat.le_of_ble_eq_true rfl) dX6_takeNumber_68 (fun u H locs hw hP hD hS => ?_)
          refine exE hw (fun xa2_9 hw1 => exE hw1 (fun xv2_10 hw2 => exE hw2 (fun xt2_11 hw3 => exE hw3 (fun xz2_12 hw4 => anE hw4 (fun hxa2_13 hw5 => anE hw5 (fun hxz2_14 hw6 => anE hw6 (fun hO2_15 eu_16 => ?_)))))))
          clear hw hw1 hw2 hw3 hw4 hw5 hw6
          refine o_mgE (ws' := [ro_rnininii (q 2) 6 (q 0) xa2_9 xv2_10 xo xt2_11 xz2_12 xf xp, ro_rn (q 0) 10 (q 20) tl, ra_N (q 20) cI 1600 tb]) eu_16 hP hD rfl (fun hP hD => ?_)
          rw [stF_nx] at hO2_15
          refine lv_iload_n hx hb dX6_takeNumber_71 rfl (lv_at hl 0 rfl) ?_
          exact sk_iret hx hb hr rfl hlocks hK hP hD hS (⟨xa2_9, xv2_10, xt2_11, xz2_12, xf, xp, numV tb tl xz, hxa2_13, hxz2_14, by omega, by omega, nv_yes htb hO c_1 (by omega), nm_4 htb hO c_1 (by omega) (by omega) hO2_15, rfl, rfl⟩) (Nat.le_of_ble_eq_true rfl) (Nat.le_of_ble_eq_true rfl) dX6_takeNumber_72
        · have c_8 : ¬ (numV tb tl xz ≤ hi) := fun h => c_8 ((nle (numV tb tl xz) hi (by omega) (by omega)).mpr h)
          refine lv_aload_n hx hb dX6_takeNumber_56 rfl (lv_at hl 1 rfl) ?_
          refine lv_iconst (v := 2) hx hb dX6_takeNumber_57 ic_2 ?_
          refine lv_aload_n hx hb dX6_takeNumber_58 rfl (lv_at hl 1 rfl) ?_
          refine sk_get (v := .int (nI xz)) (C := RX6) (T := TX6) (N := 8) hx hb hts inlX6 hown hK hP 0 rfl rfl 5 (Nat.le_of_ble_eq_true rfl) w_1_64 rfl dX6_takeNumber_59 ?_
          refine sk_Vv (q0 := 0) (n := 2) (rest := []) (wr := fmR om_3_4 _) ⟨hx, hb, hml, hown, hts⟩ hl.1 (c_erd_fail l D cI cJ cC cZ cS q xa (nI (numV tb tl xz)) xo xt xz xf xp tl tb 2 xz og (by omega) (by omega) (by omega) hO) w_3_58 w_3_59 w_3_60 w_1_4 w_3_61 hd_X6_fail_2 ⟨⟨(Nat.le_of_ble_eq_true rfl), (Nat.le_of_ble_eq_true rfl)⟩, (Nat.le_of_ble_eq_true rfl), (Nat.le_of_ble_eq_true rfl)⟩ hK hP hD hS hA (fmT om_3_4 0) (fmF om_3_4 0) (fm_C1 rfl rfl) (fm_R rfl rfl) (fm_nT om_3_4 0) (fm_nF om_3_4 0) (fm_di om_3_4 0) rfl rfl rfl rfl (Nat.le_of_ble_eq_true rfl) dX6_takeNumber_62 (fun u H locs hw hP hD hS => ?_)
          refine exE hw (fun xf2_17 hw1 => exE hw1 (fun xp2_18 hw2 => anE hw2 (fun hO2_19 eu_20 => ?_)))
          clear hw hw1 hw2
          refine o_mgE (ws' := [ro_rnnninii (q 2) 6 (q 0) xa (numV tb tl xz) xo (-2) xz xf2_17 xp2_18, ro_rn (q 0) 10 (q 20) tl, ra_N (q 20) cI 1600 tb]) eu_20 hP hD rfl (fun hP hD => ?_)
          refine lv_iload_n hx hb dX6_takeNumber_65 rfl (lv_at hl 2 rfl) ?_
          exact sk_iret hx hb hr rfl hlocks hK hP hD hS (⟨xa, nI (numV tb tl xz), (-2), xz, xf2_17, xp2_18, lo, hxa, hxz, by omega, hlo, nv_no (nm_3 htb hO c_1 (by omega) (by omega) hO2_19) (er_f hO2_19 (fun _ => ⟨_, rfl⟩)), nm_3 htb hO c_1 (by omega) (by omega) hO2_19, rfl, rfl⟩) (Nat.le_of_ble_eq_true rfl) (Nat.le_of_ble_eq_true rfl) dX6_takeNumber_66
    · have c_2 : ¬ (xa - xz ≤ 4) := fun h => c_2 ((nle (xa - xz) 4 (by omega) (Nat.le_of_ble_eq_true rfl)).mpr h)
      refine lv_aload_n hx hb dX6_takeNumber_33 rfl (lv_at hl 1 rfl) ?_
      refine lv_iconst (v := 1) hx hb dX6_takeNumber_34 ic_1 ?_
      refine lv_aload_n hx hb dX6_takeNumber_35 rfl (lv_at hl 1 rfl) ?_
      refine sk_get (v := .int (nI xz)) (C := RX6) (T := TX6) (N := 8) hx hb hts inlX6 hown hK hP 0 rfl rfl 5 (Nat.le_of_ble_eq_true rfl) w_1_64 rfl dX6_takeNumber_36 ?_
      refine lv_iconst (v := 4) hx hb dX6_takeNumber_39 ic_4 ?_
      refine lv_iadd hx hb dX6_takeNumber_40 ?_
      refine sk_top (nI (xz + 4)) (nI_add xz 4) ?_
      refine sk_Vv (q0 := 0) (n := 2) (rest := []) (wr := fmR om_3_4 _) ⟨hx, hb, hml, hown, hts⟩ hl.1 (c_erd_fail l D cI cJ cC cZ cS q xa (nI (numV tb tl xz)) xo xt xz xf xp tl tb 1 (xz + 4) og (by omega) (by omega) (by omega) hO) w_3_58 w_3_59 w_3_60 w_1_4 w_3_61 hd_X6_fail_2 ⟨⟨(Nat.le_of_ble_eq_true rfl), (Nat.le_of_ble_eq_true rfl)⟩, (Nat.le_of_ble_eq_true rfl), (Nat.le_of_ble_eq_true rfl)⟩ hK hP hD hS hA (fmT om_3_4 0) (fmF om_3_4 0) (fm_C1 rfl rfl) (fm_R rfl rfl) (fm_nT om_3_4 0) (fm_nF om_3_4 0) (fm_di om_3_4 0) rfl rfl rfl rfl (Nat.le_of_ble_eq_true rfl) dX6_takeNumber_41 (fun u H locs hw hP hD hS => ?_)
      refine exE hw (fun xf2_21 hw1 => exE hw1 (fun xp2_22 hw2 => anE hw2 (fun hO2_23 eu_24 => ?_)))
      clear hw hw1 hw2
      refine o_mgE (ws' := [ro_rnnninii (q 2) 6 (q 0) xa (numV tb tl xz) xo (-2) xz xf2_21 xp2_22, ro_rn (q 0) 10 (q 20) tl, ra_N (q 20) cI 1600 tb]) eu_24 hP hD rfl (fun hP hD => ?_)
      refine lv_iload_n hx hb dX6_takeNumber_44 rfl (lv_at hl 2 rfl) ?_
      exact sk_iret hx hb hr rfl hlocks hK hP hD hS (⟨xa, nI (numV tb tl xz), (-2), xz, xf2_21, xp2_22, lo, hxa, hxz, by omega, hlo, nv_no (nm_2 htb hO c_1 (by omega) hO2_23) (er_f hO2_23 (fun _ => ⟨_, rfl⟩)), nm_2 htb hO c_1 (by omega) hO2_23, rfl, rfl⟩) (Nat.le_of_ble_eq_true rfl) (Nat.le_of_ble_eq_true rfl) dX6_takeNumber_45
  · skip
    refine lv_aload_n hx hb dX6_takeNumber_14 rfl (lv_at hl 1 rfl) ?_
    refine sk_Vv (q0 := 0) (n := 0) (rest := []) (wr := fmR om_3_4 _) ⟨hx, hb, hml, hown, hts⟩ hl.1 (c_erd_failHere l D cI cJ cC cZ cS q xa xv xo xt xz xf xp tl tb og hxz hO) w_3_54 w_3_55 w_3_56 w_1_4 w_3_57 hd_X6_failHere_0 ⟨⟨(Nat.le_of_ble_eq_true rfl), (Nat.le_of_ble_eq_true rfl)⟩, (Nat.le_of_ble_eq_true rfl), (Nat.le_of_ble_eq_true rfl)⟩ hK hP hD hS hA (fmT om_3_4 0) (fmF om_3_4 0) (fm_C1 rfl rfl) (fm_R rfl rfl) (fm_nT om_3_4 0) (fm_nF om_3_4 0) (fm_di om_3_4 0) rfl rfl rfl rfl (Nat.le_of_ble_eq_true rfl) dX6_takeNumber_15 (fun u H locs hw hP hD hS => ?_)
    refine exE hw (fun xf2_25 hw1 => exE hw1 (fun xp2_26 hw2 => anE hw2 (fun hO2_27 eu_28 => ?_)))
    clear hw hw1 hw2
    refine o_mgE (ws' := [ro_rnininii (q 2) 6 (q 0) xa xv xo (-2) xz xf2_25 xp2_26, ro_rn (q 0) 10 (q 20) tl, ra_N (q 20) cI 1600 tb]) eu_28 hP hD rfl (fun hP hD => ?_)
    refine lv_iload_n hx hb dX6_takeNumber_18 rfl (lv_at hl 2 rfl) ?_
    exact sk_iret hx hb hr rfl hlocks hK hP hD hS (⟨xa, xv, (-2), xz, xf2_25, xp2_26, lo, hxa, hxz, by omega, hlo, nv_no (nm_1 htb hO c_1 hO2_27) (er_f hO2_27 (fun _ => ⟨_, rfl⟩)), nm_1 htb hO c_1 hO2_27, rfl, rfl⟩) (Nat.le_of_ble_eq_true rfl) (Nat.le_of_ble_eq_true rfl) dX6_takeNumber_19
set_option maxHeartbeats 4000000 in
set_option maxRecDepth 100000 in
theorem c_erd_opens (l : Launch) (D : va_G) (cI cJ cC cZ cS : ClassId) (zk zv : Nat) (zf : Value) (q : Nat → Nat) (xa : Nat) (xv : Int32) (xo : Nat) (xt : Int32) (xz : Nat) (xf : Int32) (xp : Int32) (tl : Nat) (tb : Nat → Nat) (w : Int32) (og : Except Err Cur) (hxa : xa ≤ 1600) (hxz : xz ≤ 1600) (htl : tl ≤ 1600) (htb : ∀ j, tb j ≤ 255) (hwr : ¬ w = -1 ∧ ¬ w = -2) (hxo : xo ≤ 6) (hO : rdO tb tl og xa xv xt xz xf xp) : skMZ zk zv zf l yX6_opens cX6_opens 2 (some .boolean) 6 131 0 0 D (skT cI cJ cC cZ cS) [.ref (q 2), .int w] [ro_rnininii (q 2) 6 (q 0) xa xv xo xt xz xf xp, ro_rn (q 0) 10 (q 20) tl, ra_N (q 20) cI 1600 tb] (skI D (skT cI cJ cC cZ cS) (fun (r : Int32) (u : va_W) => ∃ (xa2 : Nat), ∃ (xv2 : Int32), ∃ (xt2 : Int32), ∃ (xz2 : Nat), ∃ (xf2 : Int32), ∃ (xp2 : Int32), ∃ (b : Nat), xa2 ≤ 1600 ∧ xz2 ≤ 1600 ∧ ((b = 0 ∧ (xt = w → xo = 6)) ∨ (b = 1 ∧ xo + 1 ≤ 6 ∧ xt = w)) ∧ rdO tb tl (bindR og (opF tb tl w xo)) xa2 xv2 xt2 xz2 xf2 xp2 ∧ r = nI b ∧ u = [ro_rnininii (q 2) 6 (q 0) xa2 xv2 (xo + b) xt2 xz2 xf2 xp2, ro_rn (q 0) 10 (q 20) tl, ra_N (q 20) cI 1600 tb])) := by
  refine skMZ_of pf_X6_opens (Nat.le_of_ble_eq_true rfl) ?_
  intro p e s m below meth c A ls E hP hD hZ hl
  refine skE_el E (fun hx hb hr hml hlocks hin hown hts hK hA => ?_)
  have hown : s.vm.findClass RX6 = some m.cls := hown
  have hS : va_S A s.heap s.heap [] := va_S.rf
  have hl : lv_has ls 2 [(0, .ref (q 2)), (1, .int w)] := hl
  refine lv_aload_n hx hb dX6_opens_0 rfl (lv_at hl 0 rfl) ?_
  refine sk_get (v := .int xt) (C := RX6) (T := TX6) (N := 8) hx hb hts inlX6 hown hK hP 0 rfl rfl 4 (Nat.le_of_ble_eq_true rfl) w_1_60 rfl dX6_opens_1 ?_
  refine lv_iload_n hx hb dX6_opens_4 rfl (lv_at hl 1 rfl) ?_
  refine lv_icmp_eq (tgt := 14) hx hb dX6_opens_5 (by decide) (fun c_1 => ?_) (fun c_1 => ?_)
  · skip
    refine lv_aload_n hx hb dX6_opens_14 rfl (lv_at hl 0 rfl) ?_
    refine sk_get (v := .int (nI xo)) (C := RX6) (T := TX6) (N := 8) hx hb hts inlX6 hown hK hP 0 rfl rfl 3 (Nat.le_of_ble_eq_true rfl) w_1_59 rfl dX6_opens_15 ?_
    refine lv_bipush (v := 6) hx hb dX6_opens_18 (by decide) ?_
    refine lv_icmp_lt (tgt := 34) hx hb dX6_opens_20 (by decide) (fun c_2 => ?_) (fun c_2 => ?_)
    · have c_2 : xo < 6 := (nlt xo 6 (by omega) (Nat.le_of_ble_eq_true rfl)).mp c_2
      refine lv_aload_n hx hb dX6_opens_34 rfl (lv_at hl 0 rfl) ?_
      refine lv_dup hx hb dX6_opens_35 rfl ?_
      refine sk_get (v := .int (nI xo)) (C := RX6) (T := TX6) (N := 8) hx hb hts inlX6 hown hK hP 0 rfl rfl 3 (Nat.le_of_ble_eq_true rfl) w_1_59 rfl dX6_opens_36 ?_
      refine lv_iconst (v := 1) hx hb dX6_opens_39 ic_1 ?_
      refine lv_iadd hx hb dX6_opens_40 ?_
      refine sk_top (nI (xo + 1)) (nI_add xo 1) ?_
      refine sk_put (ws' := [ro_rnininii (q 2) 6 (q 0) xa xv (xo + 1) xt xz xf xp, ro_rn (q 0) 10 (q 20) tl, ra_N (q 20) cI 1600 tb]) (C := RX6) (T := TX6) (N := 8) (v := .int (nI (xo + 1))) hx hb hts inlX6 tyX6 tyX6_ok nmX6 hown hK hP hD hS 0 rfl rfl 3 (Nat.le_of_ble_eq_true rfl) w_1_59 rfl rfl rfl (Nat.le_of_ble_eq_true rfl) rfl dX6_opens_41 (fun H locs hP hD hS => ?_)
      refine lv_aload_n hx hb dX6_opens_44 rfl (lv_at hl 0 rfl) ?_
      refine sk_VvZ (q0 := 0) (n := 0) (rest := []) (wr := fmR om_3_7 _) ⟨hx, hb, hml, hown, hts⟩ hl.1 (c_erd_step l D cI cJ cC cZ cS zk zv zf q xa xv (xo + 1) xt xz xf xp tl tb (bindR og (beF tb tl)) hxa hxz htl htb (rd_st htb hO (by rw [c_1]; exact hwr))) w_2_225 w_2_226 w_2_227 w_1_4 w_2_228 hd_X6_step_0 ⟨⟨(Nat.le_of_ble_eq_true rfl), (Nat.le_of_ble_eq_true rfl)⟩, (Nat.le_of_ble_eq_true rfl), (Nat.le_of_ble_eq_true rfl)⟩ hK hP hD hS hZ hA (fmT om_3_7 0) (fmF om_3_7 0) (fm_C1 rfl rfl) (fm_R rfl rfl) (fm_nT om_3_7 0) (fm_nF om_3_7 0) (fm_di om_3_7 0) rfl rfl rfl rfl (Nat.le_of_ble_eq_true rfl) dX6_opens_45 (fun u H locs hw hP hD hS => ?_)
      refine exE hw (fun xa2_3 hw1 => exE hw1 (fun xv2_4 hw2 => exE hw2 (fun xt2_5 hw3 => exE hw3 (fun xz2_6 hw4 => anE hw4 (fun hxa2_7 hw5 => anE hw5 (fun hxz2_8 hw6 => anE hw6 (fun hO2_9 eu_10 => ?_)))))))
      clear hw hw1 hw2 hw3 hw4 hw5 hw6
      refine o_mgE (ws' := [ro_rnininii (q 2) 6 (q 0) xa2_3 xv2_4 (xo + 1) xt2_5 xz2_6 xf xp, ro_rn (q 0) 10 (q 20) tl, ra_N (q 20) cI 1600 tb]) eu_10 hP hD rfl (fun hP hD => ?_)
      rw [stF_nx] at hO2_9
      refine lv_iconst (v := 1) hx hb dX6_opens_48 ic_1 ?_
      exact sk_iret hx hb hr rfl hlocks hK hP hD hS (⟨xa2_3, xv2_4, xt2_5, xz2_6, xf, xp, 1, hxa2_7, hxz2_8, Or.inr ⟨rfl, by omega, c_1⟩, op_1 hO c_1 (by omega) hO2_9, rfl, rfl⟩) (Nat.le_of_ble_eq_true rfl) (Nat.le_of_ble_eq_true rfl) dX6_opens_49
    · have c_2 : ¬ (xo < 6) := fun h => c_2 ((nlt xo 6 (by omega) (Nat.le_of_ble_eq_true rfl)).mpr h)
      refine lv_aload_n hx hb dX6_opens_23 rfl (lv_at hl 0 rfl) ?_
      refine lv_iconst (v := 4) hx hb dX6_opens_24 ic_4 ?_
      refine lv_aload_n hx hb dX6_opens_25 rfl (lv_at hl 0 rfl) ?_
      refine sk_get (v := .int (nI xz)) (C := RX6) (T := TX6) (N := 8) hx hb hts inlX6 hown hK hP 0 rfl rfl 5 (Nat.le_of_ble_eq_true rfl) w_1_64 rfl dX6_opens_26 ?_
      refine sk_Vv (q0 := 0) (n := 2) (rest := []) (wr := fmR om_3_4 _) ⟨hx, hb, hml, hown, hts⟩ hl.1 (c_erd_fail l D cI cJ cC cZ cS q xa xv xo xt xz xf xp tl tb 4 xz og (by omega) (by omega) (by omega) hO) w_3_58 w_3_59 w_3_60 w_1_4 w_3_61 hd_X6_fail_2 ⟨⟨(Nat.le_of_ble_eq_true rfl), (Nat.le_of_ble_eq_true rfl)⟩, (Nat.le_of_ble_eq_true rfl), (Nat.le_of_ble_eq_true rfl)⟩ hK hP hD hS hA (fmT om_3_4 0) (fmF om_3_4 0) (fm_C1 rfl rfl) (fm_R rfl rfl) (fm_nT om_3_4 0) (fm_nF om_3_4 0) (fm_di om_3_4 0) rfl rfl rfl rfl (Nat.le_of_ble_eq_true rfl) dX6_opens_29 (fun u H locs hw hP hD hS => ?_)
      refine exE hw (fun xf2_11 hw1 => exE hw1 (fun xp2_12 hw2 => anE hw2 (fun hO2_13 eu_14 => ?_)))
      clear hw hw1 hw2
      refine o_mgE (ws' := [ro_rnininii (q 2) 6 (q 0) xa xv xo (-2) xz xf2_11 xp2_12, ro_rn (q 0) 10 (q 20) tl, ra_N (q 20) cI 1600 tb]) eu_14 hP hD rfl (fun hP hD => ?_)
      refine lv_iconst (v := 0) hx hb dX6_opens_32 ic_0 ?_
      exact sk_iret hx hb hr rfl hlocks hK hP hD hS (⟨xa, xv, (-2), xz, xf2_11, xp2_12, 0, hxa, hxz, Or.inl ⟨rfl, fun _ => by omega⟩, op_2 hO c_1 (by omega) hO2_13, rfl, rfl⟩) (Nat.le_of_ble_eq_true rfl) (Nat.le_of_ble_eq_true rfl) dX6_opens_33
  · skip
    refine lv_aload_n hx hb dX6_opens_8 rfl (lv_at hl 0 rfl) ?_
    refine sk_Vv (q0 := 0) (n := 0) (rest := []) (wr := fmR om_3_4 _) ⟨hx, hb, hml, hown, hts⟩ hl.1 (c_erd_failHere l D cI cJ cC cZ cS q xa xv xo xt xz xf xp tl tb og hxz hO) w_3_54 w_3_55 w_3_56 w_1_4 w_3_57 hd_X6_failHere_0 ⟨⟨(Nat.le_of_ble_eq_true rfl), (Nat.le_of_ble_eq_true rfl)⟩, (Nat.le_of_ble_eq_true rfl), (Nat.le_of_ble_eq_true rfl)⟩ hK hP hD hS hA (fmT om_3_4 0) (fmF om_3_4 0) (fm_C1 rfl rfl) (fm_R rfl rfl) (fm_nT om_3_4 0) (fm_nF om_3_4 0) (fm_di om_3_4 0) rfl rfl rfl rfl (Nat.le_of_ble_eq_true rfl) dX6_opens_9 (fun u H locs hw hP hD hS => ?_)
    refine exE hw (fun xf2_15 hw1 => exE hw1 (fun xp2_16 hw2 => anE hw2 (fun hO2_17 eu_18 => ?_)))
    clear hw hw1 hw2
    refine o_mgE (ws' := [ro_rnininii (q 2) 6 (q 0) xa xv xo (-2) xz xf2_15 xp2_16, ro_rn (q 0) 10 (q 20) tl, ra_N (q 20) cI 1600 tb]) eu_18 hP hD rfl (fun hP hD => ?_)
    refine lv_iconst (v := 0) hx hb dX6_opens_12 ic_0 ?_
    exact sk_iret hx hb hr rfl hlocks hK hP hD hS (⟨xa, xv, (-2), xz, xf2_15, xp2_16, 0, hxa, hxz, Or.inl ⟨rfl, fun hq => absurd hq c_1⟩, op_3 hO c_1 hO2_17, rfl, rfl⟩) (Nat.le_of_ble_eq_true rfl) (Nat.le_of_ble_eq_true rfl) dX6_opens_13
set_option maxHeartbeats 4000000 in
set_option maxRecDepth 100000 in
theorem c_erd_shuts (l : Launch) (D : va_G) (cI cJ cC cZ cS : ClassId) (q : Nat → Nat) (xa : Nat) (xv : Int32) (xo : Nat) (xt : Int32) (xz : Nat) (xf : Int32) (xp : Int32) (hxo : 1 ≤ xo) (hxo6 : xo ≤ 6) : skM l yX6_shuts cX6_shuts 1 none 0 0 0 0 D (skT cI cJ cC cZ cS) [.ref (q 2)] [ro_rnininii (q 2) 6 (q 0) xa xv xo xt xz xf xp] (skV D (skT cI cJ cC cZ cS) (fun (u : va_W) => u = [ro_rnininii (q 2) 6 (q 0) xa xv (xo - 1) xt xz xf xp])) := by
  refine skM_of pf_X6_shuts (Nat.le_of_ble_eq_true rfl) ?_
  intro p e s m below meth c A ls E hP hD hl
  refine skE_el E (fun hx hb hr hml hlocks hin hown hts hK hA => ?_)
  have hown : s.vm.findClass RX6 = some m.cls := hown
  have hS : va_S A s.heap s.heap [] := va_S.rf
  have hl : lv_has ls 1 [(0, .ref (q 2))] := hl
  refine lv_aload_n hx hb dX6_shuts_0 rfl (lv_at hl 0 rfl) ?_
  refine lv_dup hx hb dX6_shuts_1 rfl ?_
  refine sk_get (v := .int (nI xo)) (C := RX6) (T := TX6) (N := 8) hx hb hts inlX6 hown hK hP 0 rfl rfl 3 (Nat.le_of_ble_eq_true rfl) w_1_59 rfl dX6_shuts_2 ?_
  refine lv_iconst (v := 1) hx hb dX6_shuts_5 ic_1 ?_
  refine lv_isub hx hb dX6_shuts_6 ?_
  refine sk_top (nI (xo - 1)) (nsub xo 1 (by omega)) ?_
  refine sk_put (ws' := [ro_rnininii (q 2) 6 (q 0) xa xv (xo - 1) xt xz xf xp]) (C := RX6) (T := TX6) (N := 8) (v := .int (nI (xo - 1))) hx hb hts inlX6 tyX6 tyX6_ok nmX6 hown hK hP hD hS 0 rfl rfl 3 (Nat.le_of_ble_eq_true rfl) w_1_59 rfl rfl rfl (Nat.le_of_ble_eq_true rfl) rfl dX6_shuts_7 (fun H locs hP hD hS => ?_)
  exact sk_vret hx hb hr hlocks hK hP hD hS rfl (Nat.le_of_ble_eq_true rfl) (Nat.le_of_ble_eq_true rfl) dX6_shuts_10
set_option maxHeartbeats 4000000 in
set_option maxRecDepth 100000 in
theorem c_eCode_addX (l : Launch) (D : va_G) (cI cJ cC cZ cS : ClassId) (h0 : Nat) (k1 : Nat) (k2 : Nat) (k3 : Nat) (k4 : Nat) (cl : Nat) (mw : Nat) (f1 : Nat → Int32) (o : Int32) (og : Res) (v : Nat) (hcl : cl ≤ 1600) (hmw : mw ≤ 1) (hv : o = cm v) (hv2 : v ≤ 10999) (hC : coO og cl mw f1) (hroom : ∀ r, og = .ok r → r.2.length < 1600) : skM l yX0_add cX0_add 2 none 0 0 0 0 D (skT cI cJ cC cZ cS) [.ref h0, .int o] [ro_rrrrnn h0 0 k1 k2 k3 k4 cl mw, ra_I k1 cI 1600 f1] (skV D (skT cI cJ cC cZ cS) (fun (u : va_W) => ∃ (c2 : Nat), ∃ (w2 : Nat), ∃ (g1 : Nat → Int32), c2 ≤ 1600 ∧ w2 ≤ 1 ∧ coO (ad og v) c2 w2 g1 ∧ u = [ro_rrrrnn h0 0 k1 k2 k3 k4 c2 w2, ra_I k1 cI 1600 g1])) := by
  refine skM_of pf_X0_add (Nat.le_of_ble_eq_true rfl) ?_
  intro p e s m below meth c A ls E hP hD hl
  refine skE_el E (fun hx hb hr hml hlocks hin hown hts hK hA => ?_)
  have hown : s.vm.findClass RX0 = some m.cls := hown
  have hS : va_S A s.heap s.heap [] := va_S.rf
  have hl : lv_has ls 2 [(0, .ref h0), (1, .int o)] := hl
  refine lv_aload_n hx hb dX0_add_0 rfl (lv_at hl 0 rfl) ?_
  refine sk_get (v := .int (nI cl)) (C := RX0) (T := TX0) (N := 6) hx hb hts inlX0 hown hK hP 0 rfl rfl 4 (Nat.le_of_ble_eq_true rfl) w_1_133 rfl dX0_add_1 ?_
  refine lv_aload_n hx hb dX0_add_4 rfl (lv_at hl 0 rfl) ?_
  refine sk_get (v := .ref k1) (C := RX0) (T := TX0) (N := 6) hx hb hts inlX0 hown hK hP 0 rfl rfl 0 (Nat.le_of_ble_eq_true rfl) w_1_129 rfl dX0_add_5 ?_
  refine va_alen (v := 1600) hx hb hK.1 hP 1 0 rfl rfl rfl dX0_add_8 ?_
  refine lv_icmp_ge (tgt := 32) hx hb dX0_add_9 (by decide) (fun c_1 => ?_) (fun c_1 => ?_)
  · have c_1 : 1600 ≤ cl := (nle 1600 cl (Nat.le_of_ble_eq_true rfl) (by omega)).mp c_1
    refine lv_aload_n hx hb dX0_add_32 rfl (lv_at hl 0 rfl) ?_
    refine lv_dup hx hb dX0_add_33 rfl ?_
    refine sk_get (v := .int (nI mw)) (C := RX0) (T := TX0) (N := 6) hx hb hts inlX0 hown hK hP 0 rfl rfl 5 (Nat.le_of_ble_eq_true rfl) w_1_136 rfl dX0_add_34 ?_
    refine lv_iload_n hx hb dX0_add_37 rfl (lv_at hl 1 rfl) ?_
    refine lv_sipush (v := 10004) hx hb dX0_add_38 (by decide) ?_
    refine lv_icmp_ne (tgt := 48) hx hb dX0_add_41 (by decide) (fun c_2 => ?_) (fun c_2 => ?_)
    · skip
      refine lv_iconst (v := 0) hx hb dX0_add_48 ic_0 ?_
      refine lv_ior hx hb dX0_add_49 ?_
      refine sk_top (nI (max mw 0)) (nor1 mw 0 (by omega) (by omega)) ?_
      refine sk_put (ws' := [ro_rrrrnn h0 0 k1 k2 k3 k4 cl (max mw 0), ra_I k1 cI 1600 f1]) (C := RX0) (T := TX0) (N := 6) (v := .int (nI (max mw 0))) hx hb hts inlX0 tyX0 tyX0_ok nmX0 hown hK hP hD hS 0 rfl rfl 5 (Nat.le_of_ble_eq_true rfl) w_1_136 rfl (nbool (max mw 0) (by omega)) (nfitb (max mw 0) (by omega)) (Nat.le_of_ble_eq_true rfl) rfl dX0_add_50 (fun H locs hP hD hS => ?_)
      exact sk_vret hx hb hr hlocks hK hP hD hS (⟨cl, max mw 0, f1, hcl, by omega, co_full hC hroom (by omega), rfl⟩) (Nat.le_of_ble_eq_true rfl) (Nat.le_of_ble_eq_true rfl) dX0_add_53
    · skip
      refine lv_iconst (v := 1) hx hb dX0_add_44 ic_1 ?_
      refine lv_goto (tgt := 49) hx hb dX0_add_45 (by decide) ?_
      refine lv_ior hx hb dX0_add_49 ?_
      refine sk_top (nI (max mw 1)) (nor1 mw 1 (by omega) (by omega)) ?_
      refine sk_put (ws' := [ro_rrrrnn h0 0 k1 k2 k3 k4 cl (max mw 1), ra_I k1 cI 1600 f1]) (C := RX0) (T := TX0) (N := 6) (v := .int (nI (max mw 1))) hx hb hts inlX0 tyX0 tyX0_ok nmX0 hown hK hP hD hS 0 rfl rfl 5 (Nat.le_of_ble_eq_true rfl) w_1_136 rfl (nbool (max mw 1) (by omega)) (nfitb (max mw 1) (by omega)) (Nat.le_of_ble_eq_true rfl) rfl dX0_add_50 (fun H locs hP hD hS => ?_)
      exact sk_vret hx hb hr hlocks hK hP hD hS (⟨cl, max mw 1, f1, hcl, by omega, co_full hC hroom (by omega), rfl⟩) (Nat.le_of_ble_eq_true rfl) (Nat.le_of_ble_eq_true rfl) dX0_add_53
  · have c_1 : ¬ (1600 ≤ cl) := fun h => c_1 ((nle 1600 cl (Nat.le_of_ble_eq_true rfl) (by omega)).mpr h)
    refine lv_aload_n hx hb dX0_add_12 rfl (lv_at hl 0 rfl) ?_
    refine sk_get (v := .ref k1) (C := RX0) (T := TX0) (N := 6) hx hb hts inlX0 hown hK hP 0 rfl rfl 0 (Nat.le_of_ble_eq_true rfl) w_1_129 rfl dX0_add_13 ?_
    refine lv_aload_n hx hb dX0_add_16 rfl (lv_at hl 0 rfl) ?_
    refine sk_get (v := .int (nI cl)) (C := RX0) (T := TX0) (N := 6) hx hb hts inlX0 hown hK hP 0 rfl rfl 4 (Nat.le_of_ble_eq_true rfl) w_1_133 rfl dX0_add_17 ?_
    refine lv_iload_n hx hb dX0_add_20 rfl (lv_at hl 1 rfl) ?_
    refine sk_iast (ws' := [ro_rrrrnn h0 0 k1 k2 k3 k4 cl mw, ra_I k1 cI 1600 (upd f1 (nI cl).toNatClampNeg o)]) hx hb hK hP hD hS 1 0 rfl rfl (vin cl 1600 (by omega) (Nat.le_of_ble_eq_true rfl)) rfl dX0_add_21 (fun H locs hP hD hS => ?_)
    refine lv_aload_n hx hb dX0_add_22 rfl (lv_at hl 0 rfl) ?_
    refine lv_dup hx hb dX0_add_23 rfl ?_
    refine sk_get (v := .int (nI cl)) (C := RX0) (T := TX0) (N := 6) hx hb hts inlX0 hown hK hP 0 rfl rfl 4 (Nat.le_of_ble_eq_true rfl) w_1_133 rfl dX0_add_24 ?_
    refine lv_iconst (v := 1) hx hb dX0_add_27 ic_1 ?_
    refine lv_iadd hx hb dX0_add_28 ?_
    refine sk_top (nI (cl + 1)) (nI_add cl 1) ?_
    refine sk_put (ws' := [ro_rrrrnn h0 0 k1 k2 k3 k4 (cl + 1) mw, ra_I k1 cI 1600 (upd f1 (nI cl).toNatClampNeg o)]) (C := RX0) (T := TX0) (N := 6) (v := .int (nI (cl + 1))) hx hb hts inlX0 tyX0 tyX0_ok nmX0 hown hK hP hD hS 0 rfl rfl 4 (Nat.le_of_ble_eq_true rfl) w_1_133 rfl rfl rfl (Nat.le_of_ble_eq_true rfl) rfl dX0_add_29 (fun H locs hP hD hS => ?_)
    refine lv_aload_n hx hb dX0_add_32 rfl (lv_at hl 0 rfl) ?_
    refine lv_dup hx hb dX0_add_33 rfl ?_
    refine sk_get (v := .int (nI mw)) (C := RX0) (T := TX0) (N := 6) hx hb hts inlX0 hown hK hP 0 rfl rfl 5 (Nat.le_of_ble_eq_true rfl) w_1_136 rfl dX0_add_34 ?_
    refine lv_iload_n hx hb dX0_add_37 rfl (lv_at hl 1 rfl) ?_
    refine lv_sipush (v := 10004) hx hb dX0_add_38 (by decide) ?_
    refine lv_icmp_ne (tgt := 48) hx hb dX0_add_41 (by decide) (fun c_3 => ?_) (fun c_3 => ?_)
    · skip
      refine lv_iconst (v := 0) hx hb dX0_add_48 ic_0 ?_
      refine lv_ior hx hb dX0_add_49 ?_
      refine sk_top (nI (max mw 0)) (nor1 mw 0 (by omega) (by omega)) ?_
      refine sk_put (ws' := [ro_rrrrnn h0 0 k1 k2 k3 k4 (cl + 1) (max mw 0), ra_I k1 cI 1600 (upd f1 (nI cl).toNatClampNeg o)]) (C := RX0) (T := TX0) (N := 6) (v := .int (nI (max mw 0))) hx hb hts inlX0 tyX0 tyX0_ok nmX0 hown hK hP hD hS 0 rfl rfl 5 (Nat.le_of_ble_eq_true rfl) w_1_136 rfl (nbool (max mw 0) (by omega)) (nfitb (max mw 0) (by omega)) (Nat.le_of_ble_eq_true rfl) rfl dX0_add_50 (fun H locs hP hD hS => ?_)
      exact sk_vret hx hb hr hlocks hK hP hD hS (⟨cl + 1, max mw 0, upd f1 (nI cl).toNatClampNeg o, by omega, by omega, co_ad hC hv hv2 (by omega) (or_n hmw c_3), rfl⟩) (Nat.le_of_ble_eq_true rfl) (Nat.le_of_ble_eq_true rfl) dX0_add_53
    · skip
      refine lv_iconst (v := 1) hx hb dX0_add_44 ic_1 ?_
      refine lv_goto (tgt := 49) hx hb dX0_add_45 (by decide) ?_
      refine lv_ior hx hb dX0_add_49 ?_
      refine sk_top (nI (max mw 1)) (nor1 mw 1 (by omega) (by omega)) ?_
      refine sk_put (ws' := [ro_rrrrnn h0 0 k1 k2 k3 k4 (cl + 1) (max mw 1), ra_I k1 cI 1600 (upd f1 (nI cl).toNatClampNeg o)]) (C := RX0) (T := TX0) (N := 6) (v := .int (nI (max mw 1))) hx hb hts inlX0 tyX0 tyX0_ok nmX0 hown hK hP hD hS 0 rfl rfl 5 (Nat.le_of_ble_eq_true rfl) w_1_136 rfl (nbool (max mw 1) (by omega)) (nfitb (max mw 1) (by omega)) (Nat.le_of_ble_eq_true rfl) rfl dX0_add_50 (fun H locs hP hD hS => ?_)
      exact sk_vret hx hb hr hlocks hK hP hD hS (⟨cl + 1, max mw 1, upd f1 (nI cl).toNatClampNeg o, by omega, by omega, co_ad hC hv hv2 (by omega) (or_w hmw c_3), rfl⟩) (Nat.le_of_ble_eq_true rfl) (Nat.le_of_ble_eq_true rfl) dX0_add_53
set_option maxHeartbeats 4000000 in
set_option maxRecDepth 100000 in
theorem c_enameInLock (l : Launch) (D : va_G) (cI cJ cC cZ cS : ClassId) (u0 : Nat) (kn : Nat) (q : Nat → Nat) (o : Int32) (hkn1 : kn ≤ 1) : skM l yX8_nameInLock cX8_nameInLock 2 (some .int) 0 0 0 0 D (skT cI cJ cC cZ cS) [.ref u0, .int o] [ro_rn u0 8 (q 2) kn] (skI D (skT cI cJ cC cZ cS) (fun (r : Int32) (u : va_W) => nmO kn o r ∧ u = [ro_rn u0 8 (q 2) kn])) := by
  refine skM_of pf_X8_nameInLock (Nat.le_of_ble_eq_true rfl) ?_
  intro p e s m below meth c A ls E hP hD hl
  refine skE_el E (fun hx hb hr hml hlocks hin hown hts hK hA => ?_)
  have hown : s.vm.findClass RX8 = some m.cls := hown
  have hS : va_S A s.heap s.heap [] := va_S.rf
  have hl : lv_has ls 2 [(0, .ref u0), (1, .int o)] := hl
  refine lv_iload_n hx hb dX8_nameInLock_0 rfl (lv_at hl 1 rfl) ?_
  by_cases g_1 : o = 258
  · refine lv_tableIn (off := 67) (tgt := 68) hx hb dX8_nameInLock_1 (by rw [g_1]; decide) (by rw [g_1]; decide) (by rw [g_1]; rfl) (by decide) ?_
    refine lv_sipush (v := 10001) hx hb dX8_nameInLock_68 (by decide) ?_
    exact sk_iret hx hb hr rfl hlocks hK hP hD hS (⟨by rw [g_1]; exact nl_258 (by omega), rfl⟩) (Nat.le_of_ble_eq_true rfl) (Nat.le_of_ble_eq_true rfl) dX8_nameInLock_71
  by_cases g_2 : o = 259
  · refine lv_tableIn (off := 71) (tgt := 72) hx hb dX8_nameInLock_1 (by rw [g_2]; decide) (by rw [g_2]; decide) (by rw [g_2]; rfl) (by decide) ?_
    refine lv_sipush (v := 10002) hx hb dX8_nameInLock_72 (by decide) ?_
    exact sk_iret hx hb hr rfl hlocks hK hP hD hS (⟨by rw [g_2]; exact nl_259 (by omega), rfl⟩) (Nat.le_of_ble_eq_true rfl) (Nat.le_of_ble_eq_true rfl) dX8_nameInLock_75
  by_cases g_3 : o = 260
  · refine lv_tableIn (off := 115) (tgt := 116) hx hb dX8_nameInLock_1 (by rw [g_3]; decide) (by rw [g_3]; decide) (by rw [g_3]; rfl) (by decide) ?_
    refine lv_iconst (v := (-1)) hx hb dX8_nameInLock_116 (by decide) ?_
    exact sk_iret hx hb hr rfl hlocks hK hP hD hS (⟨by rw [g_3]; exact nl_260 (by omega), rfl⟩) (Nat.le_of_ble_eq_true rfl) (Nat.le_of_ble_eq_true rfl) dX8_nameInLock_117
  by_cases g_4 : o = 261
  · refine lv_tableIn (off := 115) (tgt := 116) hx hb dX8_nameInLock_1 (by rw [g_4]; decide) (by rw [g_4]; decide) (by rw [g_4]; rfl) (by decide) ?_
    refine lv_iconst (v := (-1)) hx hb dX8_nameInLock_116 (by decide) ?_
    exact sk_iret hx hb hr rfl hlocks hK hP hD hS (⟨by rw [g_4]; exact nl_261 (by omega), rfl⟩) (Nat.le_of_ble_eq_true rfl) (Nat.le_of_ble_eq_true rfl) dX8_nameInLock_117
  by_cases g_5 : o = 262
  · refine lv_tableIn (off := 115) (tgt := 116) hx hb dX8_nameInLock_1 (by rw [g_5]; decide) (by rw [g_5]; decide) (by rw [g_5]; rfl) (by decide) ?_
    refine lv_iconst (v := (-1)) hx hb dX8_nameInLock_116 (by decide) ?_
    exact sk_iret hx hb hr rfl hlocks hK hP hD hS (⟨by rw [g_5]; exact nl_262 (by omega), rfl⟩) (Nat.le_of_ble_eq_true rfl) (Nat.le_of_ble_eq_true rfl) dX8_nameInLock_117
  by_cases g_6 : o = 263
  · refine lv_tableIn (off := 115) (tgt := 116) hx hb dX8_nameInLock_1 (by rw [g_6]; decide) (by rw [g_6]; decide) (by rw [g_6]; rfl) (by decide) ?_
    refine lv_iconst (v := (-1)) hx hb dX8_nameInLock_116 (by decide) ?_
    exact sk_iret hx hb hr rfl hlocks hK hP hD hS (⟨by rw [g_6]; exact nl_263 (by omega), rfl⟩) (Nat.le_of_ble_eq_true rfl) (Nat.le_of_ble_eq_true rfl) dX8_nameInLock_117
  by_cases g_7 : o = 264
  · refine lv_tableIn (off := 115) (tgt := 116) hx hb dX8_nameInLock_1 (by rw [g_7]; decide) (by rw [g_7]; decide) (by rw [g_7]; rfl) (by decide) ?_
    refine lv_iconst (v := (-1)) hx hb dX8_nameInLock_116 (by decide) ?_
    exact sk_iret hx hb hr rfl hlocks hK hP hD hS (⟨by rw [g_7]; exact nl_264 (by omega), rfl⟩) (Nat.le_of_ble_eq_true rfl) (Nat.le_of_ble_eq_true rfl) dX8_nameInLock_117
  by_cases g_8 : o = 265
  · refine lv_tableIn (off := 63) (tgt := 64) hx hb dX8_nameInLock_1 (by rw [g_8]; decide) (by rw [g_8]; decide) (by rw [g_8]; rfl) (by decide) ?_
    refine lv_sipush (v := 10000) hx hb dX8_nameInLock_64 (by decide) ?_
    exact sk_iret hx hb hr rfl hlocks hK hP hD hS (⟨by rw [g_8]; exact nl_265 (by omega), rfl⟩) (Nat.le_of_ble_eq_true rfl) (Nat.le_of_ble_eq_true rfl) dX8_nameInLock_67
  by_cases g_9 : o = 266
  · refine lv_tableIn (off := 75) (tgt := 76) hx hb dX8_nameInLock_1 (by rw [g_9]; decide) (by rw [g_9]; decide) (by rw [g_9]; rfl) (by decide) ?_
    refine lv_sipush (v := 10003) hx hb dX8_nameInLock_76 (by decide) ?_
    exact sk_iret hx hb hr rfl hlocks hK hP hD hS (⟨by rw [g_9]; exact nl_266 (by omega), rfl⟩) (Nat.le_of_ble_eq_true rfl) (Nat.le_of_ble_eq_true rfl) dX8_nameInLock_79
  by_cases g_10 : o = 267
  · refine lv_tableIn (off := 79) (tgt := 80) hx hb dX8_nameInLock_1 (by rw [g_10]; decide) (by rw [g_10]; decide) (by rw [g_10]; rfl) (by decide) ?_
    refine lv_sipush (v := 10004) hx hb dX8_nameInLock_80 (by decide) ?_
    exact sk_iret hx hb hr rfl hlocks hK hP hD hS (⟨by rw [g_10]; exact nl_267 (by omega), rfl⟩) (Nat.le_of_ble_eq_true rfl) (Nat.le_of_ble_eq_true rfl) dX8_nameInLock_83
  by_cases g_11 : o = 268
  · refine lv_tableIn (off := 83) (tgt := 84) hx hb dX8_nameInLock_1 (by rw [g_11]; decide) (by rw [g_11]; decide) (by rw [g_11]; rfl) (by decide) ?_
    refine lv_aload_n hx hb dX8_nameInLock_84 rfl (lv_at hl 0 rfl) ?_
    refine sk_get (v := .int (nI kn)) (C := RX8) (T := TX8) (N := 2) hx hb hts inlX8 hown hK hP 0 rfl rfl 1 (Nat.le_of_ble_eq_true rfl) w_1_101 rfl dX8_nameInLock_85 ?_
    refine lv_iconst (v := 1) hx hb dX8_nameInLock_88 ic_1 ?_
    refine lv_icmp_ne (tgt := 98) hx hb dX8_nameInLock_89 (by decide) (fun c_12 => ?_) (fun c_12 => ?_)
    · have c_12 : ¬ (kn = 1) := fun h => c_12 ((neq kn 1 (by omega) (Nat.le_of_ble_eq_true rfl)).mpr h)
      refine lv_iconst (v := (-1)) hx hb dX8_nameInLock_98 (by decide) ?_
      exact sk_iret hx hb hr rfl hlocks hK hP hD hS (⟨by rw [g_11]; exact nl_268n (by omega), rfl⟩) (Nat.le_of_ble_eq_true rfl) (Nat.le_of_ble_eq_true rfl) dX8_nameInLock_99
    · have c_12 : kn = 1 := (neq kn 1 (by omega) (Nat.le_of_ble_eq_true rfl)).mp c_12
      refine lv_sipush (v := 10005) hx hb dX8_nameInLock_92 (by decide) ?_
      refine lv_goto (tgt := 99) hx hb dX8_nameInLock_95 (by decide) ?_
      exact sk_iret hx hb hr rfl hlocks hK hP hD hS (⟨by rw [g_11]; exact nl_268y (by omega), rfl⟩) (Nat.le_of_ble_eq_true rfl) (Nat.le_of_ble_eq_true rfl) dX8_nameInLock_99
  by_cases g_13 : o = 269
  · refine lv_tableIn (off := 99) (tgt := 100) hx hb dX8_nameInLock_1 (by rw [g_13]; decide) (by rw [g_13]; decide) (by rw [g_13]; rfl) (by decide) ?_
    refine lv_aload_n hx hb dX8_nameInLock_100 rfl (lv_at hl 0 rfl) ?_
    refine sk_get (v := .int (nI kn)) (C := RX8) (T := TX8) (N := 2) hx hb hts inlX8 hown hK hP 0 rfl rfl 1 (Nat.le_of_ble_eq_true rfl) w_1_101 rfl dX8_nameInLock_101 ?_
    refine lv_iconst (v := 1) hx hb dX8_nameInLock_104 ic_1 ?_
    refine lv_icmp_ne (tgt := 114) hx hb dX8_nameInLock_105 (by decide) (fun c_14 => ?_) (fun c_14 => ?_)
    · have c_14 : ¬ (kn = 1) := fun h => c_14 ((neq kn 1 (by omega) (Nat.le_of_ble_eq_true rfl)).mpr h)
      refine lv_iconst (v := (-1)) hx hb dX8_nameInLock_114 (by decide) ?_
      exact sk_iret hx hb hr rfl hlocks hK hP hD hS (⟨by rw [g_13]; exact nl_269n (by omega), rfl⟩) (Nat.le_of_ble_eq_true rfl) (Nat.le_of_ble_eq_true rfl) dX8_nameInLock_115
    · have c_14 : kn = 1 := (neq kn 1 (by omega) (Nat.le_of_ble_eq_true rfl)).mp c_14
      refine lv_sipush (v := 10006) hx hb dX8_nameInLock_108 (by decide) ?_
      refine lv_goto (tgt := 115) hx hb dX8_nameInLock_111 (by decide) ?_
      exact sk_iret hx hb hr rfl hlocks hK hP hD hS (⟨by rw [g_13]; exact nl_269y (by omega), rfl⟩) (Nat.le_of_ble_eq_true rfl) (Nat.le_of_ble_eq_true rfl) dX8_nameInLock_115
  refine lv_tableOut (tgt := 116) hx hb dX8_nameInLock_1 (sk_out2 258 269 (by intro k hk1 hk2; rcases (show k = 258 ∨ k = 259 ∨ k = 260 ∨ k = 261 ∨ k = 262 ∨ k = 263 ∨ k = 264 ∨ k = 265 ∨ k = 266 ∨ k = 267 ∨ k = 268 ∨ k = 269 by omega) with rfl | rfl | rfl | rfl | rfl | rfl | rfl | rfl | rfl | rfl | rfl | rfl <;> assumption)) (by decide) ?_
  refine lv_iconst (v := (-1)) hx hb dX8_nameInLock_116 (by decide) ?_
  exact sk_iret hx hb hr rfl hlocks hK hP hD hS (⟨nl_def (by omega) (by assumption) (by assumption) (by assumption) (by assumption) (by assumption) (by assumption) (by assumption), rfl⟩) (Nat.le_of_ble_eq_true rfl) (Nat.le_of_ble_eq_true rfl) dX8_nameInLock_117
set_option maxHeartbeats 4000000 in
set_option maxRecDepth 100000 in
theorem c_enameInQuestion (l : Launch) (D : va_G) (cI cJ cC cZ cS : ClassId) (o : Int32)  : skM l yX8_nameInQuestion cX8_nameInQuestion 1 (some .int) 0 0 0 0 D (skT cI cJ cC cZ cS) [.int o] [] (skI D (skT cI cJ cC cZ cS) (fun (r : Int32) (u : va_W) => nmO 2 o r ∧ u = [])) := by
  refine skM_of pf_X8_nameInQuestion (Nat.le_of_ble_eq_true rfl) ?_
  intro p e s m below meth c A ls E hP hD hl
  refine skE_el E (fun hx hb hr hml hlocks hin hown hts hK hA => ?_)
  have hown : s.vm.findClass RX8 = some m.cls := hown
  have hS : va_S A s.heap s.heap [] := va_S.rf
  have hl : lv_has ls 1 [(0, .int o)] := hl
  refine lv_iload_n hx hb dX8_nameInQuestion_0 rfl (lv_at hl 0 rfl) ?_
  by_cases g_1 : o = 258
  · refine lv_tableIn (off := 75) (tgt := 76) hx hb dX8_nameInQuestion_1 (by rw [g_1]; decide) (by rw [g_1]; decide) (by rw [g_1]; rfl) (by decide) ?_
    refine lv_sipush (v := 10001) hx hb dX8_nameInQuestion_76 (by decide) ?_
    exact sk_iret hx hb hr rfl hlocks hK hP hD hS (⟨by rw [g_1]; exact nq_258 rfl, rfl⟩) (Nat.le_of_ble_eq_true rfl) (Nat.le_of_ble_eq_true rfl) dX8_nameInQuestion_79
  by_cases g_2 : o = 259
  · refine lv_tableIn (off := 79) (tgt := 80) hx hb dX8_nameInQuestion_1 (by rw [g_2]; decide) (by rw [g_2]; decide) (by rw [g_2]; rfl) (by decide) ?_
    refine lv_sipush (v := 10002) hx hb dX8_nameInQuestion_80 (by decide) ?_
    exact sk_iret hx hb hr rfl hlocks hK hP hD hS (⟨by rw [g_2]; exact nq_259 rfl, rfl⟩) (Nat.le_of_ble_eq_true rfl) (Nat.le_of_ble_eq_true rfl) dX8_nameInQuestion_83
  by_cases g_3 : o = 260
  · refine lv_tableIn (off := 83) (tgt := 84) hx hb dX8_nameInQuestion_1 (by rw [g_3]; decide) (by rw [g_3]; decide) (by rw [g_3]; rfl) (by decide) ?_
    refine lv_sipush (v := 10007) hx hb dX8_nameInQuestion_84 (by decide) ?_
    exact sk_iret hx hb hr rfl hlocks hK hP hD hS (⟨by rw [g_3]; exact nq_260 rfl, rfl⟩) (Nat.le_of_ble_eq_true rfl) (Nat.le_of_ble_eq_true rfl) dX8_nameInQuestion_87
  by_cases g_4 : o = 261
  · refine lv_tableIn (off := 95) (tgt := 96) hx hb dX8_nameInQuestion_1 (by rw [g_4]; decide) (by rw [g_4]; decide) (by rw [g_4]; rfl) (by decide) ?_
    refine lv_iconst (v := (-1)) hx hb dX8_nameInQuestion_96 (by decide) ?_
    exact sk_iret hx hb hr rfl hlocks hK hP hD hS (⟨by rw [g_4]; exact nq_261 rfl, rfl⟩) (Nat.le_of_ble_eq_true rfl) (Nat.le_of_ble_eq_true rfl) dX8_nameInQuestion_97
  by_cases g_5 : o = 262
  · refine lv_tableIn (off := 95) (tgt := 96) hx hb dX8_nameInQuestion_1 (by rw [g_5]; decide) (by rw [g_5]; decide) (by rw [g_5]; rfl) (by decide) ?_
    refine lv_iconst (v := (-1)) hx hb dX8_nameInQuestion_96 (by decide) ?_
    exact sk_iret hx hb hr rfl hlocks hK hP hD hS (⟨by rw [g_5]; exact nq_262 rfl, rfl⟩) (Nat.le_of_ble_eq_true rfl) (Nat.le_of_ble_eq_true rfl) dX8_nameInQuestion_97
  by_cases g_6 : o = 263
  · refine lv_tableIn (off := 95) (tgt := 96) hx hb dX8_nameInQuestion_1 (by rw [g_6]; decide) (by rw [g_6]; decide) (by rw [g_6]; rfl) (by decide) ?_
    refine lv_iconst (v := (-1)) hx hb dX8_nameInQuestion_96 (by decide) ?_
    exact sk_iret hx hb hr rfl hlocks hK hP hD hS (⟨by rw [g_6]; exact nq_263 rfl, rfl⟩) (Nat.le_of_ble_eq_true rfl) (Nat.le_of_ble_eq_true rfl) dX8_nameInQuestion_97
  by_cases g_7 : o = 264
  · refine lv_tableIn (off := 95) (tgt := 96) hx hb dX8_nameInQuestion_1 (by rw [g_7]; decide) (by rw [g_7]; decide) (by rw [g_7]; rfl) (by decide) ?_
    refine lv_iconst (v := (-1)) hx hb dX8_nameInQuestion_96 (by decide) ?_
    exact sk_iret hx hb hr rfl hlocks hK hP hD hS (⟨by rw [g_7]; exact nq_264 rfl, rfl⟩) (Nat.le_of_ble_eq_true rfl) (Nat.le_of_ble_eq_true rfl) dX8_nameInQuestion_97
  by_cases g_8 : o = 265
  · refine lv_tableIn (off := 95) (tgt := 96) hx hb dX8_nameInQuestion_1 (by rw [g_8]; decide) (by rw [g_8]; decide) (by rw [g_8]; rfl) (by decide) ?_
    refine lv_iconst (v := (-1)) hx hb dX8_nameInQuestion_96 (by decide) ?_
    exact sk_iret hx hb hr rfl hlocks hK hP hD hS (⟨by rw [g_8]; exact nq_265 rfl, rfl⟩) (Nat.le_of_ble_eq_true rfl) (Nat.le_of_ble_eq_true rfl) dX8_nameInQuestion_97
  by_cases g_9 : o = 266
  · refine lv_tableIn (off := 95) (tgt := 96) hx hb dX8_nameInQuestion_1 (by rw [g_9]; decide) (by rw [g_9]; decide) (by rw [g_9]; rfl) (by decide) ?_
    refine lv_iconst (v := (-1)) hx hb dX8_nameInQuestion_96 (by decide) ?_
    exact sk_iret hx hb hr rfl hlocks hK hP hD hS (⟨by rw [g_9]; exact nq_266 rfl, rfl⟩) (Nat.le_of_ble_eq_true rfl) (Nat.le_of_ble_eq_true rfl) dX8_nameInQuestion_97
  by_cases g_10 : o = 267
  · refine lv_tableIn (off := 91) (tgt := 92) hx hb dX8_nameInQuestion_1 (by rw [g_10]; decide) (by rw [g_10]; decide) (by rw [g_10]; rfl) (by decide) ?_
    refine lv_sipush (v := 10004) hx hb dX8_nameInQuestion_92 (by decide) ?_
    exact sk_iret hx hb hr rfl hlocks hK hP hD hS (⟨by rw [g_10]; exact nq_267 rfl, rfl⟩) (Nat.le_of_ble_eq_true rfl) (Nat.le_of_ble_eq_true rfl) dX8_nameInQuestion_95
  by_cases g_11 : o = 268
  · refine lv_tableIn (off := 95) (tgt := 96) hx hb dX8_nameInQuestion_1 (by rw [g_11]; decide) (by rw [g_11]; decide) (by rw [g_11]; rfl) (by decide) ?_
    refine lv_iconst (v := (-1)) hx hb dX8_nameInQuestion_96 (by decide) ?_
    exact sk_iret hx hb hr rfl hlocks hK hP hD hS (⟨by rw [g_11]; exact nq_268 rfl, rfl⟩) (Nat.le_of_ble_eq_true rfl) (Nat.le_of_ble_eq_true rfl) dX8_nameInQuestion_97
  by_cases g_12 : o = 269
  · refine lv_tableIn (off := 95) (tgt := 96) hx hb dX8_nameInQuestion_1 (by rw [g_12]; decide) (by rw [g_12]; decide) (by rw [g_12]; rfl) (by decide) ?_
    refine lv_iconst (v := (-1)) hx hb dX8_nameInQuestion_96 (by decide) ?_
    exact sk_iret hx hb hr rfl hlocks hK hP hD hS (⟨by rw [g_12]; exact nq_269 rfl, rfl⟩) (Nat.le_of_ble_eq_true rfl) (Nat.le_of_ble_eq_true rfl) dX8_nameInQuestion_97
  by_cases g_13 : o = 270
  · refine lv_tableIn (off := 71) (tgt := 72) hx hb dX8_nameInQuestion_1 (by rw [g_13]; decide) (by rw [g_13]; decide) (by rw [g_13]; rfl) (by decide) ?_
    refine lv_sipush (v := 10003) hx hb dX8_nameInQuestion_72 (by decide) ?_
    exact sk_iret hx hb hr rfl hlocks hK hP hD hS (⟨by rw [g_13]; exact nq_270 rfl, rfl⟩) (Nat.le_of_ble_eq_true rfl) (Nat.le_of_ble_eq_true rfl) dX8_nameInQuestion_75
  by_cases g_14 : o = 271
  · refine lv_tableIn (off := 87) (tgt := 88) hx hb dX8_nameInQuestion_1 (by rw [g_14]; decide) (by rw [g_14]; decide) (by rw [g_14]; rfl) (by decide) ?_
    refine lv_sipush (v := 10008) hx hb dX8_nameInQuestion_88 (by decide) ?_
    exact sk_iret hx hb hr rfl hlocks hK hP hD hS (⟨by rw [g_14]; exact nq_271 rfl, rfl⟩) (Nat.le_of_ble_eq_true rfl) (Nat.le_of_ble_eq_true rfl) dX8_nameInQuestion_91
  refine lv_tableOut (tgt := 96) hx hb dX8_nameInQuestion_1 (sk_out2 258 271 (by intro k hk1 hk2; rcases (show k = 258 ∨ k = 259 ∨ k = 260 ∨ k = 261 ∨ k = 262 ∨ k = 263 ∨ k = 264 ∨ k = 265 ∨ k = 266 ∨ k = 267 ∨ k = 268 ∨ k = 269 ∨ k = 270 ∨ k = 271 by omega) with rfl | rfl | rfl | rfl | rfl | rfl | rfl | rfl | rfl | rfl | rfl | rfl | rfl | rfl <;> assumption)) (by decide) ?_
  refine lv_iconst (v := (-1)) hx hb dX8_nameInQuestion_96 (by decide) ?_
  exact sk_iret hx hb hr rfl hlocks hK hP hD hS (⟨nq_def (by assumption) (by assumption) (by assumption) (by assumption) (by assumption) (by assumption), rfl⟩) (Nat.le_of_ble_eq_true rfl) (Nat.le_of_ble_eq_true rfl) dX8_nameInQuestion_97
def CT_ereadSum (l : Launch) (D : va_G) (cI cJ cC cZ cS : ClassId) (zk zv : Nat) (zf : Value) (dd : Nat) : Prop := ∀ (q : Nat → Nat) (u0 : Nat) (kn : Nat) (xa : Nat) (xv : Int32) (xo : Nat) (xt : Int32) (xz : Nat) (xf : Int32) (xp : Int32) (tl : Nat) (tb : Nat → Nat) (h0 : Nat) (k1 : Nat) (k2 : Nat) (k3 : Nat) (k4 : Nat) (cl : Nat) (mw : Nat) (f1 : Nat → Int32) (og : Res) (hxa : xa ≤ 1600) (hxz : xz ≤ 1600) (htl : tl ≤ 1600) (htb : ∀ j, tb j ≤ 255) (hcl : cl ≤ 1600) (hmw : mw ≤ 1) (hkn : kn ≤ 2) (hdd : xo + dd = 6) (hO : rsO tb tl og xa xv xt xz xf xp cl mw f1) (hlen : lenO og), skMZ zk zv zf l yX8_readSum cX8_readSum 4 none (23 + 5 * dd) (675 + 100 * dd) 0 0 D (skT cI cJ cC cZ cS) [.ref u0, .ref h0] [ro_rn u0 8 (q 2) kn, ro_rnininii (q 2) 6 (q 0) xa xv xo xt xz xf xp, ro_rn (q 0) 10 (q 20) tl, ra_N (q 20) cI 1600 tb, ro_rrrrnn h0 0 k1 k2 k3 k4 cl mw, ra_I k1 cI 1600 f1] (skV D (skT cI cJ cC cZ cS) (fun (u : va_W) => ∃ (xa2 : Nat), ∃ (xv2 : Int32), ∃ (xt2 : Int32), ∃ (xz2 : Nat), ∃ (xf2 : Int32), ∃ (xp2 : Int32), ∃ (c2 : Nat), ∃ (w2 : Nat), ∃ (g1 : Nat → Int32), xa2 ≤ 1600 ∧ xz2 ≤ 1600 ∧ c2 ≤ 1600 ∧ w2 ≤ 1 ∧ rsO tb tl (bindR og (apF (sumOf tb tl (rdPart tb tl kn dd)))) xa2 xv2 xt2 xz2 xf2 xp2 c2 w2 g1 ∧ u = [ro_rn u0 8 (q 2) kn, ro_rnininii (q 2) 6 (q 0) xa2 xv2 xo xt2 xz2 xf2 xp2, ro_rn (q 0) 10 (q 20) tl, ra_N (q 20) cI 1600 tb, ro_rrrrnn h0 0 k1 k2 k3 k4 c2 w2, ra_I k1 cI 1600 g1]))
def CT_ereadPart (l : Launch) (D : va_G) (cI cJ cC cZ cS : ClassId) (zk zv : Nat) (zf : Value) (dd : Nat) : Prop := ∀ (q : Nat → Nat) (u0 : Nat) (kn : Nat) (xa : Nat) (xv : Int32) (xo : Nat) (xt : Int32) (xz : Nat) (xf : Int32) (xp : Int32) (tl : Nat) (tb : Nat → Nat) (h0 : Nat) (k1 : Nat) (k2 : Nat) (k3 : Nat) (k4 : Nat) (cl : Nat) (mw : Nat) (f1 : Nat → Int32) (og : Res) (hxa : xa ≤ 1600) (hxz : xz ≤ 1600) (htl : tl ≤ 1600) (htb : ∀ j, tb j ≤ 255) (hcl : cl ≤ 1600) (hmw : mw ≤ 1) (hkn : kn ≤ 2) (hdd : xo + dd = 6) (hO : rsO tb tl og xa xv xt xz xf xp cl mw f1) (hlen : lenO og), skMZ zk zv zf l yX8_readPart cX8_readPart 4 none (21 + 5 * dd) (625 + 100 * dd) 0 0 D (skT cI cJ cC cZ cS) [.ref u0, .ref h0] [ro_rn u0 8 (q 2) kn, ro_rnininii (q 2) 6 (q 0) xa xv xo xt xz xf xp, ro_rn (q 0) 10 (q 20) tl, ra_N (q 20) cI 1600 tb, ro_rrrrnn h0 0 k1 k2 k3 k4 cl mw, ra_I k1 cI 1600 f1] (skV D (skT cI cJ cC cZ cS) (fun (u : va_W) => ∃ (xa2 : Nat), ∃ (xv2 : Int32), ∃ (xt2 : Int32), ∃ (xz2 : Nat), ∃ (xf2 : Int32), ∃ (xp2 : Int32), ∃ (c2 : Nat), ∃ (w2 : Nat), ∃ (g1 : Nat → Int32), xa2 ≤ 1600 ∧ xz2 ≤ 1600 ∧ c2 ≤ 1600 ∧ w2 ≤ 1 ∧ rsO tb tl (bindR og (apF (rdPart tb tl kn dd))) xa2 xv2 xt2 xz2 xf2 xp2 c2 w2 g1 ∧ u = [ro_rn u0 8 (q 2) kn, ro_rnininii (q 2) 6 (q 0) xa2 xv2 xo xt2 xz2 xf2 xp2, ro_rn (q 0) 10 (q 20) tl, ra_N (q 20) cI 1600 tb, ro_rrrrnn h0 0 k1 k2 k3 k4 c2 w2, ra_I k1 cI 1600 g1]))
def CT_ereadPair (l : Launch) (D : va_G) (cI cJ cC cZ cS : ClassId) (zk zv : Nat) (zf : Value) (dd : Nat) : Prop := ∀ (q : Nat → Nat) (u0 : Nat) (kn : Nat) (xa : Nat) (xv : Int32) (xo : Nat) (xt : Int32) (xz : Nat) (xf : Int32) (xp : Int32) (tl : Nat) (tb : Nat → Nat) (h0 : Nat) (k1 : Nat) (k2 : Nat) (k3 : Nat) (k4 : Nat) (cl : Nat) (mw : Nat) (f1 : Nat → Int32) (og : Res) (o : Int32) (v : Nat) (hxa : xa ≤ 1600) (hxz : xz ≤ 1600) (htl : tl ≤ 1600) (htb : ∀ j, tb j ≤ 255) (hcl : cl ≤ 1600) (hmw : mw ≤ 1) (hkn : kn ≤ 2) (hdd : xo + dd = 6) (hO : rsO tb tl og xa xv xt xz xf xp cl mw f1) (hlen : lenO og) (hv : o = cm v) (hv2 : v ≤ 10999), skMZ zk zv zf l yX8_readPair cX8_readPair 3 none (20 + 5 * dd) (600 + 100 * dd) 0 0 D (skT cI cJ cC cZ cS) [.ref u0, .ref h0, .int o] [ro_rn u0 8 (q 2) kn, ro_rnininii (q 2) 6 (q 0) xa xv xo xt xz xf xp, ro_rn (q 0) 10 (q 20) tl, ra_N (q 20) cI 1600 tb, ro_rrrrnn h0 0 k1 k2 k3 k4 cl mw, ra_I k1 cI 1600 f1] (skV D (skT cI cJ cC cZ cS) (fun (u : va_W) => ∃ (xa2 : Nat), ∃ (xv2 : Int32), ∃ (xt2 : Int32), ∃ (xz2 : Nat), ∃ (xf2 : Int32), ∃ (xp2 : Int32), ∃ (c2 : Nat), ∃ (w2 : Nat), ∃ (g1 : Nat → Int32), xa2 ≤ 1600 ∧ xz2 ≤ 1600 ∧ c2 ≤ 1600 ∧ w2 ≤ 1 ∧ rsO tb tl (bindR og (apF (pairP tb tl kn v dd))) xa2 xv2 xt2 xz2 xf2 xp2 c2 w2 g1 ∧ u = [ro_rn u0 8 (q 2) kn, ro_rnininii (q 2) 6 (q 0) xa2 xv2 xo xt2 xz2 xf2 xp2, ro_rn (q 0) 10 (q 20) tl, ra_N (q 20) cI 1600 tb, ro_rrrrnn h0 0 k1 k2 k3 k4 c2 w2, ra_I k1 cI 1600 g1]))
def CT_ereadProduct (l : Launch) (D : va_G) (cI cJ cC cZ cS : ClassId) (zk zv : Nat) (zf : Value) (dd : Nat) : Prop := ∀ (q : Nat → Nat) (u0 : Nat) (kn : Nat) (xa : Nat) (xv : Int32) (xo : Nat) (xt : Int32) (xz : Nat) (xf : Int32) (xp : Int32) (tl : Nat) (tb : Nat → Nat) (h0 : Nat) (k1 : Nat) (k2 : Nat) (k3 : Nat) (k4 : Nat) (cl : Nat) (mw : Nat) (f1 : Nat → Int32) (og : Res) (hxa : xa ≤ 1600) (hxz : xz ≤ 1600) (htl : tl ≤ 1600) (htb : ∀ j, tb j ≤ 255) (hcl : cl ≤ 1600) (hmw : mw ≤ 1) (hkn : kn ≤ 2) (hdd : xo + dd = 6) (hO : rsO tb tl og xa xv xt xz xf xp cl mw f1) (hlen : lenO og), skMZ zk zv zf l yX8_readProduct cX8_readProduct 4 none (22 + 5 * dd) (650 + 100 * dd) 0 0 D (skT cI cJ cC cZ cS) [.ref u0, .ref h0] [ro_rn u0 8 (q 2) kn, ro_rnininii (q 2) 6 (q 0) xa xv xo xt xz xf xp, ro_rn (q 0) 10 (q 20) tl, ra_N (q 20) cI 1600 tb, ro_rrrrnn h0 0 k1 k2 k3 k4 cl mw, ra_I k1 cI 1600 f1] (skV D (skT cI cJ cC cZ cS) (fun (u : va_W) => ∃ (xa2 : Nat), ∃ (xv2 : Int32), ∃ (xt2 : Int32), ∃ (xz2 : Nat), ∃ (xf2 : Int32), ∃ (xp2 : Int32), ∃ (c2 : Nat), ∃ (w2 : Nat), ∃ (g1 : Nat → Int32), xa2 ≤ 1600 ∧ xz2 ≤ 1600 ∧ c2 ≤ 1600 ∧ w2 ≤ 1 ∧ rsO tb tl (bindR og (apF (prodOf tb tl (rdPart tb tl kn dd)))) xa2 xv2 xt2 xz2 xf2 xp2 c2 w2 g1 ∧ u = [ro_rn u0 8 (q 2) kn, ro_rnininii (q 2) 6 (q 0) xa2 xv2 xo xt2 xz2 xf2 xp2, ro_rn (q 0) 10 (q 20) tl, ra_N (q 20) cI 1600 tb, ro_rrrrnn h0 0 k1 k2 k3 k4 c2 w2, ra_I k1 cI 1600 g1]))
set_option maxHeartbeats 4000000 in
set_option maxRecDepth 100000 in
theorem c_ereadPair (l : Launch) (D : va_G) (cI cJ cC cZ cS : ClassId) (zk zv : Nat) (zf : Value) (dd : Nat) (hs : ∀ d, d + 1 = dd → CT_ereadSum l D cI cJ cC cZ cS zk zv zf d) : CT_ereadPair l D cI cJ cC cZ cS zk zv zf dd := by
  intro q u0 kn xa xv xo xt xz xf xp tl tb h0 k1 k2 k3 k4 cl mw f1 og o v hxa hxz htl htb hcl hmw hkn hdd hO hlen hv hv2
  refine skMZ_of pf_X8_readPair (Nat.le_of_ble_eq_true rfl) ?_
  intro p e s m below meth c A ls E hP hD hZ hl
  refine skE_el E (fun hx hb hr hml hlocks hin hown hts hK hA => ?_)
  have hown : s.vm.findClass RX8 = some m.cls := hown
  have hS : va_S A s.heap s.heap [] := va_S.rf
  have hl : lv_has ls 3 [(0, .ref u0), (1, .ref h0), (2, .int o)] := hl
  refine lv_aload_n hx hb dX8_readPair_0 rfl (lv_at hl 0 rfl) ?_
  refine sk_get (v := .ref (q 2)) (C := RX8) (T := TX8) (N := 2) hx hb hts inlX8 hown hK hP 0 rfl rfl 0 (Nat.le_of_ble_eq_true rfl) w_1_100 rfl dX8_readPair_1 ?_
  refine lv_bipush (v := 40) hx hb dX8_readPair_4 (by decide) ?_
  refine sk_ViZ (q0 := 0) (n := 1) (rest := []) (wr := fmR om_6_1c _) ⟨hx, hb, hml, hown, hts⟩ hl.1 (c_erd_opens l D cI cJ cC cZ cS zk zv zf q xa xv xo xt xz xf xp tl tb 40 (rc og) hxa hxz htl htb (by decide) (by omega) (hO).1) w_3_101 w_3_102 w_3_103 w_1_4 w_3_104 hd_X6_opens_1 ⟨⟨(by dsimp only; omega), (by dsimp only; omega)⟩, (by dsimp only; omega), (by dsimp only; omega)⟩ hK hP hD hS hZ hA (fmT om_6_1c 0) (fmF om_6_1c 0) (fm_C1 rfl rfl) (fm_R rfl rfl) (fm_nT om_6_1c 0) (fm_nF om_6_1c 0) (fm_di om_6_1c 0) rfl rfl rfl rfl (Nat.le_of_ble_eq_true rfl) dX8_readPair_6 (fun r_8 u H locs hw hP hD hS => ?_)
  refine exE hw (fun xa2_1 hw1 => exE hw1 (fun xv2_2 hw2 => exE hw2 (fun xt2_3 hw3 => exE hw3 (fun xz2_4 hw4 => exE hw4 (fun xf2_5 hw5 => exE hw5 (fun xp2_6 hw6 => exE hw6 (fun b_7 hw7 => anE hw7 (fun hxa2_9 hw8 => anE hw8 (fun hxz2_10 hw9 => anE hw9 (fun hb1_11 hw10 => anE hw10 (fun hO2_12 hw11 => anE hw11 (fun er_14 eu_13 => ?_))))))))))))
  clear hw hw1 hw2 hw3 hw4 hw5 hw6 hw7 hw8 hw9 hw10 hw11
  subst er_14
  refine o_mgE (ws' := [ro_rn u0 8 (q 2) kn, ro_rnininii (q 2) 6 (q 0) xa2_1 xv2_2 (xo + b_7) xt2_3 xz2_4 xf2_5 xp2_6, ro_rn (q 0) 10 (q 20) tl, ra_N (q 20) cI 1600 tb, ro_rrrrnn h0 0 k1 k2 k3 k4 cl mw, ra_I k1 cI 1600 f1]) eu_13 hP hD rfl (fun hP hD => ?_)
  have hO_15 := rs_bd hO hO2_12
  have hL_16 := lenS_op (n := tl) (w := 40) (xo := xo) htb (by decide) hlen
  refine lv_if_eq (tgt := 52) hx hb dX8_readPair_9 (by decide) (fun c_17 => ?_) (fun c_17 => ?_)
  · have c_17 : b_7 = 0 := (neq b_7 0 (by omega) (Nat.le_of_ble_eq_true rfl)).mp c_17
    obtain rfl : b_7 = 0 := by omega
    exact sk_vret hx hb hr hlocks hK hP hD hS (⟨xa2_1, xv2_2, xt2_3, xz2_4, xf2_5, xp2_6, cl, mw, f1, hxa2_9, hxz2_10, hcl, hmw, by rw [← p_pair0 (v := v) (xo := xo) htb hO (rr_0 hb1_11 (by omega)) hdd]; exact hO_15, rfl⟩) (Nat.le_of_ble_eq_true rfl) (Nat.le_of_ble_eq_true rfl) dX8_readPair_52
  · have c_17 : ¬ (b_7 = 0) := fun h => c_17 ((neq b_7 0 (by omega) (Nat.le_of_ble_eq_true rfl)).mpr h)
    have hxo1 := (rr_1 hb1_11 (by omega)).1
    obtain rfl : b_7 = 1 := by omega
    refine lv_aload_n hx hb dX8_readPair_12 rfl (lv_at hl 0 rfl) ?_
    refine lv_aload_n hx hb dX8_readPair_13 rfl (lv_at hl 1 rfl) ?_
    refine sk_VvZ (q0 := 0) (n := 1) (rest := []) (wr := fmR om_6_3f _) ⟨hx, hb, hml, hown, hts⟩ hl.1 (hs (dd - 1) (by omega) q u0 kn xa2_1 xv2_2 (xo + 1) xt2_3 xz2_4 xf2_5 xp2_6 tl tb h0 k1 k2 k3 k4 cl mw f1 (bd og (opF tb tl 40 xo)) hxa2_9 hxz2_10 htl htb hcl hmw hkn (by omega) hO_15 (lenO_S hL_16)) w_3_84 w_3_86 w_0_6 w_1_6 w_3_87 hd_X8_readSum_1 ⟨⟨(by dsimp only; omega), (by dsimp only; omega)⟩, (by dsimp only; omega), (by dsimp only; omega)⟩ hK hP hD hS hZ hA (fmT om_6_3f 0) (fmF om_6_3f 0) (fm_C1 rfl rfl) (fm_R rfl rfl) (fm_nT om_6_3f 0) (fm_nF om_6_3f 0) (fm_di om_6_3f 0) rfl rfl rfl rfl (Nat.le_of_ble_eq_true rfl) dX8_readPair_14 (fun u H locs hw hP hD hS => ?_)
    refine exE hw (fun xa2_18 hw1 => exE hw1 (fun xv2_19 hw2 => exE hw2 (fun xt2_20 hw3 => exE hw3 (fun xz2_21 hw4 => exE hw4 (fun xf2_22 hw5 => exE hw5 (fun xp2_23 hw6 => exE hw6 (fun c2_24 hw7 => exE hw7 (fun w2_25 hw8 => exE hw8 (fun g1_26 hw9 => anE hw9 (fun hxa2_27 hw10 => anE hw10 (fun hxz2_28 hw11 => anE hw11 (fun hc2_29 hw12 => anE hw12 (fun hw2_30 hw13 => anE hw13 (fun hO2_31 eu_32 => ?_))))))))))))))
    clear hw hw1 hw2 hw3 hw4 hw5 hw6 hw7 hw8 hw9 hw10 hw11 hw12 hw13
    refine o_mgE (ws' := [ro_rn u0 8 (q 2) kn, ro_rnininii (q 2) 6 (q 0) xa2_18 xv2_19 (xo + 1) xt2_20 xz2_21 xf2_22 xp2_23, ro_rn (q 0) 10 (q 20) tl, ra_N (q 20) cI 1600 tb, ro_rrrrnn h0 0 k1 k2 k3 k4 c2_24 w2_25, ra_I k1 cI 1600 g1_26]) eu_32 hP hD rfl (fun hP hD => ?_)
    have hL_33 := lenS_ap (len_sum (tb := tb) (n := tl) (len_part (tb := tb) (n := tl) (kind := kn) (dd - 1))) hL_16
    refine lv_aload_n hx hb dX8_readPair_17 rfl (lv_at hl 0 rfl) ?_
    refine sk_get (v := .ref (q 2)) (C := RX8) (T := TX8) (N := 2) hx hb hts inlX8 hown hK hP 0 rfl rfl 0 (Nat.le_of_ble_eq_true rfl) w_1_100 rfl dX8_readPair_18 ?_
    refine lv_bipush (v := 44) hx hb dX8_readPair_21 (by decide) ?_
    refine sk_VvZ (q0 := 0) (n := 1) (rest := []) (wr := fmR om_6_1c _) ⟨hx, hb, hml, hown, hts⟩ hl.1 (c_erd_needs l D cI cJ cC cZ cS zk zv zf q xa2_18 xv2_19 (xo + 1) xt2_20 xz2_21 xf2_22 xp2_23 tl tb 44 (rc (bindR (bd og (opF tb tl 40 xo)) (apF (sumOf tb tl (rdPart tb tl kn (dd - 1)))))) hxa2_27 hxz2_28 htl htb (by decide) (hO2_31).1) w_3_109 w_3_51 w_3_52 w_1_4 w_3_53 hd_X6_needs_1 ⟨⟨(by dsimp only; omega), (by dsimp only; omega)⟩, (by dsimp only; omega), (by dsimp only; omega)⟩ hK hP hD hS hZ hA (fmT om_6_1c 0) (fmF om_6_1c 0) (fm_C1 rfl rfl) (fm_R rfl rfl) (fm_nT om_6_1c 0) (fm_nF om_6_1c 0) (fm_di om_6_1c 0) rfl rfl rfl rfl (Nat.le_of_ble_eq_true rfl) dX8_readPair_23 (fun u H locs hw hP hD hS => ?_)
    refine exE hw (fun xa2_34 hw1 => exE hw1 (fun xv2_35 hw2 => exE hw2 (fun xt2_36 hw3 => exE hw3 (fun xz2_37 hw4 => exE hw4 (fun xf2_38 hw5 => exE hw5 (fun xp2_39 hw6 => anE hw6 (fun hxa2_40 hw7 => anE hw7 (fun hxz2_41 hw8 => anE hw8 (fun hO2_42 eu_43 => ?_)))))))))
    clear hw hw1 hw2 hw3 hw4 hw5 hw6 hw7 hw8
    refine o_mgE (ws' := [ro_rn u0 8 (q 2) kn, ro_rnininii (q 2) 6 (q 0) xa2_34 xv2_35 (xo + 1) xt2_36 xz2_37 xf2_38 xp2_39, ro_rn (q 0) 10 (q 20) tl, ra_N (q 20) cI 1600 tb, ro_rrrrnn h0 0 k1 k2 k3 k4 c2_24 w2_25, ra_I k1 cI 1600 g1_26]) eu_43 hP hD rfl (fun hP hD => ?_)
    have hO_44 := rs_bd hO2_31 hO2_42
    have hL_45 := lenS_bd (fwd_tk (tb := tb) (n := tl) (w := 44)) hL_33
    refine lv_aload_n hx hb dX8_readPair_26 rfl (lv_at hl 0 rfl) ?_
    refine lv_aload_n hx hb dX8_readPair_27 rfl (lv_at hl 1 rfl) ?_
    refine sk_VvZ (q0 := 0) (n := 1) (rest := []) (wr := fmR om_6_3f _) ⟨hx, hb, hml, hown, hts⟩ hl.1 (hs (dd - 1) (by omega) q u0 kn xa2_34 xv2_35 (xo + 1) xt2_36 xz2_37 xf2_38 xp2_39 tl tb h0 k1 k2 k3 k4 c2_24 w2_25 g1_26 (bd (bindR (bd og (opF tb tl 40 xo)) (apF (sumOf tb tl (rdPart tb tl kn (dd - 1))))) (tkF tb tl 44)) hxa2_40 hxz2_41 htl htb hc2_29 hw2_30 hkn (by omega) hO_44 (lenO_S hL_45)) w_3_84 w_3_86 w_0_6 w_1_6 w_3_87 hd_X8_readSum_1 ⟨⟨(by dsimp only; omega), (by dsimp only; omega)⟩, (by dsimp only; omega), (by dsimp only; omega)⟩ hK hP hD hS hZ hA (fmT om_6_3f 0) (fmF om_6_3f 0) (fm_C1 rfl rfl) (fm_R rfl rfl) (fm_nT om_6_3f 0) (fm_nF om_6_3f 0) (fm_di om_6_3f 0) rfl rfl rfl rfl (Nat.le_of_ble_eq_true rfl) dX8_readPair_28 (fun u H locs hw hP hD hS => ?_)
    refine exE hw (fun xa2_46 hw1 => exE hw1 (fun xv2_47 hw2 => exE hw2 (fun xt2_48 hw3 => exE hw3 (fun xz2_49 hw4 => exE hw4 (fun xf2_50 hw5 => exE hw5 (fun xp2_51 hw6 => exE hw6 (fun c2_52 hw7 => exE hw7 (fun w2_53 hw8 => exE hw8 (fun g1_54 hw9 => anE hw9 (fun hxa2_55 hw10 => anE hw10 (fun hxz2_56 hw11 => anE hw11 (fun hc2_57 hw12 => anE hw12 (fun hw2_58 hw13 => anE hw13 (fun hO2_59 eu_60 => ?_))))))))))))))
    clear hw hw1 hw2 hw3 hw4 hw5 hw6 hw7 hw8 hw9 hw10 hw11 hw12 hw13
    refine o_mgE (ws' := [ro_rn u0 8 (q 2) kn, ro_rnininii (q 2) 6 (q 0) xa2_46 xv2_47 (xo + 1) xt2_48 xz2_49 xf2_50 xp2_51, ro_rn (q 0) 10 (q 20) tl, ra_N (q 20) cI 1600 tb, ro_rrrrnn h0 0 k1 k2 k3 k4 c2_52 w2_53, ra_I k1 cI 1600 g1_54]) eu_60 hP hD rfl (fun hP hD => ?_)
    have hL_61 := lenS_ap (len_sum (tb := tb) (n := tl) (len_part (tb := tb) (n := tl) (kind := kn) (dd - 1))) hL_45
    refine lv_aload_n hx hb dX8_readPair_31 rfl (lv_at hl 0 rfl) ?_
    refine sk_get (v := .ref (q 2)) (C := RX8) (T := TX8) (N := 2) hx hb hts inlX8 hown hK hP 0 rfl rfl 0 (Nat.le_of_ble_eq_true rfl) w_1_100 rfl dX8_readPair_32 ?_
    refine sk_Vv (q0 := 0) (n := 0) (rest := []) (wr := fmR om_6_10 _) ⟨hx, hb, hml, hown, hts⟩ hl.1 (c_erd_shuts l D cI cJ cC cZ cS q xa2_46 xv2_47 (xo + 1) xt2_48 xz2_49 xf2_50 xp2_51 (by omega) (by omega)) w_3_105 w_3_106 w_3_107 w_1_4 w_3_108 hd_X6_shuts_0 ⟨⟨(by dsimp only; omega), (by dsimp only; omega)⟩, (by dsimp only; omega), (by dsimp only; omega)⟩ hK hP hD hS hA (fmT om_6_10 0) (fmF om_6_10 0) (fm_C1 rfl rfl) (fm_R rfl rfl) (fm_nT om_6_10 0) (fm_nF om_6_10 0) (fm_di om_6_10 0) rfl rfl rfl rfl (Nat.le_of_ble_eq_true rfl) dX8_readPair_35 (fun u H locs hw hP hD hS => ?_)
    refine o_mgE (ws' := [ro_rn u0 8 (q 2) kn, ro_rnininii (q 2) 6 (q 0) xa2_46 xv2_47 ((xo + 1) - 1) xt2_48 xz2_49 xf2_50 xp2_51, ro_rn (q 0) 10 (q 20) tl, ra_N (q 20) cI 1600 tb, ro_rrrrnn h0 0 k1 k2 k3 k4 c2_52 w2_53, ra_I k1 cI 1600 g1_54]) hw hP hD rfl (fun hP hD => ?_)
    refine lv_aload_n hx hb dX8_readPair_38 rfl (lv_at hl 0 rfl) ?_
    refine sk_get (v := .ref (q 2)) (C := RX8) (T := TX8) (N := 2) hx hb hts inlX8 hown hK hP 0 rfl rfl 0 (Nat.le_of_ble_eq_true rfl) w_1_100 rfl dX8_readPair_39 ?_
    refine lv_bipush (v := 41) hx hb dX8_readPair_42 (by decide) ?_
    refine sk_VvZ (q0 := 0) (n := 1) (rest := []) (wr := fmR om_6_1c _) ⟨hx, hb, hml, hown, hts⟩ hl.1 (c_erd_needs l D cI cJ cC cZ cS zk zv zf q xa2_46 xv2_47 ((xo + 1) - 1) xt2_48 xz2_49 xf2_50 xp2_51 tl tb 41 (rc (bindR (bd (bindR (bd og (opF tb tl 40 xo)) (apF (sumOf tb tl (rdPart tb tl kn (dd - 1))))) (tkF tb tl 44)) (apF (sumOf tb tl (rdPart tb tl kn (dd - 1)))))) hxa2_55 hxz2_56 htl htb (by decide) (hO2_59).1) w_3_109 w_3_51 w_3_52 w_1_4 w_3_53 hd_X6_needs_1 ⟨⟨(by dsimp only; omega), (by dsimp only; omega)⟩, (by dsimp only; omega), (by dsimp only; omega)⟩ hK hP hD hS hZ hA (fmT om_6_1c 0) (fmF om_6_1c 0) (fm_C1 rfl rfl) (fm_R rfl rfl) (fm_nT om_6_1c 0) (fm_nF om_6_1c 0) (fm_di om_6_1c 0) rfl rfl rfl rfl (Nat.le_of_ble_eq_true rfl) dX8_readPair_44 (fun u H locs hw hP hD hS => ?_)
    refine exE hw (fun xa2_62 hw1 => exE hw1 (fun xv2_63 hw2 => exE hw2 (fun xt2_64 hw3 => exE hw3 (fun xz2_65 hw4 => exE hw4 (fun xf2_66 hw5 => exE hw5 (fun xp2_67 hw6 => anE hw6 (fun hxa2_68 hw7 => anE hw7 (fun hxz2_69 hw8 => anE hw8 (fun hO2_70 eu_71 => ?_)))))))))
    clear hw hw1 hw2 hw3 hw4 hw5 hw6 hw7 hw8
    refine o_mgE (ws' := [ro_rn u0 8 (q 2) kn, ro_rnininii (q 2) 6 (q 0) xa2_62 xv2_63 ((xo + 1) - 1) xt2_64 xz2_65 xf2_66 xp2_67, ro_rn (q 0) 10 (q 20) tl, ra_N (q 20) cI 1600 tb, ro_rrrrnn h0 0 k1 k2 k3 k4 c2_52 w2_53, ra_I k1 cI 1600 g1_54]) eu_71 hP hD rfl (fun hP hD => ?_)
    have hO_72 := rs_bd hO2_59 hO2_70
    have hL_73 := lenS_bd (fwd_tk (tb := tb) (n := tl) (w := 41)) hL_61
    refine lv_aload_n hx hb dX8_readPair_47 rfl (lv_at hl 1 rfl) ?_
    refine lv_iload_n hx hb dX8_readPair_48 rfl (lv_at hl 2 rfl) ?_
    refine sk_Vv (q0 := 0) (n := 1) (rest := []) (wr := fmR om_6_3 _) ⟨hx, hb, hml, hown, hts⟩ hl.1 (c_eCode_addX l D cI cJ cC cZ cS h0 k1 k2 k3 k4 c2_52 w2_53 g1_54 o (bd (bindR (bd (bindR (bd og (opF tb tl 40 xo)) (apF (sumOf tb tl (rdPart tb tl kn (dd - 1))))) (tkF tb tl 44)) (apF (sumOf tb tl (rdPart tb tl kn (dd - 1))))) (tkF tb tl 41)) v hc2_57 hw2_58 hv hv2 (hO_72).2 (rm_S hO_72 htl hL_73)) w_3_97 w_3_98 w_3_99 w_1_8 w_3_100 hd_X0_add_1 ⟨⟨(by dsimp only; omega), (by dsimp only; omega)⟩, (by dsimp only; omega), (by dsimp only; omega)⟩ hK hP hD hS hA (fmT om_6_3 0) (fmF om_6_3 0) (fm_C1 rfl rfl) (fm_R rfl rfl) (fm_nT om_6_3 0) (fm_nF om_6_3 0) (fm_di om_6_3 0) rfl rfl rfl rfl (Nat.le_of_ble_eq_true rfl) dX8_readPair_49 (fun u H locs hw hP hD hS => ?_)
    refine exE hw (fun c2_74 hw1 => exE hw1 (fun w2_75 hw2 => exE hw2 (fun g1_76 hw3 => anE hw3 (fun hc2_77 hw4 => anE hw4 (fun hw2_78 hw5 => anE hw5 (fun hO2_79 eu_80 => ?_))))))
    clear hw hw1 hw2 hw3 hw4 hw5
    refine o_mgE (ws' := [ro_rn u0 8 (q 2) kn, ro_rnininii (q 2) 6 (q 0) xa2_62 xv2_63 ((xo + 1) - 1) xt2_64 xz2_65 xf2_66 xp2_67, ro_rn (q 0) 10 (q 20) tl, ra_N (q 20) cI 1600 tb, ro_rrrrnn h0 0 k1 k2 k3 k4 c2_74 w2_75, ra_I k1 cI 1600 g1_76]) eu_80 hP hD rfl (fun hP hD => ?_)
    have hO_81 := rs_ad hO_72 hO2_79
    have hL_82 := lenO_ad (v := v) hL_73
    exact sk_vret hx hb hr hlocks hK hP hD hS (⟨xa2_62, xv2_63, xt2_64, xz2_65, xf2_66, xp2_67, c2_74, w2_75, g1_76, hxa2_68, hxz2_69, hc2_77, hw2_78, by rw [← p_pair1 (xo := xo) htb hO (rr_1 hb1_11 (by omega)).2 (by omega) (by omega)]; exact hO_81, rfl⟩) (Nat.le_of_ble_eq_true rfl) (Nat.le_of_ble_eq_true rfl) dX8_readPair_52
theorem cm_m1 {k : Nat} (h : k < 10) : ¬ cm (40 + k) = -1 := by
  match k, h with
  | 0, _ => decide
  | 1, _ => decide
  | 2, _ => decide
  | 3, _ => decide
  | 4, _ => decide
  | 5, _ => decide
  | 6, _ => decide
  | 7, _ => decide
  | 8, _ => decide
  | 9, _ => decide
  | n + 10, h => exact absurd h (by omega)
set_option maxHeartbeats 4000000 in
set_option maxRecDepth 100000 in
theorem c_ereadPart (l : Launch) (D : va_G) (cI cJ cC cZ cS : ClassId) (zk zv : Nat) (zf : Value) (dd : Nat) (hs : ∀ d, d + 1 = dd → CT_ereadSum l D cI cJ cC cZ cS zk zv zf d) (hp : ∀ d, d + 1 = dd → CT_ereadPart l D cI cJ cC cZ cS zk zv zf d) (hq : CT_ereadPair l D cI cJ cC cZ cS zk zv zf dd) : CT_ereadPart l D cI cJ cC cZ cS zk zv zf dd := by
  intro q u0 kn xa xv xo xt xz xf xp tl tb h0 k1 k2 k3 k4 cl mw f1 og hxa hxz htl htb hcl hmw hkn hdd hO hlen
  refine skMZ_of pf_X8_readPart (Nat.le_of_ble_eq_true rfl) ?_
  intro p e s m below meth c A ls E hP hD hZ hl
  refine skE_el E (fun hx hb hr hml hlocks hin hown hts hK hA => ?_)
  have hown : s.vm.findClass RX8 = some m.cls := hown
  have hS : va_S A s.heap s.heap [] := va_S.rf
  have hl : lv_has ls 4 [(0, .ref u0), (1, .ref h0)] := hl
  refine lv_aload_n hx hb dX8_readPart_0 rfl (lv_at hl 0 rfl) ?_
  refine sk_get (v := .ref (q 2)) (C := RX8) (T := TX8) (N := 2) hx hb hts inlX8 hown hK hP 0 rfl rfl 0 (Nat.le_of_ble_eq_true rfl) w_1_100 rfl dX8_readPart_1 ?_
  refine sk_get (v := .int xt) (C := RX6) (T := TX6) (N := 8) hx hb hts inlX6 hown hK hP 1 rfl rfl 4 (Nat.le_of_ble_eq_true rfl) w_1_63 rfl dX8_readPart_4 ?_
  refine lv_istore_n (lv' := [(2, .int xt), (0, .ref u0), (1, .ref h0)]) hx hb dX8_readPart_7 rfl hl (by decide) rfl (fun ls hl => ?_)
  refine lv_iload_n hx hb dX8_readPart_8 rfl (lv_at hl 0 rfl) ?_
  refine lv_bipush (v := (-3)) hx hb dX8_readPart_9 (by decide) ?_
  refine lv_icmp_ne (tgt := 32) hx hb dX8_readPart_11 (by decide) (fun c_1 => ?_) (fun c_1 => ?_)
  · skip
    refine lv_iload_n hx hb dX8_readPart_32 rfl (lv_at hl 0 rfl) ?_
    refine lv_bipush (v := 40) hx hb dX8_readPart_33 (by decide) ?_
    refine lv_icmp_ne (tgt := 74) hx hb dX8_readPart_35 (by decide) (fun c_2 => ?_) (fun c_2 => ?_)
    · skip
      refine lv_iload_n hx hb dX8_readPart_74 rfl (lv_at hl 0 rfl) ?_
      refine lv_sipush (v := 277) hx hb dX8_readPart_75 (by decide) ?_
      refine lv_icmp_eq (tgt := 88) hx hb dX8_readPart_78 (by decide) (fun c_3 => ?_) (fun c_3 => ?_)
      · skip
        refine lv_aload_n hx hb dX8_readPart_88 rfl (lv_at hl 1 rfl) ?_
        refine sk_get (v := .ref (q 2)) (C := RX8) (T := TX8) (N := 2) hx hb hts inlX8 hown hK hP 0 rfl rfl 0 (Nat.le_of_ble_eq_true rfl) w_1_100 rfl dX8_readPart_89 ?_
        refine sk_VvZ (q0 := 0) (n := 0) (rest := []) (wr := fmR om_6_1c _) ⟨hx, hb, hml, hown, hts⟩ hl.1 (c_erd_step l D cI cJ cC cZ cS zk zv zf q xa xv xo xt xz xf xp tl tb (bindR (rc og) (beF tb tl)) hxa hxz htl htb (rd_st htb (hO).1 ⟨by rw [c_3]; decide, by rw [c_3]; decide⟩)) w_3_110 w_2_226 w_2_227 w_1_4 w_2_228 hd_X6_step_0 ⟨⟨(by dsimp only; omega), (by dsimp only; omega)⟩, (by dsimp only; omega), (by dsimp only; omega)⟩ hK hP hD hS hZ hA (fmT om_6_1c 0) (fmF om_6_1c 0) (fm_C1 rfl rfl) (fm_R rfl rfl) (fm_nT om_6_1c 0) (fm_nF om_6_1c 0) (fm_di om_6_1c 0) rfl rfl rfl rfl (Nat.le_of_ble_eq_true rfl) dX8_readPart_92 (fun u H locs hw hP hD hS => ?_)
        refine exE hw (fun xa2_4 hw1 => exE hw1 (fun xv2_5 hw2 => exE hw2 (fun xt2_6 hw3 => exE hw3 (fun xz2_7 hw4 => anE hw4 (fun hxa2_8 hw5 => anE hw5 (fun hxz2_9 hw6 => anE hw6 (fun hO2_10 eu_11 => ?_)))))))
        clear hw hw1 hw2 hw3 hw4 hw5 hw6
        refine o_mgE (ws' := [ro_rn u0 8 (q 2) kn, ro_rnininii (q 2) 6 (q 0) xa2_4 xv2_5 xo xt2_6 xz2_7 xf xp, ro_rn (q 0) 10 (q 20) tl, ra_N (q 20) cI 1600 tb, ro_rrrrnn h0 0 k1 k2 k3 k4 cl mw, ra_I k1 cI 1600 f1]) eu_11 hP hD rfl (fun hP hD => ?_)
        rw [stF_nx] at hO2_10
        have hO_12 := rs_bd hO hO2_10
        have hL_13 := lenS_nx htb hO ⟨by rw [c_3]; decide, by rw [c_3]; decide⟩ hlen
        refine lv_aload_n hx hb dX8_readPart_95 rfl (lv_at hl 1 rfl) ?_
        refine lv_aload_n hx hb dX8_readPart_96 rfl (lv_at hl 2 rfl) ?_
        refine lv_iload_n hx hb dX8_readPart_97 rfl (lv_at hl 0 rfl) ?_
        refine lv_sipush (v := 277) hx hb dX8_readPart_98 (by decide) ?_
        refine lv_icmp_ne (tgt := 110) hx hb dX8_readPart_101 (by decide) (fun c => absurd c_3 c) (fun c_14 => ?_)
        refine lv_sipush (v := 30004) hx hb dX8_readPart_104 (by decide) ?_
        refine lv_goto (tgt := 113) hx hb dX8_readPart_107 (by decide) ?_
        refine sk_VvZ (q0 := 0) (n := 2) (rest := []) (wr := fmR om_6_3f _) ⟨hx, hb, hml, hown, hts⟩ hl.1 (hq q u0 kn xa2_4 xv2_5 xo xt2_6 xz2_7 xf xp tl tb h0 k1 k2 k3 k4 cl mw f1 (bd og (nxF tb tl)) 30004 5 hxa2_8 hxz2_9 htl htb hcl hmw hkn hdd hO_12 (lenO_S hL_13) (by decide) (by omega)) w_3_111 w_3_113 w_0_9 w_1_6 w_3_114 hd_X8_readPair_2 ⟨⟨(by dsimp only; omega), (by dsimp only; omega)⟩, (by dsimp only; omega), (by dsimp only; omega)⟩ hK hP hD hS hZ hA (fmT om_6_3f 0) (fmF om_6_3f 0) (fm_C1 rfl rfl) (fm_R rfl rfl) (fm_nT om_6_3f 0) (fm_nF om_6_3f 0) (fm_di om_6_3f 0) rfl rfl rfl rfl (Nat.le_of_ble_eq_true rfl) dX8_readPart_113 (fun u H locs hw hP hD hS => ?_)
        refine exE hw (fun xa2_15 hw1 => exE hw1 (fun xv2_16 hw2 => exE hw2 (fun xt2_17 hw3 => exE hw3 (fun xz2_18 hw4 => exE hw4 (fun xf2_19 hw5 => exE hw5 (fun xp2_20 hw6 => exE hw6 (fun c2_21 hw7 => exE hw7 (fun w2_22 hw8 => exE hw8 (fun g1_23 hw9 => anE hw9 (fun hxa2_24 hw10 => anE hw10 (fun hxz2_25 hw11 => anE hw11 (fun hc2_26 hw12 => anE hw12 (fun hw2_27 hw13 => anE hw13 (fun hO2_28 eu_29 => ?_))))))))))))))
        clear hw hw1 hw2 hw3 hw4 hw5 hw6 hw7 hw8 hw9 hw10 hw11 hw12 hw13
        refine o_mgE (ws' := [ro_rn u0 8 (q 2) kn, ro_rnininii (q 2) 6 (q 0) xa2_15 xv2_16 xo xt2_17 xz2_18 xf2_19 xp2_20, ro_rn (q 0) 10 (q 20) tl, ra_N (q 20) cI 1600 tb, ro_rrrrnn h0 0 k1 k2 k3 k4 c2_21 w2_22, ra_I k1 cI 1600 g1_23]) eu_29 hP hD rfl (fun hP hD => ?_)
        refine lv_goto (tgt := 217) hx hb dX8_readPart_116 (by decide) ?_
        exact sk_vret hx hb hr hlocks hK hP hD hS (⟨xa2_15, xv2_16, xt2_17, xz2_18, xf2_19, xp2_20, c2_21, w2_22, g1_23, hxa2_24, hxz2_25, hc2_26, hw2_27, by rw [← p_mm (v := 5) htb hO (Or.inl ⟨c_3, rfl⟩)]; exact hO2_28, rfl⟩) (Nat.le_of_ble_eq_true rfl) (Nat.le_of_ble_eq_true rfl) dX8_readPart_217
      · skip
        refine lv_iload_n hx hb dX8_readPart_81 rfl (lv_at hl 0 rfl) ?_
        refine lv_sipush (v := 278) hx hb dX8_readPart_82 (by decide) ?_
        refine lv_icmp_ne (tgt := 119) hx hb dX8_readPart_85 (by decide) (fun c_30 => ?_) (fun c_30 => ?_)
        · skip
          refine lv_iload_n hx hb dX8_readPart_119 rfl (lv_at hl 0 rfl) ?_
          refine lv_sipush (v := 272) hx hb dX8_readPart_120 (by decide) ?_
          refine lv_icmp_ne (tgt := 169) hx hb dX8_readPart_123 (by decide) (fun c_31 => ?_) (fun c_31 => ?_)
          · skip
            refine lv_aload_n hx hb dX8_readPart_169 rfl (lv_at hl 1 rfl) ?_
            refine sk_get (v := .int (nI kn)) (C := RX8) (T := TX8) (N := 2) hx hb hts inlX8 hown hK hP 0 rfl rfl 1 (Nat.le_of_ble_eq_true rfl) w_1_101 rfl dX8_readPart_170 ?_
            refine lv_iconst (v := 2) hx hb dX8_readPart_173 ic_2 ?_
            refine lv_icmp_ne (tgt := 184) hx hb dX8_readPart_174 (by decide) (fun c_32 => ?_) (fun c_32 => ?_)
            · have c_32 : ¬ (kn = 2) := fun h => c_32 ((neq kn 2 (by omega) (Nat.le_of_ble_eq_true rfl)).mpr h)
              refine lv_aload_n hx hb dX8_readPart_184 rfl (lv_at hl 1 rfl) ?_
              refine lv_iload_n hx hb dX8_readPart_185 rfl (lv_at hl 0 rfl) ?_
              refine sk_Vi (q0 := 0) (n := 1) (rest := []) (wr := fmR om_6_20 _) ⟨hx, hb, hml, hown, hts⟩ hl.1 (c_enameInLock l D cI cJ cC cZ cS u0 kn q xt (by omega)) w_3_118 w_3_120 w_0_10 w_1_6 w_3_121 hd_X8_nameInLock_1 ⟨⟨(by dsimp only; omega), (by dsimp only; omega)⟩, (by dsimp only; omega), (by dsimp only; omega)⟩ hK hP hD hS hA (fmT om_6_20 0) (fmF om_6_20 0) (fm_C1 rfl rfl) (fm_R rfl rfl) (fm_nT om_6_20 0) (fm_nF om_6_20 0) (fm_di om_6_20 0) rfl rfl rfl rfl (Nat.le_of_ble_eq_true rfl) dX8_readPart_186 (fun r_33 u H locs hw hP hD hS => ?_)
              refine anE hw (fun hnm_34 eu_35 => ?_)
              clear hw
              refine o_mgE (ws' := [ro_rn u0 8 (q 2) kn, ro_rnininii (q 2) 6 (q 0) xa xv xo xt xz xf xp, ro_rn (q 0) 10 (q 20) tl, ra_N (q 20) cI 1600 tb, ro_rrrrnn h0 0 k1 k2 k3 k4 cl mw, ra_I k1 cI 1600 f1]) eu_35 hP hD rfl (fun hP hD => ?_)
              refine lv_istore_n (lv' := [(3, .int r_33), (2, .int xt), (0, .ref u0), (1, .ref h0)]) hx hb dX8_readPart_189 rfl hl (by decide) rfl (fun ls hl => ?_)
              refine lv_iload_n hx hb dX8_readPart_190 rfl (lv_at hl 0 rfl) ?_
              refine lv_iconst (v := (-1)) hx hb dX8_readPart_191 (by decide) ?_
              refine lv_icmp_ne (tgt := 205) hx hb dX8_readPart_192 (by decide) (fun c_36 => ?_) (fun c_36 => ?_)
              · obtain ⟨kx, hkxl, hkx, hkr⟩ := (hnm_34).resolve_left (fun hq => c_36 hq.1)
                refine lv_aload_n hx hb dX8_readPart_205 rfl (lv_at hl 3 rfl) ?_
                refine lv_iload_n hx hb dX8_readPart_206 rfl (lv_at hl 0 rfl) ?_
                refine sk_Vv (q0 := 0) (n := 1) (rest := []) (wr := fmR om_6_3 _) ⟨hx, hb, hml, hown, hts⟩ hl.1 (c_eCode_addX l D cI cJ cC cZ cS h0 k1 k2 k3 k4 cl mw f1 r_33 og (40 + kx) hcl hmw hkr (by omega) (hO).2 (rm_w htb hO htl (nIx_real hkx) hlen)) w_3_97 w_3_98 w_3_99 w_1_8 w_3_100 hd_X0_add_1 ⟨⟨(by dsimp only; omega), (by dsimp only; omega)⟩, (by dsimp only; omega), (by dsimp only; omega)⟩ hK hP hD hS hA (fmT om_6_3 0) (fmF om_6_3 0) (fm_C1 rfl rfl) (fm_R rfl rfl) (fm_nT om_6_3 0) (fm_nF om_6_3 0) (fm_di om_6_3 0) rfl rfl rfl rfl (Nat.le_of_ble_eq_true rfl) dX8_readPart_207 (fun u H locs hw hP hD hS => ?_)
                refine exE hw (fun c2_37 hw1 => exE hw1 (fun w2_38 hw2 => exE hw2 (fun g1_39 hw3 => anE hw3 (fun hc2_40 hw4 => anE hw4 (fun hw2_41 hw5 => anE hw5 (fun hO2_42 eu_43 => ?_))))))
                clear hw hw1 hw2 hw3 hw4 hw5
                refine o_mgE (ws' := [ro_rn u0 8 (q 2) kn, ro_rnininii (q 2) 6 (q 0) xa xv xo xt xz xf xp, ro_rn (q 0) 10 (q 20) tl, ra_N (q 20) cI 1600 tb, ro_rrrrnn h0 0 k1 k2 k3 k4 c2_37 w2_38, ra_I k1 cI 1600 g1_39]) eu_43 hP hD rfl (fun hP hD => ?_)
                have hO_44 := rs_ad hO hO2_42
                refine lv_aload_n hx hb dX8_readPart_210 rfl (lv_at hl 2 rfl) ?_
                refine sk_get (v := .ref (q 2)) (C := RX8) (T := TX8) (N := 2) hx hb hts inlX8 hown hK hP 0 rfl rfl 0 (Nat.le_of_ble_eq_true rfl) w_1_100 rfl dX8_readPart_211 ?_
                refine sk_VvZ (q0 := 0) (n := 0) (rest := []) (wr := fmR om_6_1c _) ⟨hx, hb, hml, hown, hts⟩ hl.1 (c_erd_step l D cI cJ cC cZ cS zk zv zf q xa xv xo xt xz xf xp tl tb (bindR (rc (ad og (40 + kx))) (beF tb tl)) hxa hxz htl htb (rd_st htb (hO_44).1 (nIx_real hkx))) w_3_110 w_2_226 w_2_227 w_1_4 w_2_228 hd_X6_step_0 ⟨⟨(by dsimp only; omega), (by dsimp only; omega)⟩, (by dsimp only; omega), (by dsimp only; omega)⟩ hK hP hD hS hZ hA (fmT om_6_1c 0) (fmF om_6_1c 0) (fm_C1 rfl rfl) (fm_R rfl rfl) (fm_nT om_6_1c 0) (fm_nF om_6_1c 0) (fm_di om_6_1c 0) rfl rfl rfl rfl (Nat.le_of_ble_eq_true rfl) dX8_readPart_214 (fun u H locs hw hP hD hS => ?_)
                refine exE hw (fun xa2_45 hw1 => exE hw1 (fun xv2_46 hw2 => exE hw2 (fun xt2_47 hw3 => exE hw3 (fun xz2_48 hw4 => anE hw4 (fun hxa2_49 hw5 => anE hw5 (fun hxz2_50 hw6 => anE hw6 (fun hO2_51 eu_52 => ?_)))))))
                clear hw hw1 hw2 hw3 hw4 hw5 hw6
                refine o_mgE (ws' := [ro_rn u0 8 (q 2) kn, ro_rnininii (q 2) 6 (q 0) xa2_45 xv2_46 xo xt2_47 xz2_48 xf xp, ro_rn (q 0) 10 (q 20) tl, ra_N (q 20) cI 1600 tb, ro_rrrrnn h0 0 k1 k2 k3 k4 c2_37 w2_38, ra_I k1 cI 1600 g1_39]) eu_52 hP hD rfl (fun hP hD => ?_)
                rw [stF_nx] at hO2_51
                have hO_53 := rs_bd hO_44 hO2_51
                exact sk_vret hx hb hr hlocks hK hP hD hS (⟨xa2_45, xv2_46, xt2_47, xz2_48, xf, xp, c2_37, w2_38, g1_39, hxa2_49, hxz2_50, hc2_40, hw2_41, by rw [← p_name htb hO c_2 c_3 c_30 (fun hq => c_31 hq.2) hkx]; exact hO_53, rfl⟩) (Nat.le_of_ble_eq_true rfl) (Nat.le_of_ble_eq_true rfl) dX8_readPart_217
              · have hkx := ((hnm_34).resolve_right (fun hq => by obtain ⟨k9, h9, -, e9⟩ := hq; exact cm_m1 h9 (e9.symm.trans c_36))).2
                refine lv_aload_n hx hb dX8_readPart_195 rfl (lv_at hl 2 rfl) ?_
                refine sk_get (v := .ref (q 2)) (C := RX8) (T := TX8) (N := 2) hx hb hts inlX8 hown hK hP 0 rfl rfl 0 (Nat.le_of_ble_eq_true rfl) w_1_100 rfl dX8_readPart_196 ?_
                refine sk_Vv (q0 := 0) (n := 0) (rest := []) (wr := fmR om_6_10 _) ⟨hx, hb, hml, hown, hts⟩ hl.1 (c_erd_failHere l D cI cJ cC cZ cS q xa xv xo xt xz xf xp tl tb (rc og) hxz (hO).1) w_3_122 w_3_55 w_3_56 w_1_4 w_3_57 hd_X6_failHere_0 ⟨⟨(by dsimp only; omega), (by dsimp only; omega)⟩, (by dsimp only; omega), (by dsimp only; omega)⟩ hK hP hD hS hA (fmT om_6_10 0) (fmF om_6_10 0) (fm_C1 rfl rfl) (fm_R rfl rfl) (fm_nT om_6_10 0) (fm_nF om_6_10 0) (fm_di om_6_10 0) rfl rfl rfl rfl (Nat.le_of_ble_eq_true rfl) dX8_readPart_199 (fun u H locs hw hP hD hS => ?_)
                refine exE hw (fun xf2_54 hw1 => exE hw1 (fun xp2_55 hw2 => anE hw2 (fun hO2_56 eu_57 => ?_)))
                clear hw hw1 hw2
                refine o_mgE (ws' := [ro_rn u0 8 (q 2) kn, ro_rnininii (q 2) 6 (q 0) xa xv xo (-2) xz xf2_54 xp2_55, ro_rn (q 0) 10 (q 20) tl, ra_N (q 20) cI 1600 tb, ro_rrrrnn h0 0 k1 k2 k3 k4 cl mw, ra_I k1 cI 1600 f1]) eu_57 hP hD rfl (fun hP hD => ?_)
                have hO_58 := rs_bd hO hO2_56
                have hL_59 := lenO_bd (fwd_here (k := 1)) hlen
                refine lv_goto (tgt := 217) hx hb dX8_readPart_202 (by decide) ?_
                exact sk_vret hx hb hr hlocks hK hP hD hS (⟨xa, xv, (-2), xz, xf2_54, xp2_55, cl, mw, f1, hxa, hxz, hcl, hmw, by rw [← p_none htb hO c_1 c_2 c_3 c_30 (fun hq => c_31 hq.2) hkx]; exact hO_58, rfl⟩) (Nat.le_of_ble_eq_true rfl) (Nat.le_of_ble_eq_true rfl) dX8_readPart_217
            · have c_32 : kn = 2 := (neq kn 2 (by omega) (Nat.le_of_ble_eq_true rfl)).mp c_32
              refine lv_iload_n hx hb dX8_readPart_177 rfl (lv_at hl 0 rfl) ?_
              refine sk_Si (n := 1) (rest := []) (wr := [ro_rn u0 8 (q 2) kn, ro_rnininii (q 2) 6 (q 0) xa xv xo xt xz xf xp, ro_rn (q 0) 10 (q 20) tl, ra_N (q 20) cI 1600 tb, ro_rrrrnn h0 0 k1 k2 k3 k4 cl mw, ra_I k1 cI 1600 f1]) ⟨hx, hb, hml, hown, hts⟩ hl.1 (c_enameInQuestion l D cI cJ cC cZ cS xt) w_3_115 w_3_116 w_1_6 w_3_117 hd_X8_nameInQuestion_1 ⟨⟨(by dsimp only; omega), (by dsimp only; omega)⟩, (by dsimp only; omega), (by dsimp only; omega)⟩ hK hP hD hS hA [] [0, 1, 2, 3, 4, 5] rfl rfl (by decide +kernel) (by decide +kernel) (by decide +kernel) rfl rfl (Nat.le_of_ble_eq_true rfl) dX8_readPart_178 (fun r_60 u H locs hw hP hD hS => ?_)
              obtain ⟨hnm_61, rfl⟩ := hw
              refine o_re (ws' := [ro_rn u0 8 (q 2) kn, ro_rnininii (q 2) 6 (q 0) xa xv xo xt xz xf xp, ro_rn (q 0) 10 (q 20) tl, ra_N (q 20) cI 1600 tb, ro_rrrrnn h0 0 k1 k2 k3 k4 cl mw, ra_I k1 cI 1600 f1]) hP hD rfl (fun hP hD => ?_)
              obtain rfl : kn = 2 := by omega
              refine lv_goto (tgt := 189) hx hb dX8_readPart_181 (by decide) ?_
              refine lv_istore_n (lv' := [(3, .int r_60), (2, .int xt), (0, .ref u0), (1, .ref h0)]) hx hb dX8_readPart_189 rfl hl (by decide) rfl (fun ls hl => ?_)
              refine lv_iload_n hx hb dX8_readPart_190 rfl (lv_at hl 0 rfl) ?_
              refine lv_iconst (v := (-1)) hx hb dX8_readPart_191 (by decide) ?_
              refine lv_icmp_ne (tgt := 205) hx hb dX8_readPart_192 (by decide) (fun c_62 => ?_) (fun c_62 => ?_)
              · obtain ⟨kx, hkxl, hkx, hkr⟩ := (hnm_61).resolve_left (fun hq => c_62 hq.1)
                refine lv_aload_n hx hb dX8_readPart_205 rfl (lv_at hl 3 rfl) ?_
                refine lv_iload_n hx hb dX8_readPart_206 rfl (lv_at hl 0 rfl) ?_
                refine sk_Vv (q0 := 0) (n := 1) (rest := []) (wr := fmR om_6_3 _) ⟨hx, hb, hml, hown, hts⟩ hl.1 (c_eCode_addX l D cI cJ cC cZ cS h0 k1 k2 k3 k4 cl mw f1 r_60 og (40 + kx) hcl hmw hkr (by omega) (hO).2 (rm_w htb hO htl (nIx_real hkx) hlen)) w_3_97 w_3_98 w_3_99 w_1_8 w_3_100 hd_X0_add_1 ⟨⟨(by dsimp only; omega), (by dsimp only; omega)⟩, (by dsimp only; omega), (by dsimp only; omega)⟩ hK hP hD hS hA (fmT om_6_3 0) (fmF om_6_3 0) (fm_C1 rfl rfl) (fm_R rfl rfl) (fm_nT om_6_3 0) (fm_nF om_6_3 0) (fm_di om_6_3 0) rfl rfl rfl rfl (Nat.le_of_ble_eq_true rfl) dX8_readPart_207 (fun u H locs hw hP hD hS => ?_)
                refine exE hw (fun c2_63 hw1 => exE hw1 (fun w2_64 hw2 => exE hw2 (fun g1_65 hw3 => anE hw3 (fun hc2_66 hw4 => anE hw4 (fun hw2_67 hw5 => anE hw5 (fun hO2_68 eu_69 => ?_))))))
                clear hw hw1 hw2 hw3 hw4 hw5
                refine o_mgE (ws' := [ro_ri u0 8 (q 2) 2, ro_rnininii (q 2) 6 (q 0) xa xv xo xt xz xf xp, ro_rn (q 0) 10 (q 20) tl, ra_N (q 20) cI 1600 tb, ro_rrrrnn h0 0 k1 k2 k3 k4 c2_63 w2_64, ra_I k1 cI 1600 g1_65]) eu_69 hP hD rfl (fun hP hD => ?_)
                have hO_70 := rs_ad hO hO2_68
                refine lv_aload_n hx hb dX8_readPart_210 rfl (lv_at hl 2 rfl) ?_
                refine sk_get (v := .ref (q 2)) (C := RX8) (T := TX8) (N := 2) hx hb hts inlX8 hown hK hP 0 rfl rfl 0 (Nat.le_of_ble_eq_true rfl) w_1_100 rfl dX8_readPart_211 ?_
                refine sk_VvZ (q0 := 0) (n := 0) (rest := []) (wr := fmR om_6_1c _) ⟨hx, hb, hml, hown, hts⟩ hl.1 (c_erd_step l D cI cJ cC cZ cS zk zv zf q xa xv xo xt xz xf xp tl tb (bindR (rc (ad og (40 + kx))) (beF tb tl)) hxa hxz htl htb (rd_st htb (hO_70).1 (nIx_real hkx))) w_3_110 w_2_226 w_2_227 w_1_4 w_2_228 hd_X6_step_0 ⟨⟨(by dsimp only; omega), (by dsimp only; omega)⟩, (by dsimp only; omega), (by dsimp only; omega)⟩ hK hP hD hS hZ hA (fmT om_6_1c 0) (fmF om_6_1c 0) (fm_C1 rfl rfl) (fm_R rfl rfl) (fm_nT om_6_1c 0) (fm_nF om_6_1c 0) (fm_di om_6_1c 0) rfl rfl rfl rfl (Nat.le_of_ble_eq_true rfl) dX8_readPart_214 (fun u H locs hw hP hD hS => ?_)
                refine exE hw (fun xa2_71 hw1 => exE hw1 (fun xv2_72 hw2 => exE hw2 (fun xt2_73 hw3 => exE hw3 (fun xz2_74 hw4 => anE hw4 (fun hxa2_75 hw5 => anE hw5 (fun hxz2_76 hw6 => anE hw6 (fun hO2_77 eu_78 => ?_)))))))
                clear hw hw1 hw2 hw3 hw4 hw5 hw6
                refine o_mgE (ws' := [ro_ri u0 8 (q 2) 2, ro_rnininii (q 2) 6 (q 0) xa2_71 xv2_72 xo xt2_73 xz2_74 xf xp, ro_rn (q 0) 10 (q 20) tl, ra_N (q 20) cI 1600 tb, ro_rrrrnn h0 0 k1 k2 k3 k4 c2_63 w2_64, ra_I k1 cI 1600 g1_65]) eu_78 hP hD rfl (fun hP hD => ?_)
                rw [stF_nx] at hO2_77
                have hO_79 := rs_bd hO_70 hO2_77
                exact sk_vret hx hb hr hlocks hK hP hD hS (⟨xa2_71, xv2_72, xt2_73, xz2_74, xf, xp, c2_63, w2_64, g1_65, hxa2_75, hxz2_76, hc2_66, hw2_67, by rw [← p_name htb hO c_2 c_3 c_30 (fun hq => c_31 hq.2) hkx]; exact hO_79, rfl⟩) (Nat.le_of_ble_eq_true rfl) (Nat.le_of_ble_eq_true rfl) dX8_readPart_217
              · have hkx := ((hnm_61).resolve_right (fun hq => by obtain ⟨k9, h9, -, e9⟩ := hq; exact cm_m1 h9 (e9.symm.trans c_62))).2
                refine lv_aload_n hx hb dX8_readPart_195 rfl (lv_at hl 2 rfl) ?_
                refine sk_get (v := .ref (q 2)) (C := RX8) (T := TX8) (N := 2) hx hb hts inlX8 hown hK hP 0 rfl rfl 0 (Nat.le_of_ble_eq_true rfl) w_1_100 rfl dX8_readPart_196 ?_
                refine sk_Vv (q0 := 0) (n := 0) (rest := []) (wr := fmR om_6_10 _) ⟨hx, hb, hml, hown, hts⟩ hl.1 (c_erd_failHere l D cI cJ cC cZ cS q xa xv xo xt xz xf xp tl tb (rc og) hxz (hO).1) w_3_122 w_3_55 w_3_56 w_1_4 w_3_57 hd_X6_failHere_0 ⟨⟨(by dsimp only; omega), (by dsimp only; omega)⟩, (by dsimp only; omega), (by dsimp only; omega)⟩ hK hP hD hS hA (fmT om_6_10 0) (fmF om_6_10 0) (fm_C1 rfl rfl) (fm_R rfl rfl) (fm_nT om_6_10 0) (fm_nF om_6_10 0) (fm_di om_6_10 0) rfl rfl rfl rfl (Nat.le_of_ble_eq_true rfl) dX8_readPart_199 (fun u H locs hw hP hD hS => ?_)
                refine exE hw (fun xf2_80 hw1 => exE hw1 (fun xp2_81 hw2 => anE hw2 (fun hO2_82 eu_83 => ?_)))
                clear hw hw1 hw2
                refine o_mgE (ws' := [ro_ri u0 8 (q 2) 2, ro_rnininii (q 2) 6 (q 0) xa xv xo (-2) xz xf2_80 xp2_81, ro_rn (q 0) 10 (q 20) tl, ra_N (q 20) cI 1600 tb, ro_rrrrnn h0 0 k1 k2 k3 k4 cl mw, ra_I k1 cI 1600 f1]) eu_83 hP hD rfl (fun hP hD => ?_)
                have hO_84 := rs_bd hO hO2_82
                have hL_85 := lenO_bd (fwd_here (k := 1)) hlen
                refine lv_goto (tgt := 217) hx hb dX8_readPart_202 (by decide) ?_
                exact sk_vret hx hb hr hlocks hK hP hD hS (⟨xa, xv, (-2), xz, xf2_80, xp2_81, cl, mw, f1, hxa, hxz, hcl, hmw, by rw [← p_none htb hO c_1 c_2 c_3 c_30 (fun hq => c_31 hq.2) hkx]; exact hO_84, rfl⟩) (Nat.le_of_ble_eq_true rfl) (Nat.le_of_ble_eq_true rfl) dX8_readPart_217
          · skip
            refine lv_aload_n hx hb dX8_readPart_126 rfl (lv_at hl 1 rfl) ?_
            refine sk_get (v := .int (nI kn)) (C := RX8) (T := TX8) (N := 2) hx hb hts inlX8 hown hK hP 0 rfl rfl 1 (Nat.le_of_ble_eq_true rfl) w_1_101 rfl dX8_readPart_127 ?_
            refine lv_iconst (v := 2) hx hb dX8_readPart_130 ic_2 ?_
            refine lv_icmp_ne (tgt := 169) hx hb dX8_readPart_131 (by decide) (fun c_86 => ?_) (fun c_86 => ?_)
            · have c_86 : ¬ (kn = 2) := fun h => c_86 ((neq kn 2 (by omega) (Nat.le_of_ble_eq_true rfl)).mpr h)
              refine lv_aload_n hx hb dX8_readPart_169 rfl (lv_at hl 1 rfl) ?_
              refine sk_get (v := .int (nI kn)) (C := RX8) (T := TX8) (N := 2) hx hb hts inlX8 hown hK hP 0 rfl rfl 1 (Nat.le_of_ble_eq_true rfl) w_1_101 rfl dX8_readPart_170 ?_
              refine lv_iconst (v := 2) hx hb dX8_readPart_173 ic_2 ?_
              refine lv_icmp_ne (tgt := 184) hx hb dX8_readPart_174 (by decide) (fun c_87 => ?_) (fun c_87 => ?_)
              · have c_87 : ¬ (kn = 2) := fun h => c_87 ((neq kn 2 (by omega) (Nat.le_of_ble_eq_true rfl)).mpr h)
                refine lv_aload_n hx hb dX8_readPart_184 rfl (lv_at hl 1 rfl) ?_
                refine lv_iload_n hx hb dX8_readPart_185 rfl (lv_at hl 0 rfl) ?_
                refine sk_Vi (q0 := 0) (n := 1) (rest := []) (wr := fmR om_6_20 _) ⟨hx, hb, hml, hown, hts⟩ hl.1 (c_enameInLock l D cI cJ cC cZ cS u0 kn q xt (by omega)) w_3_118 w_3_120 w_0_10 w_1_6 w_3_121 hd_X8_nameInLock_1 ⟨⟨(by dsimp only; omega), (by dsimp only; omega)⟩, (by dsimp only; omega), (by dsimp only; omega)⟩ hK hP hD hS hA (fmT om_6_20 0) (fmF om_6_20 0) (fm_C1 rfl rfl) (fm_R rfl rfl) (fm_nT om_6_20 0) (fm_nF om_6_20 0) (fm_di om_6_20 0) rfl rfl rfl rfl (Nat.le_of_ble_eq_true rfl) dX8_readPart_186 (fun r_88 u H locs hw hP hD hS => ?_)
                refine anE hw (fun hnm_89 eu_90 => ?_)
                clear hw
                refine o_mgE (ws' := [ro_rn u0 8 (q 2) kn, ro_rnininii (q 2) 6 (q 0) xa xv xo xt xz xf xp, ro_rn (q 0) 10 (q 20) tl, ra_N (q 20) cI 1600 tb, ro_rrrrnn h0 0 k1 k2 k3 k4 cl mw, ra_I k1 cI 1600 f1]) eu_90 hP hD rfl (fun hP hD => ?_)
                refine lv_istore_n (lv' := [(3, .int r_88), (2, .int xt), (0, .ref u0), (1, .ref h0)]) hx hb dX8_readPart_189 rfl hl (by decide) rfl (fun ls hl => ?_)
                refine lv_iload_n hx hb dX8_readPart_190 rfl (lv_at hl 0 rfl) ?_
                refine lv_iconst (v := (-1)) hx hb dX8_readPart_191 (by decide) ?_
                refine lv_icmp_ne (tgt := 205) hx hb dX8_readPart_192 (by decide) (fun c_91 => ?_) (fun c_91 => ?_)
                · obtain ⟨kx, hkxl, hkx, hkr⟩ := (hnm_89).resolve_left (fun hq => c_91 hq.1)
                  refine lv_aload_n hx hb dX8_readPart_205 rfl (lv_at hl 3 rfl) ?_
                  refine lv_iload_n hx hb dX8_readPart_206 rfl (lv_at hl 0 rfl) ?_
                  refine sk_Vv (q0 := 0) (n := 1) (rest := []) (wr := fmR om_6_3 _) ⟨hx, hb, hml, hown, hts⟩ hl.1 (c_eCode_addX l D cI cJ cC cZ cS h0 k1 k2 k3 k4 cl mw f1 r_88 og (40 + kx) hcl hmw hkr (by omega) (hO).2 (rm_w htb hO htl (nIx_real hkx) hlen)) w_3_97 w_3_98 w_3_99 w_1_8 w_3_100 hd_X0_add_1 ⟨⟨(by dsimp only; omega), (by dsimp only; omega)⟩, (by dsimp only; omega), (by dsimp only; omega)⟩ hK hP hD hS hA (fmT om_6_3 0) (fmF om_6_3 0) (fm_C1 rfl rfl) (fm_R rfl rfl) (fm_nT om_6_3 0) (fm_nF om_6_3 0) (fm_di om_6_3 0) rfl rfl rfl rfl (Nat.le_of_ble_eq_true rfl) dX8_readPart_207 (fun u H locs hw hP hD hS => ?_)
                  refine exE hw (fun c2_92 hw1 => exE hw1 (fun w2_93 hw2 => exE hw2 (fun g1_94 hw3 => anE hw3 (fun hc2_95 hw4 => anE hw4 (fun hw2_96 hw5 => anE hw5 (fun hO2_97 eu_98 => ?_))))))
                  clear hw hw1 hw2 hw3 hw4 hw5
                  refine o_mgE (ws' := [ro_rn u0 8 (q 2) kn, ro_rnininii (q 2) 6 (q 0) xa xv xo xt xz xf xp, ro_rn (q 0) 10 (q 20) tl, ra_N (q 20) cI 1600 tb, ro_rrrrnn h0 0 k1 k2 k3 k4 c2_92 w2_93, ra_I k1 cI 1600 g1_94]) eu_98 hP hD rfl (fun hP hD => ?_)
                  have hO_99 := rs_ad hO hO2_97
                  refine lv_aload_n hx hb dX8_readPart_210 rfl (lv_at hl 2 rfl) ?_
                  refine sk_get (v := .ref (q 2)) (C := RX8) (T := TX8) (N := 2) hx hb hts inlX8 hown hK hP 0 rfl rfl 0 (Nat.le_of_ble_eq_true rfl) w_1_100 rfl dX8_readPart_211 ?_
                  refine sk_VvZ (q0 := 0) (n := 0) (rest := []) (wr := fmR om_6_1c _) ⟨hx, hb, hml, hown, hts⟩ hl.1 (c_erd_step l D cI cJ cC cZ cS zk zv zf q xa xv xo xt xz xf xp tl tb (bindR (rc (ad og (40 + kx))) (beF tb tl)) hxa hxz htl htb (rd_st htb (hO_99).1 (nIx_real hkx))) w_3_110 w_2_226 w_2_227 w_1_4 w_2_228 hd_X6_step_0 ⟨⟨(by dsimp only; omega), (by dsimp only; omega)⟩, (by dsimp only; omega), (by dsimp only; omega)⟩ hK hP hD hS hZ hA (fmT om_6_1c 0) (fmF om_6_1c 0) (fm_C1 rfl rfl) (fm_R rfl rfl) (fm_nT om_6_1c 0) (fm_nF om_6_1c 0) (fm_di om_6_1c 0) rfl rfl rfl rfl (Nat.le_of_ble_eq_true rfl) dX8_readPart_214 (fun u H locs hw hP hD hS => ?_)
                  refine exE hw (fun xa2_100 hw1 => exE hw1 (fun xv2_101 hw2 => exE hw2 (fun xt2_102 hw3 => exE hw3 (fun xz2_103 hw4 => anE hw4 (fun hxa2_104 hw5 => anE hw5 (fun hxz2_105 hw6 => anE hw6 (fun hO2_106 eu_107 => ?_)))))))
                  clear hw hw1 hw2 hw3 hw4 hw5 hw6
                  refine o_mgE (ws' := [ro_rn u0 8 (q 2) kn, ro_rnininii (q 2) 6 (q 0) xa2_100 xv2_101 xo xt2_102 xz2_103 xf xp, ro_rn (q 0) 10 (q 20) tl, ra_N (q 20) cI 1600 tb, ro_rrrrnn h0 0 k1 k2 k3 k4 c2_92 w2_93, ra_I k1 cI 1600 g1_94]) eu_107 hP hD rfl (fun hP hD => ?_)
                  rw [stF_nx] at hO2_106
                  have hO_108 := rs_bd hO_99 hO2_106
                  exact sk_vret hx hb hr hlocks hK hP hD hS (⟨xa2_100, xv2_101, xt2_102, xz2_103, xf, xp, c2_92, w2_93, g1_94, hxa2_104, hxz2_105, hc2_95, hw2_96, by rw [← p_name htb hO c_2 c_3 c_30 (fun hq => absurd hq.1 (by omega)) hkx]; exact hO_108, rfl⟩) (Nat.le_of_ble_eq_true rfl) (Nat.le_of_ble_eq_true rfl) dX8_readPart_217
                · have hkx := ((hnm_89).resolve_right (fun hq => by obtain ⟨k9, h9, -, e9⟩ := hq; exact cm_m1 h9 (e9.symm.trans c_91))).2
                  refine lv_aload_n hx hb dX8_readPart_195 rfl (lv_at hl 2 rfl) ?_
                  refine sk_get (v := .ref (q 2)) (C := RX8) (T := TX8) (N := 2) hx hb hts inlX8 hown hK hP 0 rfl rfl 0 (Nat.le_of_ble_eq_true rfl) w_1_100 rfl dX8_readPart_196 ?_
                  refine sk_Vv (q0 := 0) (n := 0) (rest := []) (wr := fmR om_6_10 _) ⟨hx, hb, hml, hown, hts⟩ hl.1 (c_erd_failHere l D cI cJ cC cZ cS q xa xv xo xt xz xf xp tl tb (rc og) hxz (hO).1) w_3_122 w_3_55 w_3_56 w_1_4 w_3_57 hd_X6_failHere_0 ⟨⟨(by dsimp only; omega), (by dsimp only; omega)⟩, (by dsimp only; omega), (by dsimp only; omega)⟩ hK hP hD hS hA (fmT om_6_10 0) (fmF om_6_10 0) (fm_C1 rfl rfl) (fm_R rfl rfl) (fm_nT om_6_10 0) (fm_nF om_6_10 0) (fm_di om_6_10 0) rfl rfl rfl rfl (Nat.le_of_ble_eq_true rfl) dX8_readPart_199 (fun u H locs hw hP hD hS => ?_)
                  refine exE hw (fun xf2_109 hw1 => exE hw1 (fun xp2_110 hw2 => anE hw2 (fun hO2_111 eu_112 => ?_)))
                  clear hw hw1 hw2
                  refine o_mgE (ws' := [ro_rn u0 8 (q 2) kn, ro_rnininii (q 2) 6 (q 0) xa xv xo (-2) xz xf2_109 xp2_110, ro_rn (q 0) 10 (q 20) tl, ra_N (q 20) cI 1600 tb, ro_rrrrnn h0 0 k1 k2 k3 k4 cl mw, ra_I k1 cI 1600 f1]) eu_112 hP hD rfl (fun hP hD => ?_)
                  have hO_113 := rs_bd hO hO2_111
                  have hL_114 := lenO_bd (fwd_here (k := 1)) hlen
                  refine lv_goto (tgt := 217) hx hb dX8_readPart_202 (by decide) ?_
                  exact sk_vret hx hb hr hlocks hK hP hD hS (⟨xa, xv, (-2), xz, xf2_109, xp2_110, cl, mw, f1, hxa, hxz, hcl, hmw, by rw [← p_none htb hO c_1 c_2 c_3 c_30 (fun hq => absurd hq.1 (by omega)) hkx]; exact hO_113, rfl⟩) (Nat.le_of_ble_eq_true rfl) (Nat.le_of_ble_eq_true rfl) dX8_readPart_217
              · have c_87 : kn = 2 := (neq kn 2 (by omega) (Nat.le_of_ble_eq_true rfl)).mp c_87
                refine lv_iload_n hx hb dX8_readPart_177 rfl (lv_at hl 0 rfl) ?_
                refine sk_Si (n := 1) (rest := []) (wr := [ro_rn u0 8 (q 2) kn, ro_rnininii (q 2) 6 (q 0) xa xv xo xt xz xf xp, ro_rn (q 0) 10 (q 20) tl, ra_N (q 20) cI 1600 tb, ro_rrrrnn h0 0 k1 k2 k3 k4 cl mw, ra_I k1 cI 1600 f1]) ⟨hx, hb, hml, hown, hts⟩ hl.1 (c_enameInQuestion l D cI cJ cC cZ cS xt) w_3_115 w_3_116 w_1_6 w_3_117 hd_X8_nameInQuestion_1 ⟨⟨(by dsimp only; omega), (by dsimp only; omega)⟩, (by dsimp only; omega), (by dsimp only; omega)⟩ hK hP hD hS hA [] [0, 1, 2, 3, 4, 5] rfl rfl (by decide +kernel) (by decide +kernel) (by decide +kernel) rfl rfl (Nat.le_of_ble_eq_true rfl) dX8_readPart_178 (fun r_115 u H locs hw hP hD hS => ?_)
                obtain ⟨hnm_116, rfl⟩ := hw
                refine o_re (ws' := [ro_rn u0 8 (q 2) kn, ro_rnininii (q 2) 6 (q 0) xa xv xo xt xz xf xp, ro_rn (q 0) 10 (q 20) tl, ra_N (q 20) cI 1600 tb, ro_rrrrnn h0 0 k1 k2 k3 k4 cl mw, ra_I k1 cI 1600 f1]) hP hD rfl (fun hP hD => ?_)
                obtain rfl : kn = 2 := by omega
                refine lv_goto (tgt := 189) hx hb dX8_readPart_181 (by decide) ?_
                refine lv_istore_n (lv' := [(3, .int r_115), (2, .int xt), (0, .ref u0), (1, .ref h0)]) hx hb dX8_readPart_189 rfl hl (by decide) rfl (fun ls hl => ?_)
                refine lv_iload_n hx hb dX8_readPart_190 rfl (lv_at hl 0 rfl) ?_
                refine lv_iconst (v := (-1)) hx hb dX8_readPart_191 (by decide) ?_
                refine lv_icmp_ne (tgt := 205) hx hb dX8_readPart_192 (by decide) (fun c_117 => ?_) (fun c_117 => ?_)
                · obtain ⟨kx, hkxl, hkx, hkr⟩ := (hnm_116).resolve_left (fun hq => c_117 hq.1)
                  refine lv_aload_n hx hb dX8_readPart_205 rfl (lv_at hl 3 rfl) ?_
                  refine lv_iload_n hx hb dX8_readPart_206 rfl (lv_at hl 0 rfl) ?_
                  refine sk_Vv (q0 := 0) (n := 1) (rest := []) (wr := fmR om_6_3 _) ⟨hx, hb, hml, hown, hts⟩ hl.1 (c_eCode_addX l D cI cJ cC cZ cS h0 k1 k2 k3 k4 cl mw f1 r_115 og (40 + kx) hcl hmw hkr (by omega) (hO).2 (rm_w htb hO htl (nIx_real hkx) hlen)) w_3_97 w_3_98 w_3_99 w_1_8 w_3_100 hd_X0_add_1 ⟨⟨(by dsimp only; omega), (by dsimp only; omega)⟩, (by dsimp only; omega), (by dsimp only; omega)⟩ hK hP hD hS hA (fmT om_6_3 0) (fmF om_6_3 0) (fm_C1 rfl rfl) (fm_R rfl rfl) (fm_nT om_6_3 0) (fm_nF om_6_3 0) (fm_di om_6_3 0) rfl rfl rfl rfl (Nat.le_of_ble_eq_true rfl) dX8_readPart_207 (fun u H locs hw hP hD hS => ?_)
                  refine exE hw (fun c2_118 hw1 => exE hw1 (fun w2_119 hw2 => exE hw2 (fun g1_120 hw3 => anE hw3 (fun hc2_121 hw4 => anE hw4 (fun hw2_122 hw5 => anE hw5 (fun hO2_123 eu_124 => ?_))))))
                  clear hw hw1 hw2 hw3 hw4 hw5
                  refine o_mgE (ws' := [ro_ri u0 8 (q 2) 2, ro_rnininii (q 2) 6 (q 0) xa xv xo xt xz xf xp, ro_rn (q 0) 10 (q 20) tl, ra_N (q 20) cI 1600 tb, ro_rrrrnn h0 0 k1 k2 k3 k4 c2_118 w2_119, ra_I k1 cI 1600 g1_120]) eu_124 hP hD rfl (fun hP hD => ?_)
                  have hO_125 := rs_ad hO hO2_123
                  refine lv_aload_n hx hb dX8_readPart_210 rfl (lv_at hl 2 rfl) ?_
                  refine sk_get (v := .ref (q 2)) (C := RX8) (T := TX8) (N := 2) hx hb hts inlX8 hown hK hP 0 rfl rfl 0 (Nat.le_of_ble_eq_true rfl) w_1_100 rfl dX8_readPart_211 ?_
                  refine sk_VvZ (q0 := 0) (n := 0) (rest := []) (wr := fmR om_6_1c _) ⟨hx, hb, hml, hown, hts⟩ hl.1 (c_erd_step l D cI cJ cC cZ cS zk zv zf q xa xv xo xt xz xf xp tl tb (bindR (rc (ad og (40 + kx))) (beF tb tl)) hxa hxz htl htb (rd_st htb (hO_125).1 (nIx_real hkx))) w_3_110 w_2_226 w_2_227 w_1_4 w_2_228 hd_X6_step_0 ⟨⟨(by dsimp only; omega), (by dsimp only; omega)⟩, (by dsimp only; omega), (by dsimp only; omega)⟩ hK hP hD hS hZ hA (fmT om_6_1c 0) (fmF om_6_1c 0) (fm_C1 rfl rfl) (fm_R rfl rfl) (fm_nT om_6_1c 0) (fm_nF om_6_1c 0) (fm_di om_6_1c 0) rfl rfl rfl rfl (Nat.le_of_ble_eq_true rfl) dX8_readPart_214 (fun u H locs hw hP hD hS => ?_)
                  refine exE hw (fun xa2_126 hw1 => exE hw1 (fun xv2_127 hw2 => exE hw2 (fun xt2_128 hw3 => exE hw3 (fun xz2_129 hw4 => anE hw4 (fun hxa2_130 hw5 => anE hw5 (fun hxz2_131 hw6 => anE hw6 (fun hO2_132 eu_133 => ?_)))))))
                  clear hw hw1 hw2 hw3 hw4 hw5 hw6
                  refine o_mgE (ws' := [ro_ri u0 8 (q 2) 2, ro_rnininii (q 2) 6 (q 0) xa2_126 xv2_127 xo xt2_128 xz2_129 xf xp, ro_rn (q 0) 10 (q 20) tl, ra_N (q 20) cI 1600 tb, ro_rrrrnn h0 0 k1 k2 k3 k4 c2_118 w2_119, ra_I k1 cI 1600 g1_120]) eu_133 hP hD rfl (fun hP hD => ?_)
                  rw [stF_nx] at hO2_132
                  have hO_134 := rs_bd hO_125 hO2_132
                  exact sk_vret hx hb hr hlocks hK hP hD hS (⟨xa2_126, xv2_127, xt2_128, xz2_129, xf, xp, c2_118, w2_119, g1_120, hxa2_130, hxz2_131, hc2_121, hw2_122, by rw [← p_name htb hO c_2 c_3 c_30 (fun hq => absurd hq.1 (by omega)) hkx]; exact hO_134, rfl⟩) (Nat.le_of_ble_eq_true rfl) (Nat.le_of_ble_eq_true rfl) dX8_readPart_217
                · have hkx := ((hnm_116).resolve_right (fun hq => by obtain ⟨k9, h9, -, e9⟩ := hq; exact cm_m1 h9 (e9.symm.trans c_117))).2
                  refine lv_aload_n hx hb dX8_readPart_195 rfl (lv_at hl 2 rfl) ?_
                  refine sk_get (v := .ref (q 2)) (C := RX8) (T := TX8) (N := 2) hx hb hts inlX8 hown hK hP 0 rfl rfl 0 (Nat.le_of_ble_eq_true rfl) w_1_100 rfl dX8_readPart_196 ?_
                  refine sk_Vv (q0 := 0) (n := 0) (rest := []) (wr := fmR om_6_10 _) ⟨hx, hb, hml, hown, hts⟩ hl.1 (c_erd_failHere l D cI cJ cC cZ cS q xa xv xo xt xz xf xp tl tb (rc og) hxz (hO).1) w_3_122 w_3_55 w_3_56 w_1_4 w_3_57 hd_X6_failHere_0 ⟨⟨(by dsimp only; omega), (by dsimp only; omega)⟩, (by dsimp only; omega), (by dsimp only; omega)⟩ hK hP hD hS hA (fmT om_6_10 0) (fmF om_6_10 0) (fm_C1 rfl rfl) (fm_R rfl rfl) (fm_nT om_6_10 0) (fm_nF om_6_10 0) (fm_di om_6_10 0) rfl rfl rfl rfl (Nat.le_of_ble_eq_true rfl) dX8_readPart_199 (fun u H locs hw hP hD hS => ?_)
                  refine exE hw (fun xf2_135 hw1 => exE hw1 (fun xp2_136 hw2 => anE hw2 (fun hO2_137 eu_138 => ?_)))
                  clear hw hw1 hw2
                  refine o_mgE (ws' := [ro_ri u0 8 (q 2) 2, ro_rnininii (q 2) 6 (q 0) xa xv xo (-2) xz xf2_135 xp2_136, ro_rn (q 0) 10 (q 20) tl, ra_N (q 20) cI 1600 tb, ro_rrrrnn h0 0 k1 k2 k3 k4 cl mw, ra_I k1 cI 1600 f1]) eu_138 hP hD rfl (fun hP hD => ?_)
                  have hO_139 := rs_bd hO hO2_137
                  have hL_140 := lenO_bd (fwd_here (k := 1)) hlen
                  refine lv_goto (tgt := 217) hx hb dX8_readPart_202 (by decide) ?_
                  exact sk_vret hx hb hr hlocks hK hP hD hS (⟨xa, xv, (-2), xz, xf2_135, xp2_136, cl, mw, f1, hxa, hxz, hcl, hmw, by rw [← p_none htb hO c_1 c_2 c_3 c_30 (fun hq => absurd hq.1 (by omega)) hkx]; exact hO_139, rfl⟩) (Nat.le_of_ble_eq_true rfl) (Nat.le_of_ble_eq_true rfl) dX8_readPart_217
            · have c_86 : kn = 2 := (neq kn 2 (by omega) (Nat.le_of_ble_eq_true rfl)).mp c_86
              refine lv_aload_n hx hb dX8_readPart_134 rfl (lv_at hl 1 rfl) ?_
              refine sk_get (v := .ref (q 2)) (C := RX8) (T := TX8) (N := 2) hx hb hts inlX8 hown hK hP 0 rfl rfl 0 (Nat.le_of_ble_eq_true rfl) w_1_100 rfl dX8_readPart_135 ?_
              refine lv_sipush (v := 272) hx hb dX8_readPart_138 (by decide) ?_
              refine sk_ViZ (q0 := 0) (n := 1) (rest := []) (wr := fmR om_6_1c _) ⟨hx, hb, hml, hown, hts⟩ hl.1 (c_erd_opens l D cI cJ cC cZ cS zk zv zf q xa xv xo xt xz xf xp tl tb 272 (rc og) hxa hxz htl htb (by decide) (by omega) (hO).1) w_3_101 w_3_102 w_3_103 w_1_4 w_3_104 hd_X6_opens_1 ⟨⟨(by dsimp only; omega), (by dsimp only; omega)⟩, (by dsimp only; omega), (by dsimp only; omega)⟩ hK hP hD hS hZ hA (fmT om_6_1c 0) (fmF om_6_1c 0) (fm_C1 rfl rfl) (fm_R rfl rfl) (fm_nT om_6_1c 0) (fm_nF om_6_1c 0) (fm_di om_6_1c 0) rfl rfl rfl rfl (Nat.le_of_ble_eq_true rfl) dX8_readPart_141 (fun r_148 u H locs hw hP hD hS => ?_)
              refine exE hw (fun xa2_141 hw1 => exE hw1 (fun xv2_142 hw2 => exE hw2 (fun xt2_143 hw3 => exE hw3 (fun xz2_144 hw4 => exE hw4 (fun xf2_145 hw5 => exE hw5 (fun xp2_146 hw6 => exE hw6 (fun b_147 hw7 => anE hw7 (fun hxa2_149 hw8 => anE hw8 (fun hxz2_150 hw9 => anE hw9 (fun hb1_151 hw10 => anE hw10 (fun hO2_152 hw11 => anE hw11 (fun er_154 eu_153 => ?_))))))))))))
              clear hw hw1 hw2 hw3 hw4 hw5 hw6 hw7 hw8 hw9 hw10 hw11
              subst er_154
              refine o_mgE (ws' := [ro_rn u0 8 (q 2) kn, ro_rnininii (q 2) 6 (q 0) xa2_141 xv2_142 (xo + b_147) xt2_143 xz2_144 xf2_145 xp2_146, ro_rn (q 0) 10 (q 20) tl, ra_N (q 20) cI 1600 tb, ro_rrrrnn h0 0 k1 k2 k3 k4 cl mw, ra_I k1 cI 1600 f1]) eu_153 hP hD rfl (fun hP hD => ?_)
              have hO_155 := rs_bd hO hO2_152
              have hL_156 := lenS_op (n := tl) (w := 272) (xo := xo) htb (by decide) hlen
              refine lv_if_eq (tgt := 217) hx hb dX8_readPart_144 (by decide) (fun c_157 => ?_) (fun c_157 => ?_)
              · have c_157 : b_147 = 0 := (neq b_147 0 (by omega) (Nat.le_of_ble_eq_true rfl)).mp c_157
                obtain rfl : b_147 = 0 := by omega
                exact sk_vret hx hb hr hlocks hK hP hD hS (⟨xa2_141, xv2_142, xt2_143, xz2_144, xf2_145, xp2_146, cl, mw, f1, hxa2_149, hxz2_150, hcl, hmw, by (have hk2 : kn = 2 := by omega); subst hk2; rw [← p_weeks0 (xo := xo) htb hO c_31 (rr_0 hb1_151 (by omega) c_31) (by have := rr_0 hb1_151 (by omega) c_31; omega)]; exact hO_155, rfl⟩) (Nat.le_of_ble_eq_true rfl) (Nat.le_of_ble_eq_true rfl) dX8_readPart_217
              · have c_157 : ¬ (b_147 = 0) := fun h => c_157 ((neq b_147 0 (by omega) (Nat.le_of_ble_eq_true rfl)).mpr h)
                have hxo1 := (rr_1 hb1_151 (by omega)).1
                obtain rfl : b_147 = 1 := by omega
                refine lv_aload_n hx hb dX8_readPart_147 rfl (lv_at hl 1 rfl) ?_
                refine lv_aload_n hx hb dX8_readPart_148 rfl (lv_at hl 2 rfl) ?_
                refine sk_VvZ (q0 := 0) (n := 1) (rest := []) (wr := fmR om_6_3f _) ⟨hx, hb, hml, hown, hts⟩ hl.1 (hp (dd - 1) (by omega) q u0 kn xa2_141 xv2_142 (xo + 1) xt2_143 xz2_144 xf2_145 xp2_146 tl tb h0 k1 k2 k3 k4 cl mw f1 (bd og (opF tb tl 272 xo)) hxa2_149 hxz2_150 htl htb hcl hmw hkn (by omega) hO_155 (lenO_S hL_156)) w_3_92 w_3_94 w_0_8 w_1_6 w_3_95 hd_X8_readPart_1 ⟨⟨(by dsimp only; omega), (by dsimp only; omega)⟩, (by dsimp only; omega), (by dsimp only; omega)⟩ hK hP hD hS hZ hA (fmT om_6_3f 0) (fmF om_6_3f 0) (fm_C1 rfl rfl) (fm_R rfl rfl) (fm_nT om_6_3f 0) (fm_nF om_6_3f 0) (fm_di om_6_3f 0) rfl rfl rfl rfl (Nat.le_of_ble_eq_true rfl) dX8_readPart_149 (fun u H locs hw hP hD hS => ?_)
                refine exE hw (fun xa2_158 hw1 => exE hw1 (fun xv2_159 hw2 => exE hw2 (fun xt2_160 hw3 => exE hw3 (fun xz2_161 hw4 => exE hw4 (fun xf2_162 hw5 => exE hw5 (fun xp2_163 hw6 => exE hw6 (fun c2_164 hw7 => exE hw7 (fun w2_165 hw8 => exE hw8 (fun g1_166 hw9 => anE hw9 (fun hxa2_167 hw10 => anE hw10 (fun hxz2_168 hw11 => anE hw11 (fun hc2_169 hw12 => anE hw12 (fun hw2_170 hw13 => anE hw13 (fun hO2_171 eu_172 => ?_))))))))))))))
                clear hw hw1 hw2 hw3 hw4 hw5 hw6 hw7 hw8 hw9 hw10 hw11 hw12 hw13
                refine o_mgE (ws' := [ro_rn u0 8 (q 2) kn, ro_rnininii (q 2) 6 (q 0) xa2_158 xv2_159 (xo + 1) xt2_160 xz2_161 xf2_162 xp2_163, ro_rn (q 0) 10 (q 20) tl, ra_N (q 20) cI 1600 tb, ro_rrrrnn h0 0 k1 k2 k3 k4 c2_164 w2_165, ra_I k1 cI 1600 g1_166]) eu_172 hP hD rfl (fun hP hD => ?_)
                have hL_173 := lenS_ap (len_part (tb := tb) (n := tl) (kind := kn) (dd - 1)) hL_156
                refine lv_aload_n hx hb dX8_readPart_152 rfl (lv_at hl 2 rfl) ?_
                refine lv_sipush (v := 20000) hx hb dX8_readPart_153 (by decide) ?_
                refine sk_Vv (q0 := 0) (n := 1) (rest := []) (wr := fmR om_6_3 _) ⟨hx, hb, hml, hown, hts⟩ hl.1 (c_eCode_addX l D cI cJ cC cZ cS h0 k1 k2 k3 k4 c2_164 w2_165 g1_166 20000 (bindR (bd og (opF tb tl 272 xo)) (apF (rdPart tb tl kn (dd - 1)))) 60 hc2_169 hw2_170 (by decide) (by omega) (hO2_171).2 (rm_S hO2_171 htl hL_173)) w_3_97 w_3_98 w_3_99 w_1_8 w_3_100 hd_X0_add_1 ⟨⟨(by dsimp only; omega), (by dsimp only; omega)⟩, (by dsimp only; omega), (by dsimp only; omega)⟩ hK hP hD hS hA (fmT om_6_3 0) (fmF om_6_3 0) (fm_C1 rfl rfl) (fm_R rfl rfl) (fm_nT om_6_3 0) (fm_nF om_6_3 0) (fm_di om_6_3 0) rfl rfl rfl rfl (Nat.le_of_ble_eq_true rfl) dX8_readPart_156 (fun u H locs hw hP hD hS => ?_)
                refine exE hw (fun c2_174 hw1 => exE hw1 (fun w2_175 hw2 => exE hw2 (fun g1_176 hw3 => anE hw3 (fun hc2_177 hw4 => anE hw4 (fun hw2_178 hw5 => anE hw5 (fun hO2_179 eu_180 => ?_))))))
                clear hw hw1 hw2 hw3 hw4 hw5
                refine o_mgE (ws' := [ro_rn u0 8 (q 2) kn, ro_rnininii (q 2) 6 (q 0) xa2_158 xv2_159 (xo + 1) xt2_160 xz2_161 xf2_162 xp2_163, ro_rn (q 0) 10 (q 20) tl, ra_N (q 20) cI 1600 tb, ro_rrrrnn h0 0 k1 k2 k3 k4 c2_174 w2_175, ra_I k1 cI 1600 g1_176]) eu_180 hP hD rfl (fun hP hD => ?_)
                have hO_181 := rs_ad hO2_171 hO2_179
                have hL_182 := lenO_ad (v := 60) hL_173
                refine lv_aload_n hx hb dX8_readPart_159 rfl (lv_at hl 1 rfl) ?_
                refine sk_get (v := .ref (q 2)) (C := RX8) (T := TX8) (N := 2) hx hb hts inlX8 hown hK hP 0 rfl rfl 0 (Nat.le_of_ble_eq_true rfl) w_1_100 rfl dX8_readPart_160 ?_
                refine sk_Vv (q0 := 0) (n := 0) (rest := []) (wr := fmR om_6_10 _) ⟨hx, hb, hml, hown, hts⟩ hl.1 (c_erd_shuts l D cI cJ cC cZ cS q xa2_158 xv2_159 (xo + 1) xt2_160 xz2_161 xf2_162 xp2_163 (by omega) (by omega)) w_3_105 w_3_106 w_3_107 w_1_4 w_3_108 hd_X6_shuts_0 ⟨⟨(by dsimp only; omega), (by dsimp only; omega)⟩, (by dsimp only; omega), (by dsimp only; omega)⟩ hK hP hD hS hA (fmT om_6_10 0) (fmF om_6_10 0) (fm_C1 rfl rfl) (fm_R rfl rfl) (fm_nT om_6_10 0) (fm_nF om_6_10 0) (fm_di om_6_10 0) rfl rfl rfl rfl (Nat.le_of_ble_eq_true rfl) dX8_readPart_163 (fun u H locs hw hP hD hS => ?_)
                refine o_mgE (ws' := [ro_rn u0 8 (q 2) kn, ro_rnininii (q 2) 6 (q 0) xa2_158 xv2_159 ((xo + 1) - 1) xt2_160 xz2_161 xf2_162 xp2_163, ro_rn (q 0) 10 (q 20) tl, ra_N (q 20) cI 1600 tb, ro_rrrrnn h0 0 k1 k2 k3 k4 c2_174 w2_175, ra_I k1 cI 1600 g1_176]) hw hP hD rfl (fun hP hD => ?_)
                refine lv_goto (tgt := 217) hx hb dX8_readPart_166 (by decide) ?_
                exact sk_vret hx hb hr hlocks hK hP hD hS (⟨xa2_158, xv2_159, xt2_160, xz2_161, xf2_162, xp2_163, c2_174, w2_175, g1_176, hxa2_167, hxz2_168, hc2_177, hw2_178, by (have hk2 : kn = 2 := by omega); subst hk2; rw [← p_weeks (xo := xo) htb hO c_31 (by omega) (by omega)]; exact hO_181, rfl⟩) (Nat.le_of_ble_eq_true rfl) (Nat.le_of_ble_eq_true rfl) dX8_readPart_217
        · skip
          refine lv_aload_n hx hb dX8_readPart_88 rfl (lv_at hl 1 rfl) ?_
          refine sk_get (v := .ref (q 2)) (C := RX8) (T := TX8) (N := 2) hx hb hts inlX8 hown hK hP 0 rfl rfl 0 (Nat.le_of_ble_eq_true rfl) w_1_100 rfl dX8_readPart_89 ?_
          refine sk_VvZ (q0 := 0) (n := 0) (rest := []) (wr := fmR om_6_1c _) ⟨hx, hb, hml, hown, hts⟩ hl.1 (c_erd_step l D cI cJ cC cZ cS zk zv zf q xa xv xo xt xz xf xp tl tb (bindR (rc og) (beF tb tl)) hxa hxz htl htb (rd_st htb (hO).1 ⟨by rw [c_30]; decide, by rw [c_30]; decide⟩)) w_3_110 w_2_226 w_2_227 w_1_4 w_2_228 hd_X6_step_0 ⟨⟨(by dsimp only; omega), (by dsimp only; omega)⟩, (by dsimp only; omega), (by dsimp only; omega)⟩ hK hP hD hS hZ hA (fmT om_6_1c 0) (fmF om_6_1c 0) (fm_C1 rfl rfl) (fm_R rfl rfl) (fm_nT om_6_1c 0) (fm_nF om_6_1c 0) (fm_di om_6_1c 0) rfl rfl rfl rfl (Nat.le_of_ble_eq_true rfl) dX8_readPart_92 (fun u H locs hw hP hD hS => ?_)
          refine exE hw (fun xa2_183 hw1 => exE hw1 (fun xv2_184 hw2 => exE hw2 (fun xt2_185 hw3 => exE hw3 (fun xz2_186 hw4 => anE hw4 (fun hxa2_187 hw5 => anE hw5 (fun hxz2_188 hw6 => anE hw6 (fun hO2_189 eu_190 => ?_)))))))
          clear hw hw1 hw2 hw3 hw4 hw5 hw6
          refine o_mgE (ws' := [ro_rn u0 8 (q 2) kn, ro_rnininii (q 2) 6 (q 0) xa2_183 xv2_184 xo xt2_185 xz2_186 xf xp, ro_rn (q 0) 10 (q 20) tl, ra_N (q 20) cI 1600 tb, ro_rrrrnn h0 0 k1 k2 k3 k4 cl mw, ra_I k1 cI 1600 f1]) eu_190 hP hD rfl (fun hP hD => ?_)
          rw [stF_nx] at hO2_189
          have hO_191 := rs_bd hO hO2_189
          have hL_192 := lenS_nx htb hO ⟨by rw [c_30]; decide, by rw [c_30]; decide⟩ hlen
          refine lv_aload_n hx hb dX8_readPart_95 rfl (lv_at hl 1 rfl) ?_
          refine lv_aload_n hx hb dX8_readPart_96 rfl (lv_at hl 2 rfl) ?_
          refine lv_iload_n hx hb dX8_readPart_97 rfl (lv_at hl 0 rfl) ?_
          refine lv_sipush (v := 277) hx hb dX8_readPart_98 (by decide) ?_
          refine lv_icmp_ne (tgt := 110) hx hb dX8_readPart_101 (by decide) (fun c_193 => ?_) (fun c => absurd c c_3)
          refine lv_sipush (v := 30005) hx hb dX8_readPart_110 (by decide) ?_
          refine sk_VvZ (q0 := 0) (n := 2) (rest := []) (wr := fmR om_6_3f _) ⟨hx, hb, hml, hown, hts⟩ hl.1 (hq q u0 kn xa2_183 xv2_184 xo xt2_185 xz2_186 xf xp tl tb h0 k1 k2 k3 k4 cl mw f1 (bd og (nxF tb tl)) 30005 6 hxa2_187 hxz2_188 htl htb hcl hmw hkn hdd hO_191 (lenO_S hL_192) (by decide) (by omega)) w_3_111 w_3_113 w_0_9 w_1_6 w_3_114 hd_X8_readPair_2 ⟨⟨(by dsimp only; omega), (by dsimp only; omega)⟩, (by dsimp only; omega), (by dsimp only; omega)⟩ hK hP hD hS hZ hA (fmT om_6_3f 0) (fmF om_6_3f 0) (fm_C1 rfl rfl) (fm_R rfl rfl) (fm_nT om_6_3f 0) (fm_nF om_6_3f 0) (fm_di om_6_3f 0) rfl rfl rfl rfl (Nat.le_of_ble_eq_true rfl) dX8_readPart_113 (fun u H locs hw hP hD hS => ?_)
          refine exE hw (fun xa2_194 hw1 => exE hw1 (fun xv2_195 hw2 => exE hw2 (fun xt2_196 hw3 => exE hw3 (fun xz2_197 hw4 => exE hw4 (fun xf2_198 hw5 => exE hw5 (fun xp2_199 hw6 => exE hw6 (fun c2_200 hw7 => exE hw7 (fun w2_201 hw8 => exE hw8 (fun g1_202 hw9 => anE hw9 (fun hxa2_203 hw10 => anE hw10 (fun hxz2_204 hw11 => anE hw11 (fun hc2_205 hw12 => anE hw12 (fun hw2_206 hw13 => anE hw13 (fun hO2_207 eu_208 => ?_))))))))))))))
          clear hw hw1 hw2 hw3 hw4 hw5 hw6 hw7 hw8 hw9 hw10 hw11 hw12 hw13
          refine o_mgE (ws' := [ro_rn u0 8 (q 2) kn, ro_rnininii (q 2) 6 (q 0) xa2_194 xv2_195 xo xt2_196 xz2_197 xf2_198 xp2_199, ro_rn (q 0) 10 (q 20) tl, ra_N (q 20) cI 1600 tb, ro_rrrrnn h0 0 k1 k2 k3 k4 c2_200 w2_201, ra_I k1 cI 1600 g1_202]) eu_208 hP hD rfl (fun hP hD => ?_)
          refine lv_goto (tgt := 217) hx hb dX8_readPart_116 (by decide) ?_
          exact sk_vret hx hb hr hlocks hK hP hD hS (⟨xa2_194, xv2_195, xt2_196, xz2_197, xf2_198, xp2_199, c2_200, w2_201, g1_202, hxa2_203, hxz2_204, hc2_205, hw2_206, by rw [← p_mm (v := 6) htb hO (Or.inr ⟨c_30, rfl⟩)]; exact hO2_207, rfl⟩) (Nat.le_of_ble_eq_true rfl) (Nat.le_of_ble_eq_true rfl) dX8_readPart_217
    · skip
      refine lv_aload_n hx hb dX8_readPart_38 rfl (lv_at hl 1 rfl) ?_
      refine sk_get (v := .ref (q 2)) (C := RX8) (T := TX8) (N := 2) hx hb hts inlX8 hown hK hP 0 rfl rfl 0 (Nat.le_of_ble_eq_true rfl) w_1_100 rfl dX8_readPart_39 ?_
      refine lv_bipush (v := 40) hx hb dX8_readPart_42 (by decide) ?_
      refine sk_ViZ (q0 := 0) (n := 1) (rest := []) (wr := fmR om_6_1c _) ⟨hx, hb, hml, hown, hts⟩ hl.1 (c_erd_opens l D cI cJ cC cZ cS zk zv zf q xa xv xo xt xz xf xp tl tb 40 (rc og) hxa hxz htl htb (by decide) (by omega) (hO).1) w_3_101 w_3_102 w_3_103 w_1_4 w_3_104 hd_X6_opens_1 ⟨⟨(by dsimp only; omega), (by dsimp only; omega)⟩, (by dsimp only; omega), (by dsimp only; omega)⟩ hK hP hD hS hZ hA (fmT om_6_1c 0) (fmF om_6_1c 0) (fm_C1 rfl rfl) (fm_R rfl rfl) (fm_nT om_6_1c 0) (fm_nF om_6_1c 0) (fm_di om_6_1c 0) rfl rfl rfl rfl (Nat.le_of_ble_eq_true rfl) dX8_readPart_44 (fun r_216 u H locs hw hP hD hS => ?_)
      refine exE hw (fun xa2_209 hw1 => exE hw1 (fun xv2_210 hw2 => exE hw2 (fun xt2_211 hw3 => exE hw3 (fun xz2_212 hw4 => exE hw4 (fun xf2_213 hw5 => exE hw5 (fun xp2_214 hw6 => exE hw6 (fun b_215 hw7 => anE hw7 (fun hxa2_217 hw8 => anE hw8 (fun hxz2_218 hw9 => anE hw9 (fun hb1_219 hw10 => anE hw10 (fun hO2_220 hw11 => anE hw11 (fun er_222 eu_221 => ?_))))))))))))
      clear hw hw1 hw2 hw3 hw4 hw5 hw6 hw7 hw8 hw9 hw10 hw11
      subst er_222
      refine o_mgE (ws' := [ro_rn u0 8 (q 2) kn, ro_rnininii (q 2) 6 (q 0) xa2_209 xv2_210 (xo + b_215) xt2_211 xz2_212 xf2_213 xp2_214, ro_rn (q 0) 10 (q 20) tl, ra_N (q 20) cI 1600 tb, ro_rrrrnn h0 0 k1 k2 k3 k4 cl mw, ra_I k1 cI 1600 f1]) eu_221 hP hD rfl (fun hP hD => ?_)
      have hO_223 := rs_bd hO hO2_220
      have hL_224 := lenS_op (n := tl) (w := 40) (xo := xo) htb (by decide) hlen
      refine lv_if_eq (tgt := 217) hx hb dX8_readPart_47 (by decide) (fun c_225 => ?_) (fun c_225 => ?_)
      · have c_225 : b_215 = 0 := (neq b_215 0 (by omega) (Nat.le_of_ble_eq_true rfl)).mp c_225
        obtain rfl : b_215 = 0 := by omega
        exact sk_vret hx hb hr hlocks hK hP hD hS (⟨xa2_209, xv2_210, xt2_211, xz2_212, xf2_213, xp2_214, cl, mw, f1, hxa2_217, hxz2_218, hcl, hmw, by rw [← p_round0 (xo := xo) htb hO c_2 (rr_0 hb1_219 (by omega) c_2) (by have := rr_0 hb1_219 (by omega) c_2; omega)]; exact hO_223, rfl⟩) (Nat.le_of_ble_eq_true rfl) (Nat.le_of_ble_eq_true rfl) dX8_readPart_217
      · have c_225 : ¬ (b_215 = 0) := fun h => c_225 ((neq b_215 0 (by omega) (Nat.le_of_ble_eq_true rfl)).mpr h)
        have hxo1 := (rr_1 hb1_219 (by omega)).1
        obtain rfl : b_215 = 1 := by omega
        refine lv_aload_n hx hb dX8_readPart_50 rfl (lv_at hl 1 rfl) ?_
        refine lv_aload_n hx hb dX8_readPart_51 rfl (lv_at hl 2 rfl) ?_
        refine sk_VvZ (q0 := 0) (n := 1) (rest := []) (wr := fmR om_6_3f _) ⟨hx, hb, hml, hown, hts⟩ hl.1 (hs (dd - 1) (by omega) q u0 kn xa2_209 xv2_210 (xo + 1) xt2_211 xz2_212 xf2_213 xp2_214 tl tb h0 k1 k2 k3 k4 cl mw f1 (bd og (opF tb tl 40 xo)) hxa2_217 hxz2_218 htl htb hcl hmw hkn (by omega) hO_223 (lenO_S hL_224)) w_3_84 w_3_86 w_0_6 w_1_6 w_3_87 hd_X8_readSum_1 ⟨⟨(by dsimp only; omega), (by dsimp only; omega)⟩, (by dsimp only; omega), (by dsimp only; omega)⟩ hK hP hD hS hZ hA (fmT om_6_3f 0) (fmF om_6_3f 0) (fm_C1 rfl rfl) (fm_R rfl rfl) (fm_nT om_6_3f 0) (fm_nF om_6_3f 0) (fm_di om_6_3f 0) rfl rfl rfl rfl (Nat.le_of_ble_eq_true rfl) dX8_readPart_52 (fun u H locs hw hP hD hS => ?_)
        refine exE hw (fun xa2_226 hw1 => exE hw1 (fun xv2_227 hw2 => exE hw2 (fun xt2_228 hw3 => exE hw3 (fun xz2_229 hw4 => exE hw4 (fun xf2_230 hw5 => exE hw5 (fun xp2_231 hw6 => exE hw6 (fun c2_232 hw7 => exE hw7 (fun w2_233 hw8 => exE hw8 (fun g1_234 hw9 => anE hw9 (fun hxa2_235 hw10 => anE hw10 (fun hxz2_236 hw11 => anE hw11 (fun hc2_237 hw12 => anE hw12 (fun hw2_238 hw13 => anE hw13 (fun hO2_239 eu_240 => ?_))))))))))))))
        clear hw hw1 hw2 hw3 hw4 hw5 hw6 hw7 hw8 hw9 hw10 hw11 hw12 hw13
        refine o_mgE (ws' := [ro_rn u0 8 (q 2) kn, ro_rnininii (q 2) 6 (q 0) xa2_226 xv2_227 (xo + 1) xt2_228 xz2_229 xf2_230 xp2_231, ro_rn (q 0) 10 (q 20) tl, ra_N (q 20) cI 1600 tb, ro_rrrrnn h0 0 k1 k2 k3 k4 c2_232 w2_233, ra_I k1 cI 1600 g1_234]) eu_240 hP hD rfl (fun hP hD => ?_)
        have hL_241 := lenS_ap (len_sum (tb := tb) (n := tl) (len_part (tb := tb) (n := tl) (kind := kn) (dd - 1))) hL_224
        refine lv_aload_n hx hb dX8_readPart_55 rfl (lv_at hl 1 rfl) ?_
        refine sk_get (v := .ref (q 2)) (C := RX8) (T := TX8) (N := 2) hx hb hts inlX8 hown hK hP 0 rfl rfl 0 (Nat.le_of_ble_eq_true rfl) w_1_100 rfl dX8_readPart_56 ?_
        refine sk_Vv (q0 := 0) (n := 0) (rest := []) (wr := fmR om_6_10 _) ⟨hx, hb, hml, hown, hts⟩ hl.1 (c_erd_shuts l D cI cJ cC cZ cS q xa2_226 xv2_227 (xo + 1) xt2_228 xz2_229 xf2_230 xp2_231 (by omega) (by omega)) w_3_105 w_3_106 w_3_107 w_1_4 w_3_108 hd_X6_shuts_0 ⟨⟨(by dsimp only; omega), (by dsimp only; omega)⟩, (by dsimp only; omega), (by dsimp only; omega)⟩ hK hP hD hS hA (fmT om_6_10 0) (fmF om_6_10 0) (fm_C1 rfl rfl) (fm_R rfl rfl) (fm_nT om_6_10 0) (fm_nF om_6_10 0) (fm_di om_6_10 0) rfl rfl rfl rfl (Nat.le_of_ble_eq_true rfl) dX8_readPart_59 (fun u H locs hw hP hD hS => ?_)
        refine o_mgE (ws' := [ro_rn u0 8 (q 2) kn, ro_rnininii (q 2) 6 (q 0) xa2_226 xv2_227 ((xo + 1) - 1) xt2_228 xz2_229 xf2_230 xp2_231, ro_rn (q 0) 10 (q 20) tl, ra_N (q 20) cI 1600 tb, ro_rrrrnn h0 0 k1 k2 k3 k4 c2_232 w2_233, ra_I k1 cI 1600 g1_234]) hw hP hD rfl (fun hP hD => ?_)
        refine lv_aload_n hx hb dX8_readPart_62 rfl (lv_at hl 1 rfl) ?_
        refine sk_get (v := .ref (q 2)) (C := RX8) (T := TX8) (N := 2) hx hb hts inlX8 hown hK hP 0 rfl rfl 0 (Nat.le_of_ble_eq_true rfl) w_1_100 rfl dX8_readPart_63 ?_
        refine lv_bipush (v := 41) hx hb dX8_readPart_66 (by decide) ?_
        refine sk_VvZ (q0 := 0) (n := 1) (rest := []) (wr := fmR om_6_1c _) ⟨hx, hb, hml, hown, hts⟩ hl.1 (c_erd_needs l D cI cJ cC cZ cS zk zv zf q xa2_226 xv2_227 ((xo + 1) - 1) xt2_228 xz2_229 xf2_230 xp2_231 tl tb 41 (rc (bindR (bd og (opF tb tl 40 xo)) (apF (sumOf tb tl (rdPart tb tl kn (dd - 1)))))) hxa2_235 hxz2_236 htl htb (by decide) (hO2_239).1) w_3_109 w_3_51 w_3_52 w_1_4 w_3_53 hd_X6_needs_1 ⟨⟨(by dsimp only; omega), (by dsimp only; omega)⟩, (by dsimp only; omega), (by dsimp only; omega)⟩ hK hP hD hS hZ hA (fmT om_6_1c 0) (fmF om_6_1c 0) (fm_C1 rfl rfl) (fm_R rfl rfl) (fm_nT om_6_1c 0) (fm_nF om_6_1c 0) (fm_di om_6_1c 0) rfl rfl rfl rfl (Nat.le_of_ble_eq_true rfl) dX8_readPart_68 (fun u H locs hw hP hD hS => ?_)
        refine exE hw (fun xa2_242 hw1 => exE hw1 (fun xv2_243 hw2 => exE hw2 (fun xt2_244 hw3 => exE hw3 (fun xz2_245 hw4 => exE hw4 (fun xf2_246 hw5 => exE hw5 (fun xp2_247 hw6 => anE hw6 (fun hxa2_248 hw7 => anE hw7 (fun hxz2_249 hw8 => anE hw8 (fun hO2_250 eu_251 => ?_)))))))))
        clear hw hw1 hw2 hw3 hw4 hw5 hw6 hw7 hw8
        refine o_mgE (ws' := [ro_rn u0 8 (q 2) kn, ro_rnininii (q 2) 6 (q 0) xa2_242 xv2_243 ((xo + 1) - 1) xt2_244 xz2_245 xf2_246 xp2_247, ro_rn (q 0) 10 (q 20) tl, ra_N (q 20) cI 1600 tb, ro_rrrrnn h0 0 k1 k2 k3 k4 c2_232 w2_233, ra_I k1 cI 1600 g1_234]) eu_251 hP hD rfl (fun hP hD => ?_)
        have hO_252 := rs_bd hO2_239 hO2_250
        have hL_253 := lenS_bd (fwd_tk (tb := tb) (n := tl) (w := 41)) hL_241
        refine lv_goto (tgt := 217) hx hb dX8_readPart_71 (by decide) ?_
        exact sk_vret hx hb hr hlocks hK hP hD hS (⟨xa2_242, xv2_243, xt2_244, xz2_245, xf2_246, xp2_247, c2_232, w2_233, g1_234, hxa2_248, hxz2_249, hc2_237, hw2_238, by rw [← p_round (xo := xo) htb hO c_2 (by omega) (by omega)]; exact hO_252, rfl⟩) (Nat.le_of_ble_eq_true rfl) (Nat.le_of_ble_eq_true rfl) dX8_readPart_217
  · skip
    refine lv_aload_n hx hb dX8_readPart_14 rfl (lv_at hl 2 rfl) ?_
    refine lv_aload_n hx hb dX8_readPart_15 rfl (lv_at hl 1 rfl) ?_
    refine sk_get (v := .ref (q 2)) (C := RX8) (T := TX8) (N := 2) hx hb hts inlX8 hown hK hP 0 rfl rfl 0 (Nat.le_of_ble_eq_true rfl) w_1_100 rfl dX8_readPart_16 ?_
    refine lv_iconst (v := 0) hx hb dX8_readPart_19 ic_0 ?_
    refine lv_sipush (v := 9999) hx hb dX8_readPart_20 (by decide) ?_
    refine sk_ViZ (q0 := 0) (n := 2) (rest := [.ref h0]) (wr := fmR om_6_1c _) ⟨hx, hb, hml, hown, hts⟩ hl.1 (c_erd_takeNumber l D cI cJ cC cZ cS zk zv zf q xa xv xo xt xz xf xp tl tb 0 9999 (rc og) hxa hxz htl htb (by omega) (by omega) (hO).1) w_3_96 w_3_63 w_3_64 w_1_4 w_3_65 hd_X6_takeNumber_2 ⟨⟨(by dsimp only; omega), (by dsimp only; omega)⟩, (by dsimp only; omega), (by dsimp only; omega)⟩ hK hP hD hS hZ hA (fmT om_6_1c 0) (fmF om_6_1c 0) (fm_C1 rfl rfl) (fm_R rfl rfl) (fm_nT om_6_1c 0) (fm_nF om_6_1c 0) (fm_di om_6_1c 0) rfl rfl rfl rfl (Nat.le_of_ble_eq_true rfl) dX8_readPart_23 (fun r_261 u H locs hw hP hD hS => ?_)
    refine exE hw (fun xa2_254 hw1 => exE hw1 (fun xv2_255 hw2 => exE hw2 (fun xt2_256 hw3 => exE hw3 (fun xz2_257 hw4 => exE hw4 (fun xf2_258 hw5 => exE hw5 (fun xp2_259 hw6 => exE hw6 (fun v_260 hw7 => anE hw7 (fun hxa2_262 hw8 => anE hw8 (fun hxz2_263 hw9 => anE hw9 (fun hv1_264 hw10 => anE hw10 (fun hv2_265 hw11 => anE hw11 (fun hnv_266 hw12 => anE hw12 (fun hO2_267 hw13 => anE hw13 (fun er_269 eu_268 => ?_))))))))))))))
    clear hw hw1 hw2 hw3 hw4 hw5 hw6 hw7 hw8 hw9 hw10 hw11 hw12 hw13
    subst er_269
    refine o_mgE (ws' := [ro_rn u0 8 (q 2) kn, ro_rnininii (q 2) 6 (q 0) xa2_254 xv2_255 xo xt2_256 xz2_257 xf2_258 xp2_259, ro_rn (q 0) 10 (q 20) tl, ra_N (q 20) cI 1600 tb, ro_rrrrnn h0 0 k1 k2 k3 k4 cl mw, ra_I k1 cI 1600 f1]) eu_268 hP hD rfl (fun hP hD => ?_)
    have hO_270 := rs_bd hO hO2_267
    have hL_271 := lenS_nm (tb := tb) (n := tl) (lo := 0) (hi := 9999) hlen
    refine sk_Vv (q0 := 0) (n := 1) (rest := []) (wr := fmR om_6_3 _) ⟨hx, hb, hml, hown, hts⟩ hl.1 (c_eCode_addX l D cI cJ cC cZ cS h0 k1 k2 k3 k4 cl mw f1 (nI v_260) (bd og (nmF tb tl 0 9999)) (1000 + v_260) hcl hmw (cm_num v_260) (by omega) (hO_270).2 (rm_S hO_270 htl hL_271)) w_3_97 w_3_98 w_3_99 w_1_8 w_3_100 hd_X0_add_1 ⟨⟨(by dsimp only; omega), (by dsimp only; omega)⟩, (by dsimp only; omega), (by dsimp only; omega)⟩ hK hP hD hS hA (fmT om_6_3 0) (fmF om_6_3 0) (fm_C1 rfl rfl) (fm_R rfl rfl) (fm_nT om_6_3 0) (fm_nF om_6_3 0) (fm_di om_6_3 0) rfl rfl rfl rfl (Nat.le_of_ble_eq_true rfl) dX8_readPart_26 (fun u H locs hw hP hD hS => ?_)
    refine exE hw (fun c2_272 hw1 => exE hw1 (fun w2_273 hw2 => exE hw2 (fun g1_274 hw3 => anE hw3 (fun hc2_275 hw4 => anE hw4 (fun hw2_276 hw5 => anE hw5 (fun hO2_277 eu_278 => ?_))))))
    clear hw hw1 hw2 hw3 hw4 hw5
    refine o_mgE (ws' := [ro_rn u0 8 (q 2) kn, ro_rnininii (q 2) 6 (q 0) xa2_254 xv2_255 xo xt2_256 xz2_257 xf2_258 xp2_259, ro_rn (q 0) 10 (q 20) tl, ra_N (q 20) cI 1600 tb, ro_rrrrnn h0 0 k1 k2 k3 k4 c2_272 w2_273, ra_I k1 cI 1600 g1_274]) eu_278 hP hD rfl (fun hP hD => ?_)
    have hO_279 := rs_ad hO_270 hO2_277
    have hL_280 := lenO_ad (v := 1000 + v_260) hL_271
    refine lv_goto (tgt := 217) hx hb dX8_readPart_29 (by decide) ?_
    exact sk_vret hx hb hr hlocks hK hP hD hS (⟨xa2_254, xv2_255, xt2_256, xz2_257, xf2_258, xp2_259, c2_272, w2_273, g1_274, hxa2_262, hxz2_263, hc2_275, hw2_276, by rw [← p_num (v := v_260) htb hO c_1 hnv_266]; exact hO_279, rfl⟩) (Nat.le_of_ble_eq_true rfl) (Nat.le_of_ble_eq_true rfl) dX8_readPart_217
set_option maxHeartbeats 4000000 in
set_option maxRecDepth 100000 in
theorem c_ereadProduct (l : Launch) (D : va_G) (cI cJ cC cZ cS : ClassId) (zk zv : Nat) (zf : Value) (dd : Nat) (hq : CT_ereadPart l D cI cJ cC cZ cS zk zv zf dd) : CT_ereadProduct l D cI cJ cC cZ cS zk zv zf dd := by
  intro q u0 kn xa xv xo xt xz xf xp tl tb h0 k1 k2 k3 k4 cl mw f1 og hxa hxz htl htb hcl hmw hkn hdd hO hlen
  refine skMZ_of pf_X8_readProduct (Nat.le_of_ble_eq_true rfl) ?_
  intro p e s m below meth c A ls E hP hD hZ hl
  refine skE_el E (fun hx hb hr hml hlocks hin hown hts hK hA => ?_)
  have hown : s.vm.findClass RX8 = some m.cls := hown
  have hS : va_S A s.heap s.heap [] := va_S.rf
  have hl : lv_has ls 4 [(0, .ref u0), (1, .ref h0)] := hl
  refine lv_aload_n hx hb dX8_readProduct_0 rfl (lv_at hl 0 rfl) ?_
  refine lv_aload_n hx hb dX8_readProduct_1 rfl (lv_at hl 1 rfl) ?_
  refine sk_VvZ (q0 := 0) (n := 1) (rest := []) (wr := fmR om_6_3f _) ⟨hx, hb, hml, hown, hts⟩ hl.1 (hq q u0 kn xa xv xo xt xz xf xp tl tb h0 k1 k2 k3 k4 cl mw f1 og hxa hxz htl htb hcl hmw hkn hdd hO hlen) w_3_92 w_3_94 w_0_8 w_1_6 w_3_95 hd_X8_readPart_1 ⟨⟨(by dsimp only; omega), (by dsimp only; omega)⟩, (by dsimp only; omega), (by dsimp only; omega)⟩ hK hP hD hS hZ hA (fmT om_6_3f 0) (fmF om_6_3f 0) (fm_C1 rfl rfl) (fm_R rfl rfl) (fm_nT om_6_3f 0) (fm_nF om_6_3f 0) (fm_di om_6_3f 0) rfl rfl rfl rfl (Nat.le_of_ble_eq_true rfl) dX8_readProduct_2 (fun u H locs hw hP hD hS => ?_)
  refine exE hw (fun xa2_1 hw1 => exE hw1 (fun xv2_2 hw2 => exE hw2 (fun xt2_3 hw3 => exE hw3 (fun xz2_4 hw4 => exE hw4 (fun xf2_5 hw5 => exE hw5 (fun xp2_6 hw6 => exE hw6 (fun c2_7 hw7 => exE hw7 (fun w2_8 hw8 => exE hw8 (fun g1_9 hw9 => anE hw9 (fun hxa2_10 hw10 => anE hw10 (fun hxz2_11 hw11 => anE hw11 (fun hc2_12 hw12 => anE hw12 (fun hw2_13 hw13 => anE hw13 (fun hO2_14 eu_15 => ?_))))))))))))))
  clear hw hw1 hw2 hw3 hw4 hw5 hw6 hw7 hw8 hw9 hw10 hw11 hw12 hw13
  refine o_mgE (ws' := [ro_rn u0 8 (q 2) kn, ro_rnininii (q 2) 6 (q 0) xa2_1 xv2_2 xo xt2_3 xz2_4 xf2_5 xp2_6, ro_rn (q 0) 10 (q 20) tl, ra_N (q 20) cI 1600 tb, ro_rrrrnn h0 0 k1 k2 k3 k4 c2_7 w2_8, ra_I k1 cI 1600 g1_9]) eu_15 hP hD rfl (fun hP hD => ?_)
  have hL_16 := lenO_ap (len_part (tb := tb) (n := tl) (kind := kn) dd) hlen
  refine lv_iconst (v := 0) hx hb dX8_readProduct_5 ic_0 ?_
  refine lv_istore_n (lv' := [(2, .int 0), (0, .ref u0), (1, .ref h0)]) hx hb dX8_readProduct_6 rfl hl (by decide) rfl (fun ls hl => ?_)
  have lp_17 : ∀ (n_18 : Nat) (i : Nat) (za : Nat) (zw : Int32) (zt : Int32) (zz : Nat) (zg : Int32) (zp : Int32) (yc : Nat) (yw : Nat) (yf : Nat → Int32) (zo : Res) (H : Heap) (locs : List Loc) (ls : Array Slot), 1600 - i < n_18 → (rsO tb tl zo za zw zt zz zg zp yc yw yf) → (i ≤ 1600) → (za ≤ 1600) → (zz ≤ 1600) → (yc ≤ 1600) → (yw ≤ 1) → (lenO zo) → (iO i zo) → (bindR zo (fun r => mulLp tb tl (rdPart tb tl kn dd) (tl + 2) r.1 r.2) = bindR og (apF (prodOf tb tl (rdPart tb tl kn dd)))) → va_P D vwCl [ro_rn u0 8 (q 2) kn, ro_rnininii (q 2) 6 (q 0) za zw xo zt zz zg zp, ro_rn (q 0) 10 (q 20) tl, ra_N (q 20) cI 1600 tb, ro_rrrrnn h0 0 k1 k2 k3 k4 yc yw, ra_I k1 cI 1600 yf] H → va_D A [ro_rn u0 8 (q 2) kn, ro_rnininii (q 2) 6 (q 0) za zw xo zt zz zg zp, ro_rn (q 0) 10 (q 20) tl, ra_N (q 20) cI 1600 tb, ro_rrrrnn h0 0 k1 k2 k3 k4 yc yw, ra_I k1 cI 1600 yf] → va_S A s.heap H locs → lv_has ls 4 [(2, .int (nI i)), (0, .ref u0), (1, .ref h0)] → W p l e { frames := 22 + 5 * dd, cells := 0, slots := 0, locals := 650 + 100 * dd } s m ([.ref u0, .ref h0] : List Value).toArray below meth c H locs 0 0 (MQ below (skV D (skT cI cJ cC cZ cS) (fun (u : va_W) => ∃ (xa2 : Nat), ∃ (xv2 : Int32), ∃ (xt2 : Int32), ∃ (xz2 : Nat), ∃ (xf2 : Int32), ∃ (xp2 : Int32), ∃ (c2 : Nat), ∃ (w2 : Nat), ∃ (g1 : Nat → Int32), xa2 ≤ 1600 ∧ xz2 ≤ 1600 ∧ c2 ≤ 1600 ∧ w2 ≤ 1 ∧ rsO tb tl (bindR og (apF (prodOf tb tl (rdPart tb tl kn dd)))) xa2 xv2 xt2 xz2 xf2 xp2 c2 w2 g1 ∧ u = [ro_rn u0 8 (q 2) kn, ro_rnininii (q 2) 6 (q 0) xa2 xv2 xo xt2 xz2 xf2 xp2, ro_rn (q 0) 10 (q 20) tl, ra_N (q 20) cI 1600 tb, ro_rrrrnn h0 0 k1 k2 k3 k4 c2 w2, ra_I k1 cI 1600 g1]) A) ([.ref u0, .ref h0] : List Value).toArray s 0 0 A) (F0 m 7 ls []) := by
    intro n_18
    induction n_18 with
    | zero => intro i za zw zt zz zg zp yc yw yf zo H locs ls hm; exact absurd hm (Nat.not_lt_zero _)
    | succ n_18 ih_lp_17 =>
      intro i za zw zt zz zg zp yc yw yf zo H locs ls hm hzO hi hza hzz hyc hyw hzl hiO hrem hP hD hS hl
      refine lv_iload_n hx hb dX8_readProduct_7 rfl (lv_at hl 0 rfl) ?_
      refine lv_sipush (v := 1600) hx hb dX8_readProduct_8 (by decide) ?_
      refine lv_icmp_ge (tgt := 83) hx hb dX8_readProduct_11 (by decide) (fun c_19 => ?_) (fun c_19 => ?_)
      · have c_19 : 1600 ≤ i := (nle 1600 i (Nat.le_of_ble_eq_true rfl) (by omega)).mp c_19
        exact sk_vret hx hb hr hlocks hK hP hD hS (⟨za, zw, zt, zz, zg, zp, yc, yw, yf, hza, hzz, hyc, hyw, prod_e htb hzO htl hiO (Or.inl (by omega)) hrem, rfl⟩) (Nat.le_of_ble_eq_true rfl) (Nat.le_of_ble_eq_true rfl) dX8_readProduct_83
      · have c_19 : ¬ (1600 ≤ i) := fun h => c_19 ((nle 1600 i (Nat.le_of_ble_eq_true rfl) (by omega)).mpr h)
        refine lv_aload_n hx hb dX8_readProduct_14 rfl (lv_at hl 1 rfl) ?_
        refine sk_get (v := .ref (q 2)) (C := RX8) (T := TX8) (N := 2) hx hb hts inlX8 hown hK hP 0 rfl rfl 0 (Nat.le_of_ble_eq_true rfl) w_1_100 rfl dX8_readProduct_15 ?_
        refine sk_get (v := .int zt) (C := RX6) (T := TX6) (N := 8) hx hb hts inlX6 hown hK hP 1 rfl rfl 4 (Nat.le_of_ble_eq_true rfl) w_1_63 rfl dX8_readProduct_18 ?_
        refine lv_bipush (v := 42) hx hb dX8_readProduct_21 (by decide) ?_
        refine lv_icmp_eq (tgt := 38) hx hb dX8_readProduct_23 (by decide) (fun c_20 => ?_) (fun c_20 => ?_)
        · skip
          refine lv_aload_n hx hb dX8_readProduct_38 rfl (lv_at hl 1 rfl) ?_
          refine sk_get (v := .ref (q 2)) (C := RX8) (T := TX8) (N := 2) hx hb hts inlX8 hown hK hP 0 rfl rfl 0 (Nat.le_of_ble_eq_true rfl) w_1_100 rfl dX8_readProduct_39 ?_
          refine sk_get (v := .int zt) (C := RX6) (T := TX6) (N := 8) hx hb hts inlX6 hown hK hP 1 rfl rfl 4 (Nat.le_of_ble_eq_true rfl) w_1_63 rfl dX8_readProduct_42 ?_
          refine lv_bipush (v := 42) hx hb dX8_readProduct_45 (by decide) ?_
          refine lv_icmp_ne (tgt := 56) hx hb dX8_readProduct_47 (by decide) (fun c => absurd c_20 c) (fun c_21 => ?_)
          refine lv_sipush (v := 30002) hx hb dX8_readProduct_50 (by decide) ?_
          refine lv_goto (tgt := 59) hx hb dX8_readProduct_53 (by decide) ?_
          refine lv_istore_n (lv' := [(3, .int 30002), (2, .int (nI i)), (0, .ref u0), (1, .ref h0)]) hx hb dX8_readProduct_59 rfl hl (by decide) rfl (fun ls hl => ?_)
          refine lv_aload_n hx hb dX8_readProduct_60 rfl (lv_at hl 2 rfl) ?_
          refine sk_get (v := .ref (q 2)) (C := RX8) (T := TX8) (N := 2) hx hb hts inlX8 hown hK hP 0 rfl rfl 0 (Nat.le_of_ble_eq_true rfl) w_1_100 rfl dX8_readProduct_61 ?_
          refine sk_VvZ (q0 := 0) (n := 0) (rest := []) (wr := fmR om_6_1c _) ⟨hx, hb, hml, hown, hts⟩ hl.1 (c_erd_step l D cI cJ cC cZ cS zk zv zf q za zw xo zt zz zg zp tl tb (bindR (rc zo) (beF tb tl)) hza hzz htl htb (rd_st htb (hzO).1 ⟨by rw [c_20]; decide, by rw [c_20]; decide⟩)) w_3_110 w_2_226 w_2_227 w_1_4 w_2_228 hd_X6_step_0 ⟨⟨(by dsimp only; omega), (by dsimp only; omega)⟩, (by dsimp only; omega), (by dsimp only; omega)⟩ hK hP hD hS hZ hA (fmT om_6_1c 0) (fmF om_6_1c 0) (fm_C1 rfl rfl) (fm_R rfl rfl) (fm_nT om_6_1c 0) (fm_nF om_6_1c 0) (fm_di om_6_1c 0) rfl rfl rfl rfl (Nat.le_of_ble_eq_true rfl) dX8_readProduct_64 (fun u H locs hw hP hD hS => ?_)
          refine exE hw (fun xa2_22 hw1 => exE hw1 (fun xv2_23 hw2 => exE hw2 (fun xt2_24 hw3 => exE hw3 (fun xz2_25 hw4 => anE hw4 (fun hxa2_26 hw5 => anE hw5 (fun hxz2_27 hw6 => anE hw6 (fun hO2_28 eu_29 => ?_)))))))
          clear hw hw1 hw2 hw3 hw4 hw5 hw6
          refine o_mgE (ws' := [ro_rn u0 8 (q 2) kn, ro_rnininii (q 2) 6 (q 0) xa2_22 xv2_23 xo xt2_24 xz2_25 zg zp, ro_rn (q 0) 10 (q 20) tl, ra_N (q 20) cI 1600 tb, ro_rrrrnn h0 0 k1 k2 k3 k4 yc yw, ra_I k1 cI 1600 yf]) eu_29 hP hD rfl (fun hP hD => ?_)
          rw [stF_nx] at hO2_28
          have hO_30 := rs_bd hzO hO2_28
          have hL_31 := lenS_nx htb hzO ⟨by rw [c_20]; decide, by rw [c_20]; decide⟩ hzl
          refine lv_aload_n hx hb dX8_readProduct_67 rfl (lv_at hl 2 rfl) ?_
          refine lv_aload_n hx hb dX8_readProduct_68 rfl (lv_at hl 3 rfl) ?_
          refine sk_VvZ (q0 := 0) (n := 1) (rest := []) (wr := fmR om_6_3f _) ⟨hx, hb, hml, hown, hts⟩ hl.1 (hq q u0 kn xa2_22 xv2_23 xo xt2_24 xz2_25 zg zp tl tb h0 k1 k2 k3 k4 yc yw yf (bd zo (nxF tb tl)) hxa2_26 hxz2_27 htl htb hyc hyw hkn hdd hO_30 (lenO_S hL_31)) w_3_92 w_3_94 w_0_8 w_1_6 w_3_95 hd_X8_readPart_1 ⟨⟨(by dsimp only; omega), (by dsimp only; omega)⟩, (by dsimp only; omega), (by dsimp only; omega)⟩ hK hP hD hS hZ hA (fmT om_6_3f 0) (fmF om_6_3f 0) (fm_C1 rfl rfl) (fm_R rfl rfl) (fm_nT om_6_3f 0) (fm_nF om_6_3f 0) (fm_di om_6_3f 0) rfl rfl rfl rfl (Nat.le_of_ble_eq_true rfl) dX8_readProduct_69 (fun u H locs hw hP hD hS => ?_)
          refine exE hw (fun xa2_32 hw1 => exE hw1 (fun xv2_33 hw2 => exE hw2 (fun xt2_34 hw3 => exE hw3 (fun xz2_35 hw4 => exE hw4 (fun xf2_36 hw5 => exE hw5 (fun xp2_37 hw6 => exE hw6 (fun c2_38 hw7 => exE hw7 (fun w2_39 hw8 => exE hw8 (fun g1_40 hw9 => anE hw9 (fun hxa2_41 hw10 => anE hw10 (fun hxz2_42 hw11 => anE hw11 (fun hc2_43 hw12 => anE hw12 (fun hw2_44 hw13 => anE hw13 (fun hO2_45 eu_46 => ?_))))))))))))))
          clear hw hw1 hw2 hw3 hw4 hw5 hw6 hw7 hw8 hw9 hw10 hw11 hw12 hw13
          refine o_mgE (ws' := [ro_rn u0 8 (q 2) kn, ro_rnininii (q 2) 6 (q 0) xa2_32 xv2_33 xo xt2_34 xz2_35 xf2_36 xp2_37, ro_rn (q 0) 10 (q 20) tl, ra_N (q 20) cI 1600 tb, ro_rrrrnn h0 0 k1 k2 k3 k4 c2_38 w2_39, ra_I k1 cI 1600 g1_40]) eu_46 hP hD rfl (fun hP hD => ?_)
          have hL_47 := lenS_ap (len_part (tb := tb) (n := tl) (kind := kn) dd) hL_31
          refine lv_aload_n hx hb dX8_readProduct_72 rfl (lv_at hl 3 rfl) ?_
          refine lv_iload_n hx hb dX8_readProduct_73 rfl (lv_at hl 0 rfl) ?_
          refine sk_Vv (q0 := 0) (n := 1) (rest := []) (wr := fmR om_6_3 _) ⟨hx, hb, hml, hown, hts⟩ hl.1 (c_eCode_addX l D cI cJ cC cZ cS h0 k1 k2 k3 k4 c2_38 w2_39 g1_40 30002 (bindR (bd zo (nxF tb tl)) (apF (rdPart tb tl kn dd))) 3 hc2_43 hw2_44 (by decide) (by omega) (hO2_45).2 (rm_S hO2_45 htl hL_47)) w_3_97 w_3_98 w_3_99 w_1_8 w_3_100 hd_X0_add_1 ⟨⟨(by dsimp only; omega), (by dsimp only; omega)⟩, (by dsimp only; omega), (by dsimp only; omega)⟩ hK hP hD hS hA (fmT om_6_3 0) (fmF om_6_3 0) (fm_C1 rfl rfl) (fm_R rfl rfl) (fm_nT om_6_3 0) (fm_nF om_6_3 0) (fm_di om_6_3 0) rfl rfl rfl rfl (Nat.le_of_ble_eq_true rfl) dX8_readProduct_74 (fun u H locs hw hP hD hS => ?_)
          refine exE hw (fun c2_48 hw1 => exE hw1 (fun w2_49 hw2 => exE hw2 (fun g1_50 hw3 => anE hw3 (fun hc2_51 hw4 => anE hw4 (fun hw2_52 hw5 => anE hw5 (fun hO2_53 eu_54 => ?_))))))
          clear hw hw1 hw2 hw3 hw4 hw5
          refine o_mgE (ws' := [ro_rn u0 8 (q 2) kn, ro_rnininii (q 2) 6 (q 0) xa2_32 xv2_33 xo xt2_34 xz2_35 xf2_36 xp2_37, ro_rn (q 0) 10 (q 20) tl, ra_N (q 20) cI 1600 tb, ro_rrrrnn h0 0 k1 k2 k3 k4 c2_48 w2_49, ra_I k1 cI 1600 g1_50]) eu_54 hP hD rfl (fun hP hD => ?_)
          have hO_55 := rs_ad hO2_45 hO2_53
          have hL_56 := lenO_ad (v := 3) hL_47
          refine lv_iinc (v := nI (i + 1)) (lv' := [(2, .int (nI (i + 1))), (3, .int 30002), (0, .ref u0), (1, .ref h0)]) hx hb dX8_readProduct_77 hl (k := 1) rfl (ninc i 1 (by decide)) (by decide) rfl (fun ls hl => ?_)
          refine lv_goto (tgt := 7) hx hb dX8_readProduct_80 (by decide) ?_
          exact ih_lp_17 (i + 1) xa2_32 xv2_33 xt2_34 xz2_35 xf2_36 xp2_37 c2_48 w2_49 g1_50 (ad (bindR (bd zo (nxF tb tl)) (apF (rdPart tb tl kn dd))) 3) _ _ _ (by omega) hO_55 (by omega) hxa2_41 hxz2_42 hc2_51 hw2_52 hL_56 (iO_s htb hzO ⟨by rw [c_20]; decide, by rw [c_20]; decide⟩ rdPart_mono hiO) (prod_s htb hzO rdPart_mono (Or.inl ⟨c_20, rfl⟩) hrem) hP hD hS (lv_sub hl [0, 2, 3] rfl)
        · skip
          refine lv_aload_n hx hb dX8_readProduct_26 rfl (lv_at hl 1 rfl) ?_
          refine sk_get (v := .ref (q 2)) (C := RX8) (T := TX8) (N := 2) hx hb hts inlX8 hown hK hP 0 rfl rfl 0 (Nat.le_of_ble_eq_true rfl) w_1_100 rfl dX8_readProduct_27 ?_
          refine sk_get (v := .int zt) (C := RX6) (T := TX6) (N := 8) hx hb hts inlX6 hown hK hP 1 rfl rfl 4 (Nat.le_of_ble_eq_true rfl) w_1_63 rfl dX8_readProduct_30 ?_
          refine lv_bipush (v := 47) hx hb dX8_readProduct_33 (by decide) ?_
          refine lv_icmp_ne (tgt := 83) hx hb dX8_readProduct_35 (by decide) (fun c_57 => ?_) (fun c_57 => ?_)
          · skip
            exact sk_vret hx hb hr hlocks hK hP hD hS (⟨za, zw, zt, zz, zg, zp, yc, yw, yf, hza, hzz, hyc, hyw, prod_e htb hzO htl hiO (Or.inr ⟨c_20, c_57⟩) hrem, rfl⟩) (Nat.le_of_ble_eq_true rfl) (Nat.le_of_ble_eq_true rfl) dX8_readProduct_83
          · skip
            refine lv_aload_n hx hb dX8_readProduct_38 rfl (lv_at hl 1 rfl) ?_
            refine sk_get (v := .ref (q 2)) (C := RX8) (T := TX8) (N := 2) hx hb hts inlX8 hown hK hP 0 rfl rfl 0 (Nat.le_of_ble_eq_true rfl) w_1_100 rfl dX8_readProduct_39 ?_
            refine sk_get (v := .int zt) (C := RX6) (T := TX6) (N := 8) hx hb hts inlX6 hown hK hP 1 rfl rfl 4 (Nat.le_of_ble_eq_true rfl) w_1_63 rfl dX8_readProduct_42 ?_
            refine lv_bipush (v := 42) hx hb dX8_readProduct_45 (by decide) ?_
            refine lv_icmp_ne (tgt := 56) hx hb dX8_readProduct_47 (by decide) (fun c_58 => ?_) (fun c => absurd c c_20)
            refine lv_sipush (v := 30003) hx hb dX8_readProduct_56 (by decide) ?_
            refine lv_istore_n (lv' := [(3, .int 30003), (2, .int (nI i)), (0, .ref u0), (1, .ref h0)]) hx hb dX8_readProduct_59 rfl hl (by decide) rfl (fun ls hl => ?_)
            refine lv_aload_n hx hb dX8_readProduct_60 rfl (lv_at hl 2 rfl) ?_
            refine sk_get (v := .ref (q 2)) (C := RX8) (T := TX8) (N := 2) hx hb hts inlX8 hown hK hP 0 rfl rfl 0 (Nat.le_of_ble_eq_true rfl) w_1_100 rfl dX8_readProduct_61 ?_
            refine sk_VvZ (q0 := 0) (n := 0) (rest := []) (wr := fmR om_6_1c _) ⟨hx, hb, hml, hown, hts⟩ hl.1 (c_erd_step l D cI cJ cC cZ cS zk zv zf q za zw xo zt zz zg zp tl tb (bindR (rc zo) (beF tb tl)) hza hzz htl htb (rd_st htb (hzO).1 ⟨by rw [c_57]; decide, by rw [c_57]; decide⟩)) w_3_110 w_2_226 w_2_227 w_1_4 w_2_228 hd_X6_step_0 ⟨⟨(by dsimp only; omega), (by dsimp only; omega)⟩, (by dsimp only; omega), (by dsimp only; omega)⟩ hK hP hD hS hZ hA (fmT om_6_1c 0) (fmF om_6_1c 0) (fm_C1 rfl rfl) (fm_R rfl rfl) (fm_nT om_6_1c 0) (fm_nF om_6_1c 0) (fm_di om_6_1c 0) rfl rfl rfl rfl (Nat.le_of_ble_eq_true rfl) dX8_readProduct_64 (fun u H locs hw hP hD hS => ?_)
            refine exE hw (fun xa2_59 hw1 => exE hw1 (fun xv2_60 hw2 => exE hw2 (fun xt2_61 hw3 => exE hw3 (fun xz2_62 hw4 => anE hw4 (fun hxa2_63 hw5 => anE hw5 (fun hxz2_64 hw6 => anE hw6 (fun hO2_65 eu_66 => ?_)))))))
            clear hw hw1 hw2 hw3 hw4 hw5 hw6
            refine o_mgE (ws' := [ro_rn u0 8 (q 2) kn, ro_rnininii (q 2) 6 (q 0) xa2_59 xv2_60 xo xt2_61 xz2_62 zg zp, ro_rn (q 0) 10 (q 20) tl, ra_N (q 20) cI 1600 tb, ro_rrrrnn h0 0 k1 k2 k3 k4 yc yw, ra_I k1 cI 1600 yf]) eu_66 hP hD rfl (fun hP hD => ?_)
            rw [stF_nx] at hO2_65
            have hO_67 := rs_bd hzO hO2_65
            have hL_68 := lenS_nx htb hzO ⟨by rw [c_57]; decide, by rw [c_57]; decide⟩ hzl
            refine lv_aload_n hx hb dX8_readProduct_67 rfl (lv_at hl 2 rfl) ?_
            refine lv_aload_n hx hb dX8_readProduct_68 rfl (lv_at hl 3 rfl) ?_
            refine sk_VvZ (q0 := 0) (n := 1) (rest := []) (wr := fmR om_6_3f _) ⟨hx, hb, hml, hown, hts⟩ hl.1 (hq q u0 kn xa2_59 xv2_60 xo xt2_61 xz2_62 zg zp tl tb h0 k1 k2 k3 k4 yc yw yf (bd zo (nxF tb tl)) hxa2_63 hxz2_64 htl htb hyc hyw hkn hdd hO_67 (lenO_S hL_68)) w_3_92 w_3_94 w_0_8 w_1_6 w_3_95 hd_X8_readPart_1 ⟨⟨(by dsimp only; omega), (by dsimp only; omega)⟩, (by dsimp only; omega), (by dsimp only; omega)⟩ hK hP hD hS hZ hA (fmT om_6_3f 0) (fmF om_6_3f 0) (fm_C1 rfl rfl) (fm_R rfl rfl) (fm_nT om_6_3f 0) (fm_nF om_6_3f 0) (fm_di om_6_3f 0) rfl rfl rfl rfl (Nat.le_of_ble_eq_true rfl) dX8_readProduct_69 (fun u H locs hw hP hD hS => ?_)
            refine exE hw (fun xa2_69 hw1 => exE hw1 (fun xv2_70 hw2 => exE hw2 (fun xt2_71 hw3 => exE hw3 (fun xz2_72 hw4 => exE hw4 (fun xf2_73 hw5 => exE hw5 (fun xp2_74 hw6 => exE hw6 (fun c2_75 hw7 => exE hw7 (fun w2_76 hw8 => exE hw8 (fun g1_77 hw9 => anE hw9 (fun hxa2_78 hw10 => anE hw10 (fun hxz2_79 hw11 => anE hw11 (fun hc2_80 hw12 => anE hw12 (fun hw2_81 hw13 => anE hw13 (fun hO2_82 eu_83 => ?_))))))))))))))
            clear hw hw1 hw2 hw3 hw4 hw5 hw6 hw7 hw8 hw9 hw10 hw11 hw12 hw13
            refine o_mgE (ws' := [ro_rn u0 8 (q 2) kn, ro_rnininii (q 2) 6 (q 0) xa2_69 xv2_70 xo xt2_71 xz2_72 xf2_73 xp2_74, ro_rn (q 0) 10 (q 20) tl, ra_N (q 20) cI 1600 tb, ro_rrrrnn h0 0 k1 k2 k3 k4 c2_75 w2_76, ra_I k1 cI 1600 g1_77]) eu_83 hP hD rfl (fun hP hD => ?_)
            have hL_84 := lenS_ap (len_part (tb := tb) (n := tl) (kind := kn) dd) hL_68
            refine lv_aload_n hx hb dX8_readProduct_72 rfl (lv_at hl 3 rfl) ?_
            refine lv_iload_n hx hb dX8_readProduct_73 rfl (lv_at hl 0 rfl) ?_
            refine sk_Vv (q0 := 0) (n := 1) (rest := []) (wr := fmR om_6_3 _) ⟨hx, hb, hml, hown, hts⟩ hl.1 (c_eCode_addX l D cI cJ cC cZ cS h0 k1 k2 k3 k4 c2_75 w2_76 g1_77 30003 (bindR (bd zo (nxF tb tl)) (apF (rdPart tb tl kn dd))) 4 hc2_80 hw2_81 (by decide) (by omega) (hO2_82).2 (rm_S hO2_82 htl hL_84)) w_3_97 w_3_98 w_3_99 w_1_8 w_3_100 hd_X0_add_1 ⟨⟨(by dsimp only; omega), (by dsimp only; omega)⟩, (by dsimp only; omega), (by dsimp only; omega)⟩ hK hP hD hS hA (fmT om_6_3 0) (fmF om_6_3 0) (fm_C1 rfl rfl) (fm_R rfl rfl) (fm_nT om_6_3 0) (fm_nF om_6_3 0) (fm_di om_6_3 0) rfl rfl rfl rfl (Nat.le_of_ble_eq_true rfl) dX8_readProduct_74 (fun u H locs hw hP hD hS => ?_)
            refine exE hw (fun c2_85 hw1 => exE hw1 (fun w2_86 hw2 => exE hw2 (fun g1_87 hw3 => anE hw3 (fun hc2_88 hw4 => anE hw4 (fun hw2_89 hw5 => anE hw5 (fun hO2_90 eu_91 => ?_))))))
            clear hw hw1 hw2 hw3 hw4 hw5
            refine o_mgE (ws' := [ro_rn u0 8 (q 2) kn, ro_rnininii (q 2) 6 (q 0) xa2_69 xv2_70 xo xt2_71 xz2_72 xf2_73 xp2_74, ro_rn (q 0) 10 (q 20) tl, ra_N (q 20) cI 1600 tb, ro_rrrrnn h0 0 k1 k2 k3 k4 c2_85 w2_86, ra_I k1 cI 1600 g1_87]) eu_91 hP hD rfl (fun hP hD => ?_)
            have hO_92 := rs_ad hO2_82 hO2_90
            have hL_93 := lenO_ad (v := 4) hL_84
            refine lv_iinc (v := nI (i + 1)) (lv' := [(2, .int (nI (i + 1))), (3, .int 30003), (0, .ref u0), (1, .ref h0)]) hx hb dX8_readProduct_77 hl (k := 1) rfl (ninc i 1 (by decide)) (by decide) rfl (fun ls hl => ?_)
            refine lv_goto (tgt := 7) hx hb dX8_readProduct_80 (by decide) ?_
            exact ih_lp_17 (i + 1) xa2_69 xv2_70 xt2_71 xz2_72 xf2_73 xp2_74 c2_85 w2_86 g1_87 (ad (bindR (bd zo (nxF tb tl)) (apF (rdPart tb tl kn dd))) 4) _ _ _ (by omega) hO_92 (by omega) hxa2_78 hxz2_79 hc2_88 hw2_89 hL_93 (iO_s htb hzO ⟨by rw [c_57]; decide, by rw [c_57]; decide⟩ rdPart_mono hiO) (prod_s htb hzO rdPart_mono (Or.inr ⟨c_57, rfl⟩) hrem) hP hD hS (lv_sub hl [0, 2, 3] rfl)
  exact lp_17 (1600 - 0 + 1) 0 xa2_1 xv2_2 xt2_3 xz2_4 xf2_5 xp2_6 c2_7 w2_8 g1_9 (bindR og (apF (rdPart tb tl kn dd))) _ _ _ (Nat.lt_succ_self _) hO2_14 (by omega) hxa2_10 hxz2_11 hc2_12 hw2_13 hL_16 (iO_0 _) (prod_0 _) hP hD hS (lv_sub hl [0, 1, 2] rfl)
set_option maxHeartbeats 4000000 in
set_option maxRecDepth 100000 in
theorem c_ereadSum (l : Launch) (D : va_G) (cI cJ cC cZ cS : ClassId) (zk zv : Nat) (zf : Value) (dd : Nat) (hq : CT_ereadProduct l D cI cJ cC cZ cS zk zv zf dd) : CT_ereadSum l D cI cJ cC cZ cS zk zv zf dd := by
  intro q u0 kn xa xv xo xt xz xf xp tl tb h0 k1 k2 k3 k4 cl mw f1 og hxa hxz htl htb hcl hmw hkn hdd hO hlen
  refine skMZ_of pf_X8_readSum (Nat.le_of_ble_eq_true rfl) ?_
  intro p e s m below meth c A ls E hP hD hZ hl
  refine skE_el E (fun hx hb hr hml hlocks hin hown hts hK hA => ?_)
  have hown : s.vm.findClass RX8 = some m.cls := hown
  have hS : va_S A s.heap s.heap [] := va_S.rf
  have hl : lv_has ls 4 [(0, .ref u0), (1, .ref h0)] := hl
  refine lv_aload_n hx hb dX8_readSum_0 rfl (lv_at hl 0 rfl) ?_
  refine lv_aload_n hx hb dX8_readSum_1 rfl (lv_at hl 1 rfl) ?_
  refine sk_VvZ (q0 := 0) (n := 1) (rest := []) (wr := fmR om_6_3f _) ⟨hx, hb, hml, hown, hts⟩ hl.1 (hq q u0 kn xa xv xo xt xz xf xp tl tb h0 k1 k2 k3 k4 cl mw f1 og hxa hxz htl htb hcl hmw hkn hdd hO hlen) w_3_88 w_3_90 w_0_7 w_1_6 w_3_91 hd_X8_readProduct_1 ⟨⟨(by dsimp only; omega), (by dsimp only; omega)⟩, (by dsimp only; omega), (by dsimp only; omega)⟩ hK hP hD hS hZ hA (fmT om_6_3f 0) (fmF om_6_3f 0) (fm_C1 rfl rfl) (fm_R rfl rfl) (fm_nT om_6_3f 0) (fm_nF om_6_3f 0) (fm_di om_6_3f 0) rfl rfl rfl rfl (Nat.le_of_ble_eq_true rfl) dX8_readSum_2 (fun u H locs hw hP hD hS => ?_)
  refine exE hw (fun xa2_1 hw1 => exE hw1 (fun xv2_2 hw2 => exE hw2 (fun xt2_3 hw3 => exE hw3 (fun xz2_4 hw4 => exE hw4 (fun xf2_5 hw5 => exE hw5 (fun xp2_6 hw6 => exE hw6 (fun c2_7 hw7 => exE hw7 (fun w2_8 hw8 => exE hw8 (fun g1_9 hw9 => anE hw9 (fun hxa2_10 hw10 => anE hw10 (fun hxz2_11 hw11 => anE hw11 (fun hc2_12 hw12 => anE hw12 (fun hw2_13 hw13 => anE hw13 (fun hO2_14 eu_15 => ?_))))))))))))))
  clear hw hw1 hw2 hw3 hw4 hw5 hw6 hw7 hw8 hw9 hw10 hw11 hw12 hw13
  refine o_mgE (ws' := [ro_rn u0 8 (q 2) kn, ro_rnininii (q 2) 6 (q 0) xa2_1 xv2_2 xo xt2_3 xz2_4 xf2_5 xp2_6, ro_rn (q 0) 10 (q 20) tl, ra_N (q 20) cI 1600 tb, ro_rrrrnn h0 0 k1 k2 k3 k4 c2_7 w2_8, ra_I k1 cI 1600 g1_9]) eu_15 hP hD rfl (fun hP hD => ?_)
  have hL_16 := lenO_ap (len_prod (tb := tb) (n := tl) (len_part (tb := tb) (n := tl) (kind := kn) dd)) hlen
  refine lv_iconst (v := 0) hx hb dX8_readSum_5 ic_0 ?_
  refine lv_istore_n (lv' := [(2, .int 0), (0, .ref u0), (1, .ref h0)]) hx hb dX8_readSum_6 rfl hl (by decide) rfl (fun ls hl => ?_)
  have lp_17 : ∀ (n_18 : Nat) (i : Nat) (za : Nat) (zw : Int32) (zt : Int32) (zz : Nat) (zg : Int32) (zp : Int32) (yc : Nat) (yw : Nat) (yf : Nat → Int32) (zo : Res) (H : Heap) (locs : List Loc) (ls : Array Slot), 1600 - i < n_18 → (rsO tb tl zo za zw zt zz zg zp yc yw yf) → (i ≤ 1600) → (za ≤ 1600) → (zz ≤ 1600) → (yc ≤ 1600) → (yw ≤ 1) → (lenO zo) → (iO i zo) → (bindR zo (fun r => addLp tb tl (rdPart tb tl kn dd) (tl + 2) r.1 r.2) = bindR og (apF (sumOf tb tl (rdPart tb tl kn dd)))) → va_P D vwCl [ro_rn u0 8 (q 2) kn, ro_rnininii (q 2) 6 (q 0) za zw xo zt zz zg zp, ro_rn (q 0) 10 (q 20) tl, ra_N (q 20) cI 1600 tb, ro_rrrrnn h0 0 k1 k2 k3 k4 yc yw, ra_I k1 cI 1600 yf] H → va_D A [ro_rn u0 8 (q 2) kn, ro_rnininii (q 2) 6 (q 0) za zw xo zt zz zg zp, ro_rn (q 0) 10 (q 20) tl, ra_N (q 20) cI 1600 tb, ro_rrrrnn h0 0 k1 k2 k3 k4 yc yw, ra_I k1 cI 1600 yf] → va_S A s.heap H locs → lv_has ls 4 [(2, .int (nI i)), (0, .ref u0), (1, .ref h0)] → W p l e { frames := 23 + 5 * dd, cells := 0, slots := 0, locals := 675 + 100 * dd } s m ([.ref u0, .ref h0] : List Value).toArray below meth c H locs 0 0 (MQ below (skV D (skT cI cJ cC cZ cS) (fun (u : va_W) => ∃ (xa2 : Nat), ∃ (xv2 : Int32), ∃ (xt2 : Int32), ∃ (xz2 : Nat), ∃ (xf2 : Int32), ∃ (xp2 : Int32), ∃ (c2 : Nat), ∃ (w2 : Nat), ∃ (g1 : Nat → Int32), xa2 ≤ 1600 ∧ xz2 ≤ 1600 ∧ c2 ≤ 1600 ∧ w2 ≤ 1 ∧ rsO tb tl (bindR og (apF (sumOf tb tl (rdPart tb tl kn dd)))) xa2 xv2 xt2 xz2 xf2 xp2 c2 w2 g1 ∧ u = [ro_rn u0 8 (q 2) kn, ro_rnininii (q 2) 6 (q 0) xa2 xv2 xo xt2 xz2 xf2 xp2, ro_rn (q 0) 10 (q 20) tl, ra_N (q 20) cI 1600 tb, ro_rrrrnn h0 0 k1 k2 k3 k4 c2 w2, ra_I k1 cI 1600 g1]) A) ([.ref u0, .ref h0] : List Value).toArray s 0 0 A) (F0 m 7 ls []) := by
    intro n_18
    induction n_18 with
    | zero => intro i za zw zt zz zg zp yc yw yf zo H locs ls hm; exact absurd hm (Nat.not_lt_zero _)
    | succ n_18 ih_lp_17 =>
      intro i za zw zt zz zg zp yc yw yf zo H locs ls hm hzO hi hza hzz hyc hyw hzl hiO hrem hP hD hS hl
      refine lv_iload_n hx hb dX8_readSum_7 rfl (lv_at hl 0 rfl) ?_
      refine lv_sipush (v := 1600) hx hb dX8_readSum_8 (by decide) ?_
      refine lv_icmp_ge (tgt := 83) hx hb dX8_readSum_11 (by decide) (fun c_19 => ?_) (fun c_19 => ?_)
      · have c_19 : 1600 ≤ i := (nle 1600 i (Nat.le_of_ble_eq_true rfl) (by omega)).mp c_19
        exact sk_vret hx hb hr hlocks hK hP hD hS (⟨za, zw, zt, zz, zg, zp, yc, yw, yf, hza, hzz, hyc, hyw, sum_e htb hzO htl hiO (Or.inl (by omega)) hrem, rfl⟩) (Nat.le_of_ble_eq_true rfl) (Nat.le_of_ble_eq_true rfl) dX8_readSum_83
      · have c_19 : ¬ (1600 ≤ i) := fun h => c_19 ((nle 1600 i (Nat.le_of_ble_eq_true rfl) (by omega)).mpr h)
        refine lv_aload_n hx hb dX8_readSum_14 rfl (lv_at hl 1 rfl) ?_
        refine sk_get (v := .ref (q 2)) (C := RX8) (T := TX8) (N := 2) hx hb hts inlX8 hown hK hP 0 rfl rfl 0 (Nat.le_of_ble_eq_true rfl) w_1_100 rfl dX8_readSum_15 ?_
        refine sk_get (v := .int zt) (C := RX6) (T := TX6) (N := 8) hx hb hts inlX6 hown hK hP 1 rfl rfl 4 (Nat.le_of_ble_eq_true rfl) w_1_63 rfl dX8_readSum_18 ?_
        refine lv_bipush (v := 43) hx hb dX8_readSum_21 (by decide) ?_
        refine lv_icmp_eq (tgt := 38) hx hb dX8_readSum_23 (by decide) (fun c_20 => ?_) (fun c_20 => ?_)
        · skip
          refine lv_aload_n hx hb dX8_readSum_38 rfl (lv_at hl 1 rfl) ?_
          refine sk_get (v := .ref (q 2)) (C := RX8) (T := TX8) (N := 2) hx hb hts inlX8 hown hK hP 0 rfl rfl 0 (Nat.le_of_ble_eq_true rfl) w_1_100 rfl dX8_readSum_39 ?_
          refine sk_get (v := .int zt) (C := RX6) (T := TX6) (N := 8) hx hb hts inlX6 hown hK hP 1 rfl rfl 4 (Nat.le_of_ble_eq_true rfl) w_1_63 rfl dX8_readSum_42 ?_
          refine lv_bipush (v := 43) hx hb dX8_readSum_45 (by decide) ?_
          refine lv_icmp_ne (tgt := 56) hx hb dX8_readSum_47 (by decide) (fun c => absurd c_20 c) (fun c_21 => ?_)
          refine lv_sipush (v := 30000) hx hb dX8_readSum_50 (by decide) ?_
          refine lv_goto (tgt := 59) hx hb dX8_readSum_53 (by decide) ?_
          refine lv_istore_n (lv' := [(3, .int 30000), (2, .int (nI i)), (0, .ref u0), (1, .ref h0)]) hx hb dX8_readSum_59 rfl hl (by decide) rfl (fun ls hl => ?_)
          refine lv_aload_n hx hb dX8_readSum_60 rfl (lv_at hl 2 rfl) ?_
          refine sk_get (v := .ref (q 2)) (C := RX8) (T := TX8) (N := 2) hx hb hts inlX8 hown hK hP 0 rfl rfl 0 (Nat.le_of_ble_eq_true rfl) w_1_100 rfl dX8_readSum_61 ?_
          refine sk_VvZ (q0 := 0) (n := 0) (rest := []) (wr := fmR om_6_1c _) ⟨hx, hb, hml, hown, hts⟩ hl.1 (c_erd_step l D cI cJ cC cZ cS zk zv zf q za zw xo zt zz zg zp tl tb (bindR (rc zo) (beF tb tl)) hza hzz htl htb (rd_st htb (hzO).1 ⟨by rw [c_20]; decide, by rw [c_20]; decide⟩)) w_3_110 w_2_226 w_2_227 w_1_4 w_2_228 hd_X6_step_0 ⟨⟨(by dsimp only; omega), (by dsimp only; omega)⟩, (by dsimp only; omega), (by dsimp only; omega)⟩ hK hP hD hS hZ hA (fmT om_6_1c 0) (fmF om_6_1c 0) (fm_C1 rfl rfl) (fm_R rfl rfl) (fm_nT om_6_1c 0) (fm_nF om_6_1c 0) (fm_di om_6_1c 0) rfl rfl rfl rfl (Nat.le_of_ble_eq_true rfl) dX8_readSum_64 (fun u H locs hw hP hD hS => ?_)
          refine exE hw (fun xa2_22 hw1 => exE hw1 (fun xv2_23 hw2 => exE hw2 (fun xt2_24 hw3 => exE hw3 (fun xz2_25 hw4 => anE hw4 (fun hxa2_26 hw5 => anE hw5 (fun hxz2_27 hw6 => anE hw6 (fun hO2_28 eu_29 => ?_)))))))
          clear hw hw1 hw2 hw3 hw4 hw5 hw6
          refine o_mgE (ws' := [ro_rn u0 8 (q 2) kn, ro_rnininii (q 2) 6 (q 0) xa2_22 xv2_23 xo xt2_24 xz2_25 zg zp, ro_rn (q 0) 10 (q 20) tl, ra_N (q 20) cI 1600 tb, ro_rrrrnn h0 0 k1 k2 k3 k4 yc yw, ra_I k1 cI 1600 yf]) eu_29 hP hD rfl (fun hP hD => ?_)
          rw [stF_nx] at hO2_28
          have hO_30 := rs_bd hzO hO2_28
          have hL_31 := lenS_nx htb hzO ⟨by rw [c_20]; decide, by rw [c_20]; decide⟩ hzl
          refine lv_aload_n hx hb dX8_readSum_67 rfl (lv_at hl 2 rfl) ?_
          refine lv_aload_n hx hb dX8_readSum_68 rfl (lv_at hl 3 rfl) ?_
          refine sk_VvZ (q0 := 0) (n := 1) (rest := []) (wr := fmR om_6_3f _) ⟨hx, hb, hml, hown, hts⟩ hl.1 (hq q u0 kn xa2_22 xv2_23 xo xt2_24 xz2_25 zg zp tl tb h0 k1 k2 k3 k4 yc yw yf (bd zo (nxF tb tl)) hxa2_26 hxz2_27 htl htb hyc hyw hkn hdd hO_30 (lenO_S hL_31)) w_3_88 w_3_90 w_0_7 w_1_6 w_3_91 hd_X8_readProduct_1 ⟨⟨(by dsimp only; omega), (by dsimp only; omega)⟩, (by dsimp only; omega), (by dsimp only; omega)⟩ hK hP hD hS hZ hA (fmT om_6_3f 0) (fmF om_6_3f 0) (fm_C1 rfl rfl) (fm_R rfl rfl) (fm_nT om_6_3f 0) (fm_nF om_6_3f 0) (fm_di om_6_3f 0) rfl rfl rfl rfl (Nat.le_of_ble_eq_true rfl) dX8_readSum_69 (fun u H locs hw hP hD hS => ?_)
          refine exE hw (fun xa2_32 hw1 => exE hw1 (fun xv2_33 hw2 => exE hw2 (fun xt2_34 hw3 => exE hw3 (fun xz2_35 hw4 => exE hw4 (fun xf2_36 hw5 => exE hw5 (fun xp2_37 hw6 => exE hw6 (fun c2_38 hw7 => exE hw7 (fun w2_39 hw8 => exE hw8 (fun g1_40 hw9 => anE hw9 (fun hxa2_41 hw10 => anE hw10 (fun hxz2_42 hw11 => anE hw11 (fun hc2_43 hw12 => anE hw12 (fun hw2_44 hw13 => anE hw13 (fun hO2_45 eu_46 => ?_))))))))))))))
          clear hw hw1 hw2 hw3 hw4 hw5 hw6 hw7 hw8 hw9 hw10 hw11 hw12 hw13
          refine o_mgE (ws' := [ro_rn u0 8 (q 2) kn, ro_rnininii (q 2) 6 (q 0) xa2_32 xv2_33 xo xt2_34 xz2_35 xf2_36 xp2_37, ro_rn (q 0) 10 (q 20) tl, ra_N (q 20) cI 1600 tb, ro_rrrrnn h0 0 k1 k2 k3 k4 c2_38 w2_39, ra_I k1 cI 1600 g1_40]) eu_46 hP hD rfl (fun hP hD => ?_)
          have hL_47 := lenS_ap (len_prod (tb := tb) (n := tl) (len_part (tb := tb) (n := tl) (kind := kn) dd)) hL_31
          refine lv_aload_n hx hb dX8_readSum_72 rfl (lv_at hl 3 rfl) ?_
          refine lv_iload_n hx hb dX8_readSum_73 rfl (lv_at hl 0 rfl) ?_
          refine sk_Vv (q0 := 0) (n := 1) (rest := []) (wr := fmR om_6_3 _) ⟨hx, hb, hml, hown, hts⟩ hl.1 (c_eCode_addX l D cI cJ cC cZ cS h0 k1 k2 k3 k4 c2_38 w2_39 g1_40 30000 (bindR (bd zo (nxF tb tl)) (apF (prodOf tb tl (rdPart tb tl kn dd)))) 1 hc2_43 hw2_44 (by decide) (by omega) (hO2_45).2 (rm_S hO2_45 htl hL_47)) w_3_97 w_3_98 w_3_99 w_1_8 w_3_100 hd_X0_add_1 ⟨⟨(by dsimp only; omega), (by dsimp only; omega)⟩, (by dsimp only; omega), (by dsimp only; omega)⟩ hK hP hD hS hA (fmT om_6_3 0) (fmF om_6_3 0) (fm_C1 rfl rfl) (fm_R rfl rfl) (fm_nT om_6_3 0) (fm_nF om_6_3 0) (fm_di om_6_3 0) rfl rfl rfl rfl (Nat.le_of_ble_eq_true rfl) dX8_readSum_74 (fun u H locs hw hP hD hS => ?_)
          refine exE hw (fun c2_48 hw1 => exE hw1 (fun w2_49 hw2 => exE hw2 (fun g1_50 hw3 => anE hw3 (fun hc2_51 hw4 => anE hw4 (fun hw2_52 hw5 => anE hw5 (fun hO2_53 eu_54 => ?_))))))
          clear hw hw1 hw2 hw3 hw4 hw5
          refine o_mgE (ws' := [ro_rn u0 8 (q 2) kn, ro_rnininii (q 2) 6 (q 0) xa2_32 xv2_33 xo xt2_34 xz2_35 xf2_36 xp2_37, ro_rn (q 0) 10 (q 20) tl, ra_N (q 20) cI 1600 tb, ro_rrrrnn h0 0 k1 k2 k3 k4 c2_48 w2_49, ra_I k1 cI 1600 g1_50]) eu_54 hP hD rfl (fun hP hD => ?_)
          have hO_55 := rs_ad hO2_45 hO2_53
          have hL_56 := lenO_ad (v := 1) hL_47
          refine lv_iinc (v := nI (i + 1)) (lv' := [(2, .int (nI (i + 1))), (3, .int 30000), (0, .ref u0), (1, .ref h0)]) hx hb dX8_readSum_77 hl (k := 1) rfl (ninc i 1 (by decide)) (by decide) rfl (fun ls hl => ?_)
          refine lv_goto (tgt := 7) hx hb dX8_readSum_80 (by decide) ?_
          exact ih_lp_17 (i + 1) xa2_32 xv2_33 xt2_34 xz2_35 xf2_36 xp2_37 c2_48 w2_49 g1_50 (ad (bindR (bd zo (nxF tb tl)) (apF (prodOf tb tl (rdPart tb tl kn dd)))) 1) _ _ _ (by omega) hO_55 (by omega) hxa2_41 hxz2_42 hc2_51 hw2_52 hL_56 (iO_s htb hzO ⟨by rw [c_20]; decide, by rw [c_20]; decide⟩ (prodOf_mono rdPart_mono) hiO) (sum_s htb hzO rdPart_mono (Or.inl ⟨c_20, rfl⟩) hrem) hP hD hS (lv_sub hl [0, 2, 3] rfl)
        · skip
          refine lv_aload_n hx hb dX8_readSum_26 rfl (lv_at hl 1 rfl) ?_
          refine sk_get (v := .ref (q 2)) (C := RX8) (T := TX8) (N := 2) hx hb hts inlX8 hown hK hP 0 rfl rfl 0 (Nat.le_of_ble_eq_true rfl) w_1_100 rfl dX8_readSum_27 ?_
          refine sk_get (v := .int zt) (C := RX6) (T := TX6) (N := 8) hx hb hts inlX6 hown hK hP 1 rfl rfl 4 (Nat.le_of_ble_eq_true rfl) w_1_63 rfl dX8_readSum_30 ?_
          refine lv_bipush (v := 45) hx hb dX8_readSum_33 (by decide) ?_
          refine lv_icmp_ne (tgt := 83) hx hb dX8_readSum_35 (by decide) (fun c_57 => ?_) (fun c_57 => ?_)
          · skip
            exact sk_vret hx hb hr hlocks hK hP hD hS (⟨za, zw, zt, zz, zg, zp, yc, yw, yf, hza, hzz, hyc, hyw, sum_e htb hzO htl hiO (Or.inr ⟨c_20, c_57⟩) hrem, rfl⟩) (Nat.le_of_ble_eq_true rfl) (Nat.le_of_ble_eq_true rfl) dX8_readSum_83
          · skip
            refine lv_aload_n hx hb dX8_readSum_38 rfl (lv_at hl 1 rfl) ?_
            refine sk_get (v := .ref (q 2)) (C := RX8) (T := TX8) (N := 2) hx hb hts inlX8 hown hK hP 0 rfl rfl 0 (Nat.le_of_ble_eq_true rfl) w_1_100 rfl dX8_readSum_39 ?_
            refine sk_get (v := .int zt) (C := RX6) (T := TX6) (N := 8) hx hb hts inlX6 hown hK hP 1 rfl rfl 4 (Nat.le_of_ble_eq_true rfl) w_1_63 rfl dX8_readSum_42 ?_
            refine lv_bipush (v := 43) hx hb dX8_readSum_45 (by decide) ?_
            refine lv_icmp_ne (tgt := 56) hx hb dX8_readSum_47 (by decide) (fun c_58 => ?_) (fun c => absurd c c_20)
            refine lv_sipush (v := 30001) hx hb dX8_readSum_56 (by decide) ?_
            refine lv_istore_n (lv' := [(3, .int 30001), (2, .int (nI i)), (0, .ref u0), (1, .ref h0)]) hx hb dX8_readSum_59 rfl hl (by decide) rfl (fun ls hl => ?_)
            refine lv_aload_n hx hb dX8_readSum_60 rfl (lv_at hl 2 rfl) ?_
            refine sk_get (v := .ref (q 2)) (C := RX8) (T := TX8) (N := 2) hx hb hts inlX8 hown hK hP 0 rfl rfl 0 (Nat.le_of_ble_eq_true rfl) w_1_100 rfl dX8_readSum_61 ?_
            refine sk_VvZ (q0 := 0) (n := 0) (rest := []) (wr := fmR om_6_1c _) ⟨hx, hb, hml, hown, hts⟩ hl.1 (c_erd_step l D cI cJ cC cZ cS zk zv zf q za zw xo zt zz zg zp tl tb (bindR (rc zo) (beF tb tl)) hza hzz htl htb (rd_st htb (hzO).1 ⟨by rw [c_57]; decide, by rw [c_57]; decide⟩)) w_3_110 w_2_226 w_2_227 w_1_4 w_2_228 hd_X6_step_0 ⟨⟨(by dsimp only; omega), (by dsimp only; omega)⟩, (by dsimp only; omega), (by dsimp only; omega)⟩ hK hP hD hS hZ hA (fmT om_6_1c 0) (fmF om_6_1c 0) (fm_C1 rfl rfl) (fm_R rfl rfl) (fm_nT om_6_1c 0) (fm_nF om_6_1c 0) (fm_di om_6_1c 0) rfl rfl rfl rfl (Nat.le_of_ble_eq_true rfl) dX8_readSum_64 (fun u H locs hw hP hD hS => ?_)
            refine exE hw (fun xa2_59 hw1 => exE hw1 (fun xv2_60 hw2 => exE hw2 (fun xt2_61 hw3 => exE hw3 (fun xz2_62 hw4 => anE hw4 (fun hxa2_63 hw5 => anE hw5 (fun hxz2_64 hw6 => anE hw6 (fun hO2_65 eu_66 => ?_)))))))
            clear hw hw1 hw2 hw3 hw4 hw5 hw6
            refine o_mgE (ws' := [ro_rn u0 8 (q 2) kn, ro_rnininii (q 2) 6 (q 0) xa2_59 xv2_60 xo xt2_61 xz2_62 zg zp, ro_rn (q 0) 10 (q 20) tl, ra_N (q 20) cI 1600 tb, ro_rrrrnn h0 0 k1 k2 k3 k4 yc yw, ra_I k1 cI 1600 yf]) eu_66 hP hD rfl (fun hP hD => ?_)
            rw [stF_nx] at hO2_65
            have hO_67 := rs_bd hzO hO2_65
            have hL_68 := lenS_nx htb hzO ⟨by rw [c_57]; decide, by rw [c_57]; decide⟩ hzl
            refine lv_aload_n hx hb dX8_readSum_67 rfl (lv_at hl 2 rfl) ?_
            refine lv_aload_n hx hb dX8_readSum_68 rfl (lv_at hl 3 rfl) ?_
            refine sk_VvZ (q0 := 0) (n := 1) (rest := []) (wr := fmR om_6_3f _) ⟨hx, hb, hml, hown, hts⟩ hl.1 (hq q u0 kn xa2_59 xv2_60 xo xt2_61 xz2_62 zg zp tl tb h0 k1 k2 k3 k4 yc yw yf (bd zo (nxF tb tl)) hxa2_63 hxz2_64 htl htb hyc hyw hkn hdd hO_67 (lenO_S hL_68)) w_3_88 w_3_90 w_0_7 w_1_6 w_3_91 hd_X8_readProduct_1 ⟨⟨(by dsimp only; omega), (by dsimp only; omega)⟩, (by dsimp only; omega), (by dsimp only; omega)⟩ hK hP hD hS hZ hA (fmT om_6_3f 0) (fmF om_6_3f 0) (fm_C1 rfl rfl) (fm_R rfl rfl) (fm_nT om_6_3f 0) (fm_nF om_6_3f 0) (fm_di om_6_3f 0) rfl rfl rfl rfl (Nat.le_of_ble_eq_true rfl) dX8_readSum_69 (fun u H locs hw hP hD hS => ?_)
            refine exE hw (fun xa2_69 hw1 => exE hw1 (fun xv2_70 hw2 => exE hw2 (fun xt2_71 hw3 => exE hw3 (fun xz2_72 hw4 => exE hw4 (fun xf2_73 hw5 => exE hw5 (fun xp2_74 hw6 => exE hw6 (fun c2_75 hw7 => exE hw7 (fun w2_76 hw8 => exE hw8 (fun g1_77 hw9 => anE hw9 (fun hxa2_78 hw10 => anE hw10 (fun hxz2_79 hw11 => anE hw11 (fun hc2_80 hw12 => anE hw12 (fun hw2_81 hw13 => anE hw13 (fun hO2_82 eu_83 => ?_))))))))))))))
            clear hw hw1 hw2 hw3 hw4 hw5 hw6 hw7 hw8 hw9 hw10 hw11 hw12 hw13
            refine o_mgE (ws' := [ro_rn u0 8 (q 2) kn, ro_rnininii (q 2) 6 (q 0) xa2_69 xv2_70 xo xt2_71 xz2_72 xf2_73 xp2_74, ro_rn (q 0) 10 (q 20) tl, ra_N (q 20) cI 1600 tb, ro_rrrrnn h0 0 k1 k2 k3 k4 c2_75 w2_76, ra_I k1 cI 1600 g1_77]) eu_83 hP hD rfl (fun hP hD => ?_)
            have hL_84 := lenS_ap (len_prod (tb := tb) (n := tl) (len_part (tb := tb) (n := tl) (kind := kn) dd)) hL_68
            refine lv_aload_n hx hb dX8_readSum_72 rfl (lv_at hl 3 rfl) ?_
            refine lv_iload_n hx hb dX8_readSum_73 rfl (lv_at hl 0 rfl) ?_
            refine sk_Vv (q0 := 0) (n := 1) (rest := []) (wr := fmR om_6_3 _) ⟨hx, hb, hml, hown, hts⟩ hl.1 (c_eCode_addX l D cI cJ cC cZ cS h0 k1 k2 k3 k4 c2_75 w2_76 g1_77 30001 (bindR (bd zo (nxF tb tl)) (apF (prodOf tb tl (rdPart tb tl kn dd)))) 2 hc2_80 hw2_81 (by decide) (by omega) (hO2_82).2 (rm_S hO2_82 htl hL_84)) w_3_97 w_3_98 w_3_99 w_1_8 w_3_100 hd_X0_add_1 ⟨⟨(by dsimp only; omega), (by dsimp only; omega)⟩, (by dsimp only; omega), (by dsimp only; omega)⟩ hK hP hD hS hA (fmT om_6_3 0) (fmF om_6_3 0) (fm_C1 rfl rfl) (fm_R rfl rfl) (fm_nT om_6_3 0) (fm_nF om_6_3 0) (fm_di om_6_3 0) rfl rfl rfl rfl (Nat.le_of_ble_eq_true rfl) dX8_readSum_74 (fun u H locs hw hP hD hS => ?_)
            refine exE hw (fun c2_85 hw1 => exE hw1 (fun w2_86 hw2 => exE hw2 (fun g1_87 hw3 => anE hw3 (fun hc2_88 hw4 => anE hw4 (fun hw2_89 hw5 => anE hw5 (fun hO2_90 eu_91 => ?_))))))
            clear hw hw1 hw2 hw3 hw4 hw5
            refine o_mgE (ws' := [ro_rn u0 8 (q 2) kn, ro_rnininii (q 2) 6 (q 0) xa2_69 xv2_70 xo xt2_71 xz2_72 xf2_73 xp2_74, ro_rn (q 0) 10 (q 20) tl, ra_N (q 20) cI 1600 tb, ro_rrrrnn h0 0 k1 k2 k3 k4 c2_85 w2_86, ra_I k1 cI 1600 g1_87]) eu_91 hP hD rfl (fun hP hD => ?_)
            have hO_92 := rs_ad hO2_82 hO2_90
            have hL_93 := lenO_ad (v := 2) hL_84
            refine lv_iinc (v := nI (i + 1)) (lv' := [(2, .int (nI (i + 1))), (3, .int 30001), (0, .ref u0), (1, .ref h0)]) hx hb dX8_readSum_77 hl (k := 1) rfl (ninc i 1 (by decide)) (by decide) rfl (fun ls hl => ?_)
            refine lv_goto (tgt := 7) hx hb dX8_readSum_80 (by decide) ?_
            exact ih_lp_17 (i + 1) xa2_69 xv2_70 xt2_71 xz2_72 xf2_73 xp2_74 c2_85 w2_86 g1_87 (ad (bindR (bd zo (nxF tb tl)) (apF (prodOf tb tl (rdPart tb tl kn dd)))) 2) _ _ _ (by omega) hO_92 (by omega) hxa2_78 hxz2_79 hc2_88 hw2_89 hL_93 (iO_s htb hzO ⟨by rw [c_57]; decide, by rw [c_57]; decide⟩ (prodOf_mono rdPart_mono) hiO) (sum_s htb hzO rdPart_mono (Or.inr ⟨c_57, rfl⟩) hrem) hP hD hS (lv_sub hl [0, 2, 3] rfl)
  exact lp_17 (1600 - 0 + 1) 0 xa2_1 xv2_2 xt2_3 xz2_4 xf2_5 xp2_6 c2_7 w2_8 g1_9 (bindR og (apF (prodOf tb tl (rdPart tb tl kn dd)))) _ _ _ (Nat.lt_succ_self _) hO2_14 (by omega) hxa2_10 hxz2_11 hc2_12 hw2_13 hL_16 (iO_0 _) (sum_0 _) hP hD hS (lv_sub hl [0, 1, 2] rfl)
theorem c_esums (l : Launch) (D : va_G) (cI cJ cC cZ cS : ClassId) (zk zv : Nat) (zf : Value) (dd : Nat) : CT_ereadSum l D cI cJ cC cZ cS zk zv zf dd ∧ CT_ereadPart l D cI cJ cC cZ cS zk zv zf dd := by
  induction dd with
  | zero =>
    have h1 := c_ereadPair l D cI cJ cC cZ cS zk zv zf 0 (fun d h => absurd h (by omega))
    have h2 := c_ereadPart l D cI cJ cC cZ cS zk zv zf 0 (fun d h => absurd h (by omega)) (fun d h => absurd h (by omega)) h1
    exact ⟨c_ereadSum l D cI cJ cC cZ cS zk zv zf 0 (c_ereadProduct l D cI cJ cC cZ cS zk zv zf 0 h2), h2⟩
  | succ n ih =>
    have hs : ∀ d, d + 1 = n + 1 → CT_ereadSum l D cI cJ cC cZ cS zk zv zf d := fun d h => by rw [show d = n by omega]; exact ih.1
    have hp : ∀ d, d + 1 = n + 1 → CT_ereadPart l D cI cJ cC cZ cS zk zv zf d := fun d h => by rw [show d = n by omega]; exact ih.2
    have h1 := c_ereadPair l D cI cJ cC cZ cS zk zv zf (n + 1) hs
    have h2 := c_ereadPart l D cI cJ cC cZ cS zk zv zf (n + 1) hs hp h1
    exact ⟨c_ereadSum l D cI cJ cC cZ cS zk zv zf (n + 1) (c_ereadProduct l D cI cJ cC cZ cS zk zv zf (n + 1) h2), h2⟩
def CT_esread (l : Launch) (D : va_G) (cI cJ cC cZ cS : ClassId) (zk zv : Nat) (zf : Value) (dd : Nat) : Prop := ∀ (q : Nat → Nat) (u0 : Nat) (kn : Nat) (xa : Nat) (xv : Int32) (xo : Nat) (xt : Int32) (xz : Nat) (xf : Int32) (xp : Int32) (tl : Nat) (tb : Nat → Nat) (h0 : Nat) (k1 : Nat) (k2 : Nat) (k3 : Nat) (k4 : Nat) (cl : Nat) (mw : Nat) (f1 : Nat → Int32) (og : Res) (hxa : xa ≤ 1600) (hxz : xz ≤ 1600) (htl : tl ≤ 1600) (htb : ∀ j, tb j ≤ 255) (hcl : cl ≤ 1600) (hmw : mw ≤ 1) (hkn : kn ≤ 2) (hdd : xo + dd = 6) (hO : rsO tb tl og xa xv xt xz xf xp cl mw f1) (hlen : lenO og), skMZ zk zv zf l yX8_read cX8_read 2 none (24 + 5 * dd) (700 + 100 * dd) 0 0 D (skT cI cJ cC cZ cS) [.ref u0, .ref h0] [ro_rn u0 8 (q 2) kn, ro_rnininii (q 2) 6 (q 0) xa xv xo xt xz xf xp, ro_rn (q 0) 10 (q 20) tl, ra_N (q 20) cI 1600 tb, ro_rrrrnn h0 0 k1 k2 k3 k4 cl mw, ra_I k1 cI 1600 f1] (skV D (skT cI cJ cC cZ cS) (fun (u : va_W) => ∃ (xa2 : Nat), ∃ (xv2 : Int32), ∃ (xt2 : Int32), ∃ (xz2 : Nat), ∃ (xf2 : Int32), ∃ (xp2 : Int32), ∃ (c2 : Nat), ∃ (w2 : Nat), ∃ (g1 : Nat → Int32), xa2 ≤ 1600 ∧ xz2 ≤ 1600 ∧ c2 ≤ 1600 ∧ w2 ≤ 1 ∧ rsO tb tl (bindR og (apF (sumOf tb tl (rdPart tb tl kn dd)))) xa2 xv2 xt2 xz2 xf2 xp2 c2 w2 g1 ∧ u = [ro_rn u0 8 (q 2) kn, ro_rnininii (q 2) 6 (q 0) xa2 xv2 xo xt2 xz2 xf2 xp2, ro_rn (q 0) 10 (q 20) tl, ra_N (q 20) cI 1600 tb, ro_rrrrnn h0 0 k1 k2 k3 k4 c2 w2, ra_I k1 cI 1600 g1]))
set_option maxHeartbeats 4000000 in
set_option maxRecDepth 100000 in
theorem c_esread (l : Launch) (D : va_G) (cI cJ cC cZ cS : ClassId) (zk zv : Nat) (zf : Value) (dd : Nat)  : CT_esread l D cI cJ cC cZ cS zk zv zf dd := by
  intro q u0 kn xa xv xo xt xz xf xp tl tb h0 k1 k2 k3 k4 cl mw f1 og hxa hxz htl htb hcl hmw hkn hdd hO hlen
  refine skMZ_of pf_X8_read (Nat.le_of_ble_eq_true rfl) ?_
  intro p e s m below meth c A ls E hP hD hZ hl
  refine skE_el E (fun hx hb hr hml hlocks hin hown hts hK hA => ?_)
  have hown : s.vm.findClass RX8 = some m.cls := hown
  have hS : va_S A s.heap s.heap [] := va_S.rf
  have hl : lv_has ls 2 [(0, .ref u0), (1, .ref h0)] := hl
  refine lv_aload_n hx hb dX8_read_0 rfl (lv_at hl 0 rfl) ?_
  refine lv_aload_n hx hb dX8_read_1 rfl (lv_at hl 1 rfl) ?_
  refine sk_VvZ (q0 := 0) (n := 1) (rest := []) (wr := fmR om_6_3f _) ⟨hx, hb, hml, hown, hts⟩ hl.1 ((c_esums l D cI cJ cC cZ cS zk zv zf dd).1 q u0 kn xa xv xo xt xz xf xp tl tb h0 k1 k2 k3 k4 cl mw f1 og hxa hxz htl htb hcl hmw hkn hdd hO hlen) w_3_84 w_3_86 w_0_6 w_1_6 w_3_87 hd_X8_readSum_1 ⟨⟨(by dsimp only; omega), (by dsimp only; omega)⟩, (by dsimp only; omega), (by dsimp only; omega)⟩ hK hP hD hS hZ hA (fmT om_6_3f 0) (fmF om_6_3f 0) (fm_C1 rfl rfl) (fm_R rfl rfl) (fm_nT om_6_3f 0) (fm_nF om_6_3f 0) (fm_di om_6_3f 0) rfl rfl rfl rfl (Nat.le_of_ble_eq_true rfl) dX8_read_2 (fun u H locs hw hP hD hS => ?_)
  refine exE hw (fun xa2_1 hw1 => exE hw1 (fun xv2_2 hw2 => exE hw2 (fun xt2_3 hw3 => exE hw3 (fun xz2_4 hw4 => exE hw4 (fun xf2_5 hw5 => exE hw5 (fun xp2_6 hw6 => exE hw6 (fun c2_7 hw7 => exE hw7 (fun w2_8 hw8 => exE hw8 (fun g1_9 hw9 => anE hw9 (fun hxa2_10 hw10 => anE hw10 (fun hxz2_11 hw11 => anE hw11 (fun hc2_12 hw12 => anE hw12 (fun hw2_13 hw13 => anE hw13 (fun hO2_14 eu_15 => ?_))))))))))))))
  clear hw hw1 hw2 hw3 hw4 hw5 hw6 hw7 hw8 hw9 hw10 hw11 hw12 hw13
  refine o_mgE (ws' := [ro_rn u0 8 (q 2) kn, ro_rnininii (q 2) 6 (q 0) xa2_1 xv2_2 xo xt2_3 xz2_4 xf2_5 xp2_6, ro_rn (q 0) 10 (q 20) tl, ra_N (q 20) cI 1600 tb, ro_rrrrnn h0 0 k1 k2 k3 k4 c2_7 w2_8, ra_I k1 cI 1600 g1_9]) eu_15 hP hD rfl (fun hP hD => ?_)
  have hL_16 := lenO_ap (len_sum (tb := tb) (n := tl) (len_part (tb := tb) (n := tl) (kind := kn) dd)) hlen
  exact sk_vret hx hb hr hlocks hK hP hD hS (⟨xa2_1, xv2_2, xt2_3, xz2_4, xf2_5, xp2_6, c2_7, w2_8, g1_9, hxa2_10, hxz2_11, hc2_12, hw2_13, hO2_14, rfl⟩) (Nat.le_of_ble_eq_true rfl) (Nat.le_of_ble_eq_true rfl) dX8_read_5
/-! rows filled -/
section SkRowsQ
variable {p : Program} {l : Launch} {e : Env} {R : Room} {s : State} {m : MethodId} {args : Array Value} {below : List Frame} {meth : Method} {c : Code} {H : Heap} {locs : List Loc} {cells slots : Nat} {Q : State → Prop}
variable {cc : ByteArray} {pc : Nat} {ls : Array Slot} {rest : List Value} {D : va_G} {tys : List (ClassId × FieldType)} {ws : va_W} {A : Nat → Prop} {H0 : Heap} {a : Nat}
theorem sk_iastQ {Pr : (Nat → Int32) → Prop} (hexec : p.tables.exec = Jvm.exec) (hb : c.code = cc) (hK : skK D tys s) (hP : va_P D vwCl ws H) (hD : va_D A ws) (hS : va_S A H0 H locs) (q0 t0 : Nat) {cA : ClassId} {n : Nat} {f : Nat → Int32} {ws' : (Nat → Int32) → va_W} (ha : ws[q0]? = some (a, .inl (cA, n, .inl f))) (ht : tys[t0]? = some (cA, .int)) {i x : Int32} (hin : vp_in i n) (hw' : ∀ f', ws.set q0 (a, .inl (cA, n, .inl f')) = ws' f') (hup : Pr (upd f i.toNatClampNeg x)) (hdg : decode cc pc = .ok (.iastore, 1))
    (kk : ∀ (f' : Nat → Int32) (H1 : Heap) (locs1 : List Loc), Pr f' → va_P D vwCl (ws' f') H1 → va_D A (ws' f') → va_S A H0 H1 locs1 → W p l e R s m args below meth c H1 locs1 cells slots Q (F0 m (pc + 1) ls rest)) : W p l e R s m args below meth c H locs cells slots Q (F0 m pc ls (.int x :: .int i :: .ref a :: rest)) :=
  va_iast hexec hb hK.1 hP hD hS q0 t0 ha ht hin hdg (fun H1 locs1 h1 h2 h3 => kk _ H1 locs1 hup ((hw' _) ▸ h1) ((hw' _) ▸ h2) h3)
end SkRowsQ
def allV (v : Int32) (n : Nat) (f : Nat → Int32) : Prop := ∀ j, j < n → f j = v
theorem allV_0 (v : Int32) (f : Nat → Int32) : allV v 0 f := fun j h => absurd h (by omega)
theorem allV_s {v : Int32} {i : Nat} {f : Nat → Int32} (h : allV v i f) (hi : i < 2147483648) : allV v (i + 1) (upd f (nI i).toNatClampNeg v) := by
  rw [nI_clamp hi]
  intro j hj
  unfold upd
  by_cases e : j = i
  · rw [if_pos e]
  · rw [if_neg e]; exact h j (by omega)
set_option maxHeartbeats 4000000 in
set_option maxRecDepth 100000 in
theorem c_efillX (l : Launch) (D : va_G) (cI cJ cC cZ cS : ClassId) (ar : Nat) (n : Nat) (f : Nat → Int32) (v : Int32) (hn : n < 2147483648) : skM l yJ7_fill_53178 cJ7_fill_53178 4 none 0 0 0 0 D (skT cI cJ cC cZ cS) [.ref ar, .int v] [ra_I ar cI n f] (skV D (skT cI cJ cC cZ cS) (fun (u : va_W) => ∃ (g : Nat → Int32), allV v n g ∧ u = [ra_I ar cI n g])) := by
  refine skM_of pf_J7_fill_53178 (Nat.le_of_ble_eq_true rfl) ?_
  intro p e s m below meth c A ls E hP hD hl
  refine skE_el E (fun hx hb hr hml hlocks hin hown hts hK hA => ?_)
  have hown : s.vm.findClass RJ7 = some m.cls := hown
  have hS : va_S A s.heap s.heap [] := va_S.rf
  have hl : lv_has ls 4 [(0, .ref ar), (1, .int v)] := hl
  refine lv_iconst (v := 0) hx hb dJ7_fill_53178_0 ic_0 ?_
  refine lv_istore_n (lv' := [(2, .int 0), (0, .ref ar), (1, .int v)]) hx hb dJ7_fill_53178_1 rfl hl (by decide) rfl (fun ls hl => ?_)
  refine lv_aload_n hx hb dJ7_fill_53178_2 rfl (lv_at hl 1 rfl) ?_
  refine va_alen (v := nI n) hx hb hK.1 hP 0 0 rfl rfl rfl dJ7_fill_53178_3 ?_
  refine lv_istore_n (lv' := [(3, .int (nI n)), (2, .int 0), (0, .ref ar), (1, .int v)]) hx hb dJ7_fill_53178_4 rfl hl (by decide) rfl (fun ls hl => ?_)
  have lp_1 : ∀ (n_2 : Nat) (i : Nat) (fi : Nat → Int32) (H : Heap) (locs : List Loc) (ls : Array Slot), n - i < n_2 → (i ≤ n) → (allV v i fi) → va_P D vwCl [ra_I ar cI n fi] H → va_D A [ra_I ar cI n fi] → va_S A s.heap H locs → lv_has ls 4 [(3, .int (nI n)), (2, .int (nI i)), (0, .ref ar), (1, .int v)] → W p l e { frames := 0, cells := 0, slots := 0, locals := 0 } s m ([.ref ar, .int v] : List Value).toArray below meth c H locs 0 0 (MQ below (skV D (skT cI cJ cC cZ cS) (fun (u : va_W) => ∃ (g : Nat → Int32), allV v n g ∧ u = [ra_I ar cI n g]) A) ([.ref ar, .int v] : List Value).toArray s 0 0 A) (F0 m 5 ls []) := by
    intro n_2
    induction n_2 with
    | zero => intro i fi H locs ls hm; exact absurd hm (Nat.not_lt_zero _)
    | succ n_2 ih_lp_1 =>
      intro i fi H locs ls hm hi hfi hP hD hS hl
      refine lv_iload_n hx hb dJ7_fill_53178_5 rfl (lv_at hl 1 rfl) ?_
      refine lv_iload_n hx hb dJ7_fill_53178_6 rfl (lv_at hl 0 rfl) ?_
      refine lv_icmp_ge (tgt := 20) hx hb dJ7_fill_53178_7 (by decide) (fun c_3 => ?_) (fun c_3 => ?_)
      · have c_3 : n ≤ i := (nle n i (by omega) (by omega)).mp c_3
        exact sk_vret hx hb hr hlocks hK hP hD hS (⟨fi, (show allV v n fi by rw [show n = i by omega]; exact hfi), rfl⟩) (Nat.le_of_ble_eq_true rfl) (Nat.le_of_ble_eq_true rfl) dJ7_fill_53178_20
      · have c_3 : ¬ (n ≤ i) := fun h => c_3 ((nle n i (by omega) (by omega)).mpr h)
        refine lv_aload_n hx hb dJ7_fill_53178_10 rfl (lv_at hl 2 rfl) ?_
        refine lv_iload_n hx hb dJ7_fill_53178_11 rfl (lv_at hl 1 rfl) ?_
        refine lv_iload_n hx hb dJ7_fill_53178_12 rfl (lv_at hl 3 rfl) ?_
        refine sk_iastQ (Pr := allV v (i + 1)) (ws' := fun f_4 => [ra_I ar cI n f_4]) hx hb hK hP hD hS 0 0 rfl rfl (vin i n (by omega) (by omega)) (fun _ => rfl) (allV_s hfi (by omega)) dJ7_fill_53178_13 (fun f_4 H locs hf_5 hP hD hS => ?_)
        refine lv_iinc (v := nI (i + 1)) (lv' := [(2, .int (nI (i + 1))), (3, .int (nI n)), (0, .ref ar), (1, .int v)]) hx hb dJ7_fill_53178_14 hl (k := 1) rfl (ninc i 1 (by decide)) (by decide) rfl (fun ls hl => ?_)
        refine lv_goto (tgt := 5) hx hb dJ7_fill_53178_17 (by decide) ?_
        exact ih_lp_1 (i + 1) f_4 _ _ _ (by omega) (by omega) hf_5 hP hD hS (lv_sub hl [1, 0, 2, 3] rfl)
  exact lp_1 (n - 0 + 1) 0 f _ _ _ (Nat.lt_succ_self _) (by omega) (allV_0 _ _) hP hD hS (lv_sub hl [0, 1, 2, 3] rfl)
set_option maxHeartbeats 4000000 in
set_option maxRecDepth 100000 in
theorem c_elk_clear (l : Launch) (D : va_G) (cI cJ cC cZ cS : ClassId) (q : Nat → Nat) (jd : Nat) (jm : Nat) (ju : Int32) (jr : Int32) (jn : Nat) (jc : Nat) (jx : Nat) (jf : Nat → Int32) (jt : Nat → Int32) (jb : Nat → Int32) (jw : Nat → Int32)  : skM l yX2_clear cX2_clear 1 none 1 23 0 0 D (skT cI cJ cC cZ cS) [.ref (q 6)] [ro_rrrrrnniin (q 6) 2 (q 24) (q 25) (q 26) (q 27) (q 28) jd jm ju jr jn, ro_rrrrnn (q 24) 0 (q 29) (q 30) (q 31) (q 32) jc jx, ra_I (q 27) cI 3 jf, ra_I (q 28) cI 3 jt, ra_I (q 25) cI 9 jb, ra_I (q 26) cI 9 jw] (skV D (skT cI cJ cC cZ cS) (fun (u : va_W) => ∃ (gf : Nat → Int32), ∃ (gt : Nat → Int32), ∃ (gb : Nat → Int32), ∃ (gw : Nat → Int32), allV 0 3 gf ∧ allV 0 3 gt ∧ allV 0 9 gb ∧ allV 0 9 gw ∧ u = [ro_rrrrrnniii (q 6) 2 (q 24) (q 25) (q 26) (q 27) (q 28) jd jm 0 0 0, ro_rrrrii (q 24) 0 (q 29) (q 30) (q 31) (q 32) 0 0, ra_I (q 27) cI 3 gf, ra_I (q 28) cI 3 gt, ra_I (q 25) cI 9 gb, ra_I (q 26) cI 9 gw])) := by
  refine skM_of pf_X2_clear (Nat.le_of_ble_eq_true rfl) ?_
  intro p e s m below meth c A ls E hP hD hl
  refine skE_el E (fun hx hb hr hml hlocks hin hown hts hK hA => ?_)
  have hown : s.vm.findClass RX2 = some m.cls := hown
  have hS : va_S A s.heap s.heap [] := va_S.rf
  have hl : lv_has ls 1 [(0, .ref (q 6))] := hl
  refine lv_aload_n hx hb dX2_clear_0 rfl (lv_at hl 0 rfl) ?_
  refine sk_get (v := .ref (q 24)) (C := RX2) (T := TX2) (N := 10) hx hb hts inlX2 hown hK hP 0 rfl rfl 0 (Nat.le_of_ble_eq_true rfl) w_1_175 rfl dX2_clear_1 ?_
  refine sk_Vv (q0 := 0) (n := 0) (rest := []) (wr := fmR om_6_10 _) ⟨hx, hb, hml, hown, hts⟩ hl.1 (c_Code_clear l D cI cJ cC cZ cS (q 24) (q 29) (q 30) (q 31) (q 32) jc jx) w_2_214 w_2_215 w_2_216 w_1_8 w_2_217 hd_X0_clear_0 ⟨⟨(Nat.le_of_ble_eq_true rfl), (Nat.le_of_ble_eq_true rfl)⟩, (Nat.le_of_ble_eq_true rfl), (Nat.le_of_ble_eq_true rfl)⟩ hK hP hD hS hA (fmT om_6_10 0) (fmF om_6_10 0) (fm_C1 rfl rfl) (fm_R rfl rfl) (fm_nT om_6_10 0) (fm_nF om_6_10 0) (fm_di om_6_10 0) rfl rfl rfl rfl (Nat.le_of_ble_eq_true rfl) dX2_clear_4 (fun u H locs hw hP hD hS => ?_)
  refine o_mgE (ws' := [ro_rrrrrnniin (q 6) 2 (q 24) (q 25) (q 26) (q 27) (q 28) jd jm ju jr jn, ro_rrrrii (q 24) 0 (q 29) (q 30) (q 31) (q 32) 0 0, ra_I (q 27) cI 3 jf, ra_I (q 28) cI 3 jt, ra_I (q 25) cI 9 jb, ra_I (q 26) cI 9 jw]) hw hP hD rfl (fun hP hD => ?_)
  refine lv_aload_n hx hb dX2_clear_7 rfl (lv_at hl 0 rfl) ?_
  refine sk_get (v := .ref (q 25)) (C := RX2) (T := TX2) (N := 10) hx hb hts inlX2 hown hK hP 0 rfl rfl 1 (Nat.le_of_ble_eq_true rfl) w_1_178 rfl dX2_clear_8 ?_
  refine lv_iconst (v := 0) hx hb dX2_clear_11 ic_0 ?_
  refine sk_Sv (n := 2) (rest := []) (wr := fmR om_6_2 _) ⟨hx, hb, hml, hown, hts⟩ hl.1 (c_efillX l D cI cJ cC cZ cS (q 25) 9 jb 0 (by omega)) w_2_218 w_2_219 w_1_15 w_2_220 hd_J7_fill_53178_2 ⟨⟨(Nat.le_of_ble_eq_true rfl), (Nat.le_of_ble_eq_true rfl)⟩, (Nat.le_of_ble_eq_true rfl), (Nat.le_of_ble_eq_true rfl)⟩ hK hP hD hS hA (fmT om_6_2 0) (fmF om_6_2 0) (fm_C1 rfl rfl) (fm_R rfl rfl) (fm_nT om_6_2 0) (fm_nF om_6_2 0) (fm_di om_6_2 0) rfl rfl (Nat.le_of_ble_eq_true rfl) dX2_clear_12 (fun u H locs hw hP hD hS => ?_)
  refine exE hw (fun g_1 hw1 => anE hw1 (fun hfl_2 eu_3 => ?_))
  clear hw hw1
  refine o_mgE (ws' := [ro_rrrrrnniin (q 6) 2 (q 24) (q 25) (q 26) (q 27) (q 28) jd jm ju jr jn, ro_rrrrii (q 24) 0 (q 29) (q 30) (q 31) (q 32) 0 0, ra_I (q 27) cI 3 jf, ra_I (q 28) cI 3 jt, ra_I (q 25) cI 9 g_1, ra_I (q 26) cI 9 jw]) eu_3 hP hD rfl (fun hP hD => ?_)
  refine lv_aload_n hx hb dX2_clear_15 rfl (lv_at hl 0 rfl) ?_
  refine sk_get (v := .ref (q 26)) (C := RX2) (T := TX2) (N := 10) hx hb hts inlX2 hown hK hP 0 rfl rfl 2 (Nat.le_of_ble_eq_true rfl) w_1_181 rfl dX2_clear_16 ?_
  refine lv_iconst (v := 0) hx hb dX2_clear_19 ic_0 ?_
  refine sk_Sv (n := 2) (rest := []) (wr := fmR om_6_1 _) ⟨hx, hb, hml, hown, hts⟩ hl.1 (c_efillX l D cI cJ cC cZ cS (q 26) 9 jw 0 (by omega)) w_2_218 w_2_219 w_1_15 w_2_220 hd_J7_fill_53178_2 ⟨⟨(Nat.le_of_ble_eq_true rfl), (Nat.le_of_ble_eq_true rfl)⟩, (Nat.le_of_ble_eq_true rfl), (Nat.le_of_ble_eq_true rfl)⟩ hK hP hD hS hA (fmT om_6_1 0) (fmF om_6_1 0) (fm_C1 rfl rfl) (fm_R rfl rfl) (fm_nT om_6_1 0) (fm_nF om_6_1 0) (fm_di om_6_1 0) rfl rfl (Nat.le_of_ble_eq_true rfl) dX2_clear_20 (fun u H locs hw hP hD hS => ?_)
  refine exE hw (fun g_4 hw1 => anE hw1 (fun hfl_5 eu_6 => ?_))
  clear hw hw1
  refine o_mgE (ws' := [ro_rrrrrnniin (q 6) 2 (q 24) (q 25) (q 26) (q 27) (q 28) jd jm ju jr jn, ro_rrrrii (q 24) 0 (q 29) (q 30) (q 31) (q 32) 0 0, ra_I (q 27) cI 3 jf, ra_I (q 28) cI 3 jt, ra_I (q 25) cI 9 g_1, ra_I (q 26) cI 9 g_4]) eu_6 hP hD rfl (fun hP hD => ?_)
  refine lv_aload_n hx hb dX2_clear_23 rfl (lv_at hl 0 rfl) ?_
  refine sk_get (v := .ref (q 27)) (C := RX2) (T := TX2) (N := 10) hx hb hts inlX2 hown hK hP 0 rfl rfl 3 (Nat.le_of_ble_eq_true rfl) w_1_184 rfl dX2_clear_24 ?_
  refine lv_iconst (v := 0) hx hb dX2_clear_27 ic_0 ?_
  refine sk_Sv (n := 2) (rest := []) (wr := fmR om_6_8 _) ⟨hx, hb, hml, hown, hts⟩ hl.1 (c_efillX l D cI cJ cC cZ cS (q 27) 3 jf 0 (by omega)) w_2_218 w_2_219 w_1_15 w_2_220 hd_J7_fill_53178_2 ⟨⟨(Nat.le_of_ble_eq_true rfl), (Nat.le_of_ble_eq_true rfl)⟩, (Nat.le_of_ble_eq_true rfl), (Nat.le_of_ble_eq_true rfl)⟩ hK hP hD hS hA (fmT om_6_8 0) (fmF om_6_8 0) (fm_C1 rfl rfl) (fm_R rfl rfl) (fm_nT om_6_8 0) (fm_nF om_6_8 0) (fm_di om_6_8 0) rfl rfl (Nat.le_of_ble_eq_true rfl) dX2_clear_28 (fun u H locs hw hP hD hS => ?_)
  refine exE hw (fun g_7 hw1 => anE hw1 (fun hfl_8 eu_9 => ?_))
  clear hw hw1
  refine o_mgE (ws' := [ro_rrrrrnniin (q 6) 2 (q 24) (q 25) (q 26) (q 27) (q 28) jd jm ju jr jn, ro_rrrrii (q 24) 0 (q 29) (q 30) (q 31) (q 32) 0 0, ra_I (q 27) cI 3 g_7, ra_I (q 28) cI 3 jt, ra_I (q 25) cI 9 g_1, ra_I (q 26) cI 9 g_4]) eu_9 hP hD rfl (fun hP hD => ?_)
  refine lv_aload_n hx hb dX2_clear_31 rfl (lv_at hl 0 rfl) ?_
  refine sk_get (v := .ref (q 28)) (C := RX2) (T := TX2) (N := 10) hx hb hts inlX2 hown hK hP 0 rfl rfl 4 (Nat.le_of_ble_eq_true rfl) w_1_186 rfl dX2_clear_32 ?_
  refine lv_iconst (v := 0) hx hb dX2_clear_35 ic_0 ?_
  refine sk_Sv (n := 2) (rest := []) (wr := fmR om_6_4 _) ⟨hx, hb, hml, hown, hts⟩ hl.1 (c_efillX l D cI cJ cC cZ cS (q 28) 3 jt 0 (by omega)) w_2_218 w_2_219 w_1_15 w_2_220 hd_J7_fill_53178_2 ⟨⟨(Nat.le_of_ble_eq_true rfl), (Nat.le_of_ble_eq_true rfl)⟩, (Nat.le_of_ble_eq_true rfl), (Nat.le_of_ble_eq_true rfl)⟩ hK hP hD hS hA (fmT om_6_4 0) (fmF om_6_4 0) (fm_C1 rfl rfl) (fm_R rfl rfl) (fm_nT om_6_4 0) (fm_nF om_6_4 0) (fm_di om_6_4 0) rfl rfl (Nat.le_of_ble_eq_true rfl) dX2_clear_36 (fun u H locs hw hP hD hS => ?_)
  refine exE hw (fun g_10 hw1 => anE hw1 (fun hfl_11 eu_12 => ?_))
  clear hw hw1
  refine o_mgE (ws' := [ro_rrrrrnniin (q 6) 2 (q 24) (q 25) (q 26) (q 27) (q 28) jd jm ju jr jn, ro_rrrrii (q 24) 0 (q 29) (q 30) (q 31) (q 32) 0 0, ra_I (q 27) cI 3 g_7, ra_I (q 28) cI 3 g_10, ra_I (q 25) cI 9 g_1, ra_I (q 26) cI 9 g_4]) eu_12 hP hD rfl (fun hP hD => ?_)
  refine lv_aload_n hx hb dX2_clear_39 rfl (lv_at hl 0 rfl) ?_
  refine lv_iconst (v := 0) hx hb dX2_clear_40 ic_0 ?_
  refine sk_put (ws' := [ro_rrrrrnniin (q 6) 2 (q 24) (q 25) (q 26) (q 27) (q 28) jd jm 0 jr jn, ro_rrrrii (q 24) 0 (q 29) (q 30) (q 31) (q 32) 0 0, ra_I (q 27) cI 3 g_7, ra_I (q 28) cI 3 g_10, ra_I (q 25) cI 9 g_1, ra_I (q 26) cI 9 g_4]) (C := RX2) (T := TX2) (N := 10) (v := .int 0) hx hb hts inlX2 tyX2 tyX2_ok nmX2 hown hK hP hD hS 0 rfl rfl 7 (Nat.le_of_ble_eq_true rfl) w_1_194 rfl rfl rfl (Nat.le_of_ble_eq_true rfl) rfl dX2_clear_41 (fun H locs hP hD hS => ?_)
  refine lv_aload_n hx hb dX2_clear_44 rfl (lv_at hl 0 rfl) ?_
  refine lv_iconst (v := 0) hx hb dX2_clear_45 ic_0 ?_
  refine sk_put (ws' := [ro_rrrrrnniin (q 6) 2 (q 24) (q 25) (q 26) (q 27) (q 28) jd jm 0 0 jn, ro_rrrrii (q 24) 0 (q 29) (q 30) (q 31) (q 32) 0 0, ra_I (q 27) cI 3 g_7, ra_I (q 28) cI 3 g_10, ra_I (q 25) cI 9 g_1, ra_I (q 26) cI 9 g_4]) (C := RX2) (T := TX2) (N := 10) (v := .int 0) hx hb hts inlX2 tyX2 tyX2_ok nmX2 hown hK hP hD hS 0 rfl rfl 8 (Nat.le_of_ble_eq_true rfl) w_1_197 rfl rfl rfl (Nat.le_of_ble_eq_true rfl) rfl dX2_clear_46 (fun H locs hP hD hS => ?_)
  refine lv_aload_n hx hb dX2_clear_49 rfl (lv_at hl 0 rfl) ?_
  refine lv_iconst (v := 0) hx hb dX2_clear_50 ic_0 ?_
  refine sk_put (ws' := [ro_rrrrrnniii (q 6) 2 (q 24) (q 25) (q 26) (q 27) (q 28) jd jm 0 0 0, ro_rrrrii (q 24) 0 (q 29) (q 30) (q 31) (q 32) 0 0, ra_I (q 27) cI 3 g_7, ra_I (q 28) cI 3 g_10, ra_I (q 25) cI 9 g_1, ra_I (q 26) cI 9 g_4]) (C := RX2) (T := TX2) (N := 10) (v := .int 0) hx hb hts inlX2 tyX2 tyX2_ok nmX2 hown hK hP hD hS 0 rfl rfl 9 (Nat.le_of_ble_eq_true rfl) w_1_200 rfl rfl rfl (Nat.le_of_ble_eq_true rfl) rfl dX2_clear_51 (fun H locs hP hD hS => ?_)
  exact sk_vret hx hb hr hlocks hK hP hD hS (⟨g_7, g_10, g_1, g_4, hfl_8, hfl_11, hfl_2, hfl_5, rfl⟩) (Nat.le_of_ble_eq_true rfl) (Nat.le_of_ble_eq_true rfl) dX2_clear_54
set_option maxHeartbeats 4000000 in
set_option maxRecDepth 100000 in
theorem c_elk_hasSum (l : Launch) (D : va_G) (cI cJ cC cZ cS : ClassId) (q : Nat → Nat) (jd : Nat) (jm : Nat) (ju : Int32) (jr : Int32) (jn : Nat) (jf : Nat → Int32) (jt : Nat → Int32) (w : Nat) (hw : w < 3) : skM l yX2_hasSum cX2_hasSum 2 (some .boolean) 0 0 0 0 D (skT cI cJ cC cZ cS) [.ref (q 6), .int (nI w)] [ro_rrrrrnniin (q 6) 2 (q 24) (q 25) (q 26) (q 27) (q 28) jd jm ju jr jn, ra_I (q 27) cI 3 jf, ra_I (q 28) cI 3 jt] (skI D (skT cI cJ cC cZ cS) (fun (r : Int32) (u : va_W) => ∃ (b : Nat), b ≤ 1 ∧ ((b = 0 ∧ ¬ jf w < jt w) ∨ (b = 1 ∧ jf w < jt w)) ∧ r = nI b ∧ u = [ro_rrrrrnniin (q 6) 2 (q 24) (q 25) (q 26) (q 27) (q 28) jd jm ju jr jn, ra_I (q 27) cI 3 jf, ra_I (q 28) cI 3 jt])) := by
  refine skM_of pf_X2_hasSum (Nat.le_of_ble_eq_true rfl) ?_
  intro p e s m below meth c A ls E hP hD hl
  refine skE_el E (fun hx hb hr hml hlocks hin hown hts hK hA => ?_)
  have hown : s.vm.findClass RX2 = some m.cls := hown
  have hS : va_S A s.heap s.heap [] := va_S.rf
  have hl : lv_has ls 2 [(0, .ref (q 6)), (1, .int (nI w))] := hl
  refine lv_aload_n hx hb dX2_hasSum_0 rfl (lv_at hl 0 rfl) ?_
  refine sk_get (v := .ref (q 28)) (C := RX2) (T := TX2) (N := 10) hx hb hts inlX2 hown hK hP 0 rfl rfl 4 (Nat.le_of_ble_eq_true rfl) w_1_186 rfl dX2_hasSum_1 ?_
  refine lv_iload_n hx hb dX2_hasSum_4 rfl (lv_at hl 1 rfl) ?_
  refine va_iald hx hb hK.1 hP 2 0 rfl rfl (vin w 3 (by omega) (Nat.le_of_ble_eq_true rfl)) dX2_hasSum_5 ?_
  refine lv_topi (fun v_1 ev_1 => ?_)
  refine lv_aload_n hx hb dX2_hasSum_6 rfl (lv_at hl 0 rfl) ?_
  refine sk_get (v := .ref (q 27)) (C := RX2) (T := TX2) (N := 10) hx hb hts inlX2 hown hK hP 0 rfl rfl 3 (Nat.le_of_ble_eq_true rfl) w_1_184 rfl dX2_hasSum_7 ?_
  refine lv_iload_n hx hb dX2_hasSum_10 rfl (lv_at hl 1 rfl) ?_
  refine va_iald hx hb hK.1 hP 1 0 rfl rfl (vin w 3 (by omega) (Nat.le_of_ble_eq_true rfl)) dX2_hasSum_11 ?_
  refine lv_topi (fun v_2 ev_2 => ?_)
  refine lv_icmp_le (tgt := 19) hx hb dX2_hasSum_12 (by decide) (fun c_3 => ?_) (fun c_3 => ?_)
  · skip
    refine lv_iconst (v := 0) hx hb dX2_hasSum_19 ic_0 ?_
    exact sk_iret hx hb hr rfl hlocks hK hP hD hS (⟨0, by omega, Or.inl ⟨rfl, Int32.not_lt.mpr (by rw [ev_1, ev_2, nI_clamp (by omega)] at c_3; exact c_3)⟩, rfl, rfl⟩) (Nat.le_of_ble_eq_true rfl) (Nat.le_of_ble_eq_true rfl) dX2_hasSum_20
  · skip
    refine lv_iconst (v := 1) hx hb dX2_hasSum_15 ic_1 ?_
    refine lv_goto (tgt := 20) hx hb dX2_hasSum_16 (by decide) ?_
    exact sk_iret hx hb hr rfl hlocks hK hP hD hS (⟨1, by omega, Or.inr ⟨rfl, Int32.not_le.mp (by rw [ev_1, ev_2, nI_clamp (by omega)] at c_3; exact c_3)⟩, rfl, rfl⟩) (Nat.le_of_ble_eq_true rfl) (Nat.le_of_ble_eq_true rfl) dX2_hasSum_20
set_option maxHeartbeats 4000000 in
set_option maxRecDepth 100000 in
theorem c_elk_beginSum (l : Launch) (D : va_G) (cI cJ cC cZ cS : ClassId) (q : Nat → Nat) (jd : Nat) (jm : Nat) (ju : Int32) (jr : Int32) (jn : Nat) (jc : Nat) (jx : Nat) (jf : Nat → Int32) (w : Nat) (hw : w < 3) : skM l yX2_beginSum cX2_beginSum 2 none 0 0 0 0 D (skT cI cJ cC cZ cS) [.ref (q 6), .int (nI w)] [ro_rrrrrnniin (q 6) 2 (q 24) (q 25) (q 26) (q 27) (q 28) jd jm ju jr jn, ro_rrrrnn (q 24) 0 (q 29) (q 30) (q 31) (q 32) jc jx, ra_I (q 27) cI 3 jf] (skV D (skT cI cJ cC cZ cS) (fun (u : va_W) => ∃ (gf : Nat → Int32), gf = upd jf w (nI jc) ∧ u = [ro_rrrrrnniin (q 6) 2 (q 24) (q 25) (q 26) (q 27) (q 28) jd jm ju jr jn, ro_rrrrnn (q 24) 0 (q 29) (q 30) (q 31) (q 32) jc jx, ra_I (q 27) cI 3 gf])) := by
  refine skM_of pf_X2_beginSum (Nat.le_of_ble_eq_true rfl) ?_
  intro p e s m below meth c A ls E hP hD hl
  refine skE_el E (fun hx hb hr hml hlocks hin hown hts hK hA => ?_)
  have hown : s.vm.findClass RX2 = some m.cls := hown
  have hS : va_S A s.heap s.heap [] := va_S.rf
  have hl : lv_has ls 2 [(0, .ref (q 6)), (1, .int (nI w))] := hl
  refine lv_aload_n hx hb dX2_beginSum_0 rfl (lv_at hl 0 rfl) ?_
  refine sk_get (v := .ref (q 27)) (C := RX2) (T := TX2) (N := 10) hx hb hts inlX2 hown hK hP 0 rfl rfl 3 (Nat.le_of_ble_eq_true rfl) w_1_184 rfl dX2_beginSum_1 ?_
  refine lv_iload_n hx hb dX2_beginSum_4 rfl (lv_at hl 1 rfl) ?_
  refine lv_aload_n hx hb dX2_beginSum_5 rfl (lv_at hl 0 rfl) ?_
  refine sk_get (v := .ref (q 24)) (C := RX2) (T := TX2) (N := 10) hx hb hts inlX2 hown hK hP 0 rfl rfl 0 (Nat.le_of_ble_eq_true rfl) w_1_175 rfl dX2_beginSum_6 ?_
  refine sk_get (v := .int (nI jc)) (C := RX0) (T := TX0) (N := 6) hx hb hts inlX0 hown hK hP 1 rfl rfl 4 (Nat.le_of_ble_eq_true rfl) w_1_134 rfl dX2_beginSum_9 ?_
  refine sk_iast (ws' := [ro_rrrrrnniin (q 6) 2 (q 24) (q 25) (q 26) (q 27) (q 28) jd jm ju jr jn, ro_rrrrnn (q 24) 0 (q 29) (q 30) (q 31) (q 32) jc jx, ra_I (q 27) cI 3 (upd jf w (nI jc))]) hx hb hK hP hD hS 2 0 rfl rfl (vin w 3 (by omega) (Nat.le_of_ble_eq_true rfl)) (by rw [nI_clamp (by omega)]; rfl) dX2_beginSum_12 (fun H locs hP hD hS => ?_)
  exact sk_vret hx hb hr hlocks hK hP hD hS (⟨upd jf w (nI jc), rfl, rfl⟩) (Nat.le_of_ble_eq_true rfl) (Nat.le_of_ble_eq_true rfl) dX2_beginSum_13
set_option maxHeartbeats 4000000 in
set_option maxRecDepth 100000 in
theorem c_elk_endSum (l : Launch) (D : va_G) (cI cJ cC cZ cS : ClassId) (q : Nat → Nat) (jd : Nat) (jm : Nat) (ju : Int32) (jr : Int32) (jn : Nat) (jc : Nat) (jx : Nat) (jt : Nat → Int32) (w : Nat) (hw : w < 3) : skM l yX2_endSum cX2_endSum 2 none 0 0 0 0 D (skT cI cJ cC cZ cS) [.ref (q 6), .int (nI w)] [ro_rrrrrnniin (q 6) 2 (q 24) (q 25) (q 26) (q 27) (q 28) jd jm ju jr jn, ro_rrrrnn (q 24) 0 (q 29) (q 30) (q 31) (q 32) jc jx, ra_I (q 28) cI 3 jt] (skV D (skT cI cJ cC cZ cS) (fun (u : va_W) => ∃ (gt : Nat → Int32), gt = upd jt w (nI jc) ∧ u = [ro_rrrrrnniin (q 6) 2 (q 24) (q 25) (q 26) (q 27) (q 28) jd jm ju jr jn, ro_rrrrnn (q 24) 0 (q 29) (q 30) (q 31) (q 32) jc jx, ra_I (q 28) cI 3 gt])) := by
  refine skM_of pf_X2_endSum (Nat.le_of_ble_eq_true rfl) ?_
  intro p e s m below meth c A ls E hP hD hl
  refine skE_el E (fun hx hb hr hml hlocks hin hown hts hK hA => ?_)
  have hown : s.vm.findClass RX2 = some m.cls := hown
  have hS : va_S A s.heap s.heap [] := va_S.rf
  have hl : lv_has ls 2 [(0, .ref (q 6)), (1, .int (nI w))] := hl
  refine lv_aload_n hx hb dX2_endSum_0 rfl (lv_at hl 0 rfl) ?_
  refine sk_get (v := .ref (q 28)) (C := RX2) (T := TX2) (N := 10) hx hb hts inlX2 hown hK hP 0 rfl rfl 4 (Nat.le_of_ble_eq_true rfl) w_1_186 rfl dX2_endSum_1 ?_
  refine lv_iload_n hx hb dX2_endSum_4 rfl (lv_at hl 1 rfl) ?_
  refine lv_aload_n hx hb dX2_endSum_5 rfl (lv_at hl 0 rfl) ?_
  refine sk_get (v := .ref (q 24)) (C := RX2) (T := TX2) (N := 10) hx hb hts inlX2 hown hK hP 0 rfl rfl 0 (Nat.le_of_ble_eq_true rfl) w_1_175 rfl dX2_endSum_6 ?_
  refine sk_get (v := .int (nI jc)) (C := RX0) (T := TX0) (N := 6) hx hb hts inlX0 hown hK hP 1 rfl rfl 4 (Nat.le_of_ble_eq_true rfl) w_1_134 rfl dX2_endSum_9 ?_
  refine sk_iast (ws' := [ro_rrrrrnniin (q 6) 2 (q 24) (q 25) (q 26) (q 27) (q 28) jd jm ju jr jn, ro_rrrrnn (q 24) 0 (q 29) (q 30) (q 31) (q 32) jc jx, ra_I (q 28) cI 3 (upd jt w (nI jc))]) hx hb hK hP hD hS 2 0 rfl rfl (vin w 3 (by omega) (Nat.le_of_ble_eq_true rfl)) (by rw [nI_clamp (by omega)]; rfl) dX2_endSum_12 (fun H locs hP hD hS => ?_)
  exact sk_vret hx hb hr hlocks hK hP hD hS (⟨upd jt w (nI jc), rfl, rfl⟩) (Nat.le_of_ble_eq_true rfl) (Nat.le_of_ble_eq_true rfl) dX2_endSum_13
def opnO (tb : Nat → Nat) (n : Nat) (o : Except Err Cur) : Except Err Cur := bindR (bindR (bindR (bindR (bindR o (tkF tb n 256)) (nmF tb n 2 9)) (tkF tb n 257)) (nmF tb n 0 9)) (tkF tb n 59)
set_option maxHeartbeats 4000000 in
set_option maxRecDepth 100000 in
theorem c_elt_opening (l : Launch) (D : va_G) (cI cJ cC cZ cS : ClassId) (zk zv : Nat) (zf : Value) (q : Nat → Nat) (xa : Nat) (xv : Int32) (xo : Nat) (xt : Int32) (xz : Nat) (xf : Int32) (xp : Int32) (tl : Nat) (tb : Nat → Nat) (jd : Nat) (jm : Nat) (ju : Int32) (jr : Int32) (jn : Nat) (og : Except Err Cur) (hxa : xa ≤ 1600) (hxz : xz ≤ 1600) (htl : tl ≤ 1600) (htb : ∀ j, tb j ≤ 255) (hO : rdO tb tl og xa xv xt xz xf xp) : skMZ zk zv zf l yX3_readOpening cX3_readOpening 2 none 7 154 0 0 D (skT cI cJ cC cZ cS) [.ref (q 3), .ref (q 6)] [ro_rrr (q 3) 3 (q 2) (q 22) (q 23), ro_rnininii (q 2) 6 (q 0) xa xv xo xt xz xf xp, ro_rn (q 0) 10 (q 20) tl, ra_N (q 20) cI 1600 tb, ro_rrrrrnniin (q 6) 2 (q 24) (q 25) (q 26) (q 27) (q 28) jd jm ju jr jn] (skV D (skT cI cJ cC cZ cS) (fun (u : va_W) => ∃ (xa2 : Nat), ∃ (xv2 : Int32), ∃ (xt2 : Int32), ∃ (xz2 : Nat), ∃ (xf2 : Int32), ∃ (xp2 : Int32), ∃ (jd2 : Nat), ∃ (jm2 : Nat), xa2 ≤ 1600 ∧ xz2 ≤ 1600 ∧ 2 ≤ jd2 ∧ jd2 ≤ 9 ∧ jm2 ≤ 9 ∧ nvO tb tl 2 9 (bindR og (tkF tb tl 256)) jd2 ∧ nvO tb tl 0 9 (bindR (bindR (bindR og (tkF tb tl 256)) (nmF tb tl 2 9)) (tkF tb tl 257)) jm2 ∧ rdO tb tl (opnO tb tl og) xa2 xv2 xt2 xz2 xf2 xp2 ∧ u = [ro_rrr (q 3) 3 (q 2) (q 22) (q 23), ro_rnininii (q 2) 6 (q 0) xa2 xv2 xo xt2 xz2 xf2 xp2, ro_rn (q 0) 10 (q 20) tl, ra_N (q 20) cI 1600 tb, ro_rrrrrnniii (q 6) 2 (q 24) (q 25) (q 26) (q 27) (q 28) jd2 jm2 ju jr 1])) := by
  refine skMZ_of pf_X3_readOpening (Nat.le_of_ble_eq_true rfl) ?_
  intro p e s m below meth c A ls E hP hD hZ hl
  refine skE_el E (fun hx hb hr hml hlocks hin hown hts hK hA => ?_)
  have hown : s.vm.findClass RX3 = some m.cls := hown
  have hS : va_S A s.heap s.heap [] := va_S.rf
  have hl : lv_has ls 2 [(0, .ref (q 3)), (1, .ref (q 6))] := hl
  refine lv_aload_n hx hb dX3_readOpening_0 rfl (lv_at hl 0 rfl) ?_
  refine sk_get (v := .ref (q 2)) (C := RX3) (T := TX3) (N := 3) hx hb hts inlX3 hown hK hP 0 rfl rfl 0 (Nat.le_of_ble_eq_true rfl) w_1_107 rfl dX3_readOpening_1 ?_
  refine lv_sipush (v := 256) hx hb dX3_readOpening_4 (by decide) ?_
  refine sk_VvZ (q0 := 0) (n := 1) (rest := []) (wr := fmR om_5_e _) ⟨hx, hb, hml, hown, hts⟩ hl.1 (c_erd_needs l D cI cJ cC cZ cS zk zv zf q xa xv xo xt xz xf xp tl tb 256 og hxa hxz htl htb (by decide) hO) w_3_50 w_3_51 w_3_52 w_1_4 w_3_53 hd_X6_needs_1 ⟨⟨(Nat.le_of_ble_eq_true rfl), (Nat.le_of_ble_eq_true rfl)⟩, (Nat.le_of_ble_eq_true rfl), (Nat.le_of_ble_eq_true rfl)⟩ hK hP hD hS hZ hA (fmT om_5_e 0) (fmF om_5_e 0) (fm_C1 rfl rfl) (fm_R rfl rfl) (fm_nT om_5_e 0) (fm_nF om_5_e 0) (fm_di om_5_e 0) rfl rfl rfl rfl (Nat.le_of_ble_eq_true rfl) dX3_readOpening_7 (fun u H locs hw hP hD hS => ?_)
  refine exE hw (fun xa2_1 hw1 => exE hw1 (fun xv2_2 hw2 => exE hw2 (fun xt2_3 hw3 => exE hw3 (fun xz2_4 hw4 => exE hw4 (fun xf2_5 hw5 => exE hw5 (fun xp2_6 hw6 => anE hw6 (fun hxa2_7 hw7 => anE hw7 (fun hxz2_8 hw8 => anE hw8 (fun hO2_9 eu_10 => ?_)))))))))
  clear hw hw1 hw2 hw3 hw4 hw5 hw6 hw7 hw8
  refine o_mgE (ws' := [ro_rrr (q 3) 3 (q 2) (q 22) (q 23), ro_rnininii (q 2) 6 (q 0) xa2_1 xv2_2 xo xt2_3 xz2_4 xf2_5 xp2_6, ro_rn (q 0) 10 (q 20) tl, ra_N (q 20) cI 1600 tb, ro_rrrrrnniin (q 6) 2 (q 24) (q 25) (q 26) (q 27) (q 28) jd jm ju jr jn]) eu_10 hP hD rfl (fun hP hD => ?_)
  refine lv_aload_n hx hb dX3_readOpening_10 rfl (lv_at hl 1 rfl) ?_
  refine lv_aload_n hx hb dX3_readOpening_11 rfl (lv_at hl 0 rfl) ?_
  refine sk_get (v := .ref (q 2)) (C := RX3) (T := TX3) (N := 3) hx hb hts inlX3 hown hK hP 0 rfl rfl 0 (Nat.le_of_ble_eq_true rfl) w_1_107 rfl dX3_readOpening_12 ?_
  refine lv_iconst (v := 2) hx hb dX3_readOpening_15 ic_2 ?_
  refine lv_bipush (v := 9) hx hb dX3_readOpening_16 (by decide) ?_
  refine sk_ViZ (q0 := 0) (n := 2) (rest := [.ref (q 6)]) (wr := fmR om_5_e _) ⟨hx, hb, hml, hown, hts⟩ hl.1 (c_erd_takeNumber l D cI cJ cC cZ cS zk zv zf q xa2_1 xv2_2 xo xt2_3 xz2_4 xf2_5 xp2_6 tl tb 2 9 (bindR og (tkF tb tl 256)) hxa2_7 hxz2_8 htl htb (by omega) (by omega) hO2_9) w_3_62 w_3_63 w_3_64 w_1_4 w_3_65 hd_X6_takeNumber_2 ⟨⟨(Nat.le_of_ble_eq_true rfl), (Nat.le_of_ble_eq_true rfl)⟩, (Nat.le_of_ble_eq_true rfl), (Nat.le_of_ble_eq_true rfl)⟩ hK hP hD hS hZ hA (fmT om_5_e 0) (fmF om_5_e 0) (fm_C1 rfl rfl) (fm_R rfl rfl) (fm_nT om_5_e 0) (fm_nF om_5_e 0) (fm_di om_5_e 0) rfl rfl rfl rfl (Nat.le_of_ble_eq_true rfl) dX3_readOpening_18 (fun r_18 u H locs hw hP hD hS => ?_)
  refine exE hw (fun xa2_11 hw1 => exE hw1 (fun xv2_12 hw2 => exE hw2 (fun xt2_13 hw3 => exE hw3 (fun xz2_14 hw4 => exE hw4 (fun xf2_15 hw5 => exE hw5 (fun xp2_16 hw6 => exE hw6 (fun v_17 hw7 => anE hw7 (fun hxa2_19 hw8 => anE hw8 (fun hxz2_20 hw9 => anE hw9 (fun hv1_21 hw10 => anE hw10 (fun hv2_22 hw11 => anE hw11 (fun hnv_23 hw12 => anE hw12 (fun hO2_24 hw13 => anE hw13 (fun er_26 eu_25 => ?_))))))))))))))
  clear hw hw1 hw2 hw3 hw4 hw5 hw6 hw7 hw8 hw9 hw10 hw11 hw12 hw13
  subst er_26
  refine o_mgE (ws' := [ro_rrr (q 3) 3 (q 2) (q 22) (q 23), ro_rnininii (q 2) 6 (q 0) xa2_11 xv2_12 xo xt2_13 xz2_14 xf2_15 xp2_16, ro_rn (q 0) 10 (q 20) tl, ra_N (q 20) cI 1600 tb, ro_rrrrrnniin (q 6) 2 (q 24) (q 25) (q 26) (q 27) (q 28) jd jm ju jr jn]) eu_25 hP hD rfl (fun hP hD => ?_)
  refine sk_put (ws' := [ro_rrr (q 3) 3 (q 2) (q 22) (q 23), ro_rnininii (q 2) 6 (q 0) xa2_11 xv2_12 xo xt2_13 xz2_14 xf2_15 xp2_16, ro_rn (q 0) 10 (q 20) tl, ra_N (q 20) cI 1600 tb, ro_rrrrrnniin (q 6) 2 (q 24) (q 25) (q 26) (q 27) (q 28) v_17 jm ju jr jn]) (C := RX2) (T := TX2) (N := 10) (v := .int (nI v_17)) hx hb hts inlX2 tyX2 tyX2_ok nmX2 hown hK hP hD hS 4 rfl rfl 5 (Nat.le_of_ble_eq_true rfl) w_1_190 rfl rfl rfl (Nat.le_of_ble_eq_true rfl) rfl dX3_readOpening_21 (fun H locs hP hD hS => ?_)
  refine lv_aload_n hx hb dX3_readOpening_24 rfl (lv_at hl 0 rfl) ?_
  refine sk_get (v := .ref (q 2)) (C := RX3) (T := TX3) (N := 3) hx hb hts inlX3 hown hK hP 0 rfl rfl 0 (Nat.le_of_ble_eq_true rfl) w_1_107 rfl dX3_readOpening_25 ?_
  refine lv_sipush (v := 257) hx hb dX3_readOpening_28 (by decide) ?_
  refine sk_VvZ (q0 := 0) (n := 1) (rest := []) (wr := fmR om_5_e _) ⟨hx, hb, hml, hown, hts⟩ hl.1 (c_erd_needs l D cI cJ cC cZ cS zk zv zf q xa2_11 xv2_12 xo xt2_13 xz2_14 xf2_15 xp2_16 tl tb 257 (bindR (bindR og (tkF tb tl 256)) (nmF tb tl 2 9)) hxa2_19 hxz2_20 htl htb (by decide) hO2_24) w_3_50 w_3_51 w_3_52 w_1_4 w_3_53 hd_X6_needs_1 ⟨⟨(Nat.le_of_ble_eq_true rfl), (Nat.le_of_ble_eq_true rfl)⟩, (Nat.le_of_ble_eq_true rfl), (Nat.le_of_ble_eq_true rfl)⟩ hK hP hD hS hZ hA (fmT om_5_e 0) (fmF om_5_e 0) (fm_C1 rfl rfl) (fm_R rfl rfl) (fm_nT om_5_e 0) (fm_nF om_5_e 0) (fm_di om_5_e 0) rfl rfl rfl rfl (Nat.le_of_ble_eq_true rfl) dX3_readOpening_31 (fun u H locs hw hP hD hS => ?_)
  refine exE hw (fun xa2_27 hw1 => exE hw1 (fun xv2_28 hw2 => exE hw2 (fun xt2_29 hw3 => exE hw3 (fun xz2_30 hw4 => exE hw4 (fun xf2_31 hw5 => exE hw5 (fun xp2_32 hw6 => anE hw6 (fun hxa2_33 hw7 => anE hw7 (fun hxz2_34 hw8 => anE hw8 (fun hO2_35 eu_36 => ?_)))))))))
  clear hw hw1 hw2 hw3 hw4 hw5 hw6 hw7 hw8
  refine o_mgE (ws' := [ro_rrr (q 3) 3 (q 2) (q 22) (q 23), ro_rnininii (q 2) 6 (q 0) xa2_27 xv2_28 xo xt2_29 xz2_30 xf2_31 xp2_32, ro_rn (q 0) 10 (q 20) tl, ra_N (q 20) cI 1600 tb, ro_rrrrrnniin (q 6) 2 (q 24) (q 25) (q 26) (q 27) (q 28) v_17 jm ju jr jn]) eu_36 hP hD rfl (fun hP hD => ?_)
  refine lv_aload_n hx hb dX3_readOpening_34 rfl (lv_at hl 1 rfl) ?_
  refine lv_aload_n hx hb dX3_readOpening_35 rfl (lv_at hl 0 rfl) ?_
  refine sk_get (v := .ref (q 2)) (C := RX3) (T := TX3) (N := 3) hx hb hts inlX3 hown hK hP 0 rfl rfl 0 (Nat.le_of_ble_eq_true rfl) w_1_107 rfl dX3_readOpening_36 ?_
  refine lv_iconst (v := 0) hx hb dX3_readOpening_39 ic_0 ?_
  refine lv_bipush (v := 9) hx hb dX3_readOpening_40 (by decide) ?_
  refine sk_ViZ (q0 := 0) (n := 2) (rest := [.ref (q 6)]) (wr := fmR om_5_e _) ⟨hx, hb, hml, hown, hts⟩ hl.1 (c_erd_takeNumber l D cI cJ cC cZ cS zk zv zf q xa2_27 xv2_28 xo xt2_29 xz2_30 xf2_31 xp2_32 tl tb 0 9 (bindR (bindR (bindR og (tkF tb tl 256)) (nmF tb tl 2 9)) (tkF tb tl 257)) hxa2_33 hxz2_34 htl htb (by omega) (by omega) hO2_35) w_3_62 w_3_63 w_3_64 w_1_4 w_3_65 hd_X6_takeNumber_2 ⟨⟨(Nat.le_of_ble_eq_true rfl), (Nat.le_of_ble_eq_true rfl)⟩, (Nat.le_of_ble_eq_true rfl), (Nat.le_of_ble_eq_true rfl)⟩ hK hP hD hS hZ hA (fmT om_5_e 0) (fmF om_5_e 0) (fm_C1 rfl rfl) (fm_R rfl rfl) (fm_nT om_5_e 0) (fm_nF om_5_e 0) (fm_di om_5_e 0) rfl rfl rfl rfl (Nat.le_of_ble_eq_true rfl) dX3_readOpening_42 (fun r_44 u H locs hw hP hD hS => ?_)
  refine exE hw (fun xa2_37 hw1 => exE hw1 (fun xv2_38 hw2 => exE hw2 (fun xt2_39 hw3 => exE hw3 (fun xz2_40 hw4 => exE hw4 (fun xf2_41 hw5 => exE hw5 (fun xp2_42 hw6 => exE hw6 (fun v_43 hw7 => anE hw7 (fun hxa2_45 hw8 => anE hw8 (fun hxz2_46 hw9 => anE hw9 (fun hv1_47 hw10 => anE hw10 (fun hv2_48 hw11 => anE hw11 (fun hnv_49 hw12 => anE hw12 (fun hO2_50 hw13 => anE hw13 (fun er_52 eu_51 => ?_))))))))))))))
  clear hw hw1 hw2 hw3 hw4 hw5 hw6 hw7 hw8 hw9 hw10 hw11 hw12 hw13
  subst er_52
  refine o_mgE (ws' := [ro_rrr (q 3) 3 (q 2) (q 22) (q 23), ro_rnininii (q 2) 6 (q 0) xa2_37 xv2_38 xo xt2_39 xz2_40 xf2_41 xp2_42, ro_rn (q 0) 10 (q 20) tl, ra_N (q 20) cI 1600 tb, ro_rrrrrnniin (q 6) 2 (q 24) (q 25) (q 26) (q 27) (q 28) v_17 jm ju jr jn]) eu_51 hP hD rfl (fun hP hD => ?_)
  refine sk_put (ws' := [ro_rrr (q 3) 3 (q 2) (q 22) (q 23), ro_rnininii (q 2) 6 (q 0) xa2_37 xv2_38 xo xt2_39 xz2_40 xf2_41 xp2_42, ro_rn (q 0) 10 (q 20) tl, ra_N (q 20) cI 1600 tb, ro_rrrrrnniin (q 6) 2 (q 24) (q 25) (q 26) (q 27) (q 28) v_17 v_43 ju jr jn]) (C := RX2) (T := TX2) (N := 10) (v := .int (nI v_43)) hx hb hts inlX2 tyX2 tyX2_ok nmX2 hown hK hP hD hS 4 rfl rfl 6 (Nat.le_of_ble_eq_true rfl) w_1_193 rfl rfl rfl (Nat.le_of_ble_eq_true rfl) rfl dX3_readOpening_45 (fun H locs hP hD hS => ?_)
  refine lv_aload_n hx hb dX3_readOpening_48 rfl (lv_at hl 0 rfl) ?_
  refine sk_get (v := .ref (q 2)) (C := RX3) (T := TX3) (N := 3) hx hb hts inlX3 hown hK hP 0 rfl rfl 0 (Nat.le_of_ble_eq_true rfl) w_1_107 rfl dX3_readOpening_49 ?_
  refine lv_bipush (v := 59) hx hb dX3_readOpening_52 (by decide) ?_
  refine sk_VvZ (q0 := 0) (n := 1) (rest := []) (wr := fmR om_5_e _) ⟨hx, hb, hml, hown, hts⟩ hl.1 (c_erd_needs l D cI cJ cC cZ cS zk zv zf q xa2_37 xv2_38 xo xt2_39 xz2_40 xf2_41 xp2_42 tl tb 59 (bindR (bindR (bindR (bindR og (tkF tb tl 256)) (nmF tb tl 2 9)) (tkF tb tl 257)) (nmF tb tl 0 9)) hxa2_45 hxz2_46 htl htb (by decide) hO2_50) w_3_50 w_3_51 w_3_52 w_1_4 w_3_53 hd_X6_needs_1 ⟨⟨(Nat.le_of_ble_eq_true rfl), (Nat.le_of_ble_eq_true rfl)⟩, (Nat.le_of_ble_eq_true rfl), (Nat.le_of_ble_eq_true rfl)⟩ hK hP hD hS hZ hA (fmT om_5_e 0) (fmF om_5_e 0) (fm_C1 rfl rfl) (fm_R rfl rfl) (fm_nT om_5_e 0) (fm_nF om_5_e 0) (fm_di om_5_e 0) rfl rfl rfl rfl (Nat.le_of_ble_eq_true rfl) dX3_readOpening_54 (fun u H locs hw hP hD hS => ?_)
  refine exE hw (fun xa2_53 hw1 => exE hw1 (fun xv2_54 hw2 => exE hw2 (fun xt2_55 hw3 => exE hw3 (fun xz2_56 hw4 => exE hw4 (fun xf2_57 hw5 => exE hw5 (fun xp2_58 hw6 => anE hw6 (fun hxa2_59 hw7 => anE hw7 (fun hxz2_60 hw8 => anE hw8 (fun hO2_61 eu_62 => ?_)))))))))
  clear hw hw1 hw2 hw3 hw4 hw5 hw6 hw7 hw8
  refine o_mgE (ws' := [ro_rrr (q 3) 3 (q 2) (q 22) (q 23), ro_rnininii (q 2) 6 (q 0) xa2_53 xv2_54 xo xt2_55 xz2_56 xf2_57 xp2_58, ro_rn (q 0) 10 (q 20) tl, ra_N (q 20) cI 1600 tb, ro_rrrrrnniin (q 6) 2 (q 24) (q 25) (q 26) (q 27) (q 28) v_17 v_43 ju jr jn]) eu_62 hP hD rfl (fun hP hD => ?_)
  refine lv_aload_n hx hb dX3_readOpening_57 rfl (lv_at hl 1 rfl) ?_
  refine lv_iconst (v := 1) hx hb dX3_readOpening_58 ic_1 ?_
  refine sk_put (ws' := [ro_rrr (q 3) 3 (q 2) (q 22) (q 23), ro_rnininii (q 2) 6 (q 0) xa2_53 xv2_54 xo xt2_55 xz2_56 xf2_57 xp2_58, ro_rn (q 0) 10 (q 20) tl, ra_N (q 20) cI 1600 tb, ro_rrrrrnniii (q 6) 2 (q 24) (q 25) (q 26) (q 27) (q 28) v_17 v_43 ju jr 1]) (C := RX2) (T := TX2) (N := 10) (v := .int 1) hx hb hts inlX2 tyX2 tyX2_ok nmX2 hown hK hP hD hS 4 rfl rfl 9 (Nat.le_of_ble_eq_true rfl) w_1_201 rfl rfl rfl (Nat.le_of_ble_eq_true rfl) rfl dX3_readOpening_59 (fun H locs hP hD hS => ?_)
  exact sk_vret hx hb hr hlocks hK hP hD hS (⟨xa2_53, xv2_54, xt2_55, xz2_56, xf2_57, xp2_58, v_17, v_43, hxa2_59, hxz2_60, hv1_21, hv2_22, hv2_48, hnv_23, hnv_49, hO2_61, rfl⟩) (Nat.le_of_ble_eq_true rfl) (Nat.le_of_ble_eq_true rfl) dX3_readOpening_62
set_option maxHeartbeats 4000000 in
set_option maxRecDepth 100000 in
theorem c_elt_amount (l : Launch) (D : va_G) (cI cJ cC cZ cS : ClassId) (zk zv : Nat) (zf : Value) (q : Nat → Nat) (xa : Nat) (xv : Int32) (xo : Nat) (xt : Int32) (xz : Nat) (xf : Int32) (xp : Int32) (tl : Nat) (tb : Nat → Nat) (jd : Nat) (jm : Nat) (ju : Int32) (jr : Int32) (jn : Nat) (am : Nat) (fm : Nat → Int32) (og : Except Err Cur) (hxa : xa ≤ 1600) (hxz : xz ≤ 1600) (htl : tl ≤ 1600) (htb : ∀ j, tb j ≤ 255) (hjd1 : 1 ≤ jd) (hjd : jd ≤ 9) (hre : ¬ xt = -1 ∧ ¬ xt = -2) (hO : rdO tb tl og xa xv xt xz xf xp) : skMZ zk zv zf l yX3_readAmount cX3_readAmount 5 none 7 154 0 0 D (skT cI cJ cC cZ cS) [.ref (q 3), .ref (q 6), .ref am] [ro_rrr (q 3) 3 (q 2) (q 22) (q 23), ro_rnininii (q 2) 6 (q 0) xa xv xo xt xz xf xp, ro_rn (q 0) 10 (q 20) tl, ra_N (q 20) cI 1600 tb, ro_rrrrrnniin (q 6) 2 (q 24) (q 25) (q 26) (q 27) (q 28) jd jm ju jr jn, ra_I am cI 9 fm] (skV D (skT cI cJ cC cZ cS) (fun (u : va_W) => ∃ (xa2 : Nat), ∃ (xv2 : Int32), ∃ (xt2 : Int32), ∃ (xz2 : Nat), ∃ (xf2 : Int32), ∃ (xp2 : Int32), ∃ (fm2 : Nat → Int32), ∃ (dv : Nat), ∃ (mv : Nat), xa2 ≤ 1600 ∧ xz2 ≤ 1600 ∧ amV tb tl jd og dv mv ∧ fm2 = upd fm dv (nI mv) ∧ rdO tb tl (amO tb tl jd og) xa2 xv2 xt2 xz2 xf2 xp2 ∧ u = [ro_rrr (q 3) 3 (q 2) (q 22) (q 23), ro_rnininii (q 2) 6 (q 0) xa2 xv2 xo xt2 xz2 xf2 xp2, ro_rn (q 0) 10 (q 20) tl, ra_N (q 20) cI 1600 tb, ro_rrrrrnniin (q 6) 2 (q 24) (q 25) (q 26) (q 27) (q 28) jd jm ju jr jn, ra_I am cI 9 fm2])) := by
  refine skMZ_of pf_X3_readAmount (Nat.le_of_ble_eq_true rfl) ?_
  intro p e s m below meth c A ls E hP hD hZ hl
  refine skE_el E (fun hx hb hr hml hlocks hin hown hts hK hA => ?_)
  have hown : s.vm.findClass RX3 = some m.cls := hown
  have hS : va_S A s.heap s.heap [] := va_S.rf
  have hl : lv_has ls 5 [(0, .ref (q 3)), (1, .ref (q 6)), (2, .ref am)] := hl
  refine lv_aload_n hx hb dX3_readAmount_0 rfl (lv_at hl 0 rfl) ?_
  refine sk_get (v := .ref (q 2)) (C := RX3) (T := TX3) (N := 3) hx hb hts inlX3 hown hK hP 0 rfl rfl 0 (Nat.le_of_ble_eq_true rfl) w_1_107 rfl dX3_readAmount_1 ?_
  refine sk_VvZ (q0 := 0) (n := 0) (rest := []) (wr := fmR om_6_1c _) ⟨hx, hb, hml, hown, hts⟩ hl.1 (c_erd_step l D cI cJ cC cZ cS zk zv zf q xa xv xo xt xz xf xp tl tb (bindR og (beF tb tl)) hxa hxz htl htb (rd_st htb hO hre)) w_3_75 w_2_226 w_2_227 w_1_4 w_2_228 hd_X6_step_0 ⟨⟨(Nat.le_of_ble_eq_true rfl), (Nat.le_of_ble_eq_true rfl)⟩, (Nat.le_of_ble_eq_true rfl), (Nat.le_of_ble_eq_true rfl)⟩ hK hP hD hS hZ hA (fmT om_6_1c 0) (fmF om_6_1c 0) (fm_C1 rfl rfl) (fm_R rfl rfl) (fm_nT om_6_1c 0) (fm_nF om_6_1c 0) (fm_di om_6_1c 0) rfl rfl rfl rfl (Nat.le_of_ble_eq_true rfl) dX3_readAmount_4 (fun u H locs hw hP hD hS => ?_)
  refine exE hw (fun xa2_1 hw1 => exE hw1 (fun xv2_2 hw2 => exE hw2 (fun xt2_3 hw3 => exE hw3 (fun xz2_4 hw4 => anE hw4 (fun hxa2_5 hw5 => anE hw5 (fun hxz2_6 hw6 => anE hw6 (fun hO2_7 eu_8 => ?_)))))))
  clear hw hw1 hw2 hw3 hw4 hw5 hw6
  refine o_mgE (ws' := [ro_rrr (q 3) 3 (q 2) (q 22) (q 23), ro_rnininii (q 2) 6 (q 0) xa2_1 xv2_2 xo xt2_3 xz2_4 xf xp, ro_rn (q 0) 10 (q 20) tl, ra_N (q 20) cI 1600 tb, ro_rrrrrnniin (q 6) 2 (q 24) (q 25) (q 26) (q 27) (q 28) jd jm ju jr jn, ra_I am cI 9 fm]) eu_8 hP hD rfl (fun hP hD => ?_)
  rw [stF_nx] at hO2_7
  refine lv_aload_n hx hb dX3_readAmount_7 rfl (lv_at hl 0 rfl) ?_
  refine sk_get (v := .ref (q 2)) (C := RX3) (T := TX3) (N := 3) hx hb hts inlX3 hown hK hP 0 rfl rfl 0 (Nat.le_of_ble_eq_true rfl) w_1_107 rfl dX3_readAmount_8 ?_
  refine lv_iconst (v := 0) hx hb dX3_readAmount_11 ic_0 ?_
  refine lv_aload_n hx hb dX3_readAmount_12 rfl (lv_at hl 1 rfl) ?_
  refine sk_get (v := .int (nI jd)) (C := RX2) (T := TX2) (N := 10) hx hb hts inlX2 hown hK hP 4 rfl rfl 5 (Nat.le_of_ble_eq_true rfl) w_1_190 rfl dX3_readAmount_13 ?_
  refine lv_iconst (v := 1) hx hb dX3_readAmount_16 ic_1 ?_
  refine lv_isub hx hb dX3_readAmount_17 ?_
  refine sk_top (nI (jd - 1)) (nsub jd 1 (by omega)) ?_
  refine sk_ViZ (q0 := 0) (n := 2) (rest := []) (wr := fmR om_6_1c _) ⟨hx, hb, hml, hown, hts⟩ hl.1 (c_erd_takeNumber l D cI cJ cC cZ cS zk zv zf q xa2_1 xv2_2 xo xt2_3 xz2_4 xf xp tl tb 0 (jd - 1) (bindR og (nxF tb tl)) hxa2_5 hxz2_6 htl htb (by omega) (by omega) hO2_7) w_3_62 w_3_63 w_3_64 w_1_4 w_3_65 hd_X6_takeNumber_2 ⟨⟨(Nat.le_of_ble_eq_true rfl), (Nat.le_of_ble_eq_true rfl)⟩, (Nat.le_of_ble_eq_true rfl), (Nat.le_of_ble_eq_true rfl)⟩ hK hP hD hS hZ hA (fmT om_6_1c 0) (fmF om_6_1c 0) (fm_C1 rfl rfl) (fm_R rfl rfl) (fm_nT om_6_1c 0) (fm_nF om_6_1c 0) (fm_di om_6_1c 0) rfl rfl rfl rfl (Nat.le_of_ble_eq_true rfl) dX3_readAmount_18 (fun r_16 u H locs hw hP hD hS => ?_)
  refine exE hw (fun xa2_9 hw1 => exE hw1 (fun xv2_10 hw2 => exE hw2 (fun xt2_11 hw3 => exE hw3 (fun xz2_12 hw4 => exE hw4 (fun xf2_13 hw5 => exE hw5 (fun xp2_14 hw6 => exE hw6 (fun v_15 hw7 => anE hw7 (fun hxa2_17 hw8 => anE hw8 (fun hxz2_18 hw9 => anE hw9 (fun hv1_19 hw10 => anE hw10 (fun hv2_20 hw11 => anE hw11 (fun hnv_21 hw12 => anE hw12 (fun hO2_22 hw13 => anE hw13 (fun er_24 eu_23 => ?_))))))))))))))
  clear hw hw1 hw2 hw3 hw4 hw5 hw6 hw7 hw8 hw9 hw10 hw11 hw12 hw13
  subst er_24
  refine o_mgE (ws' := [ro_rrr (q 3) 3 (q 2) (q 22) (q 23), ro_rnininii (q 2) 6 (q 0) xa2_9 xv2_10 xo xt2_11 xz2_12 xf2_13 xp2_14, ro_rn (q 0) 10 (q 20) tl, ra_N (q 20) cI 1600 tb, ro_rrrrrnniin (q 6) 2 (q 24) (q 25) (q 26) (q 27) (q 28) jd jm ju jr jn, ra_I am cI 9 fm]) eu_23 hP hD rfl (fun hP hD => ?_)
  refine lv_istore_n (lv' := [(3, .int (nI v_15)), (0, .ref (q 3)), (1, .ref (q 6)), (2, .ref am)]) hx hb dX3_readAmount_21 rfl hl (by decide) rfl (fun ls hl => ?_)
  refine lv_aload_n hx hb dX3_readAmount_22 rfl (lv_at hl 1 rfl) ?_
  refine sk_get (v := .ref (q 2)) (C := RX3) (T := TX3) (N := 3) hx hb hts inlX3 hown hK hP 0 rfl rfl 0 (Nat.le_of_ble_eq_true rfl) w_1_107 rfl dX3_readAmount_23 ?_
  refine lv_iconst (v := 0) hx hb dX3_readAmount_26 ic_0 ?_
  refine lv_bipush (v := 9) hx hb dX3_readAmount_27 (by decide) ?_
  refine sk_ViZ (q0 := 0) (n := 2) (rest := []) (wr := fmR om_6_1c _) ⟨hx, hb, hml, hown, hts⟩ hl.1 (c_erd_takeNumber l D cI cJ cC cZ cS zk zv zf q xa2_9 xv2_10 xo xt2_11 xz2_12 xf2_13 xp2_14 tl tb 0 9 (bindR (bindR og (nxF tb tl)) (nmF tb tl 0 (jd - 1))) hxa2_17 hxz2_18 htl htb (by omega) (by omega) hO2_22) w_3_62 w_3_63 w_3_64 w_1_4 w_3_65 hd_X6_takeNumber_2 ⟨⟨(Nat.le_of_ble_eq_true rfl), (Nat.le_of_ble_eq_true rfl)⟩, (Nat.le_of_ble_eq_true rfl), (Nat.le_of_ble_eq_true rfl)⟩ hK hP hD hS hZ hA (fmT om_6_1c 0) (fmF om_6_1c 0) (fm_C1 rfl rfl) (fm_R rfl rfl) (fm_nT om_6_1c 0) (fm_nF om_6_1c 0) (fm_di om_6_1c 0) rfl rfl rfl rfl (Nat.le_of_ble_eq_true rfl) dX3_readAmount_29 (fun r_32 u H locs hw hP hD hS => ?_)
  refine exE hw (fun xa2_25 hw1 => exE hw1 (fun xv2_26 hw2 => exE hw2 (fun xt2_27 hw3 => exE hw3 (fun xz2_28 hw4 => exE hw4 (fun xf2_29 hw5 => exE hw5 (fun xp2_30 hw6 => exE hw6 (fun v_31 hw7 => anE hw7 (fun hxa2_33 hw8 => anE hw8 (fun hxz2_34 hw9 => anE hw9 (fun hv1_35 hw10 => anE hw10 (fun hv2_36 hw11 => anE hw11 (fun hnv_37 hw12 => anE hw12 (fun hO2_38 hw13 => anE hw13 (fun er_40 eu_39 => ?_))))))))))))))
  clear hw hw1 hw2 hw3 hw4 hw5 hw6 hw7 hw8 hw9 hw10 hw11 hw12 hw13
  subst er_40
  refine o_mgE (ws' := [ro_rrr (q 3) 3 (q 2) (q 22) (q 23), ro_rnininii (q 2) 6 (q 0) xa2_25 xv2_26 xo xt2_27 xz2_28 xf2_29 xp2_30, ro_rn (q 0) 10 (q 20) tl, ra_N (q 20) cI 1600 tb, ro_rrrrrnniin (q 6) 2 (q 24) (q 25) (q 26) (q 27) (q 28) jd jm ju jr jn, ra_I am cI 9 fm]) eu_39 hP hD rfl (fun hP hD => ?_)
  refine lv_istore (lv' := [(4, .int (nI v_31)), (3, .int (nI v_15)), (0, .ref (q 3)), (1, .ref (q 6)), (2, .ref am)]) hx hb dX3_readAmount_32 hl (by decide) rfl (fun ls hl => ?_)
  refine lv_iload_n hx hb dX3_readAmount_34 rfl (lv_at hl 1 rfl) ?_
  refine lv_aload_n hx hb dX3_readAmount_35 rfl (lv_at hl 4 rfl) ?_
  refine va_alen (v := 9) hx hb hK.1 hP 5 0 rfl rfl rfl dX3_readAmount_36 ?_
  refine lv_icmp_ge (tgt := 45) hx hb dX3_readAmount_37 (by decide) (fun c => absurd ((nle 9 v_15 (Nat.le_of_ble_eq_true rfl) (by omega)).mp c) (by omega)) (fun c_41 => ?_)
  refine lv_aload_n hx hb dX3_readAmount_40 rfl (lv_at hl 4 rfl) ?_
  refine lv_iload_n hx hb dX3_readAmount_41 rfl (lv_at hl 1 rfl) ?_
  refine lv_iload hx hb dX3_readAmount_42 (lv_at hl 0 rfl) ?_
  refine sk_iast (ws' := [ro_rrr (q 3) 3 (q 2) (q 22) (q 23), ro_rnininii (q 2) 6 (q 0) xa2_25 xv2_26 xo xt2_27 xz2_28 xf2_29 xp2_30, ro_rn (q 0) 10 (q 20) tl, ra_N (q 20) cI 1600 tb, ro_rrrrrnniin (q 6) 2 (q 24) (q 25) (q 26) (q 27) (q 28) jd jm ju jr jn, ra_I am cI 9 (upd fm v_15 (nI v_31))]) hx hb hK hP hD hS 5 0 rfl rfl (vin v_15 9 (by omega) (Nat.le_of_ble_eq_true rfl)) (by rw [nI_clamp (by omega)]; rfl) dX3_readAmount_44 (fun H locs hP hD hS => ?_)
  exact sk_vret hx hb hr hlocks hK hP hD hS (⟨xa2_25, xv2_26, xt2_27, xz2_28, xf2_29, xp2_30, upd fm v_15 (nI v_31), v_15, v_31, hxa2_33, hxz2_34, ⟨by omega, hnv_21, hnv_37⟩, rfl, hO2_38, rfl⟩) (Nat.le_of_ble_eq_true rfl) (Nat.le_of_ble_eq_true rfl) dX3_readAmount_45
set_option maxHeartbeats 4000000 in
set_option maxRecDepth 100000 in
theorem c_elt_mute (l : Launch) (D : va_G) (cI cJ cC cZ cS : ClassId) (zk zv : Nat) (zf : Value) (q : Nat → Nat) (xa : Nat) (xv : Int32) (xo : Nat) (xt : Int32) (xz : Nat) (xf : Int32) (xp : Int32) (tl : Nat) (tb : Nat → Nat) (jd : Nat) (jm : Nat) (ju : Int32) (jr : Int32) (jn : Nat) (mu : Nat → Bool) (og : Except Err Cur) (hxa : xa ≤ 1600) (hxz : xz ≤ 1600) (htl : tl ≤ 1600) (htb : ∀ j, tb j ≤ 255) (hjd1 : 1 ≤ jd) (hjd : jd ≤ 9) (hre : ¬ xt = -1 ∧ ¬ xt = -2) (hmu : muO mu ju) (hO : rdO tb tl og xa xv xt xz xf xp) : skMZ zk zv zf l yX3_readMute cX3_readMute 4 none 7 154 0 0 D (skT cI cJ cC cZ cS) [.ref (q 3), .ref (q 6)] [ro_rrr (q 3) 3 (q 2) (q 22) (q 23), ro_rnininii (q 2) 6 (q 0) xa xv xo xt xz xf xp, ro_rn (q 0) 10 (q 20) tl, ra_N (q 20) cI 1600 tb, ro_rrrrrnniin (q 6) 2 (q 24) (q 25) (q 26) (q 27) (q 28) jd jm ju jr jn] (skV D (skT cI cJ cC cZ cS) (fun (u : va_W) => ∃ (xa2 : Nat), ∃ (xv2 : Int32), ∃ (xt2 : Int32), ∃ (xz2 : Nat), ∃ (xf2 : Int32), ∃ (xp2 : Int32), ∃ (ju2 : Int32), ∃ (dv : Nat), ∃ (w : Nat), xa2 ≤ 1600 ∧ xz2 ≤ 1600 ∧ mtV tb tl jd og dv w ∧ muO (updG mu dv true) ju2 ∧ rdO tb tl (mtO tb tl jd mu dv w og) xa2 xv2 xt2 xz2 xf2 xp2 ∧ u = [ro_rrr (q 3) 3 (q 2) (q 22) (q 23), ro_rnininii (q 2) 6 (q 0) xa2 xv2 xo xt2 xz2 xf2 xp2, ro_rn (q 0) 10 (q 20) tl, ra_N (q 20) cI 1600 tb, ro_rrrrrnniin (q 6) 2 (q 24) (q 25) (q 26) (q 27) (q 28) jd jm ju2 jr jn])) := by
  refine skMZ_of pf_X3_readMute (Nat.le_of_ble_eq_true rfl) ?_
  intro p e s m below meth c A ls E hP hD hZ hl
  refine skE_el E (fun hx hb hr hml hlocks hin hown hts hK hA => ?_)
  have hown : s.vm.findClass RX3 = some m.cls := hown
  have hS : va_S A s.heap s.heap [] := va_S.rf
  have hl : lv_has ls 4 [(0, .ref (q 3)), (1, .ref (q 6))] := hl
  refine lv_aload_n hx hb dX3_readMute_0 rfl (lv_at hl 0 rfl) ?_
  refine sk_get (v := .ref (q 2)) (C := RX3) (T := TX3) (N := 3) hx hb hts inlX3 hown hK hP 0 rfl rfl 0 (Nat.le_of_ble_eq_true rfl) w_1_107 rfl dX3_readMute_1 ?_
  refine sk_VvZ (q0 := 0) (n := 0) (rest := []) (wr := fmR om_5_e _) ⟨hx, hb, hml, hown, hts⟩ hl.1 (c_erd_step l D cI cJ cC cZ cS zk zv zf q xa xv xo xt xz xf xp tl tb (bindR og (beF tb tl)) hxa hxz htl htb (rd_st htb hO hre)) w_3_75 w_2_226 w_2_227 w_1_4 w_2_228 hd_X6_step_0 ⟨⟨(Nat.le_of_ble_eq_true rfl), (Nat.le_of_ble_eq_true rfl)⟩, (Nat.le_of_ble_eq_true rfl), (Nat.le_of_ble_eq_true rfl)⟩ hK hP hD hS hZ hA (fmT om_5_e 0) (fmF om_5_e 0) (fm_C1 rfl rfl) (fm_R rfl rfl) (fm_nT om_5_e 0) (fm_nF om_5_e 0) (fm_di om_5_e 0) rfl rfl rfl rfl (Nat.le_of_ble_eq_true rfl) dX3_readMute_4 (fun u H locs hw hP hD hS => ?_)
  refine exE hw (fun xa2_1 hw1 => exE hw1 (fun xv2_2 hw2 => exE hw2 (fun xt2_3 hw3 => exE hw3 (fun xz2_4 hw4 => anE hw4 (fun hxa2_5 hw5 => anE hw5 (fun hxz2_6 hw6 => anE hw6 (fun hO2_7 eu_8 => ?_)))))))
  clear hw hw1 hw2 hw3 hw4 hw5 hw6
  refine o_mgE (ws' := [ro_rrr (q 3) 3 (q 2) (q 22) (q 23), ro_rnininii (q 2) 6 (q 0) xa2_1 xv2_2 xo xt2_3 xz2_4 xf xp, ro_rn (q 0) 10 (q 20) tl, ra_N (q 20) cI 1600 tb, ro_rrrrrnniin (q 6) 2 (q 24) (q 25) (q 26) (q 27) (q 28) jd jm ju jr jn]) eu_8 hP hD rfl (fun hP hD => ?_)
  rw [stF_nx] at hO2_7
  refine lv_aload_n hx hb dX3_readMute_7 rfl (lv_at hl 0 rfl) ?_
  refine sk_get (v := .ref (q 2)) (C := RX3) (T := TX3) (N := 3) hx hb hts inlX3 hown hK hP 0 rfl rfl 0 (Nat.le_of_ble_eq_true rfl) w_1_107 rfl dX3_readMute_8 ?_
  refine sk_get (v := .int (nI xz2_4)) (C := RX6) (T := TX6) (N := 8) hx hb hts inlX6 hown hK hP 1 rfl rfl 5 (Nat.le_of_ble_eq_true rfl) w_1_65 rfl dX3_readMute_11 ?_
  refine lv_istore_n (lv' := [(2, .int (nI xz2_4)), (0, .ref (q 3)), (1, .ref (q 6))]) hx hb dX3_readMute_14 rfl hl (by decide) rfl (fun ls hl => ?_)
  refine lv_aload_n hx hb dX3_readMute_15 rfl (lv_at hl 1 rfl) ?_
  refine sk_get (v := .ref (q 2)) (C := RX3) (T := TX3) (N := 3) hx hb hts inlX3 hown hK hP 0 rfl rfl 0 (Nat.le_of_ble_eq_true rfl) w_1_107 rfl dX3_readMute_16 ?_
  refine lv_iconst (v := 0) hx hb dX3_readMute_19 ic_0 ?_
  refine lv_aload_n hx hb dX3_readMute_20 rfl (lv_at hl 2 rfl) ?_
  refine sk_get (v := .int (nI jd)) (C := RX2) (T := TX2) (N := 10) hx hb hts inlX2 hown hK hP 4 rfl rfl 5 (Nat.le_of_ble_eq_true rfl) w_1_190 rfl dX3_readMute_21 ?_
  refine lv_iconst (v := 1) hx hb dX3_readMute_24 ic_1 ?_
  refine lv_isub hx hb dX3_readMute_25 ?_
  refine sk_top (nI (jd - 1)) (nsub jd 1 (by omega)) ?_
  refine sk_ViZ (q0 := 0) (n := 2) (rest := []) (wr := fmR om_5_e _) ⟨hx, hb, hml, hown, hts⟩ hl.1 (c_erd_takeNumber l D cI cJ cC cZ cS zk zv zf q xa2_1 xv2_2 xo xt2_3 xz2_4 xf xp tl tb 0 (jd - 1) (bindR og (nxF tb tl)) hxa2_5 hxz2_6 htl htb (by omega) (by omega) hO2_7) w_3_62 w_3_63 w_3_64 w_1_4 w_3_65 hd_X6_takeNumber_2 ⟨⟨(Nat.le_of_ble_eq_true rfl), (Nat.le_of_ble_eq_true rfl)⟩, (Nat.le_of_ble_eq_true rfl), (Nat.le_of_ble_eq_true rfl)⟩ hK hP hD hS hZ hA (fmT om_5_e 0) (fmF om_5_e 0) (fm_C1 rfl rfl) (fm_R rfl rfl) (fm_nT om_5_e 0) (fm_nF om_5_e 0) (fm_di om_5_e 0) rfl rfl rfl rfl (Nat.le_of_ble_eq_true rfl) dX3_readMute_26 (fun r_16 u H locs hw hP hD hS => ?_)
  refine exE hw (fun xa2_9 hw1 => exE hw1 (fun xv2_10 hw2 => exE hw2 (fun xt2_11 hw3 => exE hw3 (fun xz2_12 hw4 => exE hw4 (fun xf2_13 hw5 => exE hw5 (fun xp2_14 hw6 => exE hw6 (fun v_15 hw7 => anE hw7 (fun hxa2_17 hw8 => anE hw8 (fun hxz2_18 hw9 => anE hw9 (fun hv1_19 hw10 => anE hw10 (fun hv2_20 hw11 => anE hw11 (fun hnv_21 hw12 => anE hw12 (fun hO2_22 hw13 => anE hw13 (fun er_24 eu_23 => ?_))))))))))))))
  clear hw hw1 hw2 hw3 hw4 hw5 hw6 hw7 hw8 hw9 hw10 hw11 hw12 hw13
  subst er_24
  refine o_mgE (ws' := [ro_rrr (q 3) 3 (q 2) (q 22) (q 23), ro_rnininii (q 2) 6 (q 0) xa2_9 xv2_10 xo xt2_11 xz2_12 xf2_13 xp2_14, ro_rn (q 0) 10 (q 20) tl, ra_N (q 20) cI 1600 tb, ro_rrrrrnniin (q 6) 2 (q 24) (q 25) (q 26) (q 27) (q 28) jd jm ju jr jn]) eu_23 hP hD rfl (fun hP hD => ?_)
  refine lv_istore_n (lv' := [(3, .int (nI v_15)), (2, .int (nI xz2_4)), (0, .ref (q 3)), (1, .ref (q 6))]) hx hb dX3_readMute_29 rfl hl (by decide) rfl (fun ls hl => ?_)
  refine lv_aload_n hx hb dX3_readMute_30 rfl (lv_at hl 2 rfl) ?_
  refine sk_get (v := .ref (q 2)) (C := RX3) (T := TX3) (N := 3) hx hb hts inlX3 hown hK hP 0 rfl rfl 0 (Nat.le_of_ble_eq_true rfl) w_1_107 rfl dX3_readMute_31 ?_
  refine sk_get (v := .int xf2_13) (C := RX6) (T := TX6) (N := 8) hx hb hts inlX6 hown hK hP 1 rfl rfl 6 (Nat.le_of_ble_eq_true rfl) w_1_67 rfl dX3_readMute_34 ?_
  refine lv_if_ne (tgt := 61) hx hb dX3_readMute_37 (by decide) (fun c_25 => ?_) (fun c_25 => ?_)
  · skip
    refine lv_aload_n hx hb dX3_readMute_61 rfl (lv_at hl 3 rfl) ?_
    refine lv_dup hx hb dX3_readMute_62 rfl ?_
    refine sk_get (v := .int ju) (C := RX2) (T := TX2) (N := 10) hx hb hts inlX2 hown hK hP 4 rfl rfl 7 (Nat.le_of_ble_eq_true rfl) w_1_196 rfl dX3_readMute_63 ?_
    refine lv_iconst (v := 1) hx hb dX3_readMute_66 ic_1 ?_
    refine lv_iload_n hx hb dX3_readMute_67 rfl (lv_at hl 0 rfl) ?_
    refine lv_ishl hx hb dX3_readMute_68 ?_
    refine lv_ior hx hb dX3_readMute_69 ?_
    refine sk_put (ws' := [ro_rrr (q 3) 3 (q 2) (q 22) (q 23), ro_rnininii (q 2) 6 (q 0) xa2_9 xv2_10 xo xt2_11 xz2_12 xf2_13 xp2_14, ro_rn (q 0) 10 (q 20) tl, ra_N (q 20) cI 1600 tb, ro_rrrrrnniin (q 6) 2 (q 24) (q 25) (q 26) (q 27) (q 28) jd jm (ju ||| (1 <<< (nI v_15 &&& 31))) jr jn]) (C := RX2) (T := TX2) (N := 10) (v := .int (ju ||| (1 <<< (nI v_15 &&& 31)))) hx hb hts inlX2 tyX2 tyX2_ok nmX2 hown hK hP hD hS 4 rfl rfl 7 (Nat.le_of_ble_eq_true rfl) w_1_196 rfl rfl rfl (Nat.le_of_ble_eq_true rfl) rfl dX3_readMute_70 (fun H locs hP hD hS => ?_)
    exact sk_vret hx hb hr hlocks hK hP hD hS (⟨xa2_9, xv2_10, xt2_11, xz2_12, xf2_13, xp2_14, (ju ||| (1 <<< (nI v_15 &&& 31))), v_15, xz2_4, hxa2_17, hxz2_18, ⟨by omega, hnv_21, mt_w hO2_7⟩, muO_or hmu (by omega), mt_er (mu := mu) (dv := v_15) (w := xz2_4) hO2_22 c_25, rfl⟩) (Nat.le_of_ble_eq_true rfl) (Nat.le_of_ble_eq_true rfl) dX3_readMute_73
  · skip
    refine lv_aload_n hx hb dX3_readMute_40 rfl (lv_at hl 3 rfl) ?_
    refine sk_get (v := .int ju) (C := RX2) (T := TX2) (N := 10) hx hb hts inlX2 hown hK hP 4 rfl rfl 7 (Nat.le_of_ble_eq_true rfl) w_1_196 rfl dX3_readMute_41 ?_
    refine lv_iload_n hx hb dX3_readMute_44 rfl (lv_at hl 0 rfl) ?_
    refine lv_ishr hx hb dX3_readMute_45 ?_
    refine lv_iconst (v := 1) hx hb dX3_readMute_46 ic_1 ?_
    refine lv_iand hx hb dX3_readMute_47 ?_
    refine lv_iconst (v := 1) hx hb dX3_readMute_48 ic_1 ?_
    refine lv_icmp_ne (tgt := 61) hx hb dX3_readMute_49 (by decide) (fun c_26 => ?_) (fun c_26 => ?_)
    · skip
      refine lv_aload_n hx hb dX3_readMute_61 rfl (lv_at hl 3 rfl) ?_
      refine lv_dup hx hb dX3_readMute_62 rfl ?_
      refine sk_get (v := .int ju) (C := RX2) (T := TX2) (N := 10) hx hb hts inlX2 hown hK hP 4 rfl rfl 7 (Nat.le_of_ble_eq_true rfl) w_1_196 rfl dX3_readMute_63 ?_
      refine lv_iconst (v := 1) hx hb dX3_readMute_66 ic_1 ?_
      refine lv_iload_n hx hb dX3_readMute_67 rfl (lv_at hl 0 rfl) ?_
      refine lv_ishl hx hb dX3_readMute_68 ?_
      refine lv_ior hx hb dX3_readMute_69 ?_
      refine sk_put (ws' := [ro_rrr (q 3) 3 (q 2) (q 22) (q 23), ro_rnininii (q 2) 6 (q 0) xa2_9 xv2_10 xo xt2_11 xz2_12 xf2_13 xp2_14, ro_rn (q 0) 10 (q 20) tl, ra_N (q 20) cI 1600 tb, ro_rrrrrnniin (q 6) 2 (q 24) (q 25) (q 26) (q 27) (q 28) jd jm (ju ||| (1 <<< (nI v_15 &&& 31))) jr jn]) (C := RX2) (T := TX2) (N := 10) (v := .int (ju ||| (1 <<< (nI v_15 &&& 31)))) hx hb hts inlX2 tyX2 tyX2_ok nmX2 hown hK hP hD hS 4 rfl rfl 7 (Nat.le_of_ble_eq_true rfl) w_1_196 rfl rfl rfl (Nat.le_of_ble_eq_true rfl) rfl dX3_readMute_70 (fun H locs hP hD hS => ?_)
      exact sk_vret hx hb hr hlocks hK hP hD hS (⟨xa2_9, xv2_10, xt2_11, xz2_12, xf2_13, xp2_14, (ju ||| (1 <<< (nI v_15 &&& 31))), v_15, xz2_4, hxa2_17, hxz2_18, ⟨by omega, hnv_21, mt_w hO2_7⟩, muO_or hmu (by omega), mt_no (fun hq => c_26 ((muO_bit hmu (by omega)).mpr hq)) hO2_22, rfl⟩) (Nat.le_of_ble_eq_true rfl) (Nat.le_of_ble_eq_true rfl) dX3_readMute_73
    · skip
      refine lv_aload_n hx hb dX3_readMute_52 rfl (lv_at hl 2 rfl) ?_
      refine sk_get (v := .ref (q 2)) (C := RX3) (T := TX3) (N := 3) hx hb hts inlX3 hown hK hP 0 rfl rfl 0 (Nat.le_of_ble_eq_true rfl) w_1_107 rfl dX3_readMute_53 ?_
      refine lv_iconst (v := 2) hx hb dX3_readMute_56 ic_2 ?_
      refine lv_iload_n hx hb dX3_readMute_57 rfl (lv_at hl 1 rfl) ?_
      refine sk_Vv (q0 := 0) (n := 2) (rest := []) (wr := fmR om_5_8 _) ⟨hx, hb, hml, hown, hts⟩ hl.1 (c_erd_fail l D cI cJ cC cZ cS q xa2_9 xv2_10 xo xt2_11 xz2_12 xf2_13 xp2_14 tl tb 2 xz2_4 (bindR (bindR og (nxF tb tl)) (nmF tb tl 0 (jd - 1))) (by omega) (by omega) (by omega) hO2_22) w_3_74 w_3_59 w_3_60 w_1_4 w_3_61 hd_X6_fail_2 ⟨⟨(Nat.le_of_ble_eq_true rfl), (Nat.le_of_ble_eq_true rfl)⟩, (Nat.le_of_ble_eq_true rfl), (Nat.le_of_ble_eq_true rfl)⟩ hK hP hD hS hA (fmT om_5_8 0) (fmF om_5_8 0) (fm_C1 rfl rfl) (fm_R rfl rfl) (fm_nT om_5_8 0) (fm_nF om_5_8 0) (fm_di om_5_8 0) rfl rfl rfl rfl (Nat.le_of_ble_eq_true rfl) dX3_readMute_58 (fun u H locs hw hP hD hS => ?_)
      refine exE hw (fun xf2_27 hw1 => exE hw1 (fun xp2_28 hw2 => anE hw2 (fun hO2_29 eu_30 => ?_)))
      clear hw hw1 hw2
      refine o_mgE (ws' := [ro_rrr (q 3) 3 (q 2) (q 22) (q 23), ro_rnininii (q 2) 6 (q 0) xa2_9 xv2_10 xo (-2) xz2_12 xf2_27 xp2_28, ro_rn (q 0) 10 (q 20) tl, ra_N (q 20) cI 1600 tb, ro_rrrrrnniin (q 6) 2 (q 24) (q 25) (q 26) (q 27) (q 28) jd jm ju jr jn]) eu_30 hP hD rfl (fun hP hD => ?_)
      refine lv_aload_n hx hb dX3_readMute_61 rfl (lv_at hl 3 rfl) ?_
      refine lv_dup hx hb dX3_readMute_62 rfl ?_
      refine sk_get (v := .int ju) (C := RX2) (T := TX2) (N := 10) hx hb hts inlX2 hown hK hP 4 rfl rfl 7 (Nat.le_of_ble_eq_true rfl) w_1_196 rfl dX3_readMute_63 ?_
      refine lv_iconst (v := 1) hx hb dX3_readMute_66 ic_1 ?_
      refine lv_iload_n hx hb dX3_readMute_67 rfl (lv_at hl 0 rfl) ?_
      refine lv_ishl hx hb dX3_readMute_68 ?_
      refine lv_ior hx hb dX3_readMute_69 ?_
      refine sk_put (ws' := [ro_rrr (q 3) 3 (q 2) (q 22) (q 23), ro_rnininii (q 2) 6 (q 0) xa2_9 xv2_10 xo (-2) xz2_12 xf2_27 xp2_28, ro_rn (q 0) 10 (q 20) tl, ra_N (q 20) cI 1600 tb, ro_rrrrrnniin (q 6) 2 (q 24) (q 25) (q 26) (q 27) (q 28) jd jm (ju ||| (1 <<< (nI v_15 &&& 31))) jr jn]) (C := RX2) (T := TX2) (N := 10) (v := .int (ju ||| (1 <<< (nI v_15 &&& 31)))) hx hb hts inlX2 tyX2 tyX2_ok nmX2 hown hK hP hD hS 4 rfl rfl 7 (Nat.le_of_ble_eq_true rfl) w_1_196 rfl rfl rfl (Nat.le_of_ble_eq_true rfl) rfl dX3_readMute_70 (fun H locs hP hD hS => ?_)
      exact sk_vret hx hb hr hlocks hK hP hD hS (⟨xa2_9, xv2_10, (-2), xz2_12, xf2_27, xp2_28, (ju ||| (1 <<< (nI v_15 &&& 31))), v_15, xz2_4, hxa2_17, hxz2_18, ⟨by omega, hnv_21, mt_w hO2_7⟩, muO_or hmu (by omega), mt_yes ((muO_bit hmu (by omega)).mp c_26) hO2_29, rfl⟩) (Nat.le_of_ble_eq_true rfl) (Nat.le_of_ble_eq_true rfl) dX3_readMute_73
set_option maxHeartbeats 4000000 in
set_option maxRecDepth 100000 in
theorem c_elt_numbers (l : Launch) (D : va_G) (cI cJ cC cZ cS : ClassId) (zk zv : Nat) (zf : Value) (q : Nat → Nat) (xa : Nat) (xv : Int32) (xo : Nat) (xt : Int32) (xz : Nat) (xf : Int32) (xp : Int32) (tl : Nat) (tb : Nat → Nat) (jd : Nat) (jm : Nat) (ju : Int32) (jr : Int32) (jn : Nat) (jb : Nat → Int32) (jw : Nat → Int32) (mu : Nat → Bool) (og : Except Err Cur) (hxa : xa ≤ 1600) (hxz : xz ≤ 1600) (htl : tl ≤ 1600) (htb : ∀ j, tb j ≤ 255) (hjd1 : 1 ≤ jd) (hjd : jd ≤ 9) (hmu : muO mu ju) (hO : rdO tb tl og xa xv xt xz xf xp) : skMZ zk zv zf l yX3_readNumbers cX3_readNumbers 2 none 8 178 0 0 D (skT cI cJ cC cZ cS) [.ref (q 3), .ref (q 6)] [ro_rrr (q 3) 3 (q 2) (q 22) (q 23), ro_rnininii (q 2) 6 (q 0) xa xv xo xt xz xf xp, ro_rn (q 0) 10 (q 20) tl, ra_N (q 20) cI 1600 tb, ro_rrrrrnniin (q 6) 2 (q 24) (q 25) (q 26) (q 27) (q 28) jd jm ju jr jn, ra_I (q 25) cI 9 jb, ra_I (q 26) cI 9 jw] (skV D (skT cI cJ cC cZ cS) (fun (u : va_W) => ∃ (xa2 : Nat), ∃ (xv2 : Int32), ∃ (xt2 : Int32), ∃ (xz2 : Nat), ∃ (xf2 : Int32), ∃ (xp2 : Int32), ∃ (ju2 : Int32), ∃ (jr2 : Int32), ∃ (jb2 : Nat → Int32), ∃ (jw2 : Nat → Int32), xa2 ≤ 1600 ∧ xz2 ≤ 1600 ∧ nbO tb tl jd mu og xt xa2 xv2 xt2 xz2 xf2 xp2 ju ju2 jr jr2 jb jb2 jw jw2 ∧ u = [ro_rrr (q 3) 3 (q 2) (q 22) (q 23), ro_rnininii (q 2) 6 (q 0) xa2 xv2 xo xt2 xz2 xf2 xp2, ro_rn (q 0) 10 (q 20) tl, ra_N (q 20) cI 1600 tb, ro_rrrrrnniin (q 6) 2 (q 24) (q 25) (q 26) (q 27) (q 28) jd jm ju2 jr2 jn, ra_I (q 25) cI 9 jb2, ra_I (q 26) cI 9 jw2])) := by
  refine skMZ_of pf_X3_readNumbers (Nat.le_of_ble_eq_true rfl) ?_
  intro p e s m below meth c A ls E hP hD hZ hl
  refine skE_el E (fun hx hb hr hml hlocks hin hown hts hK hA => ?_)
  have hown : s.vm.findClass RX3 = some m.cls := hown
  have hS : va_S A s.heap s.heap [] := va_S.rf
  have hl : lv_has ls 2 [(0, .ref (q 3)), (1, .ref (q 6))] := hl
  refine lv_aload_n hx hb dX3_readNumbers_0 rfl (lv_at hl 0 rfl) ?_
  refine sk_get (v := .ref (q 2)) (C := RX3) (T := TX3) (N := 3) hx hb hts inlX3 hown hK hP 0 rfl rfl 0 (Nat.le_of_ble_eq_true rfl) w_1_107 rfl dX3_readNumbers_1 ?_
  refine sk_get (v := .int xt) (C := RX6) (T := TX6) (N := 8) hx hb hts inlX6 hown hK hP 1 rfl rfl 4 (Nat.le_of_ble_eq_true rfl) w_1_62 rfl dX3_readNumbers_4 ?_
  by_cases g_1 : xt = 258
  · refine lv_tableIn (off := 41) (tgt := 48) hx hb dX3_readNumbers_7 (by rw [g_1]; decide) (by rw [g_1]; decide) (by rw [g_1]; rfl) (by decide) ?_
    refine lv_aload_n hx hb dX3_readNumbers_48 rfl (lv_at hl 0 rfl) ?_
    refine lv_aload_n hx hb dX3_readNumbers_49 rfl (lv_at hl 1 rfl) ?_
    refine lv_aload_n hx hb dX3_readNumbers_50 rfl (lv_at hl 1 rfl) ?_
    refine sk_get (v := .ref (q 25)) (C := RX2) (T := TX2) (N := 10) hx hb hts inlX2 hown hK hP 4 rfl rfl 1 (Nat.le_of_ble_eq_true rfl) w_1_180 rfl dX3_readNumbers_51 ?_
    refine sk_VvZ (q0 := 0) (n := 2) (rest := []) (wr := fmR om_7_7e _) ⟨hx, hb, hml, hown, hts⟩ hl.1 (c_elt_amount l D cI cJ cC cZ cS zk zv zf q xa xv xo xt xz xf xp tl tb jd jm ju jr jn (q 25) jb og hxa hxz htl htb hjd1 hjd ⟨by rw [g_1]; decide, by rw [g_1]; decide⟩ hO) w_3_131 w_3_133 w_0_12 w_1_5 w_3_134 hd_X3_readAmount_2 ⟨⟨(Nat.le_of_ble_eq_true rfl), (Nat.le_of_ble_eq_true rfl)⟩, (Nat.le_of_ble_eq_true rfl), (Nat.le_of_ble_eq_true rfl)⟩ hK hP hD hS hZ hA (fmT om_7_7e 0) (fmF om_7_7e 0) (fm_C1 rfl rfl) (fm_R rfl rfl) (fm_nT om_7_7e 0) (fm_nF om_7_7e 0) (fm_di om_7_7e 0) rfl rfl rfl rfl (Nat.le_of_ble_eq_true rfl) dX3_readNumbers_54 (fun u H locs hw hP hD hS => ?_)
    refine exE hw (fun xa2_2 hw1 => exE hw1 (fun xv2_3 hw2 => exE hw2 (fun xt2_4 hw3 => exE hw3 (fun xz2_5 hw4 => exE hw4 (fun xf2_6 hw5 => exE hw5 (fun xp2_7 hw6 => exE hw6 (fun fm2_8 hw7 => exE hw7 (fun dv_9 hw8 => exE hw8 (fun mv_10 hw9 => anE hw9 (fun hxa2_11 hw10 => anE hw10 (fun hxz2_12 hw11 => anE hw11 (fun ham_13 hw12 => anE hw12 (fun hfm_14 hw13 => anE hw13 (fun hO2_15 eu_16 => ?_))))))))))))))
    clear hw hw1 hw2 hw3 hw4 hw5 hw6 hw7 hw8 hw9 hw10 hw11 hw12 hw13
    refine o_mgE (ws' := [ro_rrr (q 3) 3 (q 2) (q 22) (q 23), ro_rnininii (q 2) 6 (q 0) xa2_2 xv2_3 xo xt2_4 xz2_5 xf2_6 xp2_7, ro_rn (q 0) 10 (q 20) tl, ra_N (q 20) cI 1600 tb, ro_rrrrrnniin (q 6) 2 (q 24) (q 25) (q 26) (q 27) (q 28) jd jm ju jr jn, ra_I (q 25) cI 9 fm2_8, ra_I (q 26) cI 9 jw]) eu_16 hP hD rfl (fun hP hD => ?_)
    refine lv_goto (tgt := 111) hx hb dX3_readNumbers_57 (by decide) ?_
    exact sk_vret hx hb hr hlocks hK hP hD hS (⟨xa2_2, xv2_3, xt2_4, xz2_5, xf2_6, xp2_7, ju, jr, fm2_8, jw, hxa2_11, hxz2_12, Or.inl ⟨g_1, dv_9, mv_10, ham_13, hO2_15, hfm_14, rfl, rfl, rfl⟩, rfl⟩) (Nat.le_of_ble_eq_true rfl) (Nat.le_of_ble_eq_true rfl) dX3_readNumbers_111
  by_cases g_17 : xt = 259
  · refine lv_tableIn (off := 53) (tgt := 60) hx hb dX3_readNumbers_7 (by rw [g_17]; decide) (by rw [g_17]; decide) (by rw [g_17]; rfl) (by decide) ?_
    refine lv_aload_n hx hb dX3_readNumbers_60 rfl (lv_at hl 0 rfl) ?_
    refine lv_aload_n hx hb dX3_readNumbers_61 rfl (lv_at hl 1 rfl) ?_
    refine lv_aload_n hx hb dX3_readNumbers_62 rfl (lv_at hl 1 rfl) ?_
    refine sk_get (v := .ref (q 26)) (C := RX2) (T := TX2) (N := 10) hx hb hts inlX2 hown hK hP 4 rfl rfl 2 (Nat.le_of_ble_eq_true rfl) w_1_183 rfl dX3_readNumbers_63 ?_
    refine sk_VvZ (q0 := 0) (n := 2) (rest := []) (wr := fmR om_7_7d _) ⟨hx, hb, hml, hown, hts⟩ hl.1 (c_elt_amount l D cI cJ cC cZ cS zk zv zf q xa xv xo xt xz xf xp tl tb jd jm ju jr jn (q 26) jw og hxa hxz htl htb hjd1 hjd ⟨by rw [g_17]; decide, by rw [g_17]; decide⟩ hO) w_3_131 w_3_133 w_0_12 w_1_5 w_3_134 hd_X3_readAmount_2 ⟨⟨(Nat.le_of_ble_eq_true rfl), (Nat.le_of_ble_eq_true rfl)⟩, (Nat.le_of_ble_eq_true rfl), (Nat.le_of_ble_eq_true rfl)⟩ hK hP hD hS hZ hA (fmT om_7_7d 0) (fmF om_7_7d 0) (fm_C1 rfl rfl) (fm_R rfl rfl) (fm_nT om_7_7d 0) (fm_nF om_7_7d 0) (fm_di om_7_7d 0) rfl rfl rfl rfl (Nat.le_of_ble_eq_true rfl) dX3_readNumbers_66 (fun u H locs hw hP hD hS => ?_)
    refine exE hw (fun xa2_18 hw1 => exE hw1 (fun xv2_19 hw2 => exE hw2 (fun xt2_20 hw3 => exE hw3 (fun xz2_21 hw4 => exE hw4 (fun xf2_22 hw5 => exE hw5 (fun xp2_23 hw6 => exE hw6 (fun fm2_24 hw7 => exE hw7 (fun dv_25 hw8 => exE hw8 (fun mv_26 hw9 => anE hw9 (fun hxa2_27 hw10 => anE hw10 (fun hxz2_28 hw11 => anE hw11 (fun ham_29 hw12 => anE hw12 (fun hfm_30 hw13 => anE hw13 (fun hO2_31 eu_32 => ?_))))))))))))))
    clear hw hw1 hw2 hw3 hw4 hw5 hw6 hw7 hw8 hw9 hw10 hw11 hw12 hw13
    refine o_mgE (ws' := [ro_rrr (q 3) 3 (q 2) (q 22) (q 23), ro_rnininii (q 2) 6 (q 0) xa2_18 xv2_19 xo xt2_20 xz2_21 xf2_22 xp2_23, ro_rn (q 0) 10 (q 20) tl, ra_N (q 20) cI 1600 tb, ro_rrrrrnniin (q 6) 2 (q 24) (q 25) (q 26) (q 27) (q 28) jd jm ju jr jn, ra_I (q 25) cI 9 jb, ra_I (q 26) cI 9 fm2_24]) eu_32 hP hD rfl (fun hP hD => ?_)
    refine lv_goto (tgt := 111) hx hb dX3_readNumbers_69 (by decide) ?_
    exact sk_vret hx hb hr hlocks hK hP hD hS (⟨xa2_18, xv2_19, xt2_20, xz2_21, xf2_22, xp2_23, ju, jr, jb, fm2_24, hxa2_27, hxz2_28, Or.inr (Or.inl ⟨g_17, dv_25, mv_26, ham_29, hO2_31, hfm_30, rfl, rfl, rfl⟩), rfl⟩) (Nat.le_of_ble_eq_true rfl) (Nat.le_of_ble_eq_true rfl) dX3_readNumbers_111
  by_cases g_33 : xt = 260
  · refine lv_tableIn (off := 65) (tgt := 72) hx hb dX3_readNumbers_7 (by rw [g_33]; decide) (by rw [g_33]; decide) (by rw [g_33]; rfl) (by decide) ?_
    refine lv_aload_n hx hb dX3_readNumbers_72 rfl (lv_at hl 0 rfl) ?_
    refine lv_aload_n hx hb dX3_readNumbers_73 rfl (lv_at hl 1 rfl) ?_
    refine sk_VvZ (q0 := 0) (n := 1) (rest := []) (wr := fmR om_7_7c _) ⟨hx, hb, hml, hown, hts⟩ hl.1 (c_elt_mute l D cI cJ cC cZ cS zk zv zf q xa xv xo xt xz xf xp tl tb jd jm ju jr jn mu og hxa hxz htl htb hjd1 hjd ⟨by rw [g_33]; decide, by rw [g_33]; decide⟩ hmu hO) w_3_135 w_3_137 w_0_13 w_1_5 w_3_138 hd_X3_readMute_1 ⟨⟨(Nat.le_of_ble_eq_true rfl), (Nat.le_of_ble_eq_true rfl)⟩, (Nat.le_of_ble_eq_true rfl), (Nat.le_of_ble_eq_true rfl)⟩ hK hP hD hS hZ hA (fmT om_7_7c 0) (fmF om_7_7c 0) (fm_C1 rfl rfl) (fm_R rfl rfl) (fm_nT om_7_7c 0) (fm_nF om_7_7c 0) (fm_di om_7_7c 0) rfl rfl rfl rfl (Nat.le_of_ble_eq_true rfl) dX3_readNumbers_74 (fun u H locs hw hP hD hS => ?_)
    refine exE hw (fun xa2_34 hw1 => exE hw1 (fun xv2_35 hw2 => exE hw2 (fun xt2_36 hw3 => exE hw3 (fun xz2_37 hw4 => exE hw4 (fun xf2_38 hw5 => exE hw5 (fun xp2_39 hw6 => exE hw6 (fun ju2_40 hw7 => exE hw7 (fun dv_41 hw8 => exE hw8 (fun w_42 hw9 => anE hw9 (fun hxa2_43 hw10 => anE hw10 (fun hxz2_44 hw11 => anE hw11 (fun hmv_45 hw12 => anE hw12 (fun hmu2_46 hw13 => anE hw13 (fun hO2_47 eu_48 => ?_))))))))))))))
    clear hw hw1 hw2 hw3 hw4 hw5 hw6 hw7 hw8 hw9 hw10 hw11 hw12 hw13
    refine o_mgE (ws' := [ro_rrr (q 3) 3 (q 2) (q 22) (q 23), ro_rnininii (q 2) 6 (q 0) xa2_34 xv2_35 xo xt2_36 xz2_37 xf2_38 xp2_39, ro_rn (q 0) 10 (q 20) tl, ra_N (q 20) cI 1600 tb, ro_rrrrrnniin (q 6) 2 (q 24) (q 25) (q 26) (q 27) (q 28) jd jm ju2_40 jr jn, ra_I (q 25) cI 9 jb, ra_I (q 26) cI 9 jw]) eu_48 hP hD rfl (fun hP hD => ?_)
    refine lv_goto (tgt := 111) hx hb dX3_readNumbers_77 (by decide) ?_
    exact sk_vret hx hb hr hlocks hK hP hD hS (⟨xa2_34, xv2_35, xt2_36, xz2_37, xf2_38, xp2_39, ju2_40, jr, jb, jw, hxa2_43, hxz2_44, Or.inr (Or.inr (Or.inl ⟨g_33, dv_41, w_42, hmv_45, hO2_47, hmu2_46, rfl, rfl, rfl⟩)), rfl⟩) (Nat.le_of_ble_eq_true rfl) (Nat.le_of_ble_eq_true rfl) dX3_readNumbers_111
  by_cases g_49 : xt = 261
  · refine lv_tableIn (off := 97) (tgt := 104) hx hb dX3_readNumbers_7 (by rw [g_49]; decide) (by rw [g_49]; decide) (by rw [g_49]; rfl) (by decide) ?_
    refine lv_aload_n hx hb dX3_readNumbers_104 rfl (lv_at hl 0 rfl) ?_
    refine sk_get (v := .ref (q 2)) (C := RX3) (T := TX3) (N := 3) hx hb hts inlX3 hown hK hP 0 rfl rfl 0 (Nat.le_of_ble_eq_true rfl) w_1_107 rfl dX3_readNumbers_105 ?_
    refine sk_Vv (q0 := 0) (n := 0) (rest := []) (wr := fmR om_7_20 _) ⟨hx, hb, hml, hown, hts⟩ hl.1 (c_erd_failHere l D cI cJ cC cZ cS q xa xv xo xt xz xf xp tl tb og hxz hO) w_3_139 w_3_55 w_3_56 w_1_4 w_3_57 hd_X6_failHere_0 ⟨⟨(Nat.le_of_ble_eq_true rfl), (Nat.le_of_ble_eq_true rfl)⟩, (Nat.le_of_ble_eq_true rfl), (Nat.le_of_ble_eq_true rfl)⟩ hK hP hD hS hA (fmT om_7_20 0) (fmF om_7_20 0) (fm_C1 rfl rfl) (fm_R rfl rfl) (fm_nT om_7_20 0) (fm_nF om_7_20 0) (fm_di om_7_20 0) rfl rfl rfl rfl (Nat.le_of_ble_eq_true rfl) dX3_readNumbers_108 (fun u H locs hw hP hD hS => ?_)
    refine exE hw (fun xf2_50 hw1 => exE hw1 (fun xp2_51 hw2 => anE hw2 (fun hO2_52 eu_53 => ?_)))
    clear hw hw1 hw2
    refine o_mgE (ws' := [ro_rrr (q 3) 3 (q 2) (q 22) (q 23), ro_rnininii (q 2) 6 (q 0) xa xv xo (-2) xz xf2_50 xp2_51, ro_rn (q 0) 10 (q 20) tl, ra_N (q 20) cI 1600 tb, ro_rrrrrnniin (q 6) 2 (q 24) (q 25) (q 26) (q 27) (q 28) jd jm ju jr jn, ra_I (q 25) cI 9 jb, ra_I (q 26) cI 9 jw]) eu_53 hP hD rfl (fun hP hD => ?_)
    exact sk_vret hx hb hr hlocks hK hP hD hS (⟨xa, xv, (-2), xz, xf2_50, xp2_51, ju, jr, jb, jw, hxa, hxz, Or.inr (Or.inr (Or.inr (Or.inr ⟨by rw [g_49]; decide, by rw [g_49]; decide, by rw [g_49]; decide, by rw [g_49]; decide, hO2_52, rfl, rfl, rfl, rfl⟩))), rfl⟩) (Nat.le_of_ble_eq_true rfl) (Nat.le_of_ble_eq_true rfl) dX3_readNumbers_111
  by_cases g_54 : xt = 262
  · refine lv_tableIn (off := 97) (tgt := 104) hx hb dX3_readNumbers_7 (by rw [g_54]; decide) (by rw [g_54]; decide) (by rw [g_54]; rfl) (by decide) ?_
    refine lv_aload_n hx hb dX3_readNumbers_104 rfl (lv_at hl 0 rfl) ?_
    refine sk_get (v := .ref (q 2)) (C := RX3) (T := TX3) (N := 3) hx hb hts inlX3 hown hK hP 0 rfl rfl 0 (Nat.le_of_ble_eq_true rfl) w_1_107 rfl dX3_readNumbers_105 ?_
    refine sk_Vv (q0 := 0) (n := 0) (rest := []) (wr := fmR om_7_20 _) ⟨hx, hb, hml, hown, hts⟩ hl.1 (c_erd_failHere l D cI cJ cC cZ cS q xa xv xo xt xz xf xp tl tb og hxz hO) w_3_139 w_3_55 w_3_56 w_1_4 w_3_57 hd_X6_failHere_0 ⟨⟨(Nat.le_of_ble_eq_true rfl), (Nat.le_of_ble_eq_true rfl)⟩, (Nat.le_of_ble_eq_true rfl), (Nat.le_of_ble_eq_true rfl)⟩ hK hP hD hS hA (fmT om_7_20 0) (fmF om_7_20 0) (fm_C1 rfl rfl) (fm_R rfl rfl) (fm_nT om_7_20 0) (fm_nF om_7_20 0) (fm_di om_7_20 0) rfl rfl rfl rfl (Nat.le_of_ble_eq_true rfl) dX3_readNumbers_108 (fun u H locs hw hP hD hS => ?_)
    refine exE hw (fun xf2_55 hw1 => exE hw1 (fun xp2_56 hw2 => anE hw2 (fun hO2_57 eu_58 => ?_)))
    clear hw hw1 hw2
    refine o_mgE (ws' := [ro_rrr (q 3) 3 (q 2) (q 22) (q 23), ro_rnininii (q 2) 6 (q 0) xa xv xo (-2) xz xf2_55 xp2_56, ro_rn (q 0) 10 (q 20) tl, ra_N (q 20) cI 1600 tb, ro_rrrrrnniin (q 6) 2 (q 24) (q 25) (q 26) (q 27) (q 28) jd jm ju jr jn, ra_I (q 25) cI 9 jb, ra_I (q 26) cI 9 jw]) eu_58 hP hD rfl (fun hP hD => ?_)
    exact sk_vret hx hb hr hlocks hK hP hD hS (⟨xa, xv, (-2), xz, xf2_55, xp2_56, ju, jr, jb, jw, hxa, hxz, Or.inr (Or.inr (Or.inr (Or.inr ⟨by rw [g_54]; decide, by rw [g_54]; decide, by rw [g_54]; decide, by rw [g_54]; decide, hO2_57, rfl, rfl, rfl, rfl⟩))), rfl⟩) (Nat.le_of_ble_eq_true rfl) (Nat.le_of_ble_eq_true rfl) dX3_readNumbers_111
  by_cases g_59 : xt = 263
  · refine lv_tableIn (off := 97) (tgt := 104) hx hb dX3_readNumbers_7 (by rw [g_59]; decide) (by rw [g_59]; decide) (by rw [g_59]; rfl) (by decide) ?_
    refine lv_aload_n hx hb dX3_readNumbers_104 rfl (lv_at hl 0 rfl) ?_
    refine sk_get (v := .ref (q 2)) (C := RX3) (T := TX3) (N := 3) hx hb hts inlX3 hown hK hP 0 rfl rfl 0 (Nat.le_of_ble_eq_true rfl) w_1_107 rfl dX3_readNumbers_105 ?_
    refine sk_Vv (q0 := 0) (n := 0) (rest := []) (wr := fmR om_7_20 _) ⟨hx, hb, hml, hown, hts⟩ hl.1 (c_erd_failHere l D cI cJ cC cZ cS q xa xv xo xt xz xf xp tl tb og hxz hO) w_3_139 w_3_55 w_3_56 w_1_4 w_3_57 hd_X6_failHere_0 ⟨⟨(Nat.le_of_ble_eq_true rfl), (Nat.le_of_ble_eq_true rfl)⟩, (Nat.le_of_ble_eq_true rfl), (Nat.le_of_ble_eq_true rfl)⟩ hK hP hD hS hA (fmT om_7_20 0) (fmF om_7_20 0) (fm_C1 rfl rfl) (fm_R rfl rfl) (fm_nT om_7_20 0) (fm_nF om_7_20 0) (fm_di om_7_20 0) rfl rfl rfl rfl (Nat.le_of_ble_eq_true rfl) dX3_readNumbers_108 (fun u H locs hw hP hD hS => ?_)
    refine exE hw (fun xf2_60 hw1 => exE hw1 (fun xp2_61 hw2 => anE hw2 (fun hO2_62 eu_63 => ?_)))
    clear hw hw1 hw2
    refine o_mgE (ws' := [ro_rrr (q 3) 3 (q 2) (q 22) (q 23), ro_rnininii (q 2) 6 (q 0) xa xv xo (-2) xz xf2_60 xp2_61, ro_rn (q 0) 10 (q 20) tl, ra_N (q 20) cI 1600 tb, ro_rrrrrnniin (q 6) 2 (q 24) (q 25) (q 26) (q 27) (q 28) jd jm ju jr jn, ra_I (q 25) cI 9 jb, ra_I (q 26) cI 9 jw]) eu_63 hP hD rfl (fun hP hD => ?_)
    exact sk_vret hx hb hr hlocks hK hP hD hS (⟨xa, xv, (-2), xz, xf2_60, xp2_61, ju, jr, jb, jw, hxa, hxz, Or.inr (Or.inr (Or.inr (Or.inr ⟨by rw [g_59]; decide, by rw [g_59]; decide, by rw [g_59]; decide, by rw [g_59]; decide, hO2_62, rfl, rfl, rfl, rfl⟩))), rfl⟩) (Nat.le_of_ble_eq_true rfl) (Nat.le_of_ble_eq_true rfl) dX3_readNumbers_111
  by_cases g_64 : xt = 264
  · refine lv_tableIn (off := 73) (tgt := 80) hx hb dX3_readNumbers_7 (by rw [g_64]; decide) (by rw [g_64]; decide) (by rw [g_64]; rfl) (by decide) ?_
    refine lv_aload_n hx hb dX3_readNumbers_80 rfl (lv_at hl 0 rfl) ?_
    refine sk_get (v := .ref (q 2)) (C := RX3) (T := TX3) (N := 3) hx hb hts inlX3 hown hK hP 0 rfl rfl 0 (Nat.le_of_ble_eq_true rfl) w_1_107 rfl dX3_readNumbers_81 ?_
    refine sk_VvZ (q0 := 0) (n := 0) (rest := []) (wr := fmR om_7_38 _) ⟨hx, hb, hml, hown, hts⟩ hl.1 (c_erd_step l D cI cJ cC cZ cS zk zv zf q xa xv xo xt xz xf xp tl tb (bindR og (beF tb tl)) hxa hxz htl htb (rd_st htb hO ⟨by rw [g_64]; decide, by rw [g_64]; decide⟩)) w_3_75 w_2_226 w_2_227 w_1_4 w_2_228 hd_X6_step_0 ⟨⟨(Nat.le_of_ble_eq_true rfl), (Nat.le_of_ble_eq_true rfl)⟩, (Nat.le_of_ble_eq_true rfl), (Nat.le_of_ble_eq_true rfl)⟩ hK hP hD hS hZ hA (fmT om_7_38 0) (fmF om_7_38 0) (fm_C1 rfl rfl) (fm_R rfl rfl) (fm_nT om_7_38 0) (fm_nF om_7_38 0) (fm_di om_7_38 0) rfl rfl rfl rfl (Nat.le_of_ble_eq_true rfl) dX3_readNumbers_84 (fun u H locs hw hP hD hS => ?_)
    refine exE hw (fun xa2_65 hw1 => exE hw1 (fun xv2_66 hw2 => exE hw2 (fun xt2_67 hw3 => exE hw3 (fun xz2_68 hw4 => anE hw4 (fun hxa2_69 hw5 => anE hw5 (fun hxz2_70 hw6 => anE hw6 (fun hO2_71 eu_72 => ?_)))))))
    clear hw hw1 hw2 hw3 hw4 hw5 hw6
    refine o_mgE (ws' := [ro_rrr (q 3) 3 (q 2) (q 22) (q 23), ro_rnininii (q 2) 6 (q 0) xa2_65 xv2_66 xo xt2_67 xz2_68 xf xp, ro_rn (q 0) 10 (q 20) tl, ra_N (q 20) cI 1600 tb, ro_rrrrrnniin (q 6) 2 (q 24) (q 25) (q 26) (q 27) (q 28) jd jm ju jr jn, ra_I (q 25) cI 9 jb, ra_I (q 26) cI 9 jw]) eu_72 hP hD rfl (fun hP hD => ?_)
    rw [stF_nx] at hO2_71
    refine lv_aload_n hx hb dX3_readNumbers_87 rfl (lv_at hl 1 rfl) ?_
    refine lv_aload_n hx hb dX3_readNumbers_88 rfl (lv_at hl 0 rfl) ?_
    refine sk_get (v := .ref (q 2)) (C := RX3) (T := TX3) (N := 3) hx hb hts inlX3 hown hK hP 0 rfl rfl 0 (Nat.le_of_ble_eq_true rfl) w_1_107 rfl dX3_readNumbers_89 ?_
    refine lv_iconst (v := 0) hx hb dX3_readNumbers_92 ic_0 ?_
    refine lv_bipush (v := 100) hx hb dX3_readNumbers_93 (by decide) ?_
    refine sk_ViZ (q0 := 0) (n := 2) (rest := [.ref (q 6)]) (wr := fmR om_7_38 _) ⟨hx, hb, hml, hown, hts⟩ hl.1 (c_erd_takeNumber l D cI cJ cC cZ cS zk zv zf q xa2_65 xv2_66 xo xt2_67 xz2_68 xf xp tl tb 0 100 (bindR og (nxF tb tl)) hxa2_69 hxz2_70 htl htb (by omega) (by omega) hO2_71) w_3_62 w_3_63 w_3_64 w_1_4 w_3_65 hd_X6_takeNumber_2 ⟨⟨(Nat.le_of_ble_eq_true rfl), (Nat.le_of_ble_eq_true rfl)⟩, (Nat.le_of_ble_eq_true rfl), (Nat.le_of_ble_eq_true rfl)⟩ hK hP hD hS hZ hA (fmT om_7_38 0) (fmF om_7_38 0) (fm_C1 rfl rfl) (fm_R rfl rfl) (fm_nT om_7_38 0) (fm_nF om_7_38 0) (fm_di om_7_38 0) rfl rfl rfl rfl (Nat.le_of_ble_eq_true rfl) dX3_readNumbers_95 (fun r_80 u H locs hw hP hD hS => ?_)
    refine exE hw (fun xa2_73 hw1 => exE hw1 (fun xv2_74 hw2 => exE hw2 (fun xt2_75 hw3 => exE hw3 (fun xz2_76 hw4 => exE hw4 (fun xf2_77 hw5 => exE hw5 (fun xp2_78 hw6 => exE hw6 (fun v_79 hw7 => anE hw7 (fun hxa2_81 hw8 => anE hw8 (fun hxz2_82 hw9 => anE hw9 (fun hv1_83 hw10 => anE hw10 (fun hv2_84 hw11 => anE hw11 (fun hnv_85 hw12 => anE hw12 (fun hO2_86 hw13 => anE hw13 (fun er_88 eu_87 => ?_))))))))))))))
    clear hw hw1 hw2 hw3 hw4 hw5 hw6 hw7 hw8 hw9 hw10 hw11 hw12 hw13
    subst er_88
    refine o_mgE (ws' := [ro_rrr (q 3) 3 (q 2) (q 22) (q 23), ro_rnininii (q 2) 6 (q 0) xa2_73 xv2_74 xo xt2_75 xz2_76 xf2_77 xp2_78, ro_rn (q 0) 10 (q 20) tl, ra_N (q 20) cI 1600 tb, ro_rrrrrnniin (q 6) 2 (q 24) (q 25) (q 26) (q 27) (q 28) jd jm ju jr jn, ra_I (q 25) cI 9 jb, ra_I (q 26) cI 9 jw]) eu_87 hP hD rfl (fun hP hD => ?_)
    refine sk_put (ws' := [ro_rrr (q 3) 3 (q 2) (q 22) (q 23), ro_rnininii (q 2) 6 (q 0) xa2_73 xv2_74 xo xt2_75 xz2_76 xf2_77 xp2_78, ro_rn (q 0) 10 (q 20) tl, ra_N (q 20) cI 1600 tb, ro_rrrrrnninn (q 6) 2 (q 24) (q 25) (q 26) (q 27) (q 28) jd jm ju v_79 jn, ra_I (q 25) cI 9 jb, ra_I (q 26) cI 9 jw]) (C := RX2) (T := TX2) (N := 10) (v := .int (nI v_79)) hx hb hts inlX2 tyX2 tyX2_ok nmX2 hown hK hP hD hS 4 rfl rfl 8 (Nat.le_of_ble_eq_true rfl) w_1_198 rfl rfl rfl (Nat.le_of_ble_eq_true rfl) rfl dX3_readNumbers_98 (fun H locs hP hD hS => ?_)
    refine lv_goto (tgt := 111) hx hb dX3_readNumbers_101 (by decide) ?_
    exact sk_vret hx hb hr hlocks hK hP hD hS (⟨xa2_73, xv2_74, xt2_75, xz2_76, xf2_77, xp2_78, ju, nI v_79, jb, jw, hxa2_81, hxz2_82, Or.inr (Or.inr (Or.inr (Or.inl ⟨g_64, v_79, hnv_85, hO2_86, rfl, rfl, rfl, rfl⟩))), rfl⟩) (Nat.le_of_ble_eq_true rfl) (Nat.le_of_ble_eq_true rfl) dX3_readNumbers_111
  refine lv_tableOut (tgt := 104) hx hb dX3_readNumbers_7 (sk_out2 258 264 (by intro k hk1 hk2; rcases (show k = 258 ∨ k = 259 ∨ k = 260 ∨ k = 261 ∨ k = 262 ∨ k = 263 ∨ k = 264 by omega) with rfl | rfl | rfl | rfl | rfl | rfl | rfl <;> assumption)) (by decide) ?_
  refine lv_aload_n hx hb dX3_readNumbers_104 rfl (lv_at hl 0 rfl) ?_
  refine sk_get (v := .ref (q 2)) (C := RX3) (T := TX3) (N := 3) hx hb hts inlX3 hown hK hP 0 rfl rfl 0 (Nat.le_of_ble_eq_true rfl) w_1_107 rfl dX3_readNumbers_105 ?_
  refine sk_Vv (q0 := 0) (n := 0) (rest := []) (wr := fmR om_7_20 _) ⟨hx, hb, hml, hown, hts⟩ hl.1 (c_erd_failHere l D cI cJ cC cZ cS q xa xv xo xt xz xf xp tl tb og hxz hO) w_3_139 w_3_55 w_3_56 w_1_4 w_3_57 hd_X6_failHere_0 ⟨⟨(Nat.le_of_ble_eq_true rfl), (Nat.le_of_ble_eq_true rfl)⟩, (Nat.le_of_ble_eq_true rfl), (Nat.le_of_ble_eq_true rfl)⟩ hK hP hD hS hA (fmT om_7_20 0) (fmF om_7_20 0) (fm_C1 rfl rfl) (fm_R rfl rfl) (fm_nT om_7_20 0) (fm_nF om_7_20 0) (fm_di om_7_20 0) rfl rfl rfl rfl (Nat.le_of_ble_eq_true rfl) dX3_readNumbers_108 (fun u H locs hw hP hD hS => ?_)
  refine exE hw (fun xf2_89 hw1 => exE hw1 (fun xp2_90 hw2 => anE hw2 (fun hO2_91 eu_92 => ?_)))
  clear hw hw1 hw2
  refine o_mgE (ws' := [ro_rrr (q 3) 3 (q 2) (q 22) (q 23), ro_rnininii (q 2) 6 (q 0) xa xv xo (-2) xz xf2_89 xp2_90, ro_rn (q 0) 10 (q 20) tl, ra_N (q 20) cI 1600 tb, ro_rrrrrnniin (q 6) 2 (q 24) (q 25) (q 26) (q 27) (q 28) jd jm ju jr jn, ra_I (q 25) cI 9 jb, ra_I (q 26) cI 9 jw]) eu_92 hP hD rfl (fun hP hD => ?_)
  exact sk_vret hx hb hr hlocks hK hP hD hS (⟨xa, xv, (-2), xz, xf2_89, xp2_90, ju, jr, jb, jw, hxa, hxz, Or.inr (Or.inr (Or.inr (Or.inr ⟨by assumption, by assumption, by assumption, by assumption, hO2_91, rfl, rfl, rfl, rfl⟩))), rfl⟩) (Nat.le_of_ble_eq_true rfl) (Nat.le_of_ble_eq_true rfl) dX3_readNumbers_111
