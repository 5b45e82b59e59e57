set_option maxHeartbeats 4000000 in
set_option maxRecDepth 100000 in
theorem c_ereadSum (l : Launch) (D : va_G) (cI cJ cC cZ cS : ClassId) (zk zv : Nat) (zf : Value) (dd : Nat) (hq : CT_ereadProduct l D cI cJ cC cZ cS zk zv zf dd) : CT_ereadSum l D cI cJ cC cZ cS zk zv zf dd := by
  intro q u0 kn xa xv xo xt xz xf xp tl tb h0 k1 k2 k3 k4 cl mw f1 og hxa hxz htl htb hcl hmw hkn hdd hO hlen
  refine skMZ_of pf_X8_readSum (Nat.le_of_ble_eq_true rfl) ?_
  intro p e s m below meth c A ls E hP hD hZ hl
  refine skE_el E (fun hx hb hr hml hlocks hin hown hts hK hA => ?_)
  have hown : s.vm.findClass RX8 = some m.cls := hown
  have hS : va_S A s.heap s.heap [] := va_S.rf
  have hl : lv_has ls 4 [(0, .ref u0), (1, .ref h0)] := hl
  refine lv_aload_n hx hb dX8_readSum_0 rfl (lv_at hl 0 rfl) ?_
  refine lv_aload_n hx hb dX8_readSum_1 rfl (lv_at hl 1 rfl) ?_
  refine sk_VvZ (q0 := 0) (n := 1) (rest := []) (wr := fmR om_6_3f _) ⟨hx, hb, hml, hown, hts⟩ hl.1 (hq q u0 kn xa xv xo xt xz xf xp tl tb h0 k1 k2 k3 k4 cl mw f1 og (by omega) (by omega) (by omega) htb (by omega) (by omega) (by omega) (by omega) hO hlen) w_3_88 w_3_90 w_0_7 w_1_6 w_3_91 hd_X8_readProduct_1 ⟨⟨(by dsimp only; omega), (by dsimp only; omega)⟩, (by dsimp only; omega), (by dsimp only; omega)⟩ hK hP hD hS hZ hA (fmT om_6_3f 0) (fmF om_6_3f 0) (fm_C1 rfl rfl) (fm_R rfl rfl) (fm_nT om_6_3f 0) (fm_nF om_6_3f 0) (fm_di om_6_3f 0) rfl rfl rfl rfl (Nat.le_of_ble_eq_true rfl) dX8_readSum_2 (fun u H locs hw hP hD hS => ?_)
  refine exE hw (fun xa2_1 hw1 => exE hw1 (fun xv2_2 hw2 => exE hw2 (fun xt2_3 hw3 => exE hw3 (fun xz2_4 hw4 => exE hw4 (fun xf2_5 hw5 => exE hw5 (fun xp2_6 hw6 => exE hw6 (fun c2_7 hw7 => exE hw7 (fun w2_8 hw8 => exE hw8 (fun g1_9 hw9 => anE hw9 (fun hxa2_10 hw10 => anE hw10 (fun hxz2_11 hw11 => anE hw11 (fun hc2_12 hw12 => anE hw12 (fun hw2_13 hw13 => anE hw13 (fun hO2_14 eu_15 => ?_))))))))))))))
  clear hw hw1 hw2 hw3 hw4 hw5 hw6 hw7 hw8 hw9 hw10 hw11 hw12 hw13
  refine o_mgE (ws' := [(u0, .inr (8, [.ref (q 2), .int (nI kn)])), (q 2, .inr (6, [.ref (q 0), .int (nI xa2_1), .int xv2_2, .int (nI xo), .int xt2_3, .int (nI xz2_4), .int xf2_5, .int xp2_6])), (q 0, .inr (10, [.ref (q 20), .int (nI tl)])), (q 20, .inl (cI, 1600, .inl (fun j => nI (tb j)))), (h0, .inr (0, [.ref k1, .ref k2, .ref k3, .ref k4, .int (nI c2_7), .int (nI w2_8)])), (k1, .inl (cI, 1600, .inl g1_9))]) eu_15 hP hD rfl (fun hP hD => ?_)
  have hL_16 := lenO_ap (len_prod (tb := tb) (n := tl) (len_part (tb := tb) (n := tl) (kind := kn) dd)) hlen
  refine lv_iconst (v := 0) hx hb dX8_readSum_5 (by decide) ?_
  refine lv_istore_n (lv' := [(2, .int 0), (0, .ref u0), (1, .ref h0)]) hx hb dX8_readSum_6 rfl hl (by decide) rfl (fun ls hl => ?_)
  have lp_17 : ∀ (n_18 : Nat) (i : Nat) (za : Nat) (zw : Int32) (zt : Int32) (zz : Nat) (zg : Int32) (zp : Int32) (yc : Nat) (yw : Nat) (yf : Nat → Int32) (zo : Res) (H : Heap) (locs : List Loc) (ls : Array Slot), 1600 - i < n_18 → (rsO tb tl zo za zw zt zz zg zp yc yw yf) → (i ≤ 1600) → (za ≤ 1600) → (zz ≤ 1600) → (yc ≤ 1600) → (yw ≤ 1) → (lenO zo) → (iO i zo) → (bindR zo (fun r => addLp tb tl (rdPart tb tl kn dd) (tl + 2) r.1 r.2) = bindR og (apF (sumOf tb tl (rdPart tb tl kn dd)))) → va_P D vwCl [(u0, .inr (8, [.ref (q 2), .int (nI kn)])), (q 2, .inr (6, [.ref (q 0), .int (nI za), .int zw, .int (nI xo), .int zt, .int (nI zz), .int zg, .int zp])), (q 0, .inr (10, [.ref (q 20), .int (nI tl)])), (q 20, .inl (cI, 1600, .inl (fun j => nI (tb j)))), (h0, .inr (0, [.ref k1, .ref k2, .ref k3, .ref k4, .int (nI yc), .int (nI yw)])), (k1, .inl (cI, 1600, .inl yf))] H → va_D A [(u0, .inr (8, [.ref (q 2), .int (nI kn)])), (q 2, .inr (6, [.ref (q 0), .int (nI za), .int zw, .int (nI xo), .int zt, .int (nI zz), .int zg, .int zp])), (q 0, .inr (10, [.ref (q 20), .int (nI tl)])), (q 20, .inl (cI, 1600, .inl (fun j => nI (tb j)))), (h0, .inr (0, [.ref k1, .ref k2, .ref k3, .ref k4, .int (nI yc), .int (nI yw)])), (k1, .inl (cI, 1600, .inl yf))] → va_S A s.heap H locs → lv_has ls 4 [(2, .int (nI i)), (0, .ref u0), (1, .ref h0)] → W p l e { frames := 23 + 5 * dd, cells := 0, slots := 0, locals := 675 + 100 * dd } s m ([.ref u0, .ref h0] : List Value).toArray below meth c H locs 0 0 (MQ below (skV D (skT cI cJ cC cZ cS) (fun (u : va_W) => ∃ (xa2 : Nat), ∃ (xv2 : Int32), ∃ (xt2 : Int32), ∃ (xz2 : Nat), ∃ (xf2 : Int32), ∃ (xp2 : Int32), ∃ (c2 : Nat), ∃ (w2 : Nat), ∃ (g1 : Nat → Int32), xa2 ≤ 1600 ∧ xz2 ≤ 1600 ∧ c2 ≤ 1600 ∧ w2 ≤ 1 ∧ rsO tb tl (bindR og (apF (sumOf tb tl (rdPart tb tl kn dd)))) xa2 xv2 xt2 xz2 xf2 xp2 c2 w2 g1 ∧ u = [(u0, .inr (8, [.ref (q 2), .int (nI kn)])), (q 2, .inr (6, [.ref (q 0), .int (nI xa2), .int xv2, .int (nI xo), .int xt2, .int (nI xz2), .int xf2, .int xp2])), (q 0, .inr (10, [.ref (q 20), .int (nI tl)])), (q 20, .inl (cI, 1600, .inl (fun j => nI (tb j)))), (h0, .inr (0, [.ref k1, .ref k2, .ref k3, .ref k4, .int (nI c2), .int (nI w2)])), (k1, .inl (cI, 1600, .inl g1))]) A) ([.ref u0, .ref h0] : List Value).toArray s 0 0 A) (F0 m 7 ls []) := by
    intro n_18
    induction n_18 with
    | zero => intro i za zw zt zz zg zp yc yw yf zo H locs ls hm; exact absurd hm (Nat.not_lt_zero _)
    | succ n_18 ih_lp_17 =>
      intro i za zw zt zz zg zp yc yw yf zo H locs ls hm hzO hi hza hzz hyc hyw hzl hiO hrem hP hD hS hl
      refine lv_iload_n hx hb dX8_readSum_7 rfl (lv_at hl 0 rfl) ?_
      refine lv_sipush (v := 1600) hx hb dX8_readSum_8 (by decide) ?_
      refine lv_icmp_ge (tgt := 83) hx hb dX8_readSum_11 (by decide) (fun c_19 => ?_) (fun c_19 => ?_)
      · have c_19 : 1600 ≤ i := (nle 1600 i (by omega) (by omega)).mp c_19
        exact sk_vret hx hb hr hlocks hK hP hD hS (⟨za, zw, zt, zz, zg, zp, yc, yw, yf, by omega, by omega, by omega, by omega, sum_e htb hzO htl hiO (Or.inl (by omega)) hrem, rfl⟩) (Nat.le_of_ble_eq_true rfl) (Nat.le_of_ble_eq_true rfl) dX8_readSum_83
      · have c_19 : ¬ (1600 ≤ i) := fun h => c_19 ((nle 1600 i (by omega) (by omega)).mpr h)
        refine lv_aload_n hx hb dX8_readSum_14 rfl (lv_at hl 1 rfl) ?_
        refine sk_get (v := .ref (q 2)) (C := RX8) (T := TX8) (N := 2) hx hb hts inlX8 hown hK hP 0 rfl rfl 0 (by decide) w_1_100 rfl dX8_readSum_15 ?_
        refine sk_get (v := .int zt) (C := RX6) (T := TX6) (N := 8) hx hb hts inlX6 hown hK hP 1 rfl rfl 4 (by decide) w_1_63 rfl dX8_readSum_18 ?_
        refine lv_bipush (v := 43) hx hb dX8_readSum_21 (by decide) ?_
        refine lv_icmp_eq (tgt := 38) hx hb dX8_readSum_23 (by decide) (fun c_20 => ?_) (fun c_20 => ?_)
        · skip
          refine lv_aload_n hx hb dX8_readSum_38 rfl (lv_at hl 1 rfl) ?_
          refine sk_get (v := .ref (q 2)) (C := RX8) (T := TX8) (N := 2) hx hb hts inlX8 hown hK hP 0 rfl rfl 0 (by decide) w_1_100 rfl dX8_readSum_39 ?_
          refine sk_get (v := .int zt) (C := RX6) (T := TX6) (N := 8) hx hb hts inlX6 hown hK hP 1 rfl rfl 4 (by decide) w_1_63 rfl dX8_readSum_42 ?_
          refine lv_bipush (v := 43) hx hb dX8_readSum_45 (by decide) ?_
          refine lv_icmp_ne (tgt := 56) hx hb dX8_readSum_47 (by decide) (fun c => absurd c_20 c) (fun c_21 => ?_)
          refine lv_sipush (v := 30000) hx hb dX8_readSum_50 (by decide) ?_
          refine lv_goto (tgt := 59) hx hb dX8_readSum_53 (by decide) ?_
          refine lv_istore_n (lv' := [(3, .int 30000), (2, .int (nI i)), (0, .ref u0), (1, .ref h0)]) hx hb dX8_readSum_59 rfl hl (by decide) rfl (fun ls hl => ?_)
          refine lv_aload_n hx hb dX8_readSum_60 rfl (lv_at hl 2 rfl) ?_
          refine sk_get (v := .ref (q 2)) (C := RX8) (T := TX8) (N := 2) hx hb hts inlX8 hown hK hP 0 rfl rfl 0 (by decide) w_1_100 rfl dX8_readSum_61 ?_
          refine sk_VvZ (q0 := 0) (n := 0) (rest := []) (wr := fmR om_6_1c _) ⟨hx, hb, hml, hown, hts⟩ hl.1 (c_erd_step l D cI cJ cC cZ cS zk zv zf q za zw xo zt zz zg zp tl tb (bindR (rc zo) (beF tb tl)) (by omega) (by omega) (by omega) htb (rd_st htb (hzO).1 ⟨by rw [c_20]; decide, by rw [c_20]; decide⟩)) w_3_110 w_2_226 w_2_227 w_1_4 w_2_228 hd_X6_step_0 ⟨⟨(by dsimp only; omega), (by dsimp only; omega)⟩, (by dsimp only; omega), (by dsimp only; omega)⟩ hK hP hD hS hZ hA (fmT om_6_1c 0) (fmF om_6_1c 0) (fm_C1 rfl rfl) (fm_R rfl rfl) (fm_nT om_6_1c 0) (fm_nF om_6_1c 0) (fm_di om_6_1c 0) rfl rfl rfl rfl (Nat.le_of_ble_eq_true rfl) dX8_readSum_64 (fun u H locs hw hP hD hS => ?_)
          refine exE hw (fun xa2_22 hw1 => exE hw1 (fun xv2_23 hw2 => exE hw2 (fun xt2_24 hw3 => exE hw3 (fun xz2_25 hw4 => anE hw4 (fun hxa2_26 hw5 => anE hw5 (fun hxz2_27 hw6 => anE hw6 (fun hO2_28 eu_29 => ?_)))))))
          clear hw hw1 hw2 hw3 hw4 hw5 hw6
          refine o_mgE (ws' := [(u0, .inr (8, [.ref (q 2), .int (nI kn)])), (q 2, .inr (6, [.ref (q 0), .int (nI xa2_22), .int xv2_23, .int (nI xo), .int xt2_24, .int (nI xz2_25), .int zg, .int zp])), (q 0, .inr (10, [.ref (q 20), .int (nI tl)])), (q 20, .inl (cI, 1600, .inl (fun j => nI (tb j)))), (h0, .inr (0, [.ref k1, .ref k2, .ref k3, .ref k4, .int (nI yc), .int (nI yw)])), (k1, .inl (cI, 1600, .inl yf))]) eu_29 hP hD rfl (fun hP hD => ?_)
          rw [stF_nx] at hO2_28
          have hO_30 := rs_bd hzO hO2_28
          have hL_31 := lenS_nx htb hzO ⟨by rw [c_20]; decide, by rw [c_20]; decide⟩ hzl
          refine lv_aload_n hx hb dX8_readSum_67 rfl (lv_at hl 2 rfl) ?_
          refine lv_aload_n hx hb dX8_readSum_68 rfl (lv_at hl 3 rfl) ?_
          refine sk_VvZ (q0 := 0) (n := 1) (rest := []) (wr := fmR om_6_3f _) ⟨hx, hb, hml, hown, hts⟩ hl.1 (hq q u0 kn xa2_22 xv2_23 xo xt2_24 xz2_25 zg zp tl tb h0 k1 k2 k3 k4 yc yw yf (bd zo (nxF tb tl)) (by omega) (by omega) (by omega) htb (by omega) (by omega) (by omega) (by omega) hO_30 (lenO_S hL_31)) w_3_88 w_3_90 w_0_7 w_1_6 w_3_91 hd_X8_readProduct_1 ⟨⟨(by dsimp only; omega), (by dsimp only; omega)⟩, (by dsimp only; omega), (by dsimp only; omega)⟩ hK hP hD hS hZ hA (fmT om_6_3f 0) (fmF om_6_3f 0) (fm_C1 rfl rfl) (fm_R rfl rfl) (fm_nT om_6_3f 0) (fm_nF om_6_3f 0) (fm_di om_6_3f 0) rfl rfl rfl rfl (Nat.le_of_ble_eq_true rfl) dX8_readSum_69 (fun u H locs hw hP hD hS => ?_)
          refine exE hw (fun xa2_32 hw1 => exE hw1 (fun xv2_33 hw2 => exE hw2 (fun xt2_34 hw3 => exE hw3 (fun xz2_35 hw4 => exE hw4 (fun xf2_36 hw5 => exE hw5 (fun xp2_37 hw6 => exE hw6 (fun c2_38 hw7 => exE hw7 (fun w2_39 hw8 => exE hw8 (fun g1_40 hw9 => anE hw9 (fun hxa2_41 hw10 => anE hw10 (fun hxz2_42 hw11 => anE hw11 (fun hc2_43 hw12 => anE hw12 (fun hw2_44 hw13 => anE hw13 (fun hO2_45 eu_46 => ?_))))))))))))))
          clear hw hw1 hw2 hw3 hw4 hw5 hw6 hw7 hw8 hw9 hw10 hw11 hw12 hw13
          refine o_mgE (ws' := [(u0, .inr (8, [.ref (q 2), .int (nI kn)])), (q 2, .inr (6, [.ref (q 0), .int (nI xa2_32), .int xv2_33, .int (nI xo), .int xt2_34, .int (nI xz2_35), .int xf2_36, .int xp2_37])), (q 0, .inr (10, [.ref (q 20), .int (nI tl)])), (q 20, .inl (cI, 1600, .inl (fun j => nI (tb j)))), (h0, .inr (0, [.ref k1, .ref k2, .ref k3, .ref k4, .int (nI c2_38), .int (nI w2_39)])), (k1, .inl (cI, 1600, .inl g1_40))]) eu_46 hP hD rfl (fun hP hD => ?_)
          have hL_47 := lenS_ap (len_prod (tb := tb) (n := tl) (len_part (tb := tb) (n := tl) (kind := kn) dd)) hL_31
          refine lv_aload_n hx hb dX8_readSum_72 rfl (lv_at hl 3 rfl) ?_
          refine lv_iload_n hx hb dX8_readSum_73 rfl (lv_at hl 0 rfl) ?_
          refine sk_Vv (q0 := 0) (n := 1) (rest := []) (wr := fmR om_6_3 _) ⟨hx, hb, hml, hown, hts⟩ hl.1 (c_eCode_addX l D cI cJ cC cZ cS h0 k1 k2 k3 k4 c2_38 w2_39 g1_40 30000 (bindR (bd zo (nxF tb tl)) (apF (prodOf tb tl (rdPart tb tl kn dd)))) 1 (by omega) (by omega) (by decide) (by omega) (hO2_45).2 (rm_S hO2_45 htl hL_47)) w_3_97 w_3_98 w_3_99 w_1_8 w_3_100 hd_X0_add_1 ⟨⟨(by dsimp only; omega), (by dsimp only; omega)⟩, (by dsimp only; omega), (by dsimp only; omega)⟩ hK hP hD hS hA (fmT om_6_3 0) (fmF om_6_3 0) (fm_C1 rfl rfl) (fm_R rfl rfl) (fm_nT om_6_3 0) (fm_nF om_6_3 0) (fm_di om_6_3 0) rfl rfl rfl rfl (Nat.le_of_ble_eq_true rfl) dX8_readSum_74 (fun u H locs hw hP hD hS => ?_)
          refine exE hw (fun c2_48 hw1 => exE hw1 (fun w2_49 hw2 => exE hw2 (fun g1_50 hw3 => anE hw3 (fun hc2_51 hw4 => anE hw4 (fun hw2_52 hw5 => anE hw5 (fun hO2_53 eu_54 => ?_))))))
          clear hw hw1 hw2 hw3 hw4 hw5
          refine o_mgE (ws' := [(u0, .inr (8, [.ref (q 2), .int (nI kn)])), (q 2, .inr (6, [.ref (q 0), .int (nI xa2_32), .int xv2_33, .int (nI xo), .int xt2_34, .int (nI xz2_35), .int xf2_36, .int xp2_37])), (q 0, .inr (10, [.ref (q 20), .int (nI tl)])), (q 20, .inl (cI, 1600, .inl (fun j => nI (tb j)))), (h0, .inr (0, [.ref k1, .ref k2, .ref k3, .ref k4, .int (nI c2_48), .int (nI w2_49)])), (k1, .inl (cI, 1600, .inl g1_50))]) eu_54 hP hD rfl (fun hP hD => ?_)
          have hO_55 := rs_ad hO2_45 hO2_53
          have hL_56 := lenO_ad (v := 1) hL_47
          refine lv_iinc (v := nI (i + 1)) (lv' := [(2, .int (nI (i + 1))), (3, .int 30000), (0, .ref u0), (1, .ref h0)]) hx hb dX8_readSum_77 hl (k := 1) rfl (ninc i 1 (by decide)) (by decide) rfl (fun ls hl => ?_)
          refine lv_goto (tgt := 7) hx hb dX8_readSum_80 (by decide) ?_
          exact ih_lp_17 (i + 1) xa2_32 xv2_33 xt2_34 xz2_35 xf2_36 xp2_37 c2_48 w2_49 g1_50 (ad (bindR (bd zo (nxF tb tl)) (apF (prodOf tb tl (rdPart tb tl kn dd)))) 1) _ _ _ (by omega) hO_55 (by omega) (by omega) (by omega) (by omega) (by omega) hL_56 (iO_s htb hzO ⟨by rw [c_20]; decide, by rw [c_20]; decide⟩ (prodOf_mono rdPart_mono) hiO) (sum_s htb hzO rdPart_mono (Or.inl ⟨c_20, rfl⟩) hrem) hP hD hS (lv_sub hl [0, 2, 3] rfl)
        · skip
          refine lv_aload_n hx hb dX8_readSum_26 rfl (lv_at hl 1 rfl) ?_
          refine sk_get (v := .ref (q 2)) (C := RX8) (T := TX8) (N := 2) hx hb hts inlX8 hown hK hP 0 rfl rfl 0 (by decide) w_1_100 rfl dX8_readSum_27 ?_
          refine sk_get (v := .int zt) (C := RX6) (T := TX6) (N := 8) hx hb hts inlX6 hown hK hP 1 rfl rfl 4 (by decide) w_1_63 rfl dX8_readSum_30 ?_
          refine lv_bipush (v := 45) hx hb dX8_readSum_33 (by decide) ?_
          refine lv_icmp_ne (tgt := 83) hx hb dX8_readSum_35 (by decide) (fun c_57 => ?_) (fun c_57 => ?_)
          · skip
            exact sk_vret hx hb hr hlocks hK hP hD hS (⟨za, zw, zt, zz, zg, zp, yc, yw, yf, by omega, by omega, by omega, by omega, sum_e htb hzO htl hiO (Or.inr ⟨c_20, c_57⟩) hrem, rfl⟩) (Nat.le_of_ble_eq_true rfl) (Nat.le_of_ble_eq_true rfl) dX8_readSum_83
          · skip
            refine lv_aload_n hx hb dX8_readSum_38 rfl (lv_at hl 1 rfl) ?_
            refine sk_get (v := .ref (q 2)) (C := RX8) (T := TX8) (N := 2) hx hb hts inlX8 hown hK hP 0 rfl rfl 0 (by decide) w_1_100 rfl dX8_readSum_39 ?_
            refine sk_get (v := .int zt) (C := RX6) (T := TX6) (N := 8) hx hb hts inlX6 hown hK hP 1 rfl rfl 4 (by decide) w_1_63 rfl dX8_readSum_42 ?_
            refine lv_bipush (v := 43) hx hb dX8_readSum_45 (by decide) ?_
            refine lv_icmp_ne (tgt := 56) hx hb dX8_readSum_47 (by decide) (fun c_58 => ?_) (fun c => absurd c c_20)
            refine lv_sipush (v := 30001) hx hb dX8_readSum_56 (by decide) ?_
            refine lv_istore_n (lv' := [(3, .int 30001), (2, .int (nI i)), (0, .ref u0), (1, .ref h0)]) hx hb dX8_readSum_59 rfl hl (by decide) rfl (fun ls hl => ?_)
            refine lv_aload_n hx hb dX8_readSum_60 rfl (lv_at hl 2 rfl) ?_
            refine sk_get (v := .ref (q 2)) (C := RX8) (T := TX8) (N := 2) hx hb hts inlX8 hown hK hP 0 rfl rfl 0 (by decide) w_1_100 rfl dX8_readSum_61 ?_
            refine sk_VvZ (q0 := 0) (n := 0) (rest := []) (wr := fmR om_6_1c _) ⟨hx, hb, hml, hown, hts⟩ hl.1 (c_erd_step l D cI cJ cC cZ cS zk zv zf q za zw xo zt zz zg zp tl tb (bindR (rc zo) (beF tb tl)) (by omega) (by omega) (by omega) htb (rd_st htb (hzO).1 ⟨by rw [c_57]; decide, by rw [c_57]; decide⟩)) w_3_110 w_2_226 w_2_227 w_1_4 w_2_228 hd_X6_step_0 ⟨⟨(by dsimp only; omega), (by dsimp only; omega)⟩, (by dsimp only; omega), (by dsimp only; omega)⟩ hK hP hD hS hZ hA (fmT om_6_1c 0) (fmF om_6_1c 0) (fm_C1 rfl rfl) (fm_R rfl rfl) (fm_nT om_6_1c 0) (fm_nF om_6_1c 0) (fm_di om_6_1c 0) rfl rfl rfl rfl (Nat.le_of_ble_eq_true rfl) dX8_readSum_64 (fun u H locs hw hP hD hS => ?_)
            refine exE hw (fun xa2_59 hw1 => exE hw1 (fun xv2_60 hw2 => exE hw2 (fun xt2_61 hw3 => exE hw3 (fun xz2_62 hw4 => anE hw4 (fun hxa2_63 hw5 => anE hw5 (fun hxz2_64 hw6 => anE hw6 (fun hO2_65 eu_66 => ?_)))))))
            clear hw hw1 hw2 hw3 hw4 hw5 hw6
            refine o_mgE (ws' := [(u0, .inr (8, [.ref (q 2), .int (nI kn)])), (q 2, .inr (6, [.ref (q 0), .int (nI xa2_59), .int xv2_60, .int (nI xo), .int xt2_61, .int (nI xz2_62), .int zg, .int zp])), (q 0, .inr (10, [.ref (q 20), .int (nI tl)])), (q 20, .inl (cI, 1600, .inl (fun j => nI (tb j)))), (h0, .inr (0, [.ref k1, .ref k2, .ref k3, .ref k4, .int (nI yc), .int (nI yw)])), (k1, .inl (cI, 1600, .inl yf))]) eu_66 hP hD rfl (fun hP hD => ?_)
            rw [stF_nx] at hO2_65
            have hO_67 := rs_bd hzO hO2_65
            have hL_68 := lenS_nx htb hzO ⟨by rw [c_57]; decide, by rw [c_57]; decide⟩ hzl
            refine lv_aload_n hx hb dX8_readSum_67 rfl (lv_at hl 2 rfl) ?_
            refine lv_aload_n hx hb dX8_readSum_68 rfl (lv_at hl 3 rfl) ?_
            refine sk_VvZ (q0 := 0) (n := 1) (rest := []) (wr := fmR om_6_3f _) ⟨hx, hb, hml, hown, hts⟩ hl.1 (hq q u0 kn xa2_59 xv2_60 xo xt2_61 xz2_62 zg zp tl tb h0 k1 k2 k3 k4 yc yw yf (bd zo (nxF tb tl)) (by omega) (by omega) (by omega) htb (by omega) (by omega) (by omega) (by omega) hO_67 (lenO_S hL_68)) w_3_88 w_3_90 w_0_7 w_1_6 w_3_91 hd_X8_readProduct_1 ⟨⟨(by dsimp only; omega), (by dsimp only; omega)⟩, (by dsimp only; omega), (by dsimp only; omega)⟩ hK hP hD hS hZ hA (fmT om_6_3f 0) (fmF om_6_3f 0) (fm_C1 rfl rfl) (fm_R rfl rfl) (fm_nT om_6_3f 0) (fm_nF om_6_3f 0) (fm_di om_6_3f 0) rfl rfl rfl rfl (Nat.le_of_ble_eq_true rfl) dX8_readSum_69 (fun u H locs hw hP hD hS => ?_)
            refine exE hw (fun xa2_69 hw1 => exE hw1 (fun xv2_70 hw2 => exE hw2 (fun xt2_71 hw3 => exE hw3 (fun xz2_72 hw4 => exE hw4 (fun xf2_73 hw5 => exE hw5 (fun xp2_74 hw6 => exE hw6 (fun c2_75 hw7 => exE hw7 (fun w2_76 hw8 => exE hw8 (fun g1_77 hw9 => anE hw9 (fun hxa2_78 hw10 => anE hw10 (fun hxz2_79 hw11 => anE hw11 (fun hc2_80 hw12 => anE hw12 (fun hw2_81 hw13 => anE hw13 (fun hO2_82 eu_83 => ?_))))))))))))))
            clear hw hw1 hw2 hw3 hw4 hw5 hw6 hw7 hw8 hw9 hw10 hw11 hw12 hw13
            refine o_mgE (ws' := [(u0, .inr (8, [.ref (q 2), .int (nI kn)])), (q 2, .inr (6, [.ref (q 0), .int (nI xa2_69), .int xv2_70, .int (nI xo), .int xt2_71, .int (nI xz2_72), .int xf2_73, .int xp2_74])), (q 0, .inr (10, [.ref (q 20), .int (nI tl)])), (q 20, .inl (cI, 1600, .inl (fun j => nI (tb j)))), (h0, .inr (0, [.ref k1, .ref k2, .ref k3, .ref k4, .int (nI c2_75), .int (nI w2_76)])), (k1, .inl (cI, 1600, .inl g1_77))]) eu_83 hP hD rfl (fun hP hD => ?_)
            have hL_84 := lenS_ap (len_prod (tb := tb) (n := tl) (len_part (tb := tb) (n := tl) (kind := kn) dd)) hL_68
            refine lv_aload_n hx hb dX8_readSum_72 rfl (lv_at hl 3 rfl) ?_
            refine lv_iload_n hx hb dX8_readSum_73 rfl (lv_at hl 0 rfl) ?_
            refine sk_Vv (q0 := 0) (n := 1) (rest := []) (wr := fmR om_6_3 _) ⟨hx, hb, hml, hown, hts⟩ hl.1 (c_eCode_addX l D cI cJ cC cZ cS h0 k1 k2 k3 k4 c2_75 w2_76 g1_77 30001 (bindR (bd zo (nxF tb tl)) (apF (prodOf tb tl (rdPart tb tl kn dd)))) 2 (by omega) (by omega) (by decide) (by omega) (hO2_82).2 (rm_S hO2_82 htl hL_84)) w_3_97 w_3_98 w_3_99 w_1_8 w_3_100 hd_X0_add_1 ⟨⟨(by dsimp only; omega), (by dsimp only; omega)⟩, (by dsimp only; omega), (by dsimp only; omega)⟩ hK hP hD hS hA (fmT om_6_3 0) (fmF om_6_3 0) (fm_C1 rfl rfl) (fm_R rfl rfl) (fm_nT om_6_3 0) (fm_nF om_6_3 0) (fm_di om_6_3 0) rfl rfl rfl rfl (Nat.le_of_ble_eq_true rfl) dX8_readSum_74 (fun u H locs hw hP hD hS => ?_)
            refine exE hw (fun c2_85 hw1 => exE hw1 (fun w2_86 hw2 => exE hw2 (fun g1_87 hw3 => anE hw3 (fun hc2_88 hw4 => anE hw4 (fun hw2_89 hw5 => anE hw5 (fun hO2_90 eu_91 => ?_))))))
            clear hw hw1 hw2 hw3 hw4 hw5
            refine o_mgE (ws' := [(u0, .inr (8, [.ref (q 2), .int (nI kn)])), (q 2, .inr (6, [.ref (q 0), .int (nI xa2_69), .int xv2_70, .int (nI xo), .int xt2_71, .int (nI xz2_72), .int xf2_73, .int xp2_74])), (q 0, .inr (10, [.ref (q 20), .int (nI tl)])), (q 20, .inl (cI, 1600, .inl (fun j => nI (tb j)))), (h0, .inr (0, [.ref k1, .ref k2, .ref k3, .ref k4, .int (nI c2_85), .int (nI w2_86)])), (k1, .inl (cI, 1600, .inl g1_87))]) eu_91 hP hD rfl (fun hP hD => ?_)
            have hO_92 := rs_ad hO2_82 hO2_90
            have hL_93 := lenO_ad (v := 2) hL_84
            refine lv_iinc (v := nI (i + 1)) (lv' := [(2, .int (nI (i + 1))), (3, .int 30001), (0, .ref u0), (1, .ref h0)]) hx hb dX8_readSum_77 hl (k := 1) rfl (ninc i 1 (by decide)) (by decide) rfl (fun ls hl => ?_)
            refine lv_goto (tgt := 7) hx hb dX8_readSum_80 (by decide) ?_
            exact ih_lp_17 (i + 1) xa2_69 xv2_70 xt2_71 xz2_72 xf2_73 xp2_74 c2_85 w2_86 g1_87 (ad (bindR (bd zo (nxF tb tl)) (apF (prodOf tb tl (rdPart tb tl kn dd)))) 2) _ _ _ (by omega) hO_92 (by omega) (by omega) (by omega) (by omega) (by omega) hL_93 (iO_s htb hzO ⟨by rw [c_57]; decide, by rw [c_57]; decide⟩ (prodOf_mono rdPart_mono) hiO) (sum_s htb hzO rdPart_mono (Or.inr ⟨c_57, rfl⟩) hrem) hP hD hS (lv_sub hl [0, 2, 3] rfl)
  exact lp_17 (1600 - 0 + 1) 0 xa2_1 xv2_2 xt2_3 xz2_4 xf2_5 xp2_6 c2_7 w2_8 g1_9 (bindR og (apF (prodOf tb tl (rdPart tb tl kn dd)))) _ _ _ (Nat.lt_succ_self _) hO2_14 (by omega) (by omega) (by omega) (by omega) (by omega) hL_16 (iO_0 _) (sum_0 _) hP hD hS (lv_sub hl [0, 1, 2] rfl)
