def opnO (tb : Nat → Nat) (n : Nat) (o : Except Err Cur) : Except Err Cur := bindR (bindR (bindR (bindR (bindR o (tkF tb n 256)) (nmF tb n 2 9)) (tkF tb n 257)) (nmF tb n 0 9)) (tkF tb n 59)
set_option maxHeartbeats 4000000 in
set_option maxRecDepth 100000 in
theorem c_elt_opening (l : Launch) (D : va_G) (cI cJ cC cZ cS : ClassId) (zk zv : Nat) (zf : Value) (q : Nat → Nat) (xa : Nat) (xv : Int32) (xo : Nat) (xt : Int32) (xz : Nat) (xf : Int32) (xp : Int32) (tl : Nat) (tb : Nat → Nat) (jd : Nat) (jm : Nat) (ju : Int32) (jr : Int32) (jn : Nat) (og : Except Err Cur) (hxa : xa ≤ 1600) (hxz : xz ≤ 1600) (htl : tl ≤ 1600) (htb : ∀ j, tb j ≤ 255) (hO : rdO tb tl og xa xv xt xz xf xp) : skMZ zk zv zf l yX3_readOpening cX3_readOpening 2 none 7 154 0 0 D (skT cI cJ cC cZ cS) [.ref (q 3), .ref (q 6)] [(q 3, .inr (3, [.ref (q 2), .ref (q 22), .ref (q 23)])), (q 2, .inr (6, [.ref (q 0), .int (nI xa), .int xv, .int (nI xo), .int xt, .int (nI xz), .int xf, .int xp])), (q 0, .inr (10, [.ref (q 20), .int (nI tl)])), (q 20, .inl (cI, 1600, .inl (fun j => nI (tb j)))), (q 6, .inr (2, [.ref (q 24), .ref (q 25), .ref (q 26), .ref (q 27), .ref (q 28), .int (nI jd), .int (nI jm), .int ju, .int jr, .int (nI jn)]))] (skV D (skT cI cJ cC cZ cS) (fun (u : va_W) => ∃ (xa2 : Nat), ∃ (xv2 : Int32), ∃ (xt2 : Int32), ∃ (xz2 : Nat), ∃ (xf2 : Int32), ∃ (xp2 : Int32), ∃ (jd2 : Nat), ∃ (jm2 : Nat), xa2 ≤ 1600 ∧ xz2 ≤ 1600 ∧ 2 ≤ jd2 ∧ jd2 ≤ 9 ∧ jm2 ≤ 9 ∧ nvO tb tl 2 9 (bindR og (tkF tb tl 256)) jd2 ∧ nvO tb tl 0 9 (bindR (bindR (bindR og (tkF tb tl 256)) (nmF tb tl 2 9)) (tkF tb tl 257)) jm2 ∧ rdO tb tl (opnO tb tl og) xa2 xv2 xt2 xz2 xf2 xp2 ∧ u = [(q 3, .inr (3, [.ref (q 2), .ref (q 22), .ref (q 23)])), (q 2, .inr (6, [.ref (q 0), .int (nI xa2), .int xv2, .int (nI xo), .int xt2, .int (nI xz2), .int xf2, .int xp2])), (q 0, .inr (10, [.ref (q 20), .int (nI tl)])), (q 20, .inl (cI, 1600, .inl (fun j => nI (tb j)))), (q 6, .inr (2, [.ref (q 24), .ref (q 25), .ref (q 26), .ref (q 27), .ref (q 28), .int (nI jd2), .int (nI jm2), .int ju, .int jr, .int 1]))])) := by
  refine skMZ_of pf_X3_readOpening (Nat.le_of_ble_eq_true rfl) ?_
  intro p e s m below meth c A ls E hP hD hZ hl
  refine skE_el E (fun hx hb hr hml hlocks hin hown hts hK hA => ?_)
  have hown : s.vm.findClass RX3 = some m.cls := hown
  have hS : va_S A s.heap s.heap [] := va_S.rf
  have hl : lv_has ls 2 [(0, .ref (q 3)), (1, .ref (q 6))] := hl
  refine lv_aload_n hx hb dX3_readOpening_0 rfl (lv_at hl 0 rfl) ?_
  refine sk_get (v := .ref (q 2)) (C := RX3) (T := TX3) (N := 3) hx hb hts inlX3 hown hK hP 0 rfl rfl 0 (Nat.le_of_ble_eq_true rfl) w_1_107 rfl dX3_readOpening_1 ?_
  refine lv_sipush (v := 256) hx hb dX3_readOpening_4 (by decide) ?_
  refine sk_VvZ (q0 := 0) (n := 1) (rest := []) (wr := fmR om_5_e _) ⟨hx, hb, hml, hown, hts⟩ hl.1 (c_erd_needs l D cI cJ cC cZ cS zk zv zf q xa xv xo xt xz xf xp tl tb 256 og hxa hxz htl htb (by decide) hO) w_3_50 w_3_51 w_3_52 w_1_4 w_3_53 hd_X6_needs_1 ⟨⟨(Nat.le_of_ble_eq_true rfl), (Nat.le_of_ble_eq_true rfl)⟩, (Nat.le_of_ble_eq_true rfl), (Nat.le_of_ble_eq_true rfl)⟩ hK hP hD hS hZ hA (fmT om_5_e 0) (fmF om_5_e 0) (fm_C1 rfl rfl) (fm_R rfl rfl) (fm_nT om_5_e 0) (fm_nF om_5_e 0) (fm_di om_5_e 0) rfl rfl rfl rfl (Nat.le_of_ble_eq_true rfl) dX3_readOpening_7 (fun u H locs hw hP hD hS => ?_)
  refine exE hw (fun xa2_1 hw1 => exE hw1 (fun xv2_2 hw2 => exE hw2 (fun xt2_3 hw3 => exE hw3 (fun xz2_4 hw4 => exE hw4 (fun xf2_5 hw5 => exE hw5 (fun xp2_6 hw6 => anE hw6 (fun hxa2_7 hw7 => anE hw7 (fun hxz2_8 hw8 => anE hw8 (fun hO2_9 eu_10 => ?_)))))))))
  clear hw hw1 hw2 hw3 hw4 hw5 hw6 hw7 hw8
  refine o_mgE (ws' := [(q 3, .inr (3, [.ref (q 2), .ref (q 22), .ref (q 23)])), (q 2, .inr (6, [.ref (q 0), .int (nI xa2_1), .int xv2_2, .int (nI xo), .int xt2_3, .int (nI xz2_4), .int xf2_5, .int xp2_6])), (q 0, .inr (10, [.ref (q 20), .int (nI tl)])), (q 20, .inl (cI, 1600, .inl (fun j => nI (tb j)))), (q 6, .inr (2, [.ref (q 24), .ref (q 25), .ref (q 26), .ref (q 27), .ref (q 28), .int (nI jd), .int (nI jm), .int ju, .int jr, .int (nI jn)]))]) eu_10 hP hD rfl (fun hP hD => ?_)
  refine lv_aload_n hx hb dX3_readOpening_10 rfl (lv_at hl 1 rfl) ?_
  refine lv_aload_n hx hb dX3_readOpening_11 rfl (lv_at hl 0 rfl) ?_
  refine sk_get (v := .ref (q 2)) (C := RX3) (T := TX3) (N := 3) hx hb hts inlX3 hown hK hP 0 rfl rfl 0 (Nat.le_of_ble_eq_true rfl) w_1_107 rfl dX3_readOpening_12 ?_
  refine lv_iconst (v := 2) hx hb dX3_readOpening_15 ic_2 ?_
  refine lv_bipush (v := 9) hx hb dX3_readOpening_16 (by decide) ?_
  refine sk_ViZ (q0 := 0) (n := 2) (rest := [.ref (q 6)]) (wr := fmR om_5_e _) ⟨hx, hb, hml, hown, hts⟩ hl.1 (c_erd_takeNumber l D cI cJ cC cZ cS zk zv zf q xa2_1 xv2_2 xo xt2_3 xz2_4 xf2_5 xp2_6 tl tb 2 9 (bindR og (tkF tb tl 256)) hxa2_7 hxz2_8 htl htb (by omega) (by omega) hO2_9) w_3_62 w_3_63 w_3_64 w_1_4 w_3_65 hd_X6_takeNumber_2 ⟨⟨(Nat.le_of_ble_eq_true rfl), (Nat.le_of_ble_eq_true rfl)⟩, (Nat.le_of_ble_eq_true rfl), (Nat.le_of_ble_eq_true rfl)⟩ hK hP hD hS hZ hA (fmT om_5_e 0) (fmF om_5_e 0) (fm_C1 rfl rfl) (fm_R rfl rfl) (fm_nT om_5_e 0) (fm_nF om_5_e 0) (fm_di om_5_e 0) rfl rfl rfl rfl (Nat.le_of_ble_eq_true rfl) dX3_readOpening_18 (fun r_18 u H locs hw hP hD hS => ?_)
  refine exE hw (fun xa2_11 hw1 => exE hw1 (fun xv2_12 hw2 => exE hw2 (fun xt2_13 hw3 => exE hw3 (fun xz2_14 hw4 => exE hw4 (fun xf2_15 hw5 => exE hw5 (fun xp2_16 hw6 => exE hw6 (fun v_17 hw7 => anE hw7 (fun hxa2_19 hw8 => anE hw8 (fun hxz2_20 hw9 => anE hw9 (fun hv1_21 hw10 => anE hw10 (fun hv2_22 hw11 => anE hw11 (fun hnv_23 hw12 => anE hw12 (fun hO2_24 hw13 => anE hw13 (fun er_26 eu_25 => ?_))))))))))))))
  clear hw hw1 hw2 hw3 hw4 hw5 hw6 hw7 hw8 hw9 hw10 hw11 hw12 hw13
  subst er_26
  refine o_mgE (ws' := [(q 3, .inr (3, [.ref (q 2), .ref (q 22), .ref (q 23)])), (q 2, .inr (6, [.ref (q 0), .int (nI xa2_11), .int xv2_12, .int (nI xo), .int xt2_13, .int (nI xz2_14), .int xf2_15, .int xp2_16])), (q 0, .inr (10, [.ref (q 20), .int (nI tl)])), (q 20, .inl (cI, 1600, .inl (fun j => nI (tb j)))), (q 6, .inr (2, [.ref (q 24), .ref (q 25), .ref (q 26), .ref (q 27), .ref (q 28), .int (nI jd), .int (nI jm), .int ju, .int jr, .int (nI jn)]))]) eu_25 hP hD rfl (fun hP hD => ?_)
  refine sk_put (ws' := [(q 3, .inr (3, [.ref (q 2), .ref (q 22), .ref (q 23)])), (q 2, .inr (6, [.ref (q 0), .int (nI xa2_11), .int xv2_12, .int (nI xo), .int xt2_13, .int (nI xz2_14), .int xf2_15, .int xp2_16])), (q 0, .inr (10, [.ref (q 20), .int (nI tl)])), (q 20, .inl (cI, 1600, .inl (fun j => nI (tb j)))), (q 6, .inr (2, [.ref (q 24), .ref (q 25), .ref (q 26), .ref (q 27), .ref (q 28), .int (nI v_17), .int (nI jm), .int ju, .int jr, .int (nI jn)]))]) (C := RX2) (T := TX2) (N := 10) (v := .int (nI v_17)) hx hb hts inlX2 tyX2 tyX2_ok nmX2 hown hK hP hD hS 4 rfl rfl 5 (Nat.le_of_ble_eq_true rfl) w_1_190 rfl rfl rfl (Nat.le_of_ble_eq_true rfl) rfl dX3_readOpening_21 (fun H locs hP hD hS => ?_)
  refine lv_aload_n hx hb dX3_readOpening_24 rfl (lv_at hl 0 rfl) ?_
  refine sk_get (v := .ref (q 2)) (C := RX3) (T := TX3) (N := 3) hx hb hts inlX3 hown hK hP 0 rfl rfl 0 (Nat.le_of_ble_eq_true rfl) w_1_107 rfl dX3_readOpening_25 ?_
  refine lv_sipush (v := 257) hx hb dX3_readOpening_28 (by decide) ?_
  refine sk_VvZ (q0 := 0) (n := 1) (rest := []) (wr := fmR om_5_e _) ⟨hx, hb, hml, hown, hts⟩ hl.1 (c_erd_needs l D cI cJ cC cZ cS zk zv zf q xa2_11 xv2_12 xo xt2_13 xz2_14 xf2_15 xp2_16 tl tb 257 (bindR (bindR og (tkF tb tl 256)) (nmF tb tl 2 9)) hxa2_19 hxz2_20 htl htb (by decide) hO2_24) w_3_50 w_3_51 w_3_52 w_1_4 w_3_53 hd_X6_needs_1 ⟨⟨(Nat.le_of_ble_eq_true rfl), (Nat.le_of_ble_eq_true rfl)⟩, (Nat.le_of_ble_eq_true rfl), (Nat.le_of_ble_eq_true rfl)⟩ hK hP hD hS hZ hA (fmT om_5_e 0) (fmF om_5_e 0) (fm_C1 rfl rfl) (fm_R rfl rfl) (fm_nT om_5_e 0) (fm_nF om_5_e 0) (fm_di om_5_e 0) rfl rfl rfl rfl (Nat.le_of_ble_eq_true rfl) dX3_readOpening_31 (fun u H locs hw hP hD hS => ?_)
  refine exE hw (fun xa2_27 hw1 => exE hw1 (fun xv2_28 hw2 => exE hw2 (fun xt2_29 hw3 => exE hw3 (fun xz2_30 hw4 => exE hw4 (fun xf2_31 hw5 => exE hw5 (fun xp2_32 hw6 => anE hw6 (fun hxa2_33 hw7 => anE hw7 (fun hxz2_34 hw8 => anE hw8 (fun hO2_35 eu_36 => ?_)))))))))
  clear hw hw1 hw2 hw3 hw4 hw5 hw6 hw7 hw8
  refine o_mgE (ws' := [(q 3, .inr (3, [.ref (q 2), .ref (q 22), .ref (q 23)])), (q 2, .inr (6, [.ref (q 0), .int (nI xa2_27), .int xv2_28, .int (nI xo), .int xt2_29, .int (nI xz2_30), .int xf2_31, .int xp2_32])), (q 0, .inr (10, [.ref (q 20), .int (nI tl)])), (q 20, .inl (cI, 1600, .inl (fun j => nI (tb j)))), (q 6, .inr (2, [.ref (q 24), .ref (q 25), .ref (q 26), .ref (q 27), .ref (q 28), .int (nI v_17), .int (nI jm), .int ju, .int jr, .int (nI jn)]))]) eu_36 hP hD rfl (fun hP hD => ?_)
  refine lv_aload_n hx hb dX3_readOpening_34 rfl (lv_at hl 1 rfl) ?_
  refine lv_aload_n hx hb dX3_readOpening_35 rfl (lv_at hl 0 rfl) ?_
  refine sk_get (v := .ref (q 2)) (C := RX3) (T := TX3) (N := 3) hx hb hts inlX3 hown hK hP 0 rfl rfl 0 (Nat.le_of_ble_eq_true rfl) w_1_107 rfl dX3_readOpening_36 ?_
  refine lv_iconst (v := 0) hx hb dX3_readOpening_39 ic_0 ?_
  refine lv_bipush (v := 9) hx hb dX3_readOpening_40 (by decide) ?_
  refine sk_ViZ (q0 := 0) (n := 2) (rest := [.ref (q 6)]) (wr := fmR om_5_e _) ⟨hx, hb, hml, hown, hts⟩ hl.1 (c_erd_takeNumber l D cI cJ cC cZ cS zk zv zf q xa2_27 xv2_28 xo xt2_29 xz2_30 xf2_31 xp2_32 tl tb 0 9 (bindR (bindR (bindR og (tkF tb tl 256)) (nmF tb tl 2 9)) (tkF tb tl 257)) hxa2_33 hxz2_34 htl htb (by omega) (by omega) hO2_35) w_3_62 w_3_63 w_3_64 w_1_4 w_3_65 hd_X6_takeNumber_2 ⟨⟨(Nat.le_of_ble_eq_true rfl), (Nat.le_of_ble_eq_true rfl)⟩, (Nat.le_of_ble_eq_true rfl), (Nat.le_of_ble_eq_true rfl)⟩ hK hP hD hS hZ hA (fmT om_5_e 0) (fmF om_5_e 0) (fm_C1 rfl rfl) (fm_R rfl rfl) (fm_nT om_5_e 0) (fm_nF om_5_e 0) (fm_di om_5_e 0) rfl rfl rfl rfl (Nat.le_of_ble_eq_true rfl) dX3_readOpening_42 (fun r_44 u H locs hw hP hD hS => ?_)
  refine exE hw (fun xa2_37 hw1 => exE hw1 (fun xv2_38 hw2 => exE hw2 (fun xt2_39 hw3 => exE hw3 (fun xz2_40 hw4 => exE hw4 (fun xf2_41 hw5 => exE hw5 (fun xp2_42 hw6 => exE hw6 (fun v_43 hw7 => anE hw7 (fun hxa2_45 hw8 => anE hw8 (fun hxz2_46 hw9 => anE hw9 (fun hv1_47 hw10 => anE hw10 (fun hv2_48 hw11 => anE hw11 (fun hnv_49 hw12 => anE hw12 (fun hO2_50 hw13 => anE hw13 (fun er_52 eu_51 => ?_))))))))))))))
  clear hw hw1 hw2 hw3 hw4 hw5 hw6 hw7 hw8 hw9 hw10 hw11 hw12 hw13
  subst er_52
  refine o_mgE (ws' := [(q 3, .inr (3, [.ref (q 2), .ref (q 22), .ref (q 23)])), (q 2, .inr (6, [.ref (q 0), .int (nI xa2_37), .int xv2_38, .int (nI xo), .int xt2_39, .int (nI xz2_40), .int xf2_41, .int xp2_42])), (q 0, .inr (10, [.ref (q 20), .int (nI tl)])), (q 20, .inl (cI, 1600, .inl (fun j => nI (tb j)))), (q 6, .inr (2, [.ref (q 24), .ref (q 25), .ref (q 26), .ref (q 27), .ref (q 28), .int (nI v_17), .int (nI jm), .int ju, .int jr, .int (nI jn)]))]) eu_51 hP hD rfl (fun hP hD => ?_)
  refine sk_put (ws' := [(q 3, .inr (3, [.ref (q 2), .ref (q 22), .ref (q 23)])), (q 2, .inr (6, [.ref (q 0), .int (nI xa2_37), .int xv2_38, .int (nI xo), .int xt2_39, .int (nI xz2_40), .int xf2_41, .int xp2_42])), (q 0, .inr (10, [.ref (q 20), .int (nI tl)])), (q 20, .inl (cI, 1600, .inl (fun j => nI (tb j)))), (q 6, .inr (2, [.ref (q 24), .ref (q 25), .ref (q 26), .ref (q 27), .ref (q 28), .int (nI v_17), .int (nI v_43), .int ju, .int jr, .int (nI jn)]))]) (C := RX2) (T := TX2) (N := 10) (v := .int (nI v_43)) hx hb hts inlX2 tyX2 tyX2_ok nmX2 hown hK hP hD hS 4 rfl rfl 6 (Nat.le_of_ble_eq_true rfl) w_1_193 rfl rfl rfl (Nat.le_of_ble_eq_true rfl) rfl dX3_readOpening_45 (fun H locs hP hD hS => ?_)
  refine lv_aload_n hx hb dX3_readOpening_48 rfl (lv_at hl 0 rfl) ?_
  refine sk_get (v := .ref (q 2)) (C := RX3) (T := TX3) (N := 3) hx hb hts inlX3 hown hK hP 0 rfl rfl 0 (Nat.le_of_ble_eq_true rfl) w_1_107 rfl dX3_readOpening_49 ?_
  refine lv_bipush (v := 59) hx hb dX3_readOpening_52 (by decide) ?_
  refine sk_VvZ (q0 := 0) (n := 1) (rest := []) (wr := fmR om_5_e _) ⟨hx, hb, hml, hown, hts⟩ hl.1 (c_erd_needs l D cI cJ cC cZ cS zk zv zf q xa2_37 xv2_38 xo xt2_39 xz2_40 xf2_41 xp2_42 tl tb 59 (bindR (bindR (bindR (bindR og (tkF tb tl 256)) (nmF tb tl 2 9)) (tkF tb tl 257)) (nmF tb tl 0 9)) hxa2_45 hxz2_46 htl htb (by decide) hO2_50) w_3_50 w_3_51 w_3_52 w_1_4 w_3_53 hd_X6_needs_1 ⟨⟨(Nat.le_of_ble_eq_true rfl), (Nat.le_of_ble_eq_true rfl)⟩, (Nat.le_of_ble_eq_true rfl), (Nat.le_of_ble_eq_true rfl)⟩ hK hP hD hS hZ hA (fmT om_5_e 0) (fmF om_5_e 0) (fm_C1 rfl rfl) (fm_R rfl rfl) (fm_nT om_5_e 0) (fm_nF om_5_e 0) (fm_di om_5_e 0) rfl rfl rfl rfl (Nat.le_of_ble_eq_true rfl) dX3_readOpening_54 (fun u H locs hw hP hD hS => ?_)
  refine exE hw (fun xa2_53 hw1 => exE hw1 (fun xv2_54 hw2 => exE hw2 (fun xt2_55 hw3 => exE hw3 (fun xz2_56 hw4 => exE hw4 (fun xf2_57 hw5 => exE hw5 (fun xp2_58 hw6 => anE hw6 (fun hxa2_59 hw7 => anE hw7 (fun hxz2_60 hw8 => anE hw8 (fun hO2_61 eu_62 => ?_)))))))))
  clear hw hw1 hw2 hw3 hw4 hw5 hw6 hw7 hw8
  refine o_mgE (ws' := [(q 3, .inr (3, [.ref (q 2), .ref (q 22), .ref (q 23)])), (q 2, .inr (6, [.ref (q 0), .int (nI xa2_53), .int xv2_54, .int (nI xo), .int xt2_55, .int (nI xz2_56), .int xf2_57, .int xp2_58])), (q 0, .inr (10, [.ref (q 20), .int (nI tl)])), (q 20, .inl (cI, 1600, .inl (fun j => nI (tb j)))), (q 6, .inr (2, [.ref (q 24), .ref (q 25), .ref (q 26), .ref (q 27), .ref (q 28), .int (nI v_17), .int (nI v_43), .int ju, .int jr, .int (nI jn)]))]) eu_62 hP hD rfl (fun hP hD => ?_)
  refine lv_aload_n hx hb dX3_readOpening_57 rfl (lv_at hl 1 rfl) ?_
  refine lv_iconst (v := 1) hx hb dX3_readOpening_58 ic_1 ?_
  refine sk_put (ws' := [(q 3, .inr (3, [.ref (q 2), .ref (q 22), .ref (q 23)])), (q 2, .inr (6, [.ref (q 0), .int (nI xa2_53), .int xv2_54, .int (nI xo), .int xt2_55, .int (nI xz2_56), .int xf2_57, .int xp2_58])), (q 0, .inr (10, [.ref (q 20), .int (nI tl)])), (q 20, .inl (cI, 1600, .inl (fun j => nI (tb j)))), (q 6, .inr (2, [.ref (q 24), .ref (q 25), .ref (q 26), .ref (q 27), .ref (q 28), .int (nI v_17), .int (nI v_43), .int ju, .int jr, .int 1]))]) (C := RX2) (T := TX2) (N := 10) (v := .int 1) hx hb hts inlX2 tyX2 tyX2_ok nmX2 hown hK hP hD hS 4 rfl rfl 9 (Nat.le_of_ble_eq_true rfl) w_1_201 rfl rfl rfl (Nat.le_of_ble_eq_true rfl) rfl dX3_readOpening_59 (fun H locs hP hD hS => ?_)
  exact sk_vret hx hb hr hlocks hK hP hD hS (⟨xa2_53, xv2_54, xt2_55, xz2_56, xf2_57, xp2_58, v_17, v_43, hxa2_59, hxz2_60, hv1_21, hv2_22, hv2_48, hnv_23, hnv_49, hO2_61, rfl⟩) (Nat.le_of_ble_eq_true rfl) (Nat.le_of_ble_eq_true rfl) dX3_readOpening_62
set_option maxHeartbeats 4000000 in
set_option maxRecDepth 100000 in
theorem c_elt_amount (l : Launch) (D : va_G) (cI cJ cC cZ cS : ClassId) (zk zv : Nat) (zf : Value) (q : Nat → Nat) (xa : Nat) (xv : Int32) (xo : Nat) (xt : Int32) (xz : Nat) (xf : Int32) (xp : Int32) (tl : Nat) (tb : Nat → Nat) (jd : Nat) (jm : Nat) (ju : Int32) (jr : Int32) (jn : Nat) (am : Nat) (fm : Nat → Int32) (og : Except Err Cur) (hxa : xa ≤ 1600) (hxz : xz ≤ 1600) (htl : tl ≤ 1600) (htb : ∀ j, tb j ≤ 255) (hjd1 : 1 ≤ jd) (hjd : jd ≤ 9) (hre : ¬ xt = -1 ∧ ¬ xt = -2) (hO : rdO tb tl og xa xv xt xz xf xp) : skMZ zk zv zf l yX3_readAmount cX3_readAmount 5 none 7 154 0 0 D (skT cI cJ cC cZ cS) [.ref (q 3), .ref (q 6), .ref am] [(q 3, .inr (3, [.ref (q 2), .ref (q 22), .ref (q 23)])), (q 2, .inr (6, [.ref (q 0), .int (nI xa), .int xv, .int (nI xo), .int xt, .int (nI xz), .int xf, .int xp])), (q 0, .inr (10, [.ref (q 20), .int (nI tl)])), (q 20, .inl (cI, 1600, .inl (fun j => nI (tb j)))), (q 6, .inr (2, [.ref (q 24), .ref (q 25), .ref (q 26), .ref (q 27), .ref (q 28), .int (nI jd), .int (nI jm), .int ju, .int jr, .int (nI jn)])), (am, .inl (cI, 9, .inl fm))] (skV D (skT cI cJ cC cZ cS) (fun (u : va_W) => ∃ (xa2 : Nat), ∃ (xv2 : Int32), ∃ (xt2 : Int32), ∃ (xz2 : Nat), ∃ (xf2 : Int32), ∃ (xp2 : Int32), ∃ (fm2 : Nat → Int32), ∃ (dv : Nat), ∃ (mv : Nat), xa2 ≤ 1600 ∧ xz2 ≤ 1600 ∧ amV tb tl jd og dv mv ∧ fm2 = upd fm dv (nI mv) ∧ rdO tb tl (amO tb tl jd og) xa2 xv2 xt2 xz2 xf2 xp2 ∧ u = [(q 3, .inr (3, [.ref (q 2), .ref (q 22), .ref (q 23)])), (q 2, .inr (6, [.ref (q 0), .int (nI xa2), .int xv2, .int (nI xo), .int xt2, .int (nI xz2), .int xf2, .int xp2])), (q 0, .inr (10, [.ref (q 20), .int (nI tl)])), (q 20, .inl (cI, 1600, .inl (fun j => nI (tb j)))), (q 6, .inr (2, [.ref (q 24), .ref (q 25), .ref (q 26), .ref (q 27), .ref (q 28), .int (nI jd), .int (nI jm), .int ju, .int jr, .int (nI jn)])), (am, .inl (cI, 9, .inl fm2))])) := by
  refine skMZ_of pf_X3_readAmount (Nat.le_of_ble_eq_true rfl) ?_
  intro p e s m below meth c A ls E hP hD hZ hl
  refine skE_el E (fun hx hb hr hml hlocks hin hown hts hK hA => ?_)
  have hown : s.vm.findClass RX3 = some m.cls := hown
  have hS : va_S A s.heap s.heap [] := va_S.rf
  have hl : lv_has ls 5 [(0, .ref (q 3)), (1, .ref (q 6)), (2, .ref am)] := hl
  refine lv_aload_n hx hb dX3_readAmount_0 rfl (lv_at hl 0 rfl) ?_
  refine sk_get (v := .ref (q 2)) (C := RX3) (T := TX3) (N := 3) hx hb hts inlX3 hown hK hP 0 rfl rfl 0 (Nat.le_of_ble_eq_true rfl) w_1_107 rfl dX3_readAmount_1 ?_
  refine sk_VvZ (q0 := 0) (n := 0) (rest := []) (wr := fmR om_6_1c _) ⟨hx, hb, hml, hown, hts⟩ hl.1 (c_erd_step l D cI cJ cC cZ cS zk zv zf q xa xv xo xt xz xf xp tl tb (bindR og (beF tb tl)) hxa hxz htl htb (rd_st htb hO hre)) w_3_75 w_2_226 w_2_227 w_1_4 w_2_228 hd_X6_step_0 ⟨⟨(Nat.le_of_ble_eq_true rfl), (Nat.le_of_ble_eq_true rfl)⟩, (Nat.le_of_ble_eq_true rfl), (Nat.le_of_ble_eq_true rfl)⟩ hK hP hD hS hZ hA (fmT om_6_1c 0) (fmF om_6_1c 0) (fm_C1 rfl rfl) (fm_R rfl rfl) (fm_nT om_6_1c 0) (fm_nF om_6_1c 0) (fm_di om_6_1c 0) rfl rfl rfl rfl (Nat.le_of_ble_eq_true rfl) dX3_readAmount_4 (fun u H locs hw hP hD hS => ?_)
  refine exE hw (fun xa2_1 hw1 => exE hw1 (fun xv2_2 hw2 => exE hw2 (fun xt2_3 hw3 => exE hw3 (fun xz2_4 hw4 => anE hw4 (fun hxa2_5 hw5 => anE hw5 (fun hxz2_6 hw6 => anE hw6 (fun hO2_7 eu_8 => ?_)))))))
  clear hw hw1 hw2 hw3 hw4 hw5 hw6
  refine o_mgE (ws' := [(q 3, .inr (3, [.ref (q 2), .ref (q 22), .ref (q 23)])), (q 2, .inr (6, [.ref (q 0), .int (nI xa2_1), .int xv2_2, .int (nI xo), .int xt2_3, .int (nI xz2_4), .int xf, .int xp])), (q 0, .inr (10, [.ref (q 20), .int (nI tl)])), (q 20, .inl (cI, 1600, .inl (fun j => nI (tb j)))), (q 6, .inr (2, [.ref (q 24), .ref (q 25), .ref (q 26), .ref (q 27), .ref (q 28), .int (nI jd), .int (nI jm), .int ju, .int jr, .int (nI jn)])), (am, .inl (cI, 9, .inl fm))]) eu_8 hP hD rfl (fun hP hD => ?_)
  rw [stF_nx] at hO2_7
  refine lv_aload_n hx hb dX3_readAmount_7 rfl (lv_at hl 0 rfl) ?_
  refine sk_get (v := .ref (q 2)) (C := RX3) (T := TX3) (N := 3) hx hb hts inlX3 hown hK hP 0 rfl rfl 0 (Nat.le_of_ble_eq_true rfl) w_1_107 rfl dX3_readAmount_8 ?_
  refine lv_iconst (v := 0) hx hb dX3_readAmount_11 ic_0 ?_
  refine lv_aload_n hx hb dX3_readAmount_12 rfl (lv_at hl 1 rfl) ?_
  refine sk_get (v := .int (nI jd)) (C := RX2) (T := TX2) (N := 10) hx hb hts inlX2 hown hK hP 4 rfl rfl 5 (Nat.le_of_ble_eq_true rfl) w_1_190 rfl dX3_readAmount_13 ?_
  refine lv_iconst (v := 1) hx hb dX3_readAmount_16 ic_1 ?_
  refine lv_isub hx hb dX3_readAmount_17 ?_
  refine sk_top (nI (jd - 1)) (nsub jd 1 (by omega)) ?_
  refine sk_ViZ (q0 := 0) (n := 2) (rest := []) (wr := fmR om_6_1c _) ⟨hx, hb, hml, hown, hts⟩ hl.1 (c_erd_takeNumber l D cI cJ cC cZ cS zk zv zf q xa2_1 xv2_2 xo xt2_3 xz2_4 xf xp tl tb 0 (jd - 1) (bindR og (nxF tb tl)) hxa2_5 hxz2_6 htl htb (by omega) (by omega) hO2_7) w_3_62 w_3_63 w_3_64 w_1_4 w_3_65 hd_X6_takeNumber_2 ⟨⟨(Nat.le_of_ble_eq_true rfl), (Nat.le_of_ble_eq_true rfl)⟩, (Nat.le_of_ble_eq_true rfl), (Nat.le_of_ble_eq_true rfl)⟩ hK hP hD hS hZ hA (fmT om_6_1c 0) (fmF om_6_1c 0) (fm_C1 rfl rfl) (fm_R rfl rfl) (fm_nT om_6_1c 0) (fm_nF om_6_1c 0) (fm_di om_6_1c 0) rfl rfl rfl rfl (Nat.le_of_ble_eq_true rfl) dX3_readAmount_18 (fun r_16 u H locs hw hP hD hS => ?_)
  refine exE hw (fun xa2_9 hw1 => exE hw1 (fun xv2_10 hw2 => exE hw2 (fun xt2_11 hw3 => exE hw3 (fun xz2_12 hw4 => exE hw4 (fun xf2_13 hw5 => exE hw5 (fun xp2_14 hw6 => exE hw6 (fun v_15 hw7 => anE hw7 (fun hxa2_17 hw8 => anE hw8 (fun hxz2_18 hw9 => anE hw9 (fun hv1_19 hw10 => anE hw10 (fun hv2_20 hw11 => anE hw11 (fun hnv_21 hw12 => anE hw12 (fun hO2_22 hw13 => anE hw13 (fun er_24 eu_23 => ?_))))))))))))))
  clear hw hw1 hw2 hw3 hw4 hw5 hw6 hw7 hw8 hw9 hw10 hw11 hw12 hw13
  subst er_24
  refine o_mgE (ws' := [(q 3, .inr (3, [.ref (q 2), .ref (q 22), .ref (q 23)])), (q 2, .inr (6, [.ref (q 0), .int (nI xa2_9), .int xv2_10, .int (nI xo), .int xt2_11, .int (nI xz2_12), .int xf2_13, .int xp2_14])), (q 0, .inr (10, [.ref (q 20), .int (nI tl)])), (q 20, .inl (cI, 1600, .inl (fun j => nI (tb j)))), (q 6, .inr (2, [.ref (q 24), .ref (q 25), .ref (q 26), .ref (q 27), .ref (q 28), .int (nI jd), .int (nI jm), .int ju, .int jr, .int (nI jn)])), (am, .inl (cI, 9, .inl fm))]) eu_23 hP hD rfl (fun hP hD => ?_)
  refine lv_istore_n (lv' := [(3, .int (nI v_15)), (0, .ref (q 3)), (1, .ref (q 6)), (2, .ref am)]) hx hb dX3_readAmount_21 rfl hl (by decide) rfl (fun ls hl => ?_)
  refine lv_aload_n hx hb dX3_readAmount_22 rfl (lv_at hl 1 rfl) ?_
  refine sk_get (v := .ref (q 2)) (C := RX3) (T := TX3) (N := 3) hx hb hts inlX3 hown hK hP 0 rfl rfl 0 (Nat.le_of_ble_eq_true rfl) w_1_107 rfl dX3_readAmount_23 ?_
  refine lv_iconst (v := 0) hx hb dX3_readAmount_26 ic_0 ?_
  refine lv_bipush (v := 9) hx hb dX3_readAmount_27 (by decide) ?_
  refine sk_ViZ (q0 := 0) (n := 2) (rest := []) (wr := fmR om_6_1c _) ⟨hx, hb, hml, hown, hts⟩ hl.1 (c_erd_takeNumber l D cI cJ cC cZ cS zk zv zf q xa2_9 xv2_10 xo xt2_11 xz2_12 xf2_13 xp2_14 tl tb 0 9 (bindR (bindR og (nxF tb tl)) (nmF tb tl 0 (jd - 1))) hxa2_17 hxz2_18 htl htb (by omega) (by omega) hO2_22) w_3_62 w_3_63 w_3_64 w_1_4 w_3_65 hd_X6_takeNumber_2 ⟨⟨(Nat.le_of_ble_eq_true rfl), (Nat.le_of_ble_eq_true rfl)⟩, (Nat.le_of_ble_eq_true rfl), (Nat.le_of_ble_eq_true rfl)⟩ hK hP hD hS hZ hA (fmT om_6_1c 0) (fmF om_6_1c 0) (fm_C1 rfl rfl) (fm_R rfl rfl) (fm_nT om_6_1c 0) (fm_nF om_6_1c 0) (fm_di om_6_1c 0) rfl rfl rfl rfl (Nat.le_of_ble_eq_true rfl) dX3_readAmount_29 (fun r_32 u H locs hw hP hD hS => ?_)
  refine exE hw (fun xa2_25 hw1 => exE hw1 (fun xv2_26 hw2 => exE hw2 (fun xt2_27 hw3 => exE hw3 (fun xz2_28 hw4 => exE hw4 (fun xf2_29 hw5 => exE hw5 (fun xp2_30 hw6 => exE hw6 (fun v_31 hw7 => anE hw7 (fun hxa2_33 hw8 => anE hw8 (fun hxz2_34 hw9 => anE hw9 (fun hv1_35 hw10 => anE hw10 (fun hv2_36 hw11 => anE hw11 (fun hnv_37 hw12 => anE hw12 (fun hO2_38 hw13 => anE hw13 (fun er_40 eu_39 => ?_))))))))))))))
  clear hw hw1 hw2 hw3 hw4 hw5 hw6 hw7 hw8 hw9 hw10 hw11 hw12 hw13
  subst er_40
  refine o_mgE (ws' := [(q 3, .inr (3, [.ref (q 2), .ref (q 22), .ref (q 23)])), (q 2, .inr (6, [.ref (q 0), .int (nI xa2_25), .int xv2_26, .int (nI xo), .int xt2_27, .int (nI xz2_28), .int xf2_29, .int xp2_30])), (q 0, .inr (10, [.ref (q 20), .int (nI tl)])), (q 20, .inl (cI, 1600, .inl (fun j => nI (tb j)))), (q 6, .inr (2, [.ref (q 24), .ref (q 25), .ref (q 26), .ref (q 27), .ref (q 28), .int (nI jd), .int (nI jm), .int ju, .int jr, .int (nI jn)])), (am, .inl (cI, 9, .inl fm))]) eu_39 hP hD rfl (fun hP hD => ?_)
  refine lv_istore (lv' := [(4, .int (nI v_31)), (3, .int (nI v_15)), (0, .ref (q 3)), (1, .ref (q 6)), (2, .ref am)]) hx hb dX3_readAmount_32 hl (by decide) rfl (fun ls hl => ?_)
  refine lv_iload_n hx hb dX3_readAmount_34 rfl (lv_at hl 1 rfl) ?_
  refine lv_aload_n hx hb dX3_readAmount_35 rfl (lv_at hl 4 rfl) ?_
  refine va_alen (v := 9) hx hb hK.1 hP 5 0 rfl rfl rfl dX3_readAmount_36 ?_
  refine lv_icmp_ge (tgt := 45) hx hb dX3_readAmount_37 (by decide) (fun c => absurd ((nle 9 v_15 (Nat.le_of_ble_eq_true rfl) (by omega)).mp c) (by omega)) (fun c_41 => ?_)
  refine lv_aload_n hx hb dX3_readAmount_40 rfl (lv_at hl 4 rfl) ?_
  refine lv_iload_n hx hb dX3_readAmount_41 rfl (lv_at hl 1 rfl) ?_
  refine lv_iload hx hb dX3_readAmount_42 (lv_at hl 0 rfl) ?_
  refine sk_iast (ws' := [(q 3, .inr (3, [.ref (q 2), .ref (q 22), .ref (q 23)])), (q 2, .inr (6, [.ref (q 0), .int (nI xa2_25), .int xv2_26, .int (nI xo), .int xt2_27, .int (nI xz2_28), .int xf2_29, .int xp2_30])), (q 0, .inr (10, [.ref (q 20), .int (nI tl)])), (q 20, .inl (cI, 1600, .inl (fun j => nI (tb j)))), (q 6, .inr (2, [.ref (q 24), .ref (q 25), .ref (q 26), .ref (q 27), .ref (q 28), .int (nI jd), .int (nI jm), .int ju, .int jr, .int (nI jn)])), (am, .inl (cI, 9, .inl (upd fm v_15 (nI v_31))))]) hx hb hK hP hD hS 5 0 rfl rfl (vin v_15 9 (by omega) (Nat.le_of_ble_eq_true rfl)) (by rw [nI_clamp (by omega)]; rfl) dX3_readAmount_44 (fun H locs hP hD hS => ?_)
  exact sk_vret hx hb hr hlocks hK hP hD hS (⟨xa2_25, xv2_26, xt2_27, xz2_28, xf2_29, xp2_30, upd fm v_15 (nI v_31), v_15, v_31, hxa2_33, hxz2_34, ⟨by omega, hnv_21, hnv_37⟩, rfl, hO2_38, rfl⟩) (Nat.le_of_ble_eq_true rfl) (Nat.le_of_ble_eq_true rfl) dX3_readAmount_45
set_option maxHeartbeats 4000000 in
set_option maxRecDepth 100000 in
theorem c_elt_mute (l : Launch) (D : va_G) (cI cJ cC cZ cS : ClassId) (zk zv : Nat) (zf : Value) (q : Nat → Nat) (xa : Nat) (xv : Int32) (xo : Nat) (xt : Int32) (xz : Nat) (xf : Int32) (xp : Int32) (tl : Nat) (tb : Nat → Nat) (jd : Nat) (jm : Nat) (ju : Int32) (jr : Int32) (jn : Nat) (mu : Nat → Bool) (og : Except Err Cur) (hxa : xa ≤ 1600) (hxz : xz ≤ 1600) (htl : tl ≤ 1600) (htb : ∀ j, tb j ≤ 255) (hjd1 : 1 ≤ jd) (hjd : jd ≤ 9) (hre : ¬ xt = -1 ∧ ¬ xt = -2) (hmu : muO mu ju) (hO : rdO tb tl og xa xv xt xz xf xp) : skMZ zk zv zf l yX3_readMute cX3_readMute 4 none 7 154 0 0 D (skT cI cJ cC cZ cS) [.ref (q 3), .ref (q 6)] [(q 3, .inr (3, [.ref (q 2), .ref (q 22), .ref (q 23)])), (q 2, .inr (6, [.ref (q 0), .int (nI xa), .int xv, .int (nI xo), .int xt, .int (nI xz), .int xf, .int xp])), (q 0, .inr (10, [.ref (q 20), .int (nI tl)])), (q 20, .inl (cI, 1600, .inl (fun j => nI (tb j)))), (q 6, .inr (2, [.ref (q 24), .ref (q 25), .ref (q 26), .ref (q 27), .ref (q 28), .int (nI jd), .int (nI jm), .int ju, .int jr, .int (nI jn)]))] (skV D (skT cI cJ cC cZ cS) (fun (u : va_W) => ∃ (xa2 : Nat), ∃ (xv2 : Int32), ∃ (xt2 : Int32), ∃ (xz2 : Nat), ∃ (xf2 : Int32), ∃ (xp2 : Int32), ∃ (ju2 : Int32), ∃ (dv : Nat), ∃ (w : Nat), xa2 ≤ 1600 ∧ xz2 ≤ 1600 ∧ mtV tb tl jd og dv w ∧ muO (updG mu dv true) ju2 ∧ rdO tb tl (mtO tb tl jd mu dv w og) xa2 xv2 xt2 xz2 xf2 xp2 ∧ u = [(q 3, .inr (3, [.ref (q 2), .ref (q 22), .ref (q 23)])), (q 2, .inr (6, [.ref (q 0), .int (nI xa2), .int xv2, .int (nI xo), .int xt2, .int (nI xz2), .int xf2, .int xp2])), (q 0, .inr (10, [.ref (q 20), .int (nI tl)])), (q 20, .inl (cI, 1600, .inl (fun j => nI (tb j)))), (q 6, .inr (2, [.ref (q 24), .ref (q 25), .ref (q 26), .ref (q 27), .ref (q 28), .int (nI jd), .int (nI jm), .int ju2, .int jr, .int (nI jn)]))])) := by
  refine skMZ_of pf_X3_readMute (Nat.le_of_ble_eq_true rfl) ?_
  intro p e s m below meth c A ls E hP hD hZ hl
  refine skE_el E (fun hx hb hr hml hlocks hin hown hts hK hA => ?_)
  have hown : s.vm.findClass RX3 = some m.cls := hown
  have hS : va_S A s.heap s.heap [] := va_S.rf
  have hl : lv_has ls 4 [(0, .ref (q 3)), (1, .ref (q 6))] := hl
  refine lv_aload_n hx hb dX3_readMute_0 rfl (lv_at hl 0 rfl) ?_
  refine sk_get (v := .ref (q 2)) (C := RX3) (T := TX3) (N := 3) hx hb hts inlX3 hown hK hP 0 rfl rfl 0 (Nat.le_of_ble_eq_true rfl) w_1_107 rfl dX3_readMute_1 ?_
  refine sk_VvZ (q0 := 0) (n := 0) (rest := []) (wr := fmR om_5_e _) ⟨hx, hb, hml, hown, hts⟩ hl.1 (c_erd_step l D cI cJ cC cZ cS zk zv zf q xa xv xo xt xz xf xp tl tb (bindR og (beF tb tl)) hxa hxz htl htb (rd_st htb hO hre)) w_3_75 w_2_226 w_2_227 w_1_4 w_2_228 hd_X6_step_0 ⟨⟨(Nat.le_of_ble_eq_true rfl), (Nat.le_of_ble_eq_true rfl)⟩, (Nat.le_of_ble_eq_true rfl), (Nat.le_of_ble_eq_true rfl)⟩ hK hP hD hS hZ hA (fmT om_5_e 0) (fmF om_5_e 0) (fm_C1 rfl rfl) (fm_R rfl rfl) (fm_nT om_5_e 0) (fm_nF om_5_e 0) (fm_di om_5_e 0) rfl rfl rfl rfl (Nat.le_of_ble_eq_true rfl) dX3_readMute_4 (fun u H locs hw hP hD hS => ?_)
  refine exE hw (fun xa2_1 hw1 => exE hw1 (fun xv2_2 hw2 => exE hw2 (fun xt2_3 hw3 => exE hw3 (fun xz2_4 hw4 => anE hw4 (fun hxa2_5 hw5 => anE hw5 (fun hxz2_6 hw6 => anE hw6 (fun hO2_7 eu_8 => ?_)))))))
  clear hw hw1 hw2 hw3 hw4 hw5 hw6
  refine o_mgE (ws' := [(q 3, .inr (3, [.ref (q 2), .ref (q 22), .ref (q 23)])), (q 2, .inr (6, [.ref (q 0), .int (nI xa2_1), .int xv2_2, .int (nI xo), .int xt2_3, .int (nI xz2_4), .int xf, .int xp])), (q 0, .inr (10, [.ref (q 20), .int (nI tl)])), (q 20, .inl (cI, 1600, .inl (fun j => nI (tb j)))), (q 6, .inr (2, [.ref (q 24), .ref (q 25), .ref (q 26), .ref (q 27), .ref (q 28), .int (nI jd), .int (nI jm), .int ju, .int jr, .int (nI jn)]))]) eu_8 hP hD rfl (fun hP hD => ?_)
  rw [stF_nx] at hO2_7
  refine lv_aload_n hx hb dX3_readMute_7 rfl (lv_at hl 0 rfl) ?_
  refine sk_get (v := .ref (q 2)) (C := RX3) (T := TX3) (N := 3) hx hb hts inlX3 hown hK hP 0 rfl rfl 0 (Nat.le_of_ble_eq_true rfl) w_1_107 rfl dX3_readMute_8 ?_
  refine sk_get (v := .int (nI xz2_4)) (C := RX6) (T := TX6) (N := 8) hx hb hts inlX6 hown hK hP 1 rfl rfl 5 (Nat.le_of_ble_eq_true rfl) w_1_65 rfl dX3_readMute_11 ?_
  refine lv_istore_n (lv' := [(2, .int (nI xz2_4)), (0, .ref (q 3)), (1, .ref (q 6))]) hx hb dX3_readMute_14 rfl hl (by decide) rfl (fun ls hl => ?_)
  refine lv_aload_n hx hb dX3_readMute_15 rfl (lv_at hl 1 rfl) ?_
  refine sk_get (v := .ref (q 2)) (C := RX3) (T := TX3) (N := 3) hx hb hts inlX3 hown hK hP 0 rfl rfl 0 (Nat.le_of_ble_eq_true rfl) w_1_107 rfl dX3_readMute_16 ?_
  refine lv_iconst (v := 0) hx hb dX3_readMute_19 ic_0 ?_
  refine lv_aload_n hx hb dX3_readMute_20 rfl (lv_at hl 2 rfl) ?_
  refine sk_get (v := .int (nI jd)) (C := RX2) (T := TX2) (N := 10) hx hb hts inlX2 hown hK hP 4 rfl rfl 5 (Nat.le_of_ble_eq_true rfl) w_1_190 rfl dX3_readMute_21 ?_
  refine lv_iconst (v := 1) hx hb dX3_readMute_24 ic_1 ?_
  refine lv_isub hx hb dX3_readMute_25 ?_
  refine sk_top (nI (jd - 1)) (nsub jd 1 (by omega)) ?_
  refine sk_ViZ (q0 := 0) (n := 2) (rest := []) (wr := fmR om_5_e _) ⟨hx, hb, hml, hown, hts⟩ hl.1 (c_erd_takeNumber l D cI cJ cC cZ cS zk zv zf q xa2_1 xv2_2 xo xt2_3 xz2_4 xf xp tl tb 0 (jd - 1) (bindR og (nxF tb tl)) hxa2_5 hxz2_6 htl htb (by omega) (by omega) hO2_7) w_3_62 w_3_63 w_3_64 w_1_4 w_3_65 hd_X6_takeNumber_2 ⟨⟨(Nat.le_of_ble_eq_true rfl), (Nat.le_of_ble_eq_true rfl)⟩, (Nat.le_of_ble_eq_true rfl), (Nat.le_of_ble_eq_true rfl)⟩ hK hP hD hS hZ hA (fmT om_5_e 0) (fmF om_5_e 0) (fm_C1 rfl rfl) (fm_R rfl rfl) (fm_nT om_5_e 0) (fm_nF om_5_e 0) (fm_di om_5_e 0) rfl rfl rfl rfl (Nat.le_of_ble_eq_true rfl) dX3_readMute_26 (fun r_16 u H locs hw hP hD hS => ?_)
  refine exE hw (fun xa2_9 hw1 => exE hw1 (fun xv2_10 hw2 => exE hw2 (fun xt2_11 hw3 => exE hw3 (fun xz2_12 hw4 => exE hw4 (fun xf2_13 hw5 => exE hw5 (fun xp2_14 hw6 => exE hw6 (fun v_15 hw7 => anE hw7 (fun hxa2_17 hw8 => anE hw8 (fun hxz2_18 hw9 => anE hw9 (fun hv1_19 hw10 => anE hw10 (fun hv2_20 hw11 => anE hw11 (fun hnv_21 hw12 => anE hw12 (fun hO2_22 hw13 => anE hw13 (fun er_24 eu_23 => ?_))))))))))))))
  clear hw hw1 hw2 hw3 hw4 hw5 hw6 hw7 hw8 hw9 hw10 hw11 hw12 hw13
  subst er_24
  refine o_mgE (ws' := [(q 3, .inr (3, [.ref (q 2), .ref (q 22), .ref (q 23)])), (q 2, .inr (6, [.ref (q 0), .int (nI xa2_9), .int xv2_10, .int (nI xo), .int xt2_11, .int (nI xz2_12), .int xf2_13, .int xp2_14])), (q 0, .inr (10, [.ref (q 20), .int (nI tl)])), (q 20, .inl (cI, 1600, .inl (fun j => nI (tb j)))), (q 6, .inr (2, [.ref (q 24), .ref (q 25), .ref (q 26), .ref (q 27), .ref (q 28), .int (nI jd), .int (nI jm), .int ju, .int jr, .int (nI jn)]))]) eu_23 hP hD rfl (fun hP hD => ?_)
  refine lv_istore_n (lv' := [(3, .int (nI v_15)), (2, .int (nI xz2_4)), (0, .ref (q 3)), (1, .ref (q 6))]) hx hb dX3_readMute_29 rfl hl (by decide) rfl (fun ls hl => ?_)
  refine lv_aload_n hx hb dX3_readMute_30 rfl (lv_at hl 2 rfl) ?_
  refine sk_get (v := .ref (q 2)) (C := RX3) (T := TX3) (N := 3) hx hb hts inlX3 hown hK hP 0 rfl rfl 0 (Nat.le_of_ble_eq_true rfl) w_1_107 rfl dX3_readMute_31 ?_
  refine sk_get (v := .int xf2_13) (C := RX6) (T := TX6) (N := 8) hx hb hts inlX6 hown hK hP 1 rfl rfl 6 (Nat.le_of_ble_eq_true rfl) w_1_67 rfl dX3_readMute_34 ?_
  refine lv_if_ne (tgt := 61) hx hb dX3_readMute_37 (by decide) (fun c_25 => ?_) (fun c_25 => ?_)
  · skip
    refine lv_aload_n hx hb dX3_readMute_61 rfl (lv_at hl 3 rfl) ?_
    refine lv_dup hx hb dX3_readMute_62 rfl ?_
    refine sk_get (v := .int ju) (C := RX2) (T := TX2) (N := 10) hx hb hts inlX2 hown hK hP 4 rfl rfl 7 (Nat.le_of_ble_eq_true rfl) w_1_196 rfl dX3_readMute_63 ?_
    refine lv_iconst (v := 1) hx hb dX3_readMute_66 ic_1 ?_
    refine lv_iload_n hx hb dX3_readMute_67 rfl (lv_at hl 0 rfl) ?_
    refine lv_ishl hx hb dX3_readMute_68 ?_
    refine lv_ior hx hb dX3_readMute_69 ?_
    refine sk_put (ws' := [(q 3, .inr (3, [.ref (q 2), .ref (q 22), .ref (q 23)])), (q 2, .inr (6, [.ref (q 0), .int (nI xa2_9), .int xv2_10, .int (nI xo), .int xt2_11, .int (nI xz2_12), .int xf2_13, .int xp2_14])), (q 0, .inr (10, [.ref (q 20), .int (nI tl)])), (q 20, .inl (cI, 1600, .inl (fun j => nI (tb j)))), (q 6, .inr (2, [.ref (q 24), .ref (q 25), .ref (q 26), .ref (q 27), .ref (q 28), .int (nI jd), .int (nI jm), .int (ju ||| (1 <<< (nI v_15 &&& 31))), .int jr, .int (nI jn)]))]) (C := RX2) (T := TX2) (N := 10) (v := .int (ju ||| (1 <<< (nI v_15 &&& 31)))) hx hb hts inlX2 tyX2 tyX2_ok nmX2 hown hK hP hD hS 4 rfl rfl 7 (Nat.le_of_ble_eq_true rfl) w_1_196 rfl rfl rfl (Nat.le_of_ble_eq_true rfl) rfl dX3_readMute_70 (fun H locs hP hD hS => ?_)
    exact sk_vret hx hb hr hlocks hK hP hD hS (⟨xa2_9, xv2_10, xt2_11, xz2_12, xf2_13, xp2_14, (ju ||| (1 <<< (nI v_15 &&& 31))), v_15, xz2_4, hxa2_17, hxz2_18, ⟨by omega, hnv_21, mt_w hO2_7⟩, muO_or hmu (by omega), mt_er (mu := mu) (dv := v_15) (w := xz2_4) hO2_22 c_25, rfl⟩) (Nat.le_of_ble_eq_true rfl) (Nat.le_of_ble_eq_true rfl) dX3_readMute_73
  · skip
    refine lv_aload_n hx hb dX3_readMute_40 rfl (lv_at hl 3 rfl) ?_
    refine sk_get (v := .int ju) (C := RX2) (T := TX2) (N := 10) hx hb hts inlX2 hown hK hP 4 rfl rfl 7 (Nat.le_of_ble_eq_true rfl) w_1_196 rfl dX3_readMute_41 ?_
    refine lv_iload_n hx hb dX3_readMute_44 rfl (lv_at hl 0 rfl) ?_
    refine lv_ishr hx hb dX3_readMute_45 ?_
    refine lv_iconst (v := 1) hx hb dX3_readMute_46 ic_1 ?_
    refine lv_iand hx hb dX3_readMute_47 ?_
    refine lv_iconst (v := 1) hx hb dX3_readMute_48 ic_1 ?_
    refine lv_icmp_ne (tgt := 61) hx hb dX3_readMute_49 (by decide) (fun c_26 => ?_) (fun c_26 => ?_)
    · skip
      refine lv_aload_n hx hb dX3_readMute_61 rfl (lv_at hl 3 rfl) ?_
      refine lv_dup hx hb dX3_readMute_62 rfl ?_
      refine sk_get (v := .int ju) (C := RX2) (T := TX2) (N := 10) hx hb hts inlX2 hown hK hP 4 rfl rfl 7 (Nat.le_of_ble_eq_true rfl) w_1_196 rfl dX3_readMute_63 ?_
      refine lv_iconst (v := 1) hx hb dX3_readMute_66 ic_1 ?_
      refine lv_iload_n hx hb dX3_readMute_67 rfl (lv_at hl 0 rfl) ?_
      refine lv_ishl hx hb dX3_readMute_68 ?_
      refine lv_ior hx hb dX3_readMute_69 ?_
      refine sk_put (ws' := [(q 3, .inr (3, [.ref (q 2), .ref (q 22), .ref (q 23)])), (q 2, .inr (6, [.ref (q 0), .int (nI xa2_9), .int xv2_10, .int (nI xo), .int xt2_11, .int (nI xz2_12), .int xf2_13, .int xp2_14])), (q 0, .inr (10, [.ref (q 20), .int (nI tl)])), (q 20, .inl (cI, 1600, .inl (fun j => nI (tb j)))), (q 6, .inr (2, [.ref (q 24), .ref (q 25), .ref (q 26), .ref (q 27), .ref (q 28), .int (nI jd), .int (nI jm), .int (ju ||| (1 <<< (nI v_15 &&& 31))), .int jr, .int (nI jn)]))]) (C := RX2) (T := TX2) (N := 10) (v := .int (ju ||| (1 <<< (nI v_15 &&& 31)))) hx hb hts inlX2 tyX2 tyX2_ok nmX2 hown hK hP hD hS 4 rfl rfl 7 (Nat.le_of_ble_eq_true rfl) w_1_196 rfl rfl rfl (Nat.le_of_ble_eq_true rfl) rfl dX3_readMute_70 (fun H locs hP hD hS => ?_)
      exact sk_vret hx hb hr hlocks hK hP hD hS (⟨xa2_9, xv2_10, xt2_11, xz2_12, xf2_13, xp2_14, (ju ||| (1 <<< (nI v_15 &&& 31))), v_15, xz2_4, hxa2_17, hxz2_18, ⟨by omega, hnv_21, mt_w hO2_7⟩, muO_or hmu (by omega), mt_no (fun hq => c_26 ((muO_bit hmu (by omega)).mpr hq)) hO2_22, rfl⟩) (Nat.le_of_ble_eq_true rfl) (Nat.le_of_ble_eq_true rfl) dX3_readMute_73
    · skip
      refine lv_aload_n hx hb dX3_readMute_52 rfl (lv_at hl 2 rfl) ?_
      refine sk_get (v := .ref (q 2)) (C := RX3) (T := TX3) (N := 3) hx hb hts inlX3 hown hK hP 0 rfl rfl 0 (Nat.le_of_ble_eq_true rfl) w_1_107 rfl dX3_readMute_53 ?_
      refine lv_iconst (v := 2) hx hb dX3_readMute_56 ic_2 ?_
      refine lv_iload_n hx hb dX3_readMute_57 rfl (lv_at hl 1 rfl) ?_
      refine sk_Vv (q0 := 0) (n := 2) (rest := []) (wr := fmR om_5_8 _) ⟨hx, hb, hml, hown, hts⟩ hl.1 (c_erd_fail l D cI cJ cC cZ cS q xa2_9 xv2_10 xo xt2_11 xz2_12 xf2_13 xp2_14 tl tb 2 xz2_4 (bindR (bindR og (nxF tb tl)) (nmF tb tl 0 (jd - 1))) (by omega) (by omega) (by omega) hO2_22) w_3_74 w_3_59 w_3_60 w_1_4 w_3_61 hd_X6_fail_2 ⟨⟨(Nat.le_of_ble_eq_true rfl), (Nat.le_of_ble_eq_true rfl)⟩, (Nat.le_of_ble_eq_true rfl), (Nat.le_of_ble_eq_true rfl)⟩ hK hP hD hS hA (fmT om_5_8 0) (fmF om_5_8 0) (fm_C1 rfl rfl) (fm_R rfl rfl) (fm_nT om_5_8 0) (fm_nF om_5_8 0) (fm_di om_5_8 0) rfl rfl rfl rfl (Nat.le_of_ble_eq_true rfl) dX3_readMute_58 (fun u H locs hw hP hD hS => ?_)
      refine exE hw (fun xf2_27 hw1 => exE hw1 (fun xp2_28 hw2 => anE hw2 (fun hO2_29 eu_30 => ?_)))
      clear hw hw1 hw2
      refine o_mgE (ws' := [(q 3, .inr (3, [.ref (q 2), .ref (q 22), .ref (q 23)])), (q 2, .inr (6, [.ref (q 0), .int (nI xa2_9), .int xv2_10, .int (nI xo), .int (-2), .int (nI xz2_12), .int xf2_27, .int xp2_28])), (q 0, .inr (10, [.ref (q 20), .int (nI tl)])), (q 20, .inl (cI, 1600, .inl (fun j => nI (tb j)))), (q 6, .inr (2, [.ref (q 24), .ref (q 25), .ref (q 26), .ref (q 27), .ref (q 28), .int (nI jd), .int (nI jm), .int ju, .int jr, .int (nI jn)]))]) eu_30 hP hD rfl (fun hP hD => ?_)
      refine lv_aload_n hx hb dX3_readMute_61 rfl (lv_at hl 3 rfl) ?_
      refine lv_dup hx hb dX3_readMute_62 rfl ?_
      refine sk_get (v := .int ju) (C := RX2) (T := TX2) (N := 10) hx hb hts inlX2 hown hK hP 4 rfl rfl 7 (Nat.le_of_ble_eq_true rfl) w_1_196 rfl dX3_readMute_63 ?_
      refine lv_iconst (v := 1) hx hb dX3_readMute_66 ic_1 ?_
      refine lv_iload_n hx hb dX3_readMute_67 rfl (lv_at hl 0 rfl) ?_
      refine lv_ishl hx hb dX3_readMute_68 ?_
      refine lv_ior hx hb dX3_readMute_69 ?_
      refine sk_put (ws' := [(q 3, .inr (3, [.ref (q 2), .ref (q 22), .ref (q 23)])), (q 2, .inr (6, [.ref (q 0), .int (nI xa2_9), .int xv2_10, .int (nI xo), .int (-2), .int (nI xz2_12), .int xf2_27, .int xp2_28])), (q 0, .inr (10, [.ref (q 20), .int (nI tl)])), (q 20, .inl (cI, 1600, .inl (fun j => nI (tb j)))), (q 6, .inr (2, [.ref (q 24), .ref (q 25), .ref (q 26), .ref (q 27), .ref (q 28), .int (nI jd), .int (nI jm), .int (ju ||| (1 <<< (nI v_15 &&& 31))), .int jr, .int (nI jn)]))]) (C := RX2) (T := TX2) (N := 10) (v := .int (ju ||| (1 <<< (nI v_15 &&& 31)))) hx hb hts inlX2 tyX2 tyX2_ok nmX2 hown hK hP hD hS 4 rfl rfl 7 (Nat.le_of_ble_eq_true rfl) w_1_196 rfl rfl rfl (Nat.le_of_ble_eq_true rfl) rfl dX3_readMute_70 (fun H locs hP hD hS => ?_)
      exact sk_vret hx hb hr hlocks hK hP hD hS (⟨xa2_9, xv2_10, (-2), xz2_12, xf2_27, xp2_28, (ju ||| (1 <<< (nI v_15 &&& 31))), v_15, xz2_4, hxa2_17, hxz2_18, ⟨by omega, hnv_21, mt_w hO2_7⟩, muO_or hmu (by omega), mt_yes ((muO_bit hmu (by omega)).mp c_26) hO2_29, rfl⟩) (Nat.le_of_ble_eq_true rfl) (Nat.le_of_ble_eq_true rfl) dX3_readMute_73
set_option maxHeartbeats 4000000 in
set_option maxRecDepth 100000 in
theorem c_elt_numbers (l : Launch) (D : va_G) (cI cJ cC cZ cS : ClassId) (zk zv : Nat) (zf : Value) (q : Nat → Nat) (xa : Nat) (xv : Int32) (xo : Nat) (xt : Int32) (xz : Nat) (xf : Int32) (xp : Int32) (tl : Nat) (tb : Nat → Nat) (jd : Nat) (jm : Nat) (ju : Int32) (jr : Int32) (jn : Nat) (jb : Nat → Int32) (jw : Nat → Int32) (mu : Nat → Bool) (og : Except Err Cur) (hxa : xa ≤ 1600) (hxz : xz ≤ 1600) (htl : tl ≤ 1600) (htb : ∀ j, tb j ≤ 255) (hjd1 : 1 ≤ jd) (hjd : jd ≤ 9) (hmu : muO mu ju) (hO : rdO tb tl og xa xv xt xz xf xp) : skMZ zk zv zf l yX3_readNumbers cX3_readNumbers 2 none 8 178 0 0 D (skT cI cJ cC cZ cS) [.ref (q 3), .ref (q 6)] [(q 3, .inr (3, [.ref (q 2), .ref (q 22), .ref (q 23)])), (q 2, .inr (6, [.ref (q 0), .int (nI xa), .int xv, .int (nI xo), .int xt, .int (nI xz), .int xf, .int xp])), (q 0, .inr (10, [.ref (q 20), .int (nI tl)])), (q 20, .inl (cI, 1600, .inl (fun j => nI (tb j)))), (q 6, .inr (2, [.ref (q 24), .ref (q 25), .ref (q 26), .ref (q 27), .ref (q 28), .int (nI jd), .int (nI jm), .int ju, .int jr, .int (nI jn)])), (q 25, .inl (cI, 9, .inl jb)), (q 26, .inl (cI, 9, .inl jw))] (skV D (skT cI cJ cC cZ cS) (fun (u : va_W) => ∃ (xa2 : Nat), ∃ (xv2 : Int32), ∃ (xt2 : Int32), ∃ (xz2 : Nat), ∃ (xf2 : Int32), ∃ (xp2 : Int32), ∃ (ju2 : Int32), ∃ (jr2 : Int32), ∃ (jb2 : Nat → Int32), ∃ (jw2 : Nat → Int32), xa2 ≤ 1600 ∧ xz2 ≤ 1600 ∧ nbO tb tl jd mu og xt xa2 xv2 xt2 xz2 xf2 xp2 ju ju2 jr jr2 jb jb2 jw jw2 ∧ u = [(q 3, .inr (3, [.ref (q 2), .ref (q 22), .ref (q 23)])), (q 2, .inr (6, [.ref (q 0), .int (nI xa2), .int xv2, .int (nI xo), .int xt2, .int (nI xz2), .int xf2, .int xp2])), (q 0, .inr (10, [.ref (q 20), .int (nI tl)])), (q 20, .inl (cI, 1600, .inl (fun j => nI (tb j)))), (q 6, .inr (2, [.ref (q 24), .ref (q 25), .ref (q 26), .ref (q 27), .ref (q 28), .int (nI jd), .int (nI jm), .int ju2, .int jr2, .int (nI jn)])), (q 25, .inl (cI, 9, .inl jb2)), (q 26, .inl (cI, 9, .inl jw2))])) := by
  refine skMZ_of pf_X3_readNumbers (Nat.le_of_ble_eq_true rfl) ?_
  intro p e s m below meth c A ls E hP hD hZ hl
  refine skE_el E (fun hx hb hr hml hlocks hin hown hts hK hA => ?_)
  have hown : s.vm.findClass RX3 = some m.cls := hown
  have hS : va_S A s.heap s.heap [] := va_S.rf
  have hl : lv_has ls 2 [(0, .ref (q 3)), (1, .ref (q 6))] := hl
  refine lv_aload_n hx hb dX3_readNumbers_0 rfl (lv_at hl 0 rfl) ?_
  refine sk_get (v := .ref (q 2)) (C := RX3) (T := TX3) (N := 3) hx hb hts inlX3 hown hK hP 0 rfl rfl 0 (Nat.le_of_ble_eq_true rfl) w_1_107 rfl dX3_readNumbers_1 ?_
  refine sk_get (v := .int xt) (C := RX6) (T := TX6) (N := 8) hx hb hts inlX6 hown hK hP 1 rfl rfl 4 (Nat.le_of_ble_eq_true rfl) w_1_62 rfl dX3_readNumbers_4 ?_
  by_cases g_1 : xt = 258
  · refine lv_tableIn (off := 41) (tgt := 48) hx hb dX3_readNumbers_7 (by rw [g_1]; decide) (by rw [g_1]; decide) (by rw [g_1]; rfl) (by decide) ?_
    refine lv_aload_n hx hb dX3_readNumbers_48 rfl (lv_at hl 0 rfl) ?_
    refine lv_aload_n hx hb dX3_readNumbers_49 rfl (lv_at hl 1 rfl) ?_
    refine lv_aload_n hx hb dX3_readNumbers_50 rfl (lv_at hl 1 rfl) ?_
    refine sk_get (v := .ref (q 25)) (C := RX2) (T := TX2) (N := 10) hx hb hts inlX2 hown hK hP 4 rfl rfl 1 (Nat.le_of_ble_eq_true rfl) w_1_180 rfl dX3_readNumbers_51 ?_
    refine sk_VvZ (q0 := 0) (n := 2) (rest := []) (wr := fmR om_7_7e _) ⟨hx, hb, hml, hown, hts⟩ hl.1 (c_elt_amount l D cI cJ cC cZ cS zk zv zf q xa xv xo xt xz xf xp tl tb jd jm ju jr jn (q 25) jb og hxa hxz htl htb hjd1 hjd ⟨by rw [g_1]; decide, by rw [g_1]; decide⟩ hO) w_3_131 w_3_133 w_0_12 w_1_5 w_3_134 hd_X3_readAmount_2 ⟨⟨(Nat.le_of_ble_eq_true rfl), (Nat.le_of_ble_eq_true rfl)⟩, (Nat.le_of_ble_eq_true rfl), (Nat.le_of_ble_eq_true rfl)⟩ hK hP hD hS hZ hA (fmT om_7_7e 0) (fmF om_7_7e 0) (fm_C1 rfl rfl) (fm_R rfl rfl) (fm_nT om_7_7e 0) (fm_nF om_7_7e 0) (fm_di om_7_7e 0) rfl rfl rfl rfl (Nat.le_of_ble_eq_true rfl) dX3_readNumbers_54 (fun u H locs hw hP hD hS => ?_)
    refine exE hw (fun xa2_2 hw1 => exE hw1 (fun xv2_3 hw2 => exE hw2 (fun xt2_4 hw3 => exE hw3 (fun xz2_5 hw4 => exE hw4 (fun xf2_6 hw5 => exE hw5 (fun xp2_7 hw6 => exE hw6 (fun fm2_8 hw7 => exE hw7 (fun dv_9 hw8 => exE hw8 (fun mv_10 hw9 => anE hw9 (fun hxa2_11 hw10 => anE hw10 (fun hxz2_12 hw11 => anE hw11 (fun ham_13 hw12 => anE hw12 (fun hfm_14 hw13 => anE hw13 (fun hO2_15 eu_16 => ?_))))))))))))))
    clear hw hw1 hw2 hw3 hw4 hw5 hw6 hw7 hw8 hw9 hw10 hw11 hw12 hw13
    refine o_mgE (ws' := [(q 3, .inr (3, [.ref (q 2), .ref (q 22), .ref (q 23)])), (q 2, .inr (6, [.ref (q 0), .int (nI xa2_2), .int xv2_3, .int (nI xo), .int xt2_4, .int (nI xz2_5), .int xf2_6, .int xp2_7])), (q 0, .inr (10, [.ref (q 20), .int (nI tl)])), (q 20, .inl (cI, 1600, .inl (fun j => nI (tb j)))), (q 6, .inr (2, [.ref (q 24), .ref (q 25), .ref (q 26), .ref (q 27), .ref (q 28), .int (nI jd), .int (nI jm), .int ju, .int jr, .int (nI jn)])), (q 25, .inl (cI, 9, .inl fm2_8)), (q 26, .inl (cI, 9, .inl jw))]) eu_16 hP hD rfl (fun hP hD => ?_)
    refine lv_goto (tgt := 111) hx hb dX3_readNumbers_57 (by decide) ?_
    exact sk_vret hx hb hr hlocks hK hP hD hS (⟨xa2_2, xv2_3, xt2_4, xz2_5, xf2_6, xp2_7, ju, jr, fm2_8, jw, hxa2_11, hxz2_12, Or.inl ⟨g_1, dv_9, mv_10, ham_13, hO2_15, hfm_14, rfl, rfl, rfl⟩, rfl⟩) (Nat.le_of_ble_eq_true rfl) (Nat.le_of_ble_eq_true rfl) dX3_readNumbers_111
  by_cases g_17 : xt = 259
  · refine lv_tableIn (off := 53) (tgt := 60) hx hb dX3_readNumbers_7 (by rw [g_17]; decide) (by rw [g_17]; decide) (by rw [g_17]; rfl) (by decide) ?_
    refine lv_aload_n hx hb dX3_readNumbers_60 rfl (lv_at hl 0 rfl) ?_
    refine lv_aload_n hx hb dX3_readNumbers_61 rfl (lv_at hl 1 rfl) ?_
    refine lv_aload_n hx hb dX3_readNumbers_62 rfl (lv_at hl 1 rfl) ?_
    refine sk_get (v := .ref (q 26)) (C := RX2) (T := TX2) (N := 10) hx hb hts inlX2 hown hK hP 4 rfl rfl 2 (Nat.le_of_ble_eq_true rfl) w_1_183 rfl dX3_readNumbers_63 ?_
    refine sk_VvZ (q0 := 0) (n := 2) (rest := []) (wr := fmR om_7_7d _) ⟨hx, hb, hml, hown, hts⟩ hl.1 (c_elt_amount l D cI cJ cC cZ cS zk zv zf q xa xv xo xt xz xf xp tl tb jd jm ju jr jn (q 26) jw og hxa hxz htl htb hjd1 hjd ⟨by rw [g_17]; decide, by rw [g_17]; decide⟩ hO) w_3_131 w_3_133 w_0_12 w_1_5 w_3_134 hd_X3_readAmount_2 ⟨⟨(Nat.le_of_ble_eq_true rfl), (Nat.le_of_ble_eq_true rfl)⟩, (Nat.le_of_ble_eq_true rfl), (Nat.le_of_ble_eq_true rfl)⟩ hK hP hD hS hZ hA (fmT om_7_7d 0) (fmF om_7_7d 0) (fm_C1 rfl rfl) (fm_R rfl rfl) (fm_nT om_7_7d 0) (fm_nF om_7_7d 0) (fm_di om_7_7d 0) rfl rfl rfl rfl (Nat.le_of_ble_eq_true rfl) dX3_readNumbers_66 (fun u H locs hw hP hD hS => ?_)
    refine exE hw (fun xa2_18 hw1 => exE hw1 (fun xv2_19 hw2 => exE hw2 (fun xt2_20 hw3 => exE hw3 (fun xz2_21 hw4 => exE hw4 (fun xf2_22 hw5 => exE hw5 (fun xp2_23 hw6 => exE hw6 (fun fm2_24 hw7 => exE hw7 (fun dv_25 hw8 => exE hw8 (fun mv_26 hw9 => anE hw9 (fun hxa2_27 hw10 => anE hw10 (fun hxz2_28 hw11 => anE hw11 (fun ham_29 hw12 => anE hw12 (fun hfm_30 hw13 => anE hw13 (fun hO2_31 eu_32 => ?_))))))))))))))
    clear hw hw1 hw2 hw3 hw4 hw5 hw6 hw7 hw8 hw9 hw10 hw11 hw12 hw13
    refine o_mgE (ws' := [(q 3, .inr (3, [.ref (q 2), .ref (q 22), .ref (q 23)])), (q 2, .inr (6, [.ref (q 0), .int (nI xa2_18), .int xv2_19, .int (nI xo), .int xt2_20, .int (nI xz2_21), .int xf2_22, .int xp2_23])), (q 0, .inr (10, [.ref (q 20), .int (nI tl)])), (q 20, .inl (cI, 1600, .inl (fun j => nI (tb j)))), (q 6, .inr (2, [.ref (q 24), .ref (q 25), .ref (q 26), .ref (q 27), .ref (q 28), .int (nI jd), .int (nI jm), .int ju, .int jr, .int (nI jn)])), (q 25, .inl (cI, 9, .inl jb)), (q 26, .inl (cI, 9, .inl fm2_24))]) eu_32 hP hD rfl (fun hP hD => ?_)
    refine lv_goto (tgt := 111) hx hb dX3_readNumbers_69 (by decide) ?_
    exact sk_vret hx hb hr hlocks hK hP hD hS (⟨xa2_18, xv2_19, xt2_20, xz2_21, xf2_22, xp2_23, ju, jr, jb, fm2_24, hxa2_27, hxz2_28, Or.inr (Or.inl ⟨g_17, dv_25, mv_26, ham_29, hO2_31, hfm_30, rfl, rfl, rfl⟩), rfl⟩) (Nat.le_of_ble_eq_true rfl) (Nat.le_of_ble_eq_true rfl) dX3_readNumbers_111
  by_cases g_33 : xt = 260
  · refine lv_tableIn (off := 65) (tgt := 72) hx hb dX3_readNumbers_7 (by rw [g_33]; decide) (by rw [g_33]; decide) (by rw [g_33]; rfl) (by decide) ?_
    refine lv_aload_n hx hb dX3_readNumbers_72 rfl (lv_at hl 0 rfl) ?_
    refine lv_aload_n hx hb dX3_readNumbers_73 rfl (lv_at hl 1 rfl) ?_
    refine sk_VvZ (q0 := 0) (n := 1) (rest := []) (wr := fmR om_7_7c _) ⟨hx, hb, hml, hown, hts⟩ hl.1 (c_elt_mute l D cI cJ cC cZ cS zk zv zf q xa xv xo xt xz xf xp tl tb jd jm ju jr jn mu og hxa hxz htl htb hjd1 hjd ⟨by rw [g_33]; decide, by rw [g_33]; decide⟩ hmu hO) w_3_135 w_3_137 w_0_13 w_1_5 w_3_138 hd_X3_readMute_1 ⟨⟨(Nat.le_of_ble_eq_true rfl), (Nat.le_of_ble_eq_true rfl)⟩, (Nat.le_of_ble_eq_true rfl), (Nat.le_of_ble_eq_true rfl)⟩ hK hP hD hS hZ hA (fmT om_7_7c 0) (fmF om_7_7c 0) (fm_C1 rfl rfl) (fm_R rfl rfl) (fm_nT om_7_7c 0) (fm_nF om_7_7c 0) (fm_di om_7_7c 0) rfl rfl rfl rfl (Nat.le_of_ble_eq_true rfl) dX3_readNumbers_74 (fun u H locs hw hP hD hS => ?_)
    refine exE hw (fun xa2_34 hw1 => exE hw1 (fun xv2_35 hw2 => exE hw2 (fun xt2_36 hw3 => exE hw3 (fun xz2_37 hw4 => exE hw4 (fun xf2_38 hw5 => exE hw5 (fun xp2_39 hw6 => exE hw6 (fun ju2_40 hw7 => exE hw7 (fun dv_41 hw8 => exE hw8 (fun w_42 hw9 => anE hw9 (fun hxa2_43 hw10 => anE hw10 (fun hxz2_44 hw11 => anE hw11 (fun hmv_45 hw12 => anE hw12 (fun hmu2_46 hw13 => anE hw13 (fun hO2_47 eu_48 => ?_))))))))))))))
    clear hw hw1 hw2 hw3 hw4 hw5 hw6 hw7 hw8 hw9 hw10 hw11 hw12 hw13
    refine o_mgE (ws' := [(q 3, .inr (3, [.ref (q 2), .ref (q 22), .ref (q 23)])), (q 2, .inr (6, [.ref (q 0), .int (nI xa2_34), .int xv2_35, .int (nI xo), .int xt2_36, .int (nI xz2_37), .int xf2_38, .int xp2_39])), (q 0, .inr (10, [.ref (q 20), .int (nI tl)])), (q 20, .inl (cI, 1600, .inl (fun j => nI (tb j)))), (q 6, .inr (2, [.ref (q 24), .ref (q 25), .ref (q 26), .ref (q 27), .ref (q 28), .int (nI jd), .int (nI jm), .int ju2_40, .int jr, .int (nI jn)])), (q 25, .inl (cI, 9, .inl jb)), (q 26, .inl (cI, 9, .inl jw))]) eu_48 hP hD rfl (fun hP hD => ?_)
    refine lv_goto (tgt := 111) hx hb dX3_readNumbers_77 (by decide) ?_
    exact sk_vret hx hb hr hlocks hK hP hD hS (⟨xa2_34, xv2_35, xt2_36, xz2_37, xf2_38, xp2_39, ju2_40, jr, jb, jw, hxa2_43, hxz2_44, Or.inr (Or.inr (Or.inl ⟨g_33, dv_41, w_42, hmv_45, hO2_47, hmu2_46, rfl, rfl, rfl⟩)), rfl⟩) (Nat.le_of_ble_eq_true rfl) (Nat.le_of_ble_eq_true rfl) dX3_readNumbers_111
  by_cases g_49 : xt = 261
  · refine lv_tableIn (off := 97) (tgt := 104) hx hb dX3_readNumbers_7 (by rw [g_49]; decide) (by rw [g_49]; decide) (by rw [g_49]; rfl) (by decide) ?_
    refine lv_aload_n hx hb dX3_readNumbers_104 rfl (lv_at hl 0 rfl) ?_
    refine sk_get (v := .ref (q 2)) (C := RX3) (T := TX3) (N := 3) hx hb hts inlX3 hown hK hP 0 rfl rfl 0 (Nat.le_of_ble_eq_true rfl) w_1_107 rfl dX3_readNumbers_105 ?_
    refine sk_Vv (q0 := 0) (n := 0) (rest := []) (wr := fmR om_7_20 _) ⟨hx, hb, hml, hown, hts⟩ hl.1 (c_erd_failHere l D cI cJ cC cZ cS q xa xv xo xt xz xf xp tl tb og hxz hO) w_3_139 w_3_55 w_3_56 w_1_4 w_3_57 hd_X6_failHere_0 ⟨⟨(Nat.le_of_ble_eq_true rfl), (Nat.le_of_ble_eq_true rfl)⟩, (Nat.le_of_ble_eq_true rfl), (Nat.le_of_ble_eq_true rfl)⟩ hK hP hD hS hA (fmT om_7_20 0) (fmF om_7_20 0) (fm_C1 rfl rfl) (fm_R rfl rfl) (fm_nT om_7_20 0) (fm_nF om_7_20 0) (fm_di om_7_20 0) rfl rfl rfl rfl (Nat.le_of_ble_eq_true rfl) dX3_readNumbers_108 (fun u H locs hw hP hD hS => ?_)
    refine exE hw (fun xf2_50 hw1 => exE hw1 (fun xp2_51 hw2 => anE hw2 (fun hO2_52 eu_53 => ?_)))
    clear hw hw1 hw2
    refine o_mgE (ws' := [(q 3, .inr (3, [.ref (q 2), .ref (q 22), .ref (q 23)])), (q 2, .inr (6, [.ref (q 0), .int (nI xa), .int xv, .int (nI xo), .int (-2), .int (nI xz), .int xf2_50, .int xp2_51])), (q 0, .inr (10, [.ref (q 20), .int (nI tl)])), (q 20, .inl (cI, 1600, .inl (fun j => nI (tb j)))), (q 6, .inr (2, [.ref (q 24), .ref (q 25), .ref (q 26), .ref (q 27), .ref (q 28), .int (nI jd), .int (nI jm), .int ju, .int jr, .int (nI jn)])), (q 25, .inl (cI, 9, .inl jb)), (q 26, .inl (cI, 9, .inl jw))]) eu_53 hP hD rfl (fun hP hD => ?_)
    exact sk_vret hx hb hr hlocks hK hP hD hS (⟨xa, xv, (-2), xz, xf2_50, xp2_51, ju, jr, jb, jw, hxa, hxz, Or.inr (Or.inr (Or.inr (Or.inr ⟨by rw [g_49]; decide, by rw [g_49]; decide, by rw [g_49]; decide, by rw [g_49]; decide, hO2_52, rfl, rfl, rfl, rfl⟩))), rfl⟩) (Nat.le_of_ble_eq_true rfl) (Nat.le_of_ble_eq_true rfl) dX3_readNumbers_111
  by_cases g_54 : xt = 262
  · refine lv_tableIn (off := 97) (tgt := 104) hx hb dX3_readNumbers_7 (by rw [g_54]; decide) (by rw [g_54]; decide) (by rw [g_54]; rfl) (by decide) ?_
    refine lv_aload_n hx hb dX3_readNumbers_104 rfl (lv_at hl 0 rfl) ?_
    refine sk_get (v := .ref (q 2)) (C := RX3) (T := TX3) (N := 3) hx hb hts inlX3 hown hK hP 0 rfl rfl 0 (Nat.le_of_ble_eq_true rfl) w_1_107 rfl dX3_readNumbers_105 ?_
    refine sk_Vv (q0 := 0) (n := 0) (rest := []) (wr := fmR om_7_20 _) ⟨hx, hb, hml, hown, hts⟩ hl.1 (c_erd_failHere l D cI cJ cC cZ cS q xa xv xo xt xz xf xp tl tb og hxz hO) w_3_139 w_3_55 w_3_56 w_1_4 w_3_57 hd_X6_failHere_0 ⟨⟨(Nat.le_of_ble_eq_true rfl), (Nat.le_of_ble_eq_true rfl)⟩, (Nat.le_of_ble_eq_true rfl), (Nat.le_of_ble_eq_true rfl)⟩ hK hP hD hS hA (fmT om_7_20 0) (fmF om_7_20 0) (fm_C1 rfl rfl) (fm_R rfl rfl) (fm_nT om_7_20 0) (fm_nF om_7_20 0) (fm_di om_7_20 0) rfl rfl rfl rfl (Nat.le_of_ble_eq_true rfl) dX3_readNumbers_108 (fun u H locs hw hP hD hS => ?_)
    refine exE hw (fun xf2_55 hw1 => exE hw1 (fun xp2_56 hw2 => anE hw2 (fun hO2_57 eu_58 => ?_)))
    clear hw hw1 hw2
    refine o_mgE (ws' := [(q 3, .inr (3, [.ref (q 2), .ref (q 22), .ref (q 23)])), (q 2, .inr (6, [.ref (q 0), .int (nI xa), .int xv, .int (nI xo), .int (-2), .int (nI xz), .int xf2_55, .int xp2_56])), (q 0, .inr (10, [.ref (q 20), .int (nI tl)])), (q 20, .inl (cI, 1600, .inl (fun j => nI (tb j)))), (q 6, .inr (2, [.ref (q 24), .ref (q 25), .ref (q 26), .ref (q 27), .ref (q 28), .int (nI jd), .int (nI jm), .int ju, .int jr, .int (nI jn)])), (q 25, .inl (cI, 9, .inl jb)), (q 26, .inl (cI, 9, .inl jw))]) eu_58 hP hD rfl (fun hP hD => ?_)
    exact sk_vret hx hb hr hlocks hK hP hD hS (⟨xa, xv, (-2), xz, xf2_55, xp2_56, ju, jr, jb, jw, hxa, hxz, Or.inr (Or.inr (Or.inr (Or.inr ⟨by rw [g_54]; decide, by rw [g_54]; decide, by rw [g_54]; decide, by rw [g_54]; decide, hO2_57, rfl, rfl, rfl, rfl⟩))), rfl⟩) (Nat.le_of_ble_eq_true rfl) (Nat.le_of_ble_eq_true rfl) dX3_readNumbers_111
  by_cases g_59 : xt = 263
  · refine lv_tableIn (off := 97) (tgt := 104) hx hb dX3_readNumbers_7 (by rw [g_59]; decide) (by rw [g_59]; decide) (by rw [g_59]; rfl) (by decide) ?_
    refine lv_aload_n hx hb dX3_readNumbers_104 rfl (lv_at hl 0 rfl) ?_
    refine sk_get (v := .ref (q 2)) (C := RX3) (T := TX3) (N := 3) hx hb hts inlX3 hown hK hP 0 rfl rfl 0 (Nat.le_of_ble_eq_true rfl) w_1_107 rfl dX3_readNumbers_105 ?_
    refine sk_Vv (q0 := 0) (n := 0) (rest := []) (wr := fmR om_7_20 _) ⟨hx, hb, hml, hown, hts⟩ hl.1 (c_erd_failHere l D cI cJ cC cZ cS q xa xv xo xt xz xf xp tl tb og hxz hO) w_3_139 w_3_55 w_3_56 w_1_4 w_3_57 hd_X6_failHere_0 ⟨⟨(Nat.le_of_ble_eq_true rfl), (Nat.le_of_ble_eq_true rfl)⟩, (Nat.le_of_ble_eq_true rfl), (Nat.le_of_ble_eq_true rfl)⟩ hK hP hD hS hA (fmT om_7_20 0) (fmF om_7_20 0) (fm_C1 rfl rfl) (fm_R rfl rfl) (fm_nT om_7_20 0) (fm_nF om_7_20 0) (fm_di om_7_20 0) rfl rfl rfl rfl (Nat.le_of_ble_eq_true rfl) dX3_readNumbers_108 (fun u H locs hw hP hD hS => ?_)
    refine exE hw (fun xf2_60 hw1 => exE hw1 (fun xp2_61 hw2 => anE hw2 (fun hO2_62 eu_63 => ?_)))
    clear hw hw1 hw2
    refine o_mgE (ws' := [(q 3, .inr (3, [.ref (q 2), .ref (q 22), .ref (q 23)])), (q 2, .inr (6, [.ref (q 0), .int (nI xa), .int xv, .int (nI xo), .int (-2), .int (nI xz), .int xf2_60, .int xp2_61])), (q 0, .inr (10, [.ref (q 20), .int (nI tl)])), (q 20, .inl (cI, 1600, .inl (fun j => nI (tb j)))), (q 6, .inr (2, [.ref (q 24), .ref (q 25), .ref (q 26), .ref (q 27), .ref (q 28), .int (nI jd), .int (nI jm), .int ju, .int jr, .int (nI jn)])), (q 25, .inl (cI, 9, .inl jb)), (q 26, .inl (cI, 9, .inl jw))]) eu_63 hP hD rfl (fun hP hD => ?_)
    exact sk_vret hx hb hr hlocks hK hP hD hS (⟨xa, xv, (-2), xz, xf2_60, xp2_61, ju, jr, jb, jw, hxa, hxz, Or.inr (Or.inr (Or.inr (Or.inr ⟨by rw [g_59]; decide, by rw [g_59]; decide, by rw [g_59]; decide, by rw [g_59]; decide, hO2_62, rfl, rfl, rfl, rfl⟩))), rfl⟩) (Nat.le_of_ble_eq_true rfl) (Nat.le_of_ble_eq_true rfl) dX3_readNumbers_111
  by_cases g_64 : xt = 264
  · refine lv_tableIn (off := 73) (tgt := 80) hx hb dX3_readNumbers_7 (by rw [g_64]; decide) (by rw [g_64]; decide) (by rw [g_64]; rfl) (by decide) ?_
    refine lv_aload_n hx hb dX3_readNumbers_80 rfl (lv_at hl 0 rfl) ?_
    refine sk_get (v := .ref (q 2)) (C := RX3) (T := TX3) (N := 3) hx hb hts inlX3 hown hK hP 0 rfl rfl 0 (Nat.le_of_ble_eq_true rfl) w_1_107 rfl dX3_readNumbers_81 ?_
    refine sk_VvZ (q0 := 0) (n := 0) (rest := []) (wr := fmR om_7_38 _) ⟨hx, hb, hml, hown, hts⟩ hl.1 (c_erd_step l D cI cJ cC cZ cS zk zv zf q xa xv xo xt xz xf xp tl tb (bindR og (beF tb tl)) hxa hxz htl htb (rd_st htb hO ⟨by rw [g_64]; decide, by rw [g_64]; decide⟩)) w_3_75 w_2_226 w_2_227 w_1_4 w_2_228 hd_X6_step_0 ⟨⟨(Nat.le_of_ble_eq_true rfl), (Nat.le_of_ble_eq_true rfl)⟩, (Nat.le_of_ble_eq_true rfl), (Nat.le_of_ble_eq_true rfl)⟩ hK hP hD hS hZ hA (fmT om_7_38 0) (fmF om_7_38 0) (fm_C1 rfl rfl) (fm_R rfl rfl) (fm_nT om_7_38 0) (fm_nF om_7_38 0) (fm_di om_7_38 0) rfl rfl rfl rfl (Nat.le_of_ble_eq_true rfl) dX3_readNumbers_84 (fun u H locs hw hP hD hS => ?_)
    refine exE hw (fun xa2_65 hw1 => exE hw1 (fun xv2_66 hw2 => exE hw2 (fun xt2_67 hw3 => exE hw3 (fun xz2_68 hw4 => anE hw4 (fun hxa2_69 hw5 => anE hw5 (fun hxz2_70 hw6 => anE hw6 (fun hO2_71 eu_72 => ?_)))))))
    clear hw hw1 hw2 hw3 hw4 hw5 hw6
    refine o_mgE (ws' := [(q 3, .inr (3, [.ref (q 2), .ref (q 22), .ref (q 23)])), (q 2, .inr (6, [.ref (q 0), .int (nI xa2_65), .int xv2_66, .int (nI xo), .int xt2_67, .int (nI xz2_68), .int xf, .int xp])), (q 0, .inr (10, [.ref (q 20), .int (nI tl)])), (q 20, .inl (cI, 1600, .inl (fun j => nI (tb j)))), (q 6, .inr (2, [.ref (q 24), .ref (q 25), .ref (q 26), .ref (q 27), .ref (q 28), .int (nI jd), .int (nI jm), .int ju, .int jr, .int (nI jn)])), (q 25, .inl (cI, 9, .inl jb)), (q 26, .inl (cI, 9, .inl jw))]) eu_72 hP hD rfl (fun hP hD => ?_)
    rw [stF_nx] at hO2_71
    refine lv_aload_n hx hb dX3_readNumbers_87 rfl (lv_at hl 1 rfl) ?_
    refine lv_aload_n hx hb dX3_readNumbers_88 rfl (lv_at hl 0 rfl) ?_
    refine sk_get (v := .ref (q 2)) (C := RX3) (T := TX3) (N := 3) hx hb hts inlX3 hown hK hP 0 rfl rfl 0 (Nat.le_of_ble_eq_true rfl) w_1_107 rfl dX3_readNumbers_89 ?_
    refine lv_iconst (v := 0) hx hb dX3_readNumbers_92 ic_0 ?_
    refine lv_bipush (v := 100) hx hb dX3_readNumbers_93 (by decide) ?_
    refine sk_ViZ (q0 := 0) (n := 2) (rest := [.ref (q 6)]) (wr := fmR om_7_38 _) ⟨hx, hb, hml, hown, hts⟩ hl.1 (c_erd_takeNumber l D cI cJ cC cZ cS zk zv zf q xa2_65 xv2_66 xo xt2_67 xz2_68 xf xp tl tb 0 100 (bindR og (nxF tb tl)) hxa2_69 hxz2_70 htl htb (by omega) (by omega) hO2_71) w_3_62 w_3_63 w_3_64 w_1_4 w_3_65 hd_X6_takeNumber_2 ⟨⟨(Nat.le_of_ble_eq_true rfl), (Nat.le_of_ble_eq_true rfl)⟩, (Nat.le_of_ble_eq_true rfl), (Nat.le_of_ble_eq_true rfl)⟩ hK hP hD hS hZ hA (fmT om_7_38 0) (fmF om_7_38 0) (fm_C1 rfl rfl) (fm_R rfl rfl) (fm_nT om_7_38 0) (fm_nF om_7_38 0) (fm_di om_7_38 0) rfl rfl rfl rfl (Nat.le_of_ble_eq_true rfl) dX3_readNumbers_95 (fun r_80 u H locs hw hP hD hS => ?_)
    refine exE hw (fun xa2_73 hw1 => exE hw1 (fun xv2_74 hw2 => exE hw2 (fun xt2_75 hw3 => exE hw3 (fun xz2_76 hw4 => exE hw4 (fun xf2_77 hw5 => exE hw5 (fun xp2_78 hw6 => exE hw6 (fun v_79 hw7 => anE hw7 (fun hxa2_81 hw8 => anE hw8 (fun hxz2_82 hw9 => anE hw9 (fun hv1_83 hw10 => anE hw10 (fun hv2_84 hw11 => anE hw11 (fun hnv_85 hw12 => anE hw12 (fun hO2_86 hw13 => anE hw13 (fun er_88 eu_87 => ?_))))))))))))))
    clear hw hw1 hw2 hw3 hw4 hw5 hw6 hw7 hw8 hw9 hw10 hw11 hw12 hw13
    subst er_88
    refine o_mgE (ws' := [(q 3, .inr (3, [.ref (q 2), .ref (q 22), .ref (q 23)])), (q 2, .inr (6, [.ref (q 0), .int (nI xa2_73), .int xv2_74, .int (nI xo), .int xt2_75, .int (nI xz2_76), .int xf2_77, .int xp2_78])), (q 0, .inr (10, [.ref (q 20), .int (nI tl)])), (q 20, .inl (cI, 1600, .inl (fun j => nI (tb j)))), (q 6, .inr (2, [.ref (q 24), .ref (q 25), .ref (q 26), .ref (q 27), .ref (q 28), .int (nI jd), .int (nI jm), .int ju, .int jr, .int (nI jn)])), (q 25, .inl (cI, 9, .inl jb)), (q 26, .inl (cI, 9, .inl jw))]) eu_87 hP hD rfl (fun hP hD => ?_)
    refine sk_put (ws' := [(q 3, .inr (3, [.ref (q 2), .ref (q 22), .ref (q 23)])), (q 2, .inr (6, [.ref (q 0), .int (nI xa2_73), .int xv2_74, .int (nI xo), .int xt2_75, .int (nI xz2_76), .int xf2_77, .int xp2_78])), (q 0, .inr (10, [.ref (q 20), .int (nI tl)])), (q 20, .inl (cI, 1600, .inl (fun j => nI (tb j)))), (q 6, .inr (2, [.ref (q 24), .ref (q 25), .ref (q 26), .ref (q 27), .ref (q 28), .int (nI jd), .int (nI jm), .int ju, .int (nI v_79), .int (nI jn)])), (q 25, .inl (cI, 9, .inl jb)), (q 26, .inl (cI, 9, .inl jw))]) (C := RX2) (T := TX2) (N := 10) (v := .int (nI v_79)) hx hb hts inlX2 tyX2 tyX2_ok nmX2 hown hK hP hD hS 4 rfl rfl 8 (Nat.le_of_ble_eq_true rfl) w_1_198 rfl rfl rfl (Nat.le_of_ble_eq_true rfl) rfl dX3_readNumbers_98 (fun H locs hP hD hS => ?_)
    refine lv_goto (tgt := 111) hx hb dX3_readNumbers_101 (by decide) ?_
    exact sk_vret hx hb hr hlocks hK hP hD hS (⟨xa2_73, xv2_74, xt2_75, xz2_76, xf2_77, xp2_78, ju, nI v_79, jb, jw, hxa2_81, hxz2_82, Or.inr (Or.inr (Or.inr (Or.inl ⟨g_64, v_79, hnv_85, hO2_86, rfl, rfl, rfl, rfl⟩))), rfl⟩) (Nat.le_of_ble_eq_true rfl) (Nat.le_of_ble_eq_true rfl) dX3_readNumbers_111
  refine lv_tableOut (tgt := 104) hx hb dX3_readNumbers_7 (sk_out2 258 264 (by intro k hk1 hk2; rcases (show k = 258 ∨ k = 259 ∨ k = 260 ∨ k = 261 ∨ k = 262 ∨ k = 263 ∨ k = 264 by omega) with rfl | rfl | rfl | rfl | rfl | rfl | rfl <;> assumption)) (by decide) ?_
  refine lv_aload_n hx hb dX3_readNumbers_104 rfl (lv_at hl 0 rfl) ?_
  refine sk_get (v := .ref (q 2)) (C := RX3) (T := TX3) (N := 3) hx hb hts inlX3 hown hK hP 0 rfl rfl 0 (Nat.le_of_ble_eq_true rfl) w_1_107 rfl dX3_readNumbers_105 ?_
  refine sk_Vv (q0 := 0) (n := 0) (rest := []) (wr := fmR om_7_20 _) ⟨hx, hb, hml, hown, hts⟩ hl.1 (c_erd_failHere l D cI cJ cC cZ cS q xa xv xo xt xz xf xp tl tb og hxz hO) w_3_139 w_3_55 w_3_56 w_1_4 w_3_57 hd_X6_failHere_0 ⟨⟨(Nat.le_of_ble_eq_true rfl), (Nat.le_of_ble_eq_true rfl)⟩, (Nat.le_of_ble_eq_true rfl), (Nat.le_of_ble_eq_true rfl)⟩ hK hP hD hS hA (fmT om_7_20 0) (fmF om_7_20 0) (fm_C1 rfl rfl) (fm_R rfl rfl) (fm_nT om_7_20 0) (fm_nF om_7_20 0) (fm_di om_7_20 0) rfl rfl rfl rfl (Nat.le_of_ble_eq_true rfl) dX3_readNumbers_108 (fun u H locs hw hP hD hS => ?_)
  refine exE hw (fun xf2_89 hw1 => exE hw1 (fun xp2_90 hw2 => anE hw2 (fun hO2_91 eu_92 => ?_)))
  clear hw hw1 hw2
  refine o_mgE (ws' := [(q 3, .inr (3, [.ref (q 2), .ref (q 22), .ref (q 23)])), (q 2, .inr (6, [.ref (q 0), .int (nI xa), .int xv, .int (nI xo), .int (-2), .int (nI xz), .int xf2_89, .int xp2_90])), (q 0, .inr (10, [.ref (q 20), .int (nI tl)])), (q 20, .inl (cI, 1600, .inl (fun j => nI (tb j)))), (q 6, .inr (2, [.ref (q 24), .ref (q 25), .ref (q 26), .ref (q 27), .ref (q 28), .int (nI jd), .int (nI jm), .int ju, .int jr, .int (nI jn)])), (q 25, .inl (cI, 9, .inl jb)), (q 26, .inl (cI, 9, .inl jw))]) eu_92 hP hD rfl (fun hP hD => ?_)
  exact sk_vret hx hb hr hlocks hK hP hD hS (⟨xa, xv, (-2), xz, xf2_89, xp2_90, ju, jr, jb, jw, hxa, hxz, Or.inr (Or.inr (Or.inr (Or.inr ⟨by assumption, by assumption, by assumption, by assumption, hO2_91, rfl, rfl, rfl, rfl⟩))), rfl⟩) (Nat.le_of_ble_eq_true rfl) (Nat.le_of_ble_eq_true rfl) dX3_readNumbers_111
/-! the class's lock, statement by statement -/
theorem word_tk {tb : Nat → Nat} {n k : Nat} (htb : ∀ j, tb j ≤ 255) (hk : k < 28) : tkF tb n (nI (256 + k)) = wordP tb n (CWs.getD k []) := by
  funext c
  unfold tkF wordP
  by_cases h : isW tb n (CWs.getD k []) c = true
  · rw [if_pos h, if_pos ((tok_W htb hk).mpr h)]
  · rw [if_neg h, if_neg (fun q => h ((tok_W htb hk).mp q))]
theorem tk256 {tb : Nat → Nat} {n : Nat} (htb : ∀ j, tb j ≤ 255) : tkF tb n 256 = wordP tb n (CWs.getD 0 []) := word_tk (k := 0) htb (by decide)
theorem tk257 {tb : Nat → Nat} {n : Nat} (htb : ∀ j, tb j ≤ 255) : tkF tb n 257 = wordP tb n (CWs.getD 1 []) := word_tk (k := 1) htb (by decide)
theorem tk59 {tb : Nat → Nat} {n : Nat} (htb : ∀ j, tb j ≤ 255) : tkF tb n 59 = signP tb n 59 := tkF_sign (b := 59) htb (by decide)
theorem ll_t {tb : Nat → Nat} {n : Nat} {o : LkR} {xa : Nat} {xv xt : Int32} {xz : Nat} {xf xp : Int32} {jd jm : Nat} {ju jr : Int32} {jc jx : Nat} {j1 jf jt jb jw : Nat → Int32} {r : LkS × Cur} (h : llO tb n o xa xv xt xz xf xp jd jm ju jr jc jx j1 jf jt jb jw) (e : o = .ok r) : rdC tb n r.2 xa xv xt xz xf xp := by
  subst e; exact h.1
theorem opn_lc {tb : Nat → Nat} {n : Nat} (htb : ∀ j, tb j ≤ 255) (c : Cur) : lc (openP tb n c) = opnO tb n (.ok c) := by
  unfold lc openP opnO nmF
  rw [tk256 htb, tk257 htb, tk59 htb]
  show bindR (bindR (wordP tb n (CWs.getD 0 []) c) _) _ = bindR (bindR (bindR (bindR (wordP tb n (CWs.getD 0 []) c) _) _) _) _
  cases wordP tb n (CWs.getD 0 []) c with
  | error e => rfl
  | ok c1 =>
    show bindR (bindR (numP tb n 2 9 c1) _) _ = bindR (bindR (bindR (bindR (numP tb n 2 9 c1) _) _) _) _
    cases numP tb n 2 9 c1 with
    | error e => rfl
    | ok d =>
      show bindR (bindR (wordP tb n (CWs.getD 1 []) d.2) _) _ = bindR (bindR (wordP tb n (CWs.getD 1 []) d.2) _) _
      cases wordP tb n (CWs.getD 1 []) d.2 with
      | error e => rfl
      | ok c2 =>
        show bindR (bindR (numP tb n 0 9 c2) _) _ = bindR (bindR (numP tb n 0 9 c2) _) _
        cases numP tb n 0 9 c2 with
        | error e => rfl
        | ok m =>
          show bindR (bindR (signP tb n 59 m.2) _) _ = signP tb n 59 m.2
          cases signP tb n 59 m.2 <;> rfl
theorem ll_open {tb : Nat → Nat} {n : Nat} {c : Cur} {xa : Nat} {xv xt : Int32} {xz : Nat} {xf xp : Int32} {jd jm : Nat} {j1 jf jt jb jw : Nat → Int32} (htb : ∀ j, tb j ≤ 255) (h : rdO tb n (opnO tb n (.ok c)) xa xv xt xz xf xp) (hd : nvO tb n 2 9 (bindR (.ok c) (tkF tb n 256)) jd) (hm : nvO tb n 0 9 (bindR (bindR (bindR (.ok c) (tkF tb n 256)) (nmF tb n 2 9)) (tkF tb n 257)) jm) (hf : allV 0 3 jf) (ht : allV 0 3 jt) (hb : allV 0 9 jb) (hw : allV 0 9 jw) : llO tb n (openP tb n c) xa xv xt xz xf xp jd jm 0 0 0 0 j1 jf jt jb jw := by
  refine ⟨by rw [opn_lc htb]; exact h, fun r hr => ?_⟩
  obtain ⟨c1, h1, h2⟩ := bindR_ok hr
  obtain ⟨d, h3, h4⟩ := bindR_ok h2
  obtain ⟨c2, h5, h6⟩ := bindR_ok h4
  obtain ⟨m, h7, h8⟩ := bindR_ok h6
  obtain ⟨c3, h9, h10⟩ := bindR_ok h8
  cases h10
  have e1 : bindR (.ok c) (tkF tb n 256) = .ok c1 := by show tkF tb n 256 c = _; rw [tk256 htb]; exact h1
  have e2 : nmF tb n 2 9 c1 = .ok d.2 := by unfold nmF; rw [h3]; rfl
  have e3 : tkF tb n 257 d.2 = .ok c2 := by rw [tk257 htb]; exact h5
  refine ⟨hd c1 d e1 h3, hm c2 m (by rw [e1]; show bindR (nmF tb n 2 9 c1) _ = _; rw [e2]; exact e3) h7, hb, hw, muO_0, rfl, ⟨rfl, ⟨fun q => absurd q (by decide), fun q => by cases (show 44 ∈ ([] : List Nat) from q)⟩, fun j hj => absurd hj (Nat.not_lt_zero j)⟩, fun w hw => ⟨hf w hw, ht w hw⟩⟩
theorem muO_eq {mu nu : Nat → Bool} {ju : Int32} (h : muO mu ju) (h2 : muO nu ju) {d : Nat} (hd : d < 9) : mu d = nu d := by
  have a := muO_bit h hd
  have b := muO_bit h2 hd
  rw [a] at b
  cases hm : mu d with
  | true => exact (b.mp hm).symm
  | false =>
    cases hn : nu d with
    | false => rfl
    | true => rw [b.mpr hn] at hm; cases hm
theorem nb_mu {tb : Nat → Nat} {n d : Nat} {mu : Nat → Bool} {o : Except Err Cur} {t : Int32} {xa : Nat} {xv xt : Int32} {xz : Nat} {xf xp : Int32} {ju ju2 jr jr2 : Int32} {jb jb2 jw jw2 : Nat → Int32} (h : nbO tb n d mu o t xa xv xt xz xf xp ju ju2 jr jr2 jb jb2 jw jw2) (hm : muO mu ju) : ∃ nu, muO nu ju2 := by
  rcases h with ⟨-, dv, mv, -, -, -, -, e, -⟩ | ⟨-, dv, mv, -, -, -, -, e, -⟩ | ⟨-, dv, w, -, -, e, -, -, -⟩ | ⟨-, v, -, -, -, -, -, e⟩ | ⟨-, -, -, -, -, -, -, e, -⟩
  · exact ⟨mu, e ▸ hm⟩
  · exact ⟨mu, e ▸ hm⟩
  · exact ⟨_, e⟩
  · exact ⟨mu, e ▸ hm⟩
  · exact ⟨mu, e ▸ hm⟩
def bodyR (tb : Nat → Nat) (n : Nat) (r : LkS × Cur) : LkR := bodyP tb n r.1 r.2
theorem tkW {tb : Nat → Nat} {n k : Nat} {c : Cur} {t : Int32} (htb : ∀ j, tb j ≤ 255) (hk : k < 28) (ht : t = tokOf tb n c) : t = nI (256 + k) ↔ isW tb n (CWs.getD k []) c = true := by
  rw [ht]; exact tok_W htb hk
/-- which statement stands there, by the token -/
theorem body_tok {tb : Nat → Nat} {n : Nat} {L : LkS} {c : Cur} {t : Int32} (htb : ∀ j, tb j ≤ 255) (ht : t = tokOf tb n c) : bodyP tb n L c = (if t = 258 then bindR (amtP tb n (lD L) c) (fun x => .ok (stB L x.1.1 x.1.2, x.2)) else if t = 259 then bindR (amtP tb n (lD L) c) (fun x => .ok (stW L x.1.1 x.1.2, x.2)) else if t = 260 then bindR (numP tb n 0 (lD L - 1) (nx tb n c.1)) (fun x => if lU L x.1 = true then .error (2, (nx tb n c.1).1) else .ok (stU L x.1, x.2)) else if t = 261 then sumL tb n L 0 0 c else if t = 262 then sumL tb n L 1 1 c else if t = 263 then sumL tb n L 2 0 c else if t = 264 then bindR (numP tb n 0 100 (nx tb n c.1)) (fun x => .ok (stN L x.1, x.2)) else .error (1, c.1)) := by
  unfold bodyP
  have e2 : t = 258 ↔ isW tb n (CWs.getD 2 []) c = true := tkW (k := 2) htb (by decide) ht
  have e3 : t = 259 ↔ isW tb n (CWs.getD 3 []) c = true := tkW (k := 3) htb (by decide) ht
  have e4 : t = 260 ↔ isW tb n (CWs.getD 4 []) c = true := tkW (k := 4) htb (by decide) ht
  have e5 : t = 261 ↔ isW tb n (CWs.getD 5 []) c = true := tkW (k := 5) htb (by decide) ht
  have e6 : t = 262 ↔ isW tb n (CWs.getD 6 []) c = true := tkW (k := 6) htb (by decide) ht
  have e7 : t = 263 ↔ isW tb n (CWs.getD 7 []) c = true := tkW (k := 7) htb (by decide) ht
  have e8 : t = 264 ↔ isW tb n (CWs.getD 8 []) c = true := tkW (k := 8) htb (by decide) ht
  simp only [e2, e3, e4, e5, e6, e7, e8]
theorem am_lc {tb : Nat → Nat} {n d : Nat} {c : Cur} : amO tb n d (.ok c) = bindR (amtP tb n d c) (fun x => .ok x.2) := by
  unfold amO amtP nmF
  show bindR (bindR (numP tb n 0 (d - 1) (nx tb n c.1)) _) _ = _
  cases numP tb n 0 (d - 1) (nx tb n c.1) with
  | error e => rfl
  | ok x =>
    show bindR (numP tb n 0 9 x.2) _ = bindR (bindR (numP tb n 0 9 x.2) _) _
    cases numP tb n 0 9 x.2 <;> rfl
theorem am_val {tb : Nat → Nat} {n d dv mv : Nat} {c : Cur} {x : (Nat × Nat) × Cur} (h : amV tb n d (.ok c) dv mv) (hx : amtP tb n d c = .ok x) : dv = x.1.1 ∧ mv = x.1.2 := by
  obtain ⟨y, h1, h2⟩ := bindR_ok hx
  obtain ⟨z, h3, h4⟩ := bindR_ok h2
  cases h4
  refine ⟨h.2.1 _ y rfl h1, h.2.2 y.2 z ?_ h3⟩
  show bindR (numP tb n 0 (d - 1) (nx tb n c.1)) _ = _
  rw [h1]; rfl
theorem row_up {f : Nat → Int32} {b : Nat → Nat} {d v : Nat} (h : ∀ j, j < 9 → f j = nI (b j)) : ∀ j, j < 9 → upd f d (nI v) j = nI (updG b d v j) := by
  intro j hj
  unfold upd updG
  by_cases e : j = d
  · rw [if_pos e, if_pos e]
  · rw [if_neg e, if_neg e]; exact h j hj
theorem mu_cg {mu nu : Nat → Bool} {d : Nat} {ju : Int32} (hd : d < 9) (h : muO (updG mu d true) ju) (e : ∀ j, j < 9 → mu j = nu j) : muO (updG nu d true) ju := by
  obtain ⟨m, hm, e1, hb⟩ := h
  refine ⟨m, hm, e1, fun j hj => ?_⟩
  rw [hb j hj]
  unfold updG
  by_cases q : j = d
  · rw [if_pos q, if_pos q]
  · rw [if_neg q, if_neg q]; exact e j hj
/-- numbers -/
theorem ll_nb {tb : Nat → Nat} {n : Nat} {o : LkR} {mu : Nat → Bool} {xa : Nat} {xv xt : Int32} {xz : Nat} {xf xp : Int32} {ya : Nat} {yv yt : Int32} {yz : Nat} {yf yp : Int32} {jd jm : Nat} {ju jr : Int32} {jc jx : Nat} {j1 jf jt jb jw : Nat → Int32} {ju2 jr2 : Int32} {jb2 jw2 : Nat → Int32} (htb : ∀ j, tb j ≤ 255) (h : llO tb n o xa xv xt xz xf xp jd jm ju jr jc jx j1 jf jt jb jw) (hmu : muO mu ju) (h1 : ¬ xt = 261) (h2 : ¬ xt = 262) (h3 : ¬ xt = 263) (hn : nbO tb n jd mu (lc o) xt ya yv yt yz yf yp ju ju2 jr jr2 jb jb2 jw jw2) : llO tb n (bindR o (bodyR tb n)) ya yv yt yz yf yp jd jm ju2 jr2 jc jx j1 jf jt jb2 jw2 := by
  cases o with
  | error e =>
    refine ⟨?_, fun r hr => by cases hr⟩
    rcases hn with ⟨-, dv, mv, -, q, -⟩ | ⟨-, dv, mv, -, q, -⟩ | ⟨-, dv, w, -, q, -⟩ | ⟨-, v, -, q, -⟩ | ⟨-, -, -, -, q, -⟩ <;> exact q
  | ok r =>
    obtain ⟨L, c⟩ := r
    have ht : xt = tokOf tb n c := (ll_t h rfl).2.2.2.2.1
    obtain ⟨k1, k2, k3, k4, k5, k6, k7, k8⟩ := h.2 _ rfl
    have hb : bindR (.ok (L, c)) (bodyR tb n) = bodyP tb n L c := rfl
    rw [hb, body_tok htb ht]
    have hl : lc (.ok (L, c)) = .ok c := rfl
    rw [hl] at hn
    have k1' : lD L = jd := k1.symm
    rcases hn with ⟨t0, dv, mv, hv, q, e1, e2, e3, e4⟩ | ⟨t0, dv, mv, hv, q, e1, e2, e3, e4⟩ | ⟨t0, dv, w, hv, q, e1, e2, e3, e4⟩ | ⟨t0, v, hv, q, e1, e2, e3, e4⟩ | ⟨t1, t2, t3, t4, q, e1, e2, e3, e4⟩
    · rw [if_pos t0]
      rw [am_lc] at q
      have hv1 : amV tb n (lD L) (.ok c) dv mv := by rw [k1']; exact hv
      refine ⟨?_, fun s hs => ?_⟩
      · rw [k1']
        show rdO tb n (bindR (bindR _ _) _) ya yv yt yz yf yp
        rw [bindR_assoc]; exact q
      · obtain ⟨x, h5, h6⟩ := bindR_ok hs
        cases h6
        have h7 := am_val hv1 h5
        refine ⟨k1, k2, ?_, by rw [e2]; exact k4, by rw [e3]; exact k5, by rw [e4]; exact k6, k7, k8⟩
        rw [e1, h7.1, h7.2]; exact row_up k3
    · rw [if_neg (by rw [t0]; decide), if_pos t0]
      rw [am_lc] at q
      have hv1 : amV tb n (lD L) (.ok c) dv mv := by rw [k1']; exact hv
      refine ⟨?_, fun s hs => ?_⟩
      · rw [k1']
        show rdO tb n (bindR (bindR _ _) _) ya yv yt yz yf yp
        rw [bindR_assoc]; exact q
      · obtain ⟨x, h5, h6⟩ := bindR_ok hs
        cases h6
        have h7 := am_val hv1 h5
        refine ⟨k1, k2, by rw [e2]; exact k3, ?_, by rw [e3]; exact k5, by rw [e4]; exact k6, k7, k8⟩
        rw [e1, h7.1, h7.2]; exact row_up k4
    · rw [if_neg (by rw [t0]; decide), if_neg (by rw [t0]; decide), if_pos t0, k1']
      obtain ⟨v1, v2, v3⟩ := hv
      have v4 := v3 c rfl
      have q' : rdO tb n (bindR (bindR (numP tb n 0 (jd - 1) (nx tb n c.1)) (fun r => .ok r.2)) (muF mu dv w)) ya yv yt yz yf yp := q
      cases hx : numP tb n 0 (jd - 1) (nx tb n c.1) with
      | error e =>
        rw [hx] at q'
        exact ⟨q', fun s hs => by cases hs⟩
      | ok x =>
        rw [hx] at q'
        have v5 := v2 _ x rfl hx
        have v6 : mu dv = lU L dv := muO_eq hmu k5 v1
        have q2 : rdO tb n (muF mu dv w x.2) ya yv yt yz yf yp := q'
        unfold muF at q2
        rw [v6, v5] at q2
        show llO tb n (if lU L x.1 = true then .error (2, (nx tb n c.1).1) else .ok (stU L x.1, x.2)) _ _ _ _ _ _ _ _ _ _ _ _ _ _ _ _ _
        by_cases hu : lU L x.1 = true
        · rw [if_pos hu] at q2 ⊢
          rw [v4] at q2
          exact ⟨q2, fun s hs => by cases hs⟩
        · rw [if_neg hu] at q2 ⊢
          refine ⟨q2, fun s hs => ?_⟩
          cases hs
          refine ⟨k1, k2, by rw [e2]; exact k3, by rw [e3]; exact k4, ?_, by rw [e4]; exact k6, k7, k8⟩
          rw [v5] at e1 v1
          exact mu_cg v1 e1 (fun j hj => muO_eq hmu k5 hj)
    · rw [if_neg (by rw [t0]; decide), if_neg (by rw [t0]; decide), if_neg (by rw [t0]; decide), if_neg h1, if_neg h2, if_neg h3, if_pos t0]
      have q' : rdO tb n (bindR (numP tb n 0 100 (nx tb n c.1)) (fun r => .ok r.2)) ya yv yt yz yf yp := q
      cases hx : numP tb n 0 100 (nx tb n c.1) with
      | error e =>
        rw [hx] at q'
        exact ⟨q', fun s hs => by cases hs⟩
      | ok x =>
        rw [hx] at q'
        refine ⟨q', fun s hs => ?_⟩
        cases hs
        have v5 := hv _ x rfl hx
        exact ⟨k1, k2, by rw [e2]; exact k3, by rw [e3]; exact k4, by rw [e4]; exact k5, by rw [e1, v5]; rfl, k7, k8⟩
    · rw [if_neg t1, if_neg t2, if_neg t3, if_neg h1, if_neg h2, if_neg h3, if_neg t4]
      exact ⟨q, fun s hs => by cases hs⟩
/-- sums -/
def smO (tb : Nat → Nat) (n kn w : Nat) (o : Res) (xa : Nat) (xv xt : Int32) (xz : Nat) (xf xp : Int32) (jc jc2 jx2 : Nat) (j1' jf jf2 jt jt2 : Nat → Int32) : Prop :=
  (jf w < jt w ∧ rsO tb n (bd o (hereF 5)) xa xv xt xz xf xp jc2 jx2 j1' ∧ jf2 = jf ∧ jt2 = jt) ∨ (¬ jf w < jt w ∧ rsO tb n (bindR (bd o (nxF tb n)) (apF (sumOf tb n (rdPart tb n kn 6)))) xa xv xt xz xf xp jc2 jx2 j1' ∧ jf2 = upd jf w (nI jc) ∧ jt2 = upd jt w (nI jc2))
theorem rs_fh {tb : Nat → Nat} {n k : Nat} {o : Res} {xa : Nat} {xv xt : Int32} {xz : Nat} {xf xp : Int32} {ya : Nat} {yv yt : Int32} {yz : Nat} {yf yp : Int32} {cl mw : Nat} {f : Nat → Int32} {c2 w2 : Nat} {g : Nat → Int32} (h : rsO tb n o xa xv xt xz xf xp cl mw f) (h2 : rsO tb n (bd o (fun _ => .error (k, xz))) ya yv yt yz yf yp c2 w2 g) : rsO tb n (bd o (hereF k)) ya yv yt yz yf yp c2 w2 g := by
  have e : bd o (fun _ => .error (k, xz)) = bd o (hereF k) := by
    cases o with
    | error e => rfl
    | ok r =>
      have := (rs_c h rfl).2.2.1
      show bindR (Except.error (k, xz) : Except Err Cur) (fun c => Except.ok (c, r.2)) = bindR (hereF k r.1) (fun c => Except.ok (c, r.2))
      unfold hereF; rw [this]
  rw [← e]; exact h2
theorem lr_rs {tb : Nat → Nat} {n : Nat} {o : LkR} {xa : Nat} {xv xt : Int32} {xz : Nat} {xf xp : Int32} {jd jm : Nat} {ju jr : Int32} {jc jx : Nat} {j1 jf jt jb jw : Nat → Int32} (h : llO tb n o xa xv xt xz xf xp jd jm ju jr jc jx j1 jf jt jb jw) : rsO tb n (lr o) xa xv xt xz xf xp jc jx j1 := by
  refine ⟨?_, fun q hq => ?_⟩
  · have e : rc (lr o) = lc o := by cases o <;> rfl
    rw [e]; exact h.1
  · obtain ⟨r, h1, h2⟩ := bindR_ok hq
    cases h2
    exact (h.2 r h1).2.2.2.2.2.2.1
def len5 (o : LkR) : Prop := ∀ r, o = .ok r → (lK r.1).length + 5 ≤ r.2.1
theorem lr_len {o : LkR} (h : len5 o) : lenO (lr o) := fun q hq => by
  obtain ⟨r, h1, h2⟩ := bindR_ok hq
  cases h2
  have := h r h1
  show (lK r.1).length ≤ r.2.1
  omega
theorem sg_lt {g : Option (Nat × Nat)} {a b : Int32} (h : sgO g a b) : a < b ↔ g.isSome = true := by
  cases g with
  | none =>
    rw [h.1, h.2]
    exact ⟨fun q => absurd q (by decide), fun q => by cases q⟩
  | some p =>
    obtain ⟨h1, h2, h3, h4⟩ := h
    refine ⟨fun _ => rfl, fun _ => ?_⟩
    rw [h1, h2, Int32.lt_iff_toInt_lt, i_nI (by omega), i_nI (by omega)]
    omega
/-- a sum has a step at least -/
theorem mulLp_k {tb : Nat → Nat} {n : Nat} {P : Cur → Res} : ∀ f c k r, mulLp tb n P f c k = .ok r → k.length ≤ r.2.length
  | 0, c, k, r, h => by cases h
  | f + 1, c, k, r, h => by
    rw [mulLp] at h
    split at h
    · obtain ⟨a, h1, h2⟩ := bindR_ok h
      have := mulLp_k f _ _ _ h2
      rw [List.length_append, List.length_append] at this
      omega
    · split at h
      · obtain ⟨a, h1, h2⟩ := bindR_ok h
        have := mulLp_k f _ _ _ h2
        rw [List.length_append, List.length_append] at this
        omega
      · cases h; exact Nat.le_refl _
theorem addLp_k {tb : Nat → Nat} {n : Nat} {P : Cur → Res} : ∀ f c k r, addLp tb n P f c k = .ok r → k.length ≤ r.2.length
  | 0, c, k, r, h => by cases h
  | f + 1, c, k, r, h => by
    rw [addLp] at h
    split at h
    · obtain ⟨a, h1, h2⟩ := bindR_ok h
      have := addLp_k f _ _ _ h2
      rw [List.length_append, List.length_append] at this
      omega
    · split at h
      · obtain ⟨a, h1, h2⟩ := bindR_ok h
        have := addLp_k f _ _ _ h2
        rw [List.length_append, List.length_append] at this
        omega
      · cases h; exact Nat.le_refl _
def oneP (P : Cur → Res) : Prop := ∀ c r, P c = .ok r → 1 ≤ r.2.length
theorem one_sum {tb : Nat → Nat} {n : Nat} {P : Cur → Res} (hP : oneP P) : oneP (sumOf tb n P) := fun c r h => by
  obtain ⟨a, h1, h2⟩ := bindR_ok h
  obtain ⟨b, h3, h4⟩ := bindR_ok h1
  have q1 := hP _ _ h3
  have q2 := mulLp_k _ _ _ _ h4
  have q3 := addLp_k _ _ _ _ h2
  omega
theorem one_partB {tb : Nat → Nat} {n kind : Nat} {Q : Option (Cur → Res)} (hQ : ∀ P, Q = some P → oneP P) : oneP (partB tb n kind Q) := fun c r h => by
  unfold partB at h
  split at h
  · cases Q with
    | none => cases h
    | some P =>
      obtain ⟨a, h1, h2⟩ := bindR_ok h
      obtain ⟨c1, h3, h4⟩ := bindR_ok h2
      cases h4
      exact (one_sum (hQ P rfl) _ _ h1 : 1 ≤ a.2.length)
  · split at h
    · split at h
      · cases Q with
        | none => cases h
        | some P =>
          obtain ⟨a, h1, h2⟩ := bindR_ok h
          obtain ⟨c2, h3, h4⟩ := bindR_ok h2
          obtain ⟨a2, h5, h6⟩ := bindR_ok h4
          obtain ⟨c3, h7, h8⟩ := bindR_ok h6
          cases h8
          show 1 ≤ (a.2 ++ a2.2 ++ [_]).length
          rw [List.length_append, List.length_singleton]; omega
      · cases h
    · split at h
      · cases Q with
        | none => cases h
        | some P =>
          obtain ⟨a, h1, h2⟩ := bindR_ok h
          cases h2
          show 1 ≤ (a.2 ++ [60]).length
          rw [List.length_append, List.length_singleton]; omega
      · cases hk : partIx tb n kind c with
        | some k => rw [hk] at h; cases h; exact Nat.le_refl 1
        | none =>
          rw [hk] at h
          obtain ⟨a, h1, h2⟩ := bindR_ok h
          cases h2
          exact Nat.le_refl 1
theorem one_part {tb : Nat → Nat} {n kind : Nat} : ∀ d, oneP (rdPart tb n kind d)
  | 0 => one_partB (Q := none) (fun P hp => by cases hp)
  | d + 1 => one_partB (Q := some (rdPart tb n kind d)) (fun P hp => by cases hp; exact one_part d)
theorem ll_sum {tb : Nat → Nat} {n kn w : Nat} {o : LkR} {xa : Nat} {xv xt : Int32} {xz : Nat} {xf xp : Int32} {ya : Nat} {yv yt : Int32} {yz : Nat} {yf yp : Int32} {jd jm : Nat} {ju jr : Int32} {jc jx : Nat} {j1 jf jt jb jw : Nat → Int32} {jc2 jx2 : Nat} {j12 jf2 jt2 : Nat → Int32} (htb : ∀ j, tb j ≤ 255) (hn : n ≤ 1600) (h : llO tb n o xa xv xt xz xf xp jd jm ju jr jc jx j1 jf jt jb jw) (hw : w < 3) (hk : (xt = 261 ∧ w = 0 ∧ kn = 0) ∨ (xt = 262 ∧ w = 1 ∧ kn = 1) ∨ (xt = 263 ∧ w = 2 ∧ kn = 0)) (h5 : len5 o) (hs : smO tb n kn w (lr o) ya yv yt yz yf yp jc jc2 jx2 j12 jf jf2 jt jt2) : llO tb n (bindR o (bodyR tb n)) ya yv yt yz yf yp jd jm ju jr jc2 jx2 j12 jf2 jt2 jb jw := by
  cases o with
  | error e =>
    refine ⟨?_, fun r hr => by cases hr⟩
    rcases hs with ⟨-, q, -⟩ | ⟨-, q, -⟩ <;> exact q.1
  | ok r =>
    obtain ⟨L, c⟩ := r
    have ht : xt = tokOf tb n c := (ll_t h rfl).2.2.2.2.1
    obtain ⟨k1, k2, k3, k4, k5, k6, k7, k8⟩ := h.2 _ rfl
    have hb : bindR (.ok (L, c)) (bodyR tb n) = sumL tb n L w kn c := by
      show bodyP tb n L c = _
      rw [body_tok htb ht]
      rcases hk with ⟨t, rfl, rfl⟩ | ⟨t, rfl, rfl⟩ | ⟨t, rfl, rfl⟩
      · rw [if_neg (by rw [t]; decide), if_neg (by rw [t]; decide), if_neg (by rw [t]; decide), if_pos t]
      · rw [if_neg (by rw [t]; decide), if_neg (by rw [t]; decide), if_neg (by rw [t]; decide), if_neg (by rw [t]; decide), if_pos t]
      · rw [if_neg (by rw [t]; decide), if_neg (by rw [t]; decide), if_neg (by rw [t]; decide), if_neg (by rw [t]; decide), if_neg (by rw [t]; decide), if_pos t]
    rw [hb]
    have hlt := sg_lt (k8 w hw)
    have h5' : (lK L).length + 5 ≤ c.1 := h5 _ rfl
    have hcn : c.1 ≤ n := (ll_t h rfl).2.2.2.1
    unfold sumL
    rcases hs with ⟨t, q, e1, e2⟩ | ⟨t, q, e1, e2⟩
    · rw [if_pos (hlt.mp t)]
      exact ⟨q.1, fun s hs => by cases hs⟩
    · rw [if_neg (fun z => t (hlt.mpr z))]
      have q1 : rsO tb n (bindR (sumD tb n kn 6 (nx tb n c.1)) (fun z => .ok (z.1, lK L ++ z.2))) ya yv yt yz yf yp jc2 jx2 j12 := q
      cases hx : sumD tb n kn 6 (nx tb n c.1) with
      | error e =>
        rw [hx] at q1
        exact ⟨q1.1, fun s hs => by cases hs⟩
      | ok x =>
        rw [hx] at q1
        refine ⟨q1.1, fun s hs => ?_⟩
        cases hs
        have q2 := q1.2 _ rfl
        have o1 := one_sum (tb := tb) (n := n) (one_part 6) _ _ hx
        have o2 := len_sum (tb := tb) (n := n) (len_part 6) _ _ hx
        have o3 := (show rdC tb n x.1 ya yv yt yz yf yp from q1.1).2.2.2.1
        have o4 := nx_ge tb n c.1
        refine ⟨k1, k2, k3, k4, k5, k6, q2, fun v hv => ?_⟩
        have hj : jc = (lK L).length := k7.1
        have hj2 : jc2 = (lK L).length + x.2.length := by have := q2.1; rw [List.length_append] at this; exact this
        rw [e1, e2]
        show sgO (updG (lG L) w (some ((lK L).length, (lK L).length + x.2.length)) v) _ _
        unfold updG upd
        by_cases e : v = w
        · rw [if_pos e, if_pos e, if_pos e, hj, hj2]
          exact ⟨rfl, rfl, by show (lK L).length < (lK L).length + x.2.length; omega, by show (lK L).length + x.2.length ≤ 1600; omega⟩
        · rw [if_neg e, if_neg e, if_neg e]; exact k8 v hv
/-- statements go forward, and have no more steps than bytes -/
theorem num_gt {tb : Nat → Nat} {n lo hi : Nat} {c : Cur} {r : Nat × Cur} (h : numP tb n lo hi c = .ok r) : c.1 < r.2.1 := by
  have := numP_ok h
  rw [this.2]; exact nx_gt this.1
theorem body_len {tb : Nat → Nat} {n : Nat} {L : LkS} {c : Cur} {r : LkS × Cur} (h : bodyP tb n L c = .ok r) (h5 : (lK L).length + 5 ≤ c.1) : (lK r.1).length + 5 ≤ r.2.1 := by
  have hx := nx_ge tb n c.1
  have am : ∀ x, amtP tb n (lD L) c = .ok x → c.1 ≤ x.2.1 := fun x hx2 => by
    obtain ⟨y, h1, h2⟩ := bindR_ok hx2
    obtain ⟨z, h3, h4⟩ := bindR_ok h2
    cases h4
    have a := num_gt h1
    have b := num_gt h3
    show c.1 ≤ z.2.1
    omega
  have sm : ∀ w kn, sumL tb n L w kn c = .ok r → (lK r.1).length + 5 ≤ r.2.1 := fun w kn hs => by
    unfold sumL at hs
    split at hs
    · cases hs
    · obtain ⟨y, h1, h2⟩ := bindR_ok hs
      cases h2
      have o2 := len_sum (tb := tb) (n := n) (len_part 6) _ _ h1
      show (lK L ++ y.2).length + 5 ≤ y.1.1
      rw [List.length_append]; omega
  unfold bodyP at h
  split at h
  · obtain ⟨x, h1, h2⟩ := bindR_ok h
    cases h2
    have := am x h1
    show (lK L).length + 5 ≤ x.2.1
    omega
  · split at h
    · obtain ⟨x, h1, h2⟩ := bindR_ok h
      cases h2
      have := am x h1
      show (lK L).length + 5 ≤ x.2.1
      omega
    · split at h
      · obtain ⟨x, h1, h2⟩ := bindR_ok h
        have := num_gt h1
        split at h2
        · cases h2
        · cases h2
          show (lK L).length + 5 ≤ x.2.1
          omega
      · split at h
        · exact sm _ _ h
        · split at h
          · exact sm _ _ h
          · split at h
            · exact sm _ _ h
            · split at h
              · obtain ⟨x, h1, h2⟩ := bindR_ok h
                cases h2
                have := num_gt h1
                show (lK L).length + 5 ≤ x.2.1
                omega
              · cases h
theorem len5_b {tb : Nat → Nat} {n : Nat} {o : LkR} (h : len5 o) : len5 (bindR o (bodyR tb n)) := fun q hq => by
  obtain ⟨r, h1, h2⟩ := bindR_ok hq
  exact body_len h2 (h r h1)
theorem len5_ld {o : LkR} {F : Cur → Except Err Cur} (hF : fwd F) (h : len5 o) : len5 (ld o F) := fun q hq => by
  obtain ⟨r, h3, h4⟩ := bindR_ok hq
  obtain ⟨c, h5, h6⟩ := bindR_ok h4
  cases h6
  have := h r h3
  have b := hF _ _ h5
  show (lK r.1).length + 5 ≤ c.1
  omega
theorem word_gt {tb : Nat → Nat} {n : Nat} {w : List Nat} {c c1 : Cur} (h : wordP tb n w c = .ok c1) : c.1 < c1.1 := by
  unfold wordP at h
  split at h
  · next hw => cases h; exact nx_gt (isW_lt hw)
  · cases h
theorem len5_open {tb : Nat → Nat} {n : Nat} {c : Cur} : len5 (openP tb n c) := fun q hq => by
  obtain ⟨c1, h1, h2⟩ := bindR_ok hq
  obtain ⟨d, h3, h4⟩ := bindR_ok h2
  obtain ⟨c2, h5, h6⟩ := bindR_ok h4
  obtain ⟨m, h7, h8⟩ := bindR_ok h6
  obtain ⟨c3, h9, h10⟩ := bindR_ok h8
  cases h10
  have a1 := word_gt h1
  have a2 := num_gt h3
  have a3 := word_gt h5
  have a4 := num_gt h7
  have a5 := (signP_ok h9).2.2
  show 0 + 5 ≤ c3.1
  omega
/-- the loop over statements -/
theorem lk_s {tb : Nat → Nat} {n y : Nat} {o wo : LkR} {xa : Nat} {xv xt : Int32} {xz : Nat} {xf xp : Int32} {jd jm : Nat} {ju jr : Int32} {jc jx : Nat} {j1 jf jt jb jw : Nat → Int32} (htb : ∀ j, tb j ≤ 255) (h : llO tb n o xa xv xt xz xf xp jd jm ju jr jc jx j1 jf jt jb jw) (ht : ¬ xt = -1) (hy : y < 60) (hw : wo = bindR o (bodyR tb n)) (hr : bindR o (stP tb n (60 - y)) = lockP tb n) : bindR (ld wo (tkF tb n 59)) (stP tb n (60 - (y + 1))) = lockP tb n := by
  rw [← hr, hw, tk59 htb]
  cases o with
  | error e => rfl
  | ok r =>
    have hx : ¬ n ≤ r.2.1 := fun q => ht ((ll_t h rfl).2.2.2.2.1.trans ((tok_E htb).mpr q))
    show _ = stP tb n (60 - y) r
    rw [show 60 - y = (60 - (y + 1)) + 1 by omega, stP, if_neg hx]
    rfl
def fnO (P : Except Err (LkS × Nat)) (xf xp : Int32) (jn jd jm : Nat) (ju jr : Int32) (jc jx : Nat) (j1 jf jt jb jw : Nat → Int32) : Prop := match P with
  | .ok r => xf = 0 ∧ xp = -1 ∧ jn = r.2 ∧ lkC r.1 jd jm ju jr jc jx j1 jf jt jb jw ∧ (lK r.1).length + 5 ≤ 1600
  | .error e => xf = nI e.1 ∧ xp = nI e.2 ∧ 1 ≤ e.1 ∧ e.1 ≤ 5 ∧ e.2 ≤ 1700
theorem fin_er {tb : Nat → Nat} {n y : Nat} {o : LkR} {xa : Nat} {xv xt : Int32} {xz : Nat} {xf xp : Int32} {jd jm : Nat} {ju jr : Int32} {jc jx : Nat} {j1 jf jt jb jw : Nat → Int32} (h : llO tb n o xa xv xt xz xf xp jd jm ju jr jc jx j1 jf jt jb jw) (hf : ¬ xf = 0) (hr : bindR o (stP tb n (60 - y)) = lockP tb n) : fnO (lockP tb n) xf xp y jd jm ju jr jc jx j1 jf jt jb jw := by
  obtain ⟨e, he, hx⟩ := rdO_er h.1 hf
  cases o with
  | ok r => cases he
  | error e2 =>
    cases he
    rw [← hr]
    exact ⟨hx.1, hx.2.1, hx.2.2.1, hx.2.2.2.1, hx.2.2.2.2.1⟩
theorem fin_end {tb : Nat → Nat} {n y : Nat} {o : LkR} {xa : Nat} {xv xt : Int32} {xz : Nat} {xf xp : Int32} {jd jm : Nat} {ju jr : Int32} {jc jx : Nat} {j1 jf jt jb jw : Nat → Int32} (htb : ∀ j, tb j ≤ 255) (hn : n ≤ 1600) (h : llO tb n o xa xv xt xz xf xp jd jm ju jr jc jx j1 jf jt jb jw) (hf : xf = 0) (ht : xt = -1) (hy : y ≤ 60) (h5 : len5 o) (hr : bindR o (stP tb n (60 - y)) = lockP tb n) : fnO (lockP tb n) xf xp y jd jm ju jr jc jx j1 jf jt jb jw := by
  cases o with
  | error e => exact absurd hf (er_ne h.1)
  | ok r =>
    have hc := ll_t h rfl
    have hx : n ≤ r.2.1 := (tok_E htb).mp (hc.2.2.2.2.1.symm.trans ht)
    have e : stP tb n (60 - y) r = .ok (r.1, y) := by
      cases hk : 60 - y with
      | zero => rw [stP, if_pos hx, show y = 60 by omega]
      | succ f => rw [stP, if_pos hx, ← hk, show 60 - (60 - y) = y by omega]
    have hr2 : stP tb n (60 - y) r = lockP tb n := hr
    rw [← hr2, e]
    have := h5 r rfl
    exact ⟨hf, hc.2.1, rfl, h.2 r rfl, by show (lK r.1).length + 5 ≤ 1600; have := hc.2.2.2.1; omega⟩
theorem fin_many {tb : Nat → Nat} {n y : Nat} {o : LkR} {xa : Nat} {xv xt : Int32} {xz : Nat} {xf xp : Int32} {ya : Nat} {yv yt : Int32} {yz : Nat} {yf yp : Int32} {jd jm : Nat} {ju jr : Int32} {jc jx : Nat} {j1 jf jt jb jw : Nat → Int32} (htb : ∀ j, tb j ≤ 255) (h : llO tb n o xa xv xt xz xf xp jd jm ju jr jc jx j1 jf jt jb jw) (hf : xf = 0) (ht : ¬ xt = -1) (hy : 60 ≤ y) (h2 : rdO tb n (bindR (lc o) (fun _ => .error (5, xz))) ya yv yt yz yf yp) (hr : bindR o (stP tb n (60 - y)) = lockP tb n) : fnO (lockP tb n) yf yp y jd jm ju jr jc jx j1 jf jt jb jw := by
  cases o with
  | error e => exact absurd hf (er_ne h.1)
  | ok r =>
    have hc := ll_t h rfl
    have hx : ¬ n ≤ r.2.1 := fun q => ht (hc.2.2.2.2.1.trans ((tok_E htb).mpr q))
    have hr2 : stP tb n (60 - y) r = lockP tb n := hr
    rw [← hr2, show 60 - y = 0 by omega, stP, if_neg hx, ← hc.2.2.1]
    exact ⟨h2.1, h2.2.1, h2.2.2.1, h2.2.2.2.1, h2.2.2.2.2.1⟩
/-! sums that were not told -/
def untS (L : LkS) (w : Nat) : LkS := if (lG L w).isSome = true then L else stS L w [if w = 1 then 45 else 40]
def untN (L : LkS) : Nat → LkS
  | 0 => L
  | i + 1 => untS (untN L i) i
def lkF (L : LkS) : LkS := untN L 3
def unR (P : Except Err (LkS × Nat)) (i : Nat) : Res := bindR P (fun r => .ok ((0, false), lK (untN r.1 i)))
def unO (P : Except Err (LkS × Nat)) (i jd jm : Nat) (ju jr : Int32) (jc jx : Nat) (j1 jf jt jb jw : Nat → Int32) : Prop := ∀ r, P = .ok r → lkC (untN r.1 i) jd jm ju jr jc jx j1 jf jt jb jw ∧ (lK (untN r.1 i)).length + 5 ≤ 1600 + i
theorem un_co {P : Except Err (LkS × Nat)} {i : Nat} {jd jm : Nat} {ju jr : Int32} {jc jx : Nat} {j1 jf jt jb jw : Nat → Int32} (h : unO P i jd jm ju jr jc jx j1 jf jt jb jw) : coO (unR P i) jc jx j1 := fun q hq => by
  obtain ⟨r, h1, h2⟩ := bindR_ok hq
  cases h2
  exact (h r h1).1.2.2.2.2.2.2.1
theorem un_rm {P : Except Err (LkS × Nat)} {i : Nat} {jd jm : Nat} {ju jr : Int32} {jc jx : Nat} {j1 jf jt jb jw : Nat → Int32} (h : unO P i jd jm ju jr jc jx j1 jf jt jb jw) (hi : i < 3) : ∀ q, unR P i = .ok q → q.2.length < 1600 := fun q hq => by
  obtain ⟨r, h1, h2⟩ := bindR_ok hq
  cases h2
  have := (h r h1).2
  show (lK (untN r.1 i)).length < 1600
  omega
theorem un_has {P : Except Err (LkS × Nat)} {i : Nat} {jd jm : Nat} {ju jr : Int32} {jc jx : Nat} {j1 jf jt jb jw : Nat → Int32} (h : unO P i jd jm ju jr jc jx j1 jf jt jb jw) (hi : i < 3) (hs : jf i < jt i) : unO P (i + 1) jd jm ju jr jc jx j1 jf jt jb jw := fun r hr => by
  obtain ⟨h1, h2⟩ := h r hr
  have e : untN r.1 (i + 1) = untN r.1 i := by
    show untS (untN r.1 i) i = _
    unfold untS
    rw [if_pos ((sg_lt (h1.2.2.2.2.2.2.2 i hi)).mp hs)]
  rw [e]; exact ⟨h1, by omega⟩
theorem un_add {P : Except Err (LkS × Nat)} {i : Nat} {jd jm : Nat} {ju jr : Int32} {jc jx : Nat} {j1 jf jt jb jw : Nat → Int32} {jc2 jx2 : Nat} {k1 : Nat → Int32} (h : unO P i jd jm ju jr jc jx j1 jf jt jb jw) (hi : i < 3) (hs : ¬ jf i < jt i) (hc : coO (ad (unR P i) (if i = 1 then 45 else 40)) jc2 jx2 k1) : unO P (i + 1) jd jm ju jr jc2 jx2 k1 (upd jf i (nI jc)) (upd jt i (nI jc2)) jb jw := fun r hr => by
  obtain ⟨h1, h2⟩ := h r hr
  have e : untN r.1 (i + 1) = stS (untN r.1 i) i [if i = 1 then 45 else 40] := by
    show untS (untN r.1 i) i = _
    unfold untS
    rw [if_neg (fun q => hs ((sg_lt (h1.2.2.2.2.2.2.2 i hi)).mpr q))]
  have q := hc ((0, false), lK (untN r.1 i) ++ [if i = 1 then 45 else 40]) (by rw [hr]; rfl)
  rw [e]
  generalize untN r.1 i = L at *
  obtain ⟨k1', k2, k3, k4, k5, k6, k7, k8⟩ := h1
  have hj : jc = (lK L).length := k7.1
  have hj2 : jc2 = (lK L).length + 1 := by have := q.1; rw [List.length_append, List.length_singleton] at this; exact this
  refine ⟨⟨k1', k2, k3, k4, k5, k6, q, fun v hv => ?_⟩, ?_⟩
  · show sgO (updG (lG L) i (some ((lK L).length, (lK L).length + 1)) v) _ _
    unfold updG upd
    by_cases e : v = i
    · rw [if_pos e, if_pos e, if_pos e, hj, hj2]
      exact ⟨rfl, rfl, by show (lK L).length < (lK L).length + 1; omega, by show (lK L).length + 1 ≤ 1600; omega⟩
    · rw [if_neg e, if_neg e, if_neg e]; exact k8 v hv
  · show (lK L ++ [_]).length + 5 ≤ _
    rw [List.length_append, List.length_singleton]; omega
def finO (tb : Nat → Nat) (n : Nat) (xf xp : Int32) (jn jd jm : Nat) (ju jr : Int32) (jc jx : Nat) (j1 jf jt jb jw : Nat → Int32) : Prop := match lockP tb n with
  | .ok r => xf = 0 ∧ xp = -1 ∧ jn = r.2 ∧ lkC (lkF r.1) jd jm ju jr jc jx j1 jf jt jb jw
  | .error e => xf = nI e.1 ∧ xp = nI e.2 ∧ 1 ≤ e.1 ∧ e.1 ≤ 5 ∧ e.2 ≤ 1700
theorem un_0 {P : Except Err (LkS × Nat)} {xf xp : Int32} {jn : Nat} {jd jm : Nat} {ju jr : Int32} {jc jx : Nat} {j1 jf jt jb jw : Nat → Int32} (h : fnO P xf xp jn jd jm ju jr jc jx j1 jf jt jb jw) : unO P 0 jd jm ju jr jc jx j1 jf jt jb jw := fun r hr => by
  subst hr
  exact ⟨h.2.2.2.1, h.2.2.2.2⟩
theorem fin_un {tb : Nat → Nat} {n : Nat} {xf xp : Int32} {jn : Nat} {jd jm : Nat} {ju jr : Int32} {jc jx : Nat} {j1 jf jt jb jw : Nat → Int32} {jc2 jx2 : Nat} {k1 kf kt : Nat → Int32} (h : fnO (lockP tb n) xf xp jn jd jm ju jr jc jx j1 jf jt jb jw) (h2 : unO (lockP tb n) 3 jd jm ju jr jc2 jx2 k1 kf kt jb jw) : finO tb n xf xp jn jd jm ju jr jc2 jx2 k1 kf kt jb jw := by
  unfold finO
  cases hP : lockP tb n with
  | error e => rw [hP] at h; exact h
  | ok r =>
    rw [hP] at h
    exact ⟨h.1, h.2.1, h.2.2.1, (h2 r hP).1⟩
set_option maxHeartbeats 4000000 in
set_option maxRecDepth 100000 in
theorem c_elt_sumOf (l : Launch) (D : va_G) (cI cJ cC cZ cS : ClassId) (zk zv : Nat) (zf : Value) (q : Nat → Nat) (xa : Nat) (xv : Int32) (xt : Int32) (xz : Nat) (xf : Int32) (xp : Int32) (tl : Nat) (tb : Nat → Nat) (jd : Nat) (jm : Nat) (ju : Int32) (jr : Int32) (jn : Nat) (jc : Nat) (jx : Nat) (j1 : Nat → Int32) (jf : Nat → Int32) (jt : Nat → Int32) (u0 : Nat) (kn : Nat) (w : Nat) (og : Res) (hxa : xa ≤ 1600) (hxz : xz ≤ 1600) (htl : tl ≤ 1600) (htb : ∀ j, tb j ≤ 255) (hjc : jc ≤ 1600) (hjx : jx ≤ 1) (hw : w < 3) (hkn : kn ≤ 2) (hre : ¬ xt = -1 ∧ ¬ xt = -2) (hO : rsO tb tl og xa xv xt xz xf xp jc jx j1) (hlen : lenO og) : skMZ zk zv zf l yX3_readSumOf cX3_readSumOf 4 none 55 1321 0 0 D (skT cI cJ cC cZ cS) [.ref (q 3), .ref (q 6), .int (nI w), .ref u0] [(q 3, .inr (3, [.ref (q 2), .ref (q 22), .ref (q 23)])), (q 2, .inr (6, [.ref (q 0), .int (nI xa), .int xv, .int 0, .int xt, .int (nI xz), .int xf, .int xp])), (q 0, .inr (10, [.ref (q 20), .int (nI tl)])), (q 20, .inl (cI, 1600, .inl (fun j => nI (tb j)))), (u0, .inr (8, [.ref (q 2), .int (nI kn)])), (q 6, .inr (2, [.ref (q 24), .ref (q 25), .ref (q 26), .ref (q 27), .ref (q 28), .int (nI jd), .int (nI jm), .int ju, .int jr, .int (nI jn)])), (q 24, .inr (0, [.ref (q 29), .ref (q 30), .ref (q 31), .ref (q 32), .int (nI jc), .int (nI jx)])), (q 29, .inl (cI, 1600, .inl j1)), (q 27, .inl (cI, 3, .inl jf)), (q 28, .inl (cI, 3, .inl jt))] (skV D (skT cI cJ cC cZ cS) (fun (u : va_W) => ∃ (xa2 : Nat), ∃ (xv2 : Int32), ∃ (xt2 : Int32), ∃ (xz2 : Nat), ∃ (xf2 : Int32), ∃ (xp2 : Int32), ∃ (jc2 : Nat), ∃ (jx2 : Nat), ∃ (k1_ : Nat → Int32), ∃ (kf_ : Nat → Int32), ∃ (kt_ : Nat → Int32), xa2 ≤ 1600 ∧ xz2 ≤ 1600 ∧ jc2 ≤ 1600 ∧ jx2 ≤ 1 ∧ smO tb tl kn w og xa2 xv2 xt2 xz2 xf2 xp2 jc jc2 jx2 k1_ jf kf_ jt kt_ ∧ u = [(q 3, .inr (3, [.ref (q 2), .ref (q 22), .ref (q 23)])), (q 2, .inr (6, [.ref (q 0), .int (nI xa2), .int xv2, .int 0, .int xt2, .int (nI xz2), .int xf2, .int xp2])), (q 0, .inr (10, [.ref (q 20), .int (nI tl)])), (q 20, .inl (cI, 1600, .inl (fun j => nI (tb j)))), (u0, .inr (8, [.ref (q 2), .int (nI kn)])), (q 6, .inr (2, [.ref (q 24), .ref (q 25), .ref (q 26), .ref (q 27), .ref (q 28), .int (nI jd), .int (nI jm), .int ju, .int jr, .int (nI jn)])), (q 24, .inr (0, [.ref (q 29), .ref (q 30), .ref (q 31), .ref (q 32), .int (nI jc2), .int (nI jx2)])), (q 29, .inl (cI, 1600, .inl k1_)), (q 27, .inl (cI, 3, .inl kf_)), (q 28, .inl (cI, 3, .inl kt_))])) := by
  refine skMZ_of pf_X3_readSumOf (Nat.le_of_ble_eq_true rfl) ?_
  intro p e s m below meth c A ls E hP hD hZ hl
  refine skE_el E (fun hx hb hr hml hlocks hin hown hts hK hA => ?_)
  have hown : s.vm.findClass RX3 = some m.cls := hown
  have hS : va_S A s.heap s.heap [] := va_S.rf
  have hl : lv_has ls 4 [(0, .ref (q 3)), (1, .ref (q 6)), (2, .int (nI w)), (3, .ref u0)] := hl
  refine lv_aload_n hx hb dX3_readSumOf_0 rfl (lv_at hl 1 rfl) ?_
  refine lv_iload_n hx hb dX3_readSumOf_1 rfl (lv_at hl 2 rfl) ?_
  refine sk_Vi (q0 := 0) (n := 1) (rest := []) (wr := fmR om_10_13 _) ⟨hx, hb, hml, hown, hts⟩ hl.1 (c_elk_hasSum l D cI cJ cC cZ cS q jd jm ju jr jn jf jt w hw) w_3_70 w_3_71 w_3_72 w_1_9 w_3_73 hd_X2_hasSum_1 ⟨⟨(Nat.le_of_ble_eq_true rfl), (Nat.le_of_ble_eq_true rfl)⟩, (Nat.le_of_ble_eq_true rfl), (Nat.le_of_ble_eq_true rfl)⟩ hK hP hD hS hA (fmT om_10_13 0) (fmF om_10_13 0) (fm_C1 rfl rfl) (fm_R rfl rfl) (fm_nT om_10_13 0) (fm_nF om_10_13 0) (fm_di om_10_13 0) rfl rfl rfl rfl (Nat.le_of_ble_eq_true rfl) dX3_readSumOf_2 (fun r_2 u H locs hw hP hD hS => ?_)
  refine exE hw (fun b_1 hw1 => anE hw1 (fun hb1_3 hw2 => anE hw2 (fun hhs_4 hw3 => anE hw3 (fun er_6 eu_5 => ?_))))
  clear hw hw1 hw2 hw3
  subst er_6
  refine o_mgE (ws' := [(q 3, .inr (3, [.ref (q 2), .ref (q 22), .ref (q 23)])), (q 2, .inr (6, [.ref (q 0), .int (nI xa), .int xv, .int 0, .int xt, .int (nI xz), .int xf, .int xp])), (q 0, .inr (10, [.ref (q 20), .int (nI tl)])), (q 20, .inl (cI, 1600, .inl (fun j => nI (tb j)))), (u0, .inr (8, [.ref (q 2), .int (nI kn)])), (q 6, .inr (2, [.ref (q 24), .ref (q 25), .ref (q 26), .ref (q 27), .ref (q 28), .int (nI jd), .int (nI jm), .int ju, .int jr, .int (nI jn)])), (q 24, .inr (0, [.ref (q 29), .ref (q 30), .ref (q 31), .ref (q 32), .int (nI jc), .int (nI jx)])), (q 29, .inl (cI, 1600, .inl j1)), (q 27, .inl (cI, 3, .inl jf)), (q 28, .inl (cI, 3, .inl jt))]) eu_5 hP hD rfl (fun hP hD => ?_)
  refine lv_if_eq (tgt := 24) hx hb dX3_readSumOf_5 (by decide) (fun c_7 => ?_) (fun c_7 => ?_)
  · have c_7 : b_1 = 0 := (neq b_1 0 (by omega) (Nat.le_of_ble_eq_true rfl)).mp c_7
    refine lv_aload_n hx hb dX3_readSumOf_24 rfl (lv_at hl 0 rfl) ?_
    refine sk_get (v := .ref (q 2)) (C := RX3) (T := TX3) (N := 3) hx hb hts inlX3 hown hK hP 0 rfl rfl 0 (Nat.le_of_ble_eq_true rfl) w_1_107 rfl dX3_readSumOf_25 ?_
    refine sk_VvZ (q0 := 0) (n := 0) (rest := []) (wr := fmR om_10_1c0 _) ⟨hx, hb, hml, hown, hts⟩ hl.1 (c_erd_step l D cI cJ cC cZ cS zk zv zf q xa xv 0 xt xz xf xp tl tb (bindR (rc og) (beF tb tl)) hxa hxz htl htb (rd_st htb (hO).1 hre)) w_3_75 w_2_226 w_2_227 w_1_4 w_2_228 hd_X6_step_0 ⟨⟨(Nat.le_of_ble_eq_true rfl), (Nat.le_of_ble_eq_true rfl)⟩, (Nat.le_of_ble_eq_true rfl), (Nat.le_of_ble_eq_true rfl)⟩ hK hP hD hS hZ hA (fmT om_10_1c0 0) (fmF om_10_1c0 0) (fm_C1 rfl rfl) (fm_R rfl rfl) (fm_nT om_10_1c0 0) (fm_nF om_10_1c0 0) (fm_di om_10_1c0 0) rfl rfl rfl rfl (Nat.le_of_ble_eq_true rfl) dX3_readSumOf_28 (fun u H locs hw hP hD hS => ?_)
    refine exE hw (fun xa2_8 hw1 => exE hw1 (fun xv2_9 hw2 => exE hw2 (fun xt2_10 hw3 => exE hw3 (fun xz2_11 hw4 => anE hw4 (fun hxa2_12 hw5 => anE hw5 (fun hxz2_13 hw6 => anE hw6 (fun hO2_14 eu_15 => ?_)))))))
    clear hw hw1 hw2 hw3 hw4 hw5 hw6
    refine o_mgE (ws' := [(q 3, .inr (3, [.ref (q 2), .ref (q 22), .ref (q 23)])), (q 2, .inr (6, [.ref (q 0), .int (nI xa2_8), .int xv2_9, .int 0, .int xt2_10, .int (nI xz2_11), .int xf, .int xp])), (q 0, .inr (10, [.ref (q 20), .int (nI tl)])), (q 20, .inl (cI, 1600, .inl (fun j => nI (tb j)))), (u0, .inr (8, [.ref (q 2), .int (nI kn)])), (q 6, .inr (2, [.ref (q 24), .ref (q 25), .ref (q 26), .ref (q 27), .ref (q 28), .int (nI jd), .int (nI jm), .int ju, .int jr, .int (nI jn)])), (q 24, .inr (0, [.ref (q 29), .ref (q 30), .ref (q 31), .ref (q 32), .int (nI jc), .int (nI jx)])), (q 29, .inl (cI, 1600, .inl j1)), (q 27, .inl (cI, 3, .inl jf)), (q 28, .inl (cI, 3, .inl jt))]) eu_15 hP hD rfl (fun hP hD => ?_)
    rw [stF_nx] at hO2_14
    have hO_16 := rs_bd hO hO2_14
    have hL_17 := lenS_nx htb hO hre hlen
    refine lv_aload_n hx hb dX3_readSumOf_31 rfl (lv_at hl 1 rfl) ?_
    refine lv_iload_n hx hb dX3_readSumOf_32 rfl (lv_at hl 2 rfl) ?_
    refine sk_Vv (q0 := 0) (n := 1) (rest := []) (wr := fmR om_10_1a _) ⟨hx, hb, hml, hown, hts⟩ hl.1 (c_elk_beginSum l D cI cJ cC cZ cS q jd jm ju jr jn jc jx jf w hw) w_3_76 w_3_77 w_3_78 w_1_9 w_3_79 hd_X2_beginSum_1 ⟨⟨(Nat.le_of_ble_eq_true rfl), (Nat.le_of_ble_eq_true rfl)⟩, (Nat.le_of_ble_eq_true rfl), (Nat.le_of_ble_eq_true rfl)⟩ hK hP hD hS hA (fmT om_10_1a 0) (fmF om_10_1a 0) (fm_C1 rfl rfl) (fm_R rfl rfl) (fm_nT om_10_1a 0) (fm_nF om_10_1a 0) (fm_di om_10_1a 0) rfl rfl rfl rfl (Nat.le_of_ble_eq_true rfl) dX3_readSumOf_33 (fun u H locs hw hP hD hS => ?_)
    refine exE hw (fun gf_18 hw1 => anE hw1 (fun hgf_19 eu_20 => ?_))
    clear hw hw1
    refine o_mgE (ws' := [(q 3, .inr (3, [.ref (q 2), .ref (q 22), .ref (q 23)])), (q 2, .inr (6, [.ref (q 0), .int (nI xa2_8), .int xv2_9, .int 0, .int xt2_10, .int (nI xz2_11), .int xf, .int xp])), (q 0, .inr (10, [.ref (q 20), .int (nI tl)])), (q 20, .inl (cI, 1600, .inl (fun j => nI (tb j)))), (u0, .inr (8, [.ref (q 2), .int (nI kn)])), (q 6, .inr (2, [.ref (q 24), .ref (q 25), .ref (q 26), .ref (q 27), .ref (q 28), .int (nI jd), .int (nI jm), .int ju, .int jr, .int (nI jn)])), (q 24, .inr (0, [.ref (q 29), .ref (q 30), .ref (q 31), .ref (q 32), .int (nI jc), .int (nI jx)])), (q 29, .inl (cI, 1600, .inl j1)), (q 27, .inl (cI, 3, .inl gf_18)), (q 28, .inl (cI, 3, .inl jt))]) eu_20 hP hD rfl (fun hP hD => ?_)
    refine lv_aload_n hx hb dX3_readSumOf_36 rfl (lv_at hl 3 rfl) ?_
    refine lv_aload_n hx hb dX3_readSumOf_37 rfl (lv_at hl 1 rfl) ?_
    refine sk_get (v := .ref (q 24)) (C := RX2) (T := TX2) (N := 10) hx hb hts inlX2 hown hK hP 5 rfl rfl 0 (Nat.le_of_ble_eq_true rfl) w_1_177 rfl dX3_readSumOf_38 ?_
    refine sk_VvZ (q0 := 0) (n := 1) (rest := []) (wr := fmR om_10_1ec _) ⟨hx, hb, hml, hown, hts⟩ hl.1 (c_esread l D cI cJ cC cZ cS zk zv zf 6 q u0 kn xa2_8 xv2_9 0 xt2_10 xz2_11 xf xp tl tb (q 24) (q 29) (q 30) (q 31) (q 32) jc jx j1 (bd og (nxF tb tl)) hxa2_12 hxz2_13 htl htb hjc hjx hkn (by omega) hO_16 (lenO_S hL_17)) w_3_80 w_3_81 w_3_82 w_1_6 w_3_83 hd_X8_read_1 ⟨⟨(Nat.le_of_ble_eq_true rfl), (Nat.le_of_ble_eq_true rfl)⟩, (Nat.le_of_ble_eq_true rfl), (Nat.le_of_ble_eq_true rfl)⟩ hK hP hD hS hZ hA [4, 1, 2, 3, 6, 7] (fmF om_10_1ec 0) rfl (fm_R rfl rfl) (by decide +kernel) (fm_nF om_10_1ec 0) (by decide +kernel) rfl rfl rfl rfl (Nat.le_of_ble_eq_true rfl) dX3_readSumOf_41 (fun u H locs hw hP hD hS => ?_)
    refine exE hw (fun xa2_21 hw1 => exE hw1 (fun xv2_22 hw2 => exE hw2 (fun xt2_23 hw3 => exE hw3 (fun xz2_24 hw4 => exE hw4 (fun xf2_25 hw5 => exE hw5 (fun xp2_26 hw6 => exE hw6 (fun c2_27 hw7 => exE hw7 (fun w2_28 hw8 => exE hw8 (fun g1_29 hw9 => anE hw9 (fun hxa2_30 hw10 => anE hw10 (fun hxz2_31 hw11 => anE hw11 (fun hc2_32 hw12 => anE hw12 (fun hw2_33 hw13 => anE hw13 (fun hO2_34 eu_35 => ?_))))))))))))))
    clear hw hw1 hw2 hw3 hw4 hw5 hw6 hw7 hw8 hw9 hw10 hw11 hw12 hw13
    refine o_mgqE (ux := [(q 2, .inr (6, [.ref (q 0), .int (nI xa2_21), .int xv2_22, .int 0, .int xt2_23, .int (nI xz2_24), .int xf2_25, .int xp2_26])), (q 0, .inr (10, [.ref (q 20), .int (nI tl)])), (q 20, .inl (cI, 1600, .inl (fun j => nI (tb j)))), (u0, .inr (8, [.ref (q 2), .int (nI kn)])), (q 24, .inr (0, [.ref (q 29), .ref (q 30), .ref (q 31), .ref (q 32), .int (nI c2_27), .int (nI w2_28)])), (q 29, .inl (cI, 1600, .inl g1_29))]) (ws' := [(q 3, .inr (3, [.ref (q 2), .ref (q 22), .ref (q 23)])), (q 2, .inr (6, [.ref (q 0), .int (nI xa2_21), .int xv2_22, .int 0, .int xt2_23, .int (nI xz2_24), .int xf2_25, .int xp2_26])), (q 0, .inr (10, [.ref (q 20), .int (nI tl)])), (q 20, .inl (cI, 1600, .inl (fun j => nI (tb j)))), (u0, .inr (8, [.ref (q 2), .int (nI kn)])), (q 6, .inr (2, [.ref (q 24), .ref (q 25), .ref (q 26), .ref (q 27), .ref (q 28), .int (nI jd), .int (nI jm), .int ju, .int jr, .int (nI jn)])), (q 24, .inr (0, [.ref (q 29), .ref (q 30), .ref (q 31), .ref (q 32), .int (nI c2_27), .int (nI w2_28)])), (q 29, .inl (cI, 1600, .inl g1_29)), (q 27, .inl (cI, 3, .inl gf_18)), (q 28, .inl (cI, 3, .inl jt))]) eu_35 [1, 2, 3, 0, 4, 5] (by decide +kernel) rfl hP hD rfl (fun hP hD => ?_)
    have hL_36 := lenS_ap (len_sum (tb := tb) (n := tl) (len_part (tb := tb) (n := tl) (kind := kn) 6)) hL_17
    refine lv_aload_n hx hb dX3_readSumOf_44 rfl (lv_at hl 1 rfl) ?_
    refine lv_iload_n hx hb dX3_readSumOf_45 rfl (lv_at hl 2 rfl) ?_
    refine sk_Vv (q0 := 0) (n := 1) (rest := []) (wr := fmR om_10_19 _) ⟨hx, hb, hml, hown, hts⟩ hl.1 (c_elk_endSum l D cI cJ cC cZ cS q jd jm ju jr jn c2_27 w2_28 jt w hw) w_3_123 w_3_124 w_3_125 w_1_9 w_3_126 hd_X2_endSum_1 ⟨⟨(Nat.le_of_ble_eq_true rfl), (Nat.le_of_ble_eq_true rfl)⟩, (Nat.le_of_ble_eq_true rfl), (Nat.le_of_ble_eq_true rfl)⟩ hK hP hD hS hA (fmT om_10_19 0) (fmF om_10_19 0) (fm_C1 rfl rfl) (fm_R rfl rfl) (fm_nT om_10_19 0) (fm_nF om_10_19 0) (fm_di om_10_19 0) rfl rfl rfl rfl (Nat.le_of_ble_eq_true rfl) dX3_readSumOf_46 (fun u H locs hw hP hD hS => ?_)
    refine exE hw (fun gt_37 hw1 => anE hw1 (fun hgt_38 eu_39 => ?_))
    clear hw hw1
    refine o_mgE (ws' := [(q 3, .inr (3, [.ref (q 2), .ref (q 22), .ref (q 23)])), (q 2, .inr (6, [.ref (q 0), .int (nI xa2_21), .int xv2_22, .int 0, .int xt2_23, .int (nI xz2_24), .int xf2_25, .int xp2_26])), (q 0, .inr (10, [.ref (q 20), .int (nI tl)])), (q 20, .inl (cI, 1600, .inl (fun j => nI (tb j)))), (u0, .inr (8, [.ref (q 2), .int (nI kn)])), (q 6, .inr (2, [.ref (q 24), .ref (q 25), .ref (q 26), .ref (q 27), .ref (q 28), .int (nI jd), .int (nI jm), .int ju, .int jr, .int (nI jn)])), (q 24, .inr (0, [.ref (q 29), .ref (q 30), .ref (q 31), .ref (q 32), .int (nI c2_27), .int (nI w2_28)])), (q 29, .inl (cI, 1600, .inl g1_29)), (q 27, .inl (cI, 3, .inl gf_18)), (q 28, .inl (cI, 3, .inl gt_37))]) eu_39 hP hD rfl (fun hP hD => ?_)
    exact sk_vret hx hb hr hlocks hK hP hD hS (⟨xa2_21, xv2_22, xt2_23, xz2_24, xf2_25, xp2_26, c2_27, w2_28, g1_29, gf_18, gt_37, hxa2_30, hxz2_31, hc2_32, hw2_33, Or.inr ⟨rr_0 hhs_4 (by omega), hO2_34, hgf_19, hgt_38⟩, rfl⟩) (Nat.le_of_ble_eq_true rfl) (Nat.le_of_ble_eq_true rfl) dX3_readSumOf_49
  · have c_7 : ¬ (b_1 = 0) := fun h => c_7 ((neq b_1 0 (by omega) (Nat.le_of_ble_eq_true rfl)).mpr h)
    refine lv_aload_n hx hb dX3_readSumOf_8 rfl (lv_at hl 0 rfl) ?_
    refine sk_get (v := .ref (q 2)) (C := RX3) (T := TX3) (N := 3) hx hb hts inlX3 hown hK hP 0 rfl rfl 0 (Nat.le_of_ble_eq_true rfl) w_1_107 rfl dX3_readSumOf_9 ?_
    refine lv_iconst (v := 5) hx hb dX3_readSumOf_12 ic_5 ?_
    refine lv_aload_n hx hb dX3_readSumOf_13 rfl (lv_at hl 0 rfl) ?_
    refine sk_get (v := .ref (q 2)) (C := RX3) (T := TX3) (N := 3) hx hb hts inlX3 hown hK hP 0 rfl rfl 0 (Nat.le_of_ble_eq_true rfl) w_1_107 rfl dX3_readSumOf_14 ?_
    refine sk_get (v := .int (nI xz)) (C := RX6) (T := TX6) (N := 8) hx hb hts inlX6 hown hK hP 1 rfl rfl 5 (Nat.le_of_ble_eq_true rfl) w_1_65 rfl dX3_readSumOf_17 ?_
    refine sk_Vv (q0 := 0) (n := 2) (rest := []) (wr := fmR om_10_100 _) ⟨hx, hb, hml, hown, hts⟩ hl.1 (c_erd_fail l D cI cJ cC cZ cS q xa xv 0 xt xz xf xp tl tb 5 xz (rc og) (by omega) (by omega) (by omega) (hO).1) w_3_74 w_3_59 w_3_60 w_1_4 w_3_61 hd_X6_fail_2 ⟨⟨(Nat.le_of_ble_eq_true rfl), (Nat.le_of_ble_eq_true rfl)⟩, (Nat.le_of_ble_eq_true rfl), (Nat.le_of_ble_eq_true rfl)⟩ hK hP hD hS hA (fmT om_10_100 0) (fmF om_10_100 0) (fm_C1 rfl rfl) (fm_R rfl rfl) (fm_nT om_10_100 0) (fm_nF om_10_100 0) (fm_di om_10_100 0) rfl rfl rfl rfl (Nat.le_of_ble_eq_true rfl) dX3_readSumOf_20 (fun u H locs hw hP hD hS => ?_)
    refine exE hw (fun xf2_40 hw1 => exE hw1 (fun xp2_41 hw2 => anE hw2 (fun hO2_42 eu_43 => ?_)))
    clear hw hw1 hw2
    refine o_mgE (ws' := [(q 3, .inr (3, [.ref (q 2), .ref (q 22), .ref (q 23)])), (q 2, .inr (6, [.ref (q 0), .int (nI xa), .int xv, .int 0, .int (-2), .int (nI xz), .int xf2_40, .int xp2_41])), (q 0, .inr (10, [.ref (q 20), .int (nI tl)])), (q 20, .inl (cI, 1600, .inl (fun j => nI (tb j)))), (u0, .inr (8, [.ref (q 2), .int (nI kn)])), (q 6, .inr (2, [.ref (q 24), .ref (q 25), .ref (q 26), .ref (q 27), .ref (q 28), .int (nI jd), .int (nI jm), .int ju, .int jr, .int (nI jn)])), (q 24, .inr (0, [.ref (q 29), .ref (q 30), .ref (q 31), .ref (q 32), .int (nI jc), .int (nI jx)])), (q 29, .inl (cI, 1600, .inl j1)), (q 27, .inl (cI, 3, .inl jf)), (q 28, .inl (cI, 3, .inl jt))]) eu_43 hP hD rfl (fun hP hD => ?_)
    have hO_44 := rs_bd hO hO2_42
    exact sk_vret hx hb hr hlocks hK hP hD hS (⟨xa, xv, (-2), xz, xf2_40, xp2_41, jc, jx, j1, jf, jt, hxa, hxz, hjc, hjx, Or.inl ⟨rr_1 hhs_4 (by omega), rs_fh hO hO_44, rfl, rfl⟩, rfl⟩) (Nat.le_of_ble_eq_true rfl) (Nat.le_of_ble_eq_true rfl) dX3_readSumOf_23
set_option maxHeartbeats 4000000 in
set_option maxRecDepth 100000 in
theorem c_elk_addUntold (l : Launch) (D : va_G) (cI cJ cC cZ cS : ClassId) (q : Nat → Nat) (jd : Nat) (jm : Nat) (ju : Int32) (jr : Int32) (jn : Nat) (jc : Nat) (jx : Nat) (j1 : Nat → Int32) (jf : Nat → Int32) (jt : Nat → Int32) (jb : Nat → Int32) (jw : Nat → Int32) (tl : Nat) (tb : Nat → Nat) (hjc : jc ≤ 1600) (hjx : jx ≤ 1) (hun0 : unO (lockP tb tl) 0 jd jm ju jr jc jx j1 jf jt jb jw) : skM l yX2_addUntold cX2_addUntold 2 none 1 21 0 0 D (skT cI cJ cC cZ cS) [.ref (q 6)] [(q 6, .inr (2, [.ref (q 24), .ref (q 25), .ref (q 26), .ref (q 27), .ref (q 28), .int (nI jd), .int (nI jm), .int ju, .int jr, .int (nI jn)])), (q 24, .inr (0, [.ref (q 29), .ref (q 30), .ref (q 31), .ref (q 32), .int (nI jc), .int (nI jx)])), (q 29, .inl (cI, 1600, .inl j1)), (q 27, .inl (cI, 3, .inl jf)), (q 28, .inl (cI, 3, .inl jt))] (skV D (skT cI cJ cC cZ cS) (fun (u : va_W) => ∃ (jc2 : Nat), ∃ (jx2 : Nat), ∃ (k1_ : Nat → Int32), ∃ (kf_ : Nat → Int32), ∃ (kt_ : Nat → Int32), jc2 ≤ 1600 ∧ jx2 ≤ 1 ∧ unO (lockP tb tl) 3 jd jm ju jr jc2 jx2 k1_ kf_ kt_ jb jw ∧ u = [(q 6, .inr (2, [.ref (q 24), .ref (q 25), .ref (q 26), .ref (q 27), .ref (q 28), .int (nI jd), .int (nI jm), .int ju, .int jr, .int (nI jn)])), (q 24, .inr (0, [.ref (q 29), .ref (q 30), .ref (q 31), .ref (q 32), .int (nI jc2), .int (nI jx2)])), (q 29, .inl (cI, 1600, .inl k1_)), (q 27, .inl (cI, 3, .inl kf_)), (q 28, .inl (cI, 3, .inl kt_))])) := by
  refine skM_of pf_X2_addUntold (Nat.le_of_ble_eq_true rfl) ?_
  intro p e s m below meth c A ls E hP hD hl
  refine skE_el E (fun hx hb hr hml hlocks hin hown hts hK hA => ?_)
  have hown : s.vm.findClass RX2 = some m.cls := hown
  have hS : va_S A s.heap s.heap [] := va_S.rf
  have hl : lv_has ls 2 [(0, .ref (q 6))] := hl
  refine lv_iconst (v := 0) hx hb dX2_addUntold_0 ic_0 ?_
  refine lv_istore_n (lv' := [(1, .int 0), (0, .ref (q 6))]) hx hb dX2_addUntold_1 rfl hl (by decide) rfl (fun ls hl => ?_)
  have lp_1 : ∀ (n_2 : Nat) (i : Nat) (yc : Nat) (yx : Nat) (y1 : Nat → Int32) (yf : Nat → Int32) (yt : Nat → Int32) (H : Heap) (locs : List Loc) (ls : Array Slot), 3 - i < n_2 → (i ≤ 3) → (yc ≤ 1600) → (yx ≤ 1) → (unO (lockP tb tl) i jd jm ju jr yc yx y1 yf yt jb jw) → va_P D vwCl [(q 6, .inr (2, [.ref (q 24), .ref (q 25), .ref (q 26), .ref (q 27), .ref (q 28), .int (nI jd), .int (nI jm), .int ju, .int jr, .int (nI jn)])), (q 24, .inr (0, [.ref (q 29), .ref (q 30), .ref (q 31), .ref (q 32), .int (nI yc), .int (nI yx)])), (q 29, .inl (cI, 1600, .inl y1)), (q 27, .inl (cI, 3, .inl yf)), (q 28, .inl (cI, 3, .inl yt))] H → va_D A [(q 6, .inr (2, [.ref (q 24), .ref (q 25), .ref (q 26), .ref (q 27), .ref (q 28), .int (nI jd), .int (nI jm), .int ju, .int jr, .int (nI jn)])), (q 24, .inr (0, [.ref (q 29), .ref (q 30), .ref (q 31), .ref (q 32), .int (nI yc), .int (nI yx)])), (q 29, .inl (cI, 1600, .inl y1)), (q 27, .inl (cI, 3, .inl yf)), (q 28, .inl (cI, 3, .inl yt))] → va_S A s.heap H locs → lv_has ls 2 [(1, .int (nI i)), (0, .ref (q 6))] → W p l e { frames := 1, cells := 0, slots := 0, locals := 21 } s m ([.ref (q 6)] : List Value).toArray below meth c H locs 0 0 (MQ below (skV D (skT cI cJ cC cZ cS) (fun (u : va_W) => ∃ (jc2 : Nat), ∃ (jx2 : Nat), ∃ (k1_ : Nat → Int32), ∃ (kf_ : Nat → Int32), ∃ (kt_ : Nat → Int32), jc2 ≤ 1600 ∧ jx2 ≤ 1 ∧ unO (lockP tb tl) 3 jd jm ju jr jc2 jx2 k1_ kf_ kt_ jb jw ∧ u = [(q 6, .inr (2, [.ref (q 24), .ref (q 25), .ref (q 26), .ref (q 27), .ref (q 28), .int (nI jd), .int (nI jm), .int ju, .int jr, .int (nI jn)])), (q 24, .inr (0, [.ref (q 29), .ref (q 30), .ref (q 31), .ref (q 32), .int (nI jc2), .int (nI jx2)])), (q 29, .inl (cI, 1600, .inl k1_)), (q 27, .inl (cI, 3, .inl kf_)), (q 28, .inl (cI, 3, .inl kt_))]) A) ([.ref (q 6)] : List Value).toArray s 0 0 A) (F0 m 2 ls []) := by
    intro n_2
    induction n_2 with
    | zero => intro i yc yx y1 yf yt H locs ls hm; exact absurd hm (Nat.not_lt_zero _)
    | succ n_2 ih_lp_1 =>
      intro i yc yx y1 yf yt H locs ls hm hi hyc hyx hun hP hD hS hl
      refine lv_iload_n hx hb dX2_addUntold_2 rfl (lv_at hl 0 rfl) ?_
      refine lv_iconst (v := 2) hx hb dX2_addUntold_3 ic_2 ?_
      refine lv_icmp_gt (tgt := 52) hx hb dX2_addUntold_4 (by decide) (fun c_3 => ?_) (fun c_3 => ?_)
      · have c_3 : 2 < i := (nlt 2 i (Nat.le_of_ble_eq_true rfl) (by omega)).mp c_3
        exact sk_vret hx hb hr hlocks hK hP hD hS (⟨yc, yx, y1, yf, yt, hyc, hyx, (show unO (lockP tb tl) 3 jd jm ju jr yc yx y1 yf yt jb jw by rw [show 3 = i by omega]; exact hun), rfl⟩) (Nat.le_of_ble_eq_true rfl) (Nat.le_of_ble_eq_true rfl) dX2_addUntold_52
      · have c_3 : ¬ (2 < i) := fun h => c_3 ((nlt 2 i (Nat.le_of_ble_eq_true rfl) (by omega)).mpr h)
        refine lv_aload_n hx hb dX2_addUntold_7 rfl (lv_at hl 1 rfl) ?_
        refine lv_iload_n hx hb dX2_addUntold_8 rfl (lv_at hl 0 rfl) ?_
        refine sk_Vi (q0 := 0) (n := 1) (rest := []) (wr := fmR om_5_13 _) ⟨hx, hb, hml, hown, hts⟩ hl.1 (c_elk_hasSum l D cI cJ cC cZ cS q jd jm ju jr jn yf yt i (by omega)) w_3_144 w_3_71 w_3_72 w_1_9 w_3_73 hd_X2_hasSum_1 ⟨⟨(Nat.le_of_ble_eq_true rfl), (Nat.le_of_ble_eq_true rfl)⟩, (Nat.le_of_ble_eq_true rfl), (Nat.le_of_ble_eq_true rfl)⟩ hK hP hD hS hA (fmT om_5_13 0) (fmF om_5_13 0) (fm_C1 rfl rfl) (fm_R rfl rfl) (fm_nT om_5_13 0) (fm_nF om_5_13 0) (fm_di om_5_13 0) rfl rfl rfl rfl (Nat.le_of_ble_eq_true rfl) dX2_addUntold_9 (fun r_5 u H locs hw hP hD hS => ?_)
        refine exE hw (fun b_4 hw1 => anE hw1 (fun hb1_6 hw2 => anE hw2 (fun hhs_7 hw3 => anE hw3 (fun er_9 eu_8 => ?_))))
        clear hw hw1 hw2 hw3
        subst er_9
        refine o_mgE (ws' := [(q 6, .inr (2, [.ref (q 24), .ref (q 25), .ref (q 26), .ref (q 27), .ref (q 28), .int (nI jd), .int (nI jm), .int ju, .int jr, .int (nI jn)])), (q 24, .inr (0, [.ref (q 29), .ref (q 30), .ref (q 31), .ref (q 32), .int (nI yc), .int (nI yx)])), (q 29, .inl (cI, 1600, .inl y1)), (q 27, .inl (cI, 3, .inl yf)), (q 28, .inl (cI, 3, .inl yt))]) eu_8 hP hD rfl (fun hP hD => ?_)
        refine lv_if_ne (tgt := 46) hx hb dX2_addUntold_12 (by decide) (fun c_10 => ?_) (fun c_10 => ?_)
        · have c_10 : ¬ (b_4 = 0) := fun h => c_10 ((neq b_4 0 (by omega) (Nat.le_of_ble_eq_true rfl)).mpr h)
          refine lv_iinc (v := nI (i + 1)) (lv' := [(1, .int (nI (i + 1))), (0, .ref (q 6))]) hx hb dX2_addUntold_46 hl (k := 0) rfl (ninc i 1 (by decide)) (by decide) rfl (fun ls hl => ?_)
          refine lv_goto (tgt := 2) hx hb dX2_addUntold_49 (by decide) ?_
          exact ih_lp_1 (i + 1) yc yx y1 yf yt _ _ _ (by omega) (by omega) hyc hyx (un_has hun (by omega) (rr_1 hhs_7 (by omega))) hP hD hS (lv_sub hl [0, 1] rfl)
        · have c_10 : b_4 = 0 := (neq b_4 0 (by omega) (Nat.le_of_ble_eq_true rfl)).mp c_10
          refine lv_aload_n hx hb dX2_addUntold_15 rfl (lv_at hl 1 rfl) ?_
          refine lv_iload_n hx hb dX2_addUntold_16 rfl (lv_at hl 0 rfl) ?_
          refine sk_Vv (q0 := 0) (n := 1) (rest := []) (wr := fmR om_5_1a _) ⟨hx, hb, hml, hown, hts⟩ hl.1 (c_elk_beginSum l D cI cJ cC cZ cS q jd jm ju jr jn yc yx yf i (by omega)) w_3_145 w_3_77 w_3_78 w_1_9 w_3_79 hd_X2_beginSum_1 ⟨⟨(Nat.le_of_ble_eq_true rfl), (Nat.le_of_ble_eq_true rfl)⟩, (Nat.le_of_ble_eq_true rfl), (Nat.le_of_ble_eq_true rfl)⟩ hK hP hD hS hA (fmT om_5_1a 0) (fmF om_5_1a 0) (fm_C1 rfl rfl) (fm_R rfl rfl) (fm_nT om_5_1a 0) (fm_nF om_5_1a 0) (fm_di om_5_1a 0) rfl rfl rfl rfl (Nat.le_of_ble_eq_true rfl) dX2_addUntold_17 (fun u H locs hw hP hD hS => ?_)
          refine exE hw (fun gf_11 hw1 => anE hw1 (fun hgf_12 eu_13 => ?_))
          clear hw hw1
          refine o_mgE (ws' := [(q 6, .inr (2, [.ref (q 24), .ref (q 25), .ref (q 26), .ref (q 27), .ref (q 28), .int (nI jd), .int (nI jm), .int ju, .int jr, .int (nI jn)])), (q 24, .inr (0, [.ref (q 29), .ref (q 30), .ref (q 31), .ref (q 32), .int (nI yc), .int (nI yx)])), (q 29, .inl (cI, 1600, .inl y1)), (q 27, .inl (cI, 3, .inl gf_11)), (q 28, .inl (cI, 3, .inl yt))]) eu_13 hP hD rfl (fun hP hD => ?_)
          refine lv_aload_n hx hb dX2_addUntold_20 rfl (lv_at hl 1 rfl) ?_
          refine sk_get (v := .ref (q 24)) (C := RX2) (T := TX2) (N := 10) hx hb hts inlX2 hown hK hP 0 rfl rfl 0 (Nat.le_of_ble_eq_true rfl) w_1_175 rfl dX2_addUntold_21 ?_
          refine lv_iload_n hx hb dX2_addUntold_24 rfl (lv_at hl 0 rfl) ?_
          refine lv_iconst (v := 1) hx hb dX2_addUntold_25 ic_1 ?_
          refine lv_icmp_ne (tgt := 35) hx hb dX2_addUntold_26 (by decide) (fun c_14 => ?_) (fun c_14 => ?_)
          · have c_14 : ¬ (i = 1) := fun h => c_14 ((neq i 1 (by omega) (Nat.le_of_ble_eq_true rfl)).mpr h)
            refine lv_sipush (v := 10000) hx hb dX2_addUntold_35 (by decide) ?_
            refine sk_Vv (q0 := 0) (n := 1) (rest := []) (wr := fmR om_5_c _) ⟨hx, hb, hml, hown, hts⟩ hl.1 (c_eCode_addX l D cI cJ cC cZ cS (q 24) (q 29) (q 30) (q 31) (q 32) yc yx y1 10000 (unR (lockP tb tl) i) 40 hyc hyx (by decide) (by omega) (un_co hun) (un_rm hun (by omega))) w_3_146 w_3_98 w_3_99 w_1_8 w_3_100 hd_X0_add_1 ⟨⟨(Nat.le_of_ble_eq_true rfl), (Nat.le_of_ble_eq_true rfl)⟩, (Nat.le_of_ble_eq_true rfl), (Nat.le_of_ble_eq_true rfl)⟩ hK hP hD hS hA (fmT om_5_c 0) (fmF om_5_c 0) (fm_C1 rfl rfl) (fm_R rfl rfl) (fm_nT om_5_c 0) (fm_nF om_5_c 0) (fm_di om_5_c 0) rfl rfl rfl rfl (Nat.le_of_ble_eq_true rfl) dX2_addUntold_38 (fun u H locs hw hP hD hS => ?_)
            refine exE hw (fun c2_15 hw1 => exE hw1 (fun w2_16 hw2 => exE hw2 (fun g1_17 hw3 => anE hw3 (fun hc2_18 hw4 => anE hw4 (fun hw2_19 hw5 => anE hw5 (fun hO2_20 eu_21 => ?_))))))
            clear hw hw1 hw2 hw3 hw4 hw5
            refine o_mgE (ws' := [(q 6, .inr (2, [.ref (q 24), .ref (q 25), .ref (q 26), .ref (q 27), .ref (q 28), .int (nI jd), .int (nI jm), .int ju, .int jr, .int (nI jn)])), (q 24, .inr (0, [.ref (q 29), .ref (q 30), .ref (q 31), .ref (q 32), .int (nI c2_15), .int (nI w2_16)])), (q 29, .inl (cI, 1600, .inl g1_17)), (q 27, .inl (cI, 3, .inl gf_11)), (q 28, .inl (cI, 3, .inl yt))]) eu_21 hP hD rfl (fun hP hD => ?_)
            refine lv_aload_n hx hb dX2_addUntold_41 rfl (lv_at hl 1 rfl) ?_
            refine lv_iload_n hx hb dX2_addUntold_42 rfl (lv_at hl 0 rfl) ?_
            refine sk_Vv (q0 := 0) (n := 1) (rest := []) (wr := fmR om_5_19 _) ⟨hx, hb, hml, hown, hts⟩ hl.1 (c_elk_endSum l D cI cJ cC cZ cS q jd jm ju jr jn c2_15 w2_16 yt i (by omega)) w_3_147 w_3_124 w_3_125 w_1_9 w_3_126 hd_X2_endSum_1 ⟨⟨(Nat.le_of_ble_eq_true rfl), (Nat.le_of_ble_eq_true rfl)⟩, (Nat.le_of_ble_eq_true rfl), (Nat.le_of_ble_eq_true rfl)⟩ hK hP hD hS hA (fmT om_5_19 0) (fmF om_5_19 0) (fm_C1 rfl rfl) (fm_R rfl rfl) (fm_nT om_5_19 0) (fm_nF om_5_19 0) (fm_di om_5_19 0) rfl rfl rfl rfl (Nat.le_of_ble_eq_true rfl) dX2_addUntold_43 (fun u H locs hw hP hD hS => ?_)
            refine exE hw (fun gt_22 hw1 => anE hw1 (fun hgt_23 eu_24 => ?_))
            clear hw hw1
            refine o_mgE (ws' := [(q 6, .inr (2, [.ref (q 24), .ref (q 25), .ref (q 26), .ref (q 27), .ref (q 28), .int (nI jd), .int (nI jm), .int ju, .int jr, .int (nI jn)])), (q 24, .inr (0, [.ref (q 29), .ref (q 30), .ref (q 31), .ref (q 32), .int (nI c2_15), .int (nI w2_16)])), (q 29, .inl (cI, 1600, .inl g1_17)), (q 27, .inl (cI, 3, .inl gf_11)), (q 28, .inl (cI, 3, .inl gt_22))]) eu_24 hP hD rfl (fun hP hD => ?_)
            refine lv_iinc (v := nI (i + 1)) (lv' := [(1, .int (nI (i + 1))), (0, .ref (q 6))]) hx hb dX2_addUntold_46 hl (k := 0) rfl (ninc i 1 (by decide)) (by decide) rfl (fun ls hl => ?_)
            refine lv_goto (tgt := 2) hx hb dX2_addUntold_49 (by decide) ?_
            exact ih_lp_1 (i + 1) c2_15 w2_16 g1_17 gf_11 gt_22 _ _ _ (by omega) (by omega) hc2_18 hw2_19 (by rw [hgf_12, hgt_23]; exact un_add hun (by omega) (rr_0 hhs_7 (by omega)) (by rw [(if_neg c_14)]; exact hO2_20)) hP hD hS (lv_sub hl [0, 1] rfl)
          · have c_14 : i = 1 := (neq i 1 (by omega) (Nat.le_of_ble_eq_true rfl)).mp c_14
            refine lv_sipush (v := 10005) hx hb dX2_addUntold_29 (by decide) ?_
            refine lv_goto (tgt := 38) hx hb dX2_addUntold_32 (by decide) ?_
            refine sk_Vv (q0 := 0) (n := 1) (rest := []) (wr := fmR om_5_c _) ⟨hx, hb, hml, hown, hts⟩ hl.1 (c_eCode_addX l D cI cJ cC cZ cS (q 24) (q 29) (q 30) (q 31) (q 32) yc yx y1 10005 (unR (lockP tb tl) i) 45 hyc hyx (by decide) (by omega) (un_co hun) (un_rm hun (by omega))) w_3_146 w_3_98 w_3_99 w_1_8 w_3_100 hd_X0_add_1 ⟨⟨(Nat.le_of_ble_eq_true rfl), (Nat.le_of_ble_eq_true rfl)⟩, (Nat.le_of_ble_eq_true rfl), (Nat.le_of_ble_eq_true rfl)⟩ hK hP hD hS hA (fmT om_5_c 0) (fmF om_5_c 0) (fm_C1 rfl rfl) (fm_R rfl rfl) (fm_nT om_5_c 0) (fm_nF om_5_c 0) (fm_di om_5_c 0) rfl rfl rfl rfl (Nat.le_of_ble_eq_true rfl) dX2_addUntold_38 (fun u H locs hw hP hD hS => ?_)
            refine exE hw (fun c2_25 hw1 => exE hw1 (fun w2_26 hw2 => exE hw2 (fun g1_27 hw3 => anE hw3 (fun hc2_28 hw4 => anE hw4 (fun hw2_29 hw5 => anE hw5 (fun hO2_30 eu_31 => ?_))))))
            clear hw hw1 hw2 hw3 hw4 hw5
            refine o_mgE (ws' := [(q 6, .inr (2, [.ref (q 24), .ref (q 25), .ref (q 26), .ref (q 27), .ref (q 28), .int (nI jd), .int (nI jm), .int ju, .int jr, .int (nI jn)])), (q 24, .inr (0, [.ref (q 29), .ref (q 30), .ref (q 31), .ref (q 32), .int (nI c2_25), .int (nI w2_26)])), (q 29, .inl (cI, 1600, .inl g1_27)), (q 27, .inl (cI, 3, .inl gf_11)), (q 28, .inl (cI, 3, .inl yt))]) eu_31 hP hD rfl (fun hP hD => ?_)
            refine lv_aload_n hx hb dX2_addUntold_41 rfl (lv_at hl 1 rfl) ?_
            refine lv_iload_n hx hb dX2_addUntold_42 rfl (lv_at hl 0 rfl) ?_
            refine sk_Vv (q0 := 0) (n := 1) (rest := []) (wr := fmR om_5_19 _) ⟨hx, hb, hml, hown, hts⟩ hl.1 (c_elk_endSum l D cI cJ cC cZ cS q jd jm ju jr jn c2_25 w2_26 yt i (by omega)) w_3_147 w_3_124 w_3_125 w_1_9 w_3_126 hd_X2_endSum_1 ⟨⟨(Nat.le_of_ble_eq_true rfl), (Nat.le_of_ble_eq_true rfl)⟩, (Nat.le_of_ble_eq_true rfl), (Nat.le_of_ble_eq_true rfl)⟩ hK hP hD hS hA (fmT om_5_19 0) (fmF om_5_19 0) (fm_C1 rfl rfl) (fm_R rfl rfl) (fm_nT om_5_19 0) (fm_nF om_5_19 0) (fm_di om_5_19 0) rfl rfl rfl rfl (Nat.le_of_ble_eq_true rfl) dX2_addUntold_43 (fun u H locs hw hP hD hS => ?_)
            refine exE hw (fun gt_32 hw1 => anE hw1 (fun hgt_33 eu_34 => ?_))
            clear hw hw1
            refine o_mgE (ws' := [(q 6, .inr (2, [.ref (q 24), .ref (q 25), .ref (q 26), .ref (q 27), .ref (q 28), .int (nI jd), .int (nI jm), .int ju, .int jr, .int (nI jn)])), (q 24, .inr (0, [.ref (q 29), .ref (q 30), .ref (q 31), .ref (q 32), .int (nI c2_25), .int (nI w2_26)])), (q 29, .inl (cI, 1600, .inl g1_27)), (q 27, .inl (cI, 3, .inl gf_11)), (q 28, .inl (cI, 3, .inl gt_32))]) eu_34 hP hD rfl (fun hP hD => ?_)
            refine lv_iinc (v := nI (i + 1)) (lv' := [(1, .int (nI (i + 1))), (0, .ref (q 6))]) hx hb dX2_addUntold_46 hl (k := 0) rfl (ninc i 1 (by decide)) (by decide) rfl (fun ls hl => ?_)
            refine lv_goto (tgt := 2) hx hb dX2_addUntold_49 (by decide) ?_
            exact ih_lp_1 (i + 1) c2_25 w2_26 g1_27 gf_11 gt_32 _ _ _ (by omega) (by omega) hc2_28 hw2_29 (by rw [hgf_12, hgt_33]; exact un_add hun (by omega) (rr_0 hhs_7 (by omega)) (by rw [(if_pos c_14)]; exact hO2_30)) hP hD hS (lv_sub hl [0, 1] rfl)
  exact lp_1 (3 - 0 + 1) 0 jc jx j1 jf jt _ _ _ (Nat.lt_succ_self _) (by omega) hjc hjx hun0 hP hD hS (lv_sub hl [0, 1] rfl)
set_option maxHeartbeats 4000000 in
set_option maxRecDepth 100000 in
theorem c_elt_read (l : Launch) (D : va_G) (cI cJ cC cZ cS : ClassId) (zk zv : Nat) (zf : Value) (q : Nat → Nat) (xa : Nat) (xv : Int32) (xo : Nat) (xt : Int32) (xz : Nat) (xf : Int32) (xp : Int32) (tl : Nat) (tb : Nat → Nat) (jd : Nat) (jm : Nat) (ju : Int32) (jr : Int32) (jn : Nat) (jc : Nat) (jx : Nat) (j1 : Nat → Int32) (jf : Nat → Int32) (jt : Nat → Int32) (jb : Nat → Int32) (jw : Nat → Int32) (hxa : xa ≤ 1600) (hxz : xz ≤ 1600) (htl : tl ≤ 1600) (htb : ∀ j, tb j ≤ 255) (hjc : jc ≤ 1600) (hjx : jx ≤ 1) : skMZ zk zv zf l yX3_read cX3_read 2 none 56 1344 0 0 D (skT cI cJ cC cZ cS) [.ref (q 3), .ref (q 6)] [(q 3, .inr (3, [.ref (q 2), .ref (q 22), .ref (q 23)])), (q 2, .inr (6, [.ref (q 0), .int (nI xa), .int xv, .int (nI xo), .int xt, .int (nI xz), .int xf, .int xp])), (q 0, .inr (10, [.ref (q 20), .int (nI tl)])), (q 20, .inl (cI, 1600, .inl (fun j => nI (tb j)))), (q 22, .inr (8, [.ref (q 2), .int 0])), (q 23, .inr (8, [.ref (q 2), .int 1])), (q 6, .inr (2, [.ref (q 24), .ref (q 25), .ref (q 26), .ref (q 27), .ref (q 28), .int (nI jd), .int (nI jm), .int ju, .int jr, .int (nI jn)])), (q 24, .inr (0, [.ref (q 29), .ref (q 30), .ref (q 31), .ref (q 32), .int (nI jc), .int (nI jx)])), (q 29, .inl (cI, 1600, .inl j1)), (q 27, .inl (cI, 3, .inl jf)), (q 28, .inl (cI, 3, .inl jt)), (q 25, .inl (cI, 9, .inl jb)), (q 26, .inl (cI, 9, .inl jw))] (skV D (skT cI cJ cC cZ cS) (fun (u : va_W) => ∃ (xa2 : Nat), ∃ (xv2 : Int32), ∃ (xt2 : Int32), ∃ (xz2 : Nat), ∃ (xf2 : Int32), ∃ (xp2 : Int32), ∃ (jc2 : Nat), ∃ (jx2 : Nat), ∃ (k1_ : Nat → Int32), ∃ (kf_ : Nat → Int32), ∃ (kt_ : Nat → Int32), ∃ (jd2 : Nat), ∃ (jm2 : Nat), ∃ (jn2 : Nat), ∃ (ju2 : Int32), ∃ (jr2 : Int32), ∃ (jb2 : Nat → Int32), ∃ (jw2 : Nat → Int32), xa2 ≤ 1600 ∧ xz2 ≤ 1600 ∧ jc2 ≤ 1600 ∧ jx2 ≤ 1 ∧ 2 ≤ jd2 ∧ jd2 ≤ 9 ∧ jm2 ≤ 9 ∧ jn2 ≤ 60 ∧ finO tb tl xf2 xp2 jn2 jd2 jm2 ju2 jr2 jc2 jx2 k1_ kf_ kt_ jb2 jw2 ∧ u = [(q 3, .inr (3, [.ref (q 2), .ref (q 22), .ref (q 23)])), (q 2, .inr (6, [.ref (q 0), .int (nI xa2), .int xv2, .int 0, .int xt2, .int (nI xz2), .int xf2, .int xp2])), (q 0, .inr (10, [.ref (q 20), .int (nI tl)])), (q 20, .inl (cI, 1600, .inl (fun j => nI (tb j)))), (q 22, .inr (8, [.ref (q 2), .int 0])), (q 23, .inr (8, [.ref (q 2), .int 1])), (q 6, .inr (2, [.ref (q 24), .ref (q 25), .ref (q 26), .ref (q 27), .ref (q 28), .int (nI jd2), .int (nI jm2), .int ju2, .int jr2, .int (nI jn2)])), (q 24, .inr (0, [.ref (q 29), .ref (q 30), .ref (q 31), .ref (q 32), .int (nI jc2), .int (nI jx2)])), (q 29, .inl (cI, 1600, .inl k1_)), (q 27, .inl (cI, 3, .inl kf_)), (q 28, .inl (cI, 3, .inl kt_)), (q 25, .inl (cI, 9, .inl jb2)), (q 26, .inl (cI, 9, .inl jw2))])) := by
  refine skMZ_of pf_X3_read (Nat.le_of_ble_eq_true rfl) ?_
  intro p e s m below meth c A ls E hP hD hZ hl
  refine skE_el E (fun hx hb hr hml hlocks hin hown hts hK hA => ?_)
  have hown : s.vm.findClass RX3 = some m.cls := hown
  have hS : va_S A s.heap s.heap [] := va_S.rf
  have hl : lv_has ls 2 [(0, .ref (q 3)), (1, .ref (q 6))] := hl
  refine lv_aload_n hx hb dX3_read_0 rfl (lv_at hl 1 rfl) ?_
  refine sk_Vv (q0 := 0) (n := 0) (rest := []) (wr := fmR om_13_6f _) ⟨hx, hb, hml, hown, hts⟩ hl.1 (c_elk_clear l D cI cJ cC cZ cS q jd jm ju jr jn jc jx jf jt jb jw) w_2_210 w_2_211 w_2_212 w_1_9 w_2_213 hd_X2_clear_0 ⟨⟨(Nat.le_of_ble_eq_true rfl), (Nat.le_of_ble_eq_true rfl)⟩, (Nat.le_of_ble_eq_true rfl), (Nat.le_of_ble_eq_true rfl)⟩ hK hP hD hS hA (fmT om_13_6f 0) (fmF om_13_6f 0) (fm_C1 rfl rfl) (fm_R rfl rfl) (fm_nT om_13_6f 0) (fm_nF om_13_6f 0) (fm_di om_13_6f 0) rfl rfl rfl rfl (Nat.le_of_ble_eq_true rfl) dX3_read_1 (fun u H locs hw hP hD hS => ?_)
  refine exE hw (fun gf_1 hw1 => exE hw1 (fun gt_2 hw2 => exE hw2 (fun gb_3 hw3 => exE hw3 (fun gw_4 hw4 => anE hw4 (fun hgf_5 hw5 => anE hw5 (fun hgt_6 hw6 => anE hw6 (fun hgb_7 hw7 => anE hw7 (fun hgw_8 eu_9 => ?_))))))))
  clear hw hw1 hw2 hw3 hw4 hw5 hw6 hw7
  refine o_mgE (ws' := [(q 3, .inr (3, [.ref (q 2), .ref (q 22), .ref (q 23)])), (q 2, .inr (6, [.ref (q 0), .int (nI xa), .int xv, .int (nI xo), .int xt, .int (nI xz), .int xf, .int xp])), (q 0, .inr (10, [.ref (q 20), .int (nI tl)])), (q 20, .inl (cI, 1600, .inl (fun j => nI (tb j)))), (q 22, .inr (8, [.ref (q 2), .int 0])), (q 23, .inr (8, [.ref (q 2), .int 1])), (q 6, .inr (2, [.ref (q 24), .ref (q 25), .ref (q 26), .ref (q 27), .ref (q 28), .int (nI jd), .int (nI jm), .int 0, .int 0, .int 0])), (q 24, .inr (0, [.ref (q 29), .ref (q 30), .ref (q 31), .ref (q 32), .int 0, .int 0])), (q 29, .inl (cI, 1600, .inl j1)), (q 27, .inl (cI, 3, .inl gf_1)), (q 28, .inl (cI, 3, .inl gt_2)), (q 25, .inl (cI, 9, .inl gb_3)), (q 26, .inl (cI, 9, .inl gw_4))]) eu_9 hP hD rfl (fun hP hD => ?_)
  refine lv_aload_n hx hb dX3_read_4 rfl (lv_at hl 0 rfl) ?_
  refine sk_get (v := .ref (q 2)) (C := RX3) (T := TX3) (N := 3) hx hb hts inlX3 hown hK hP 0 rfl rfl 0 (Nat.le_of_ble_eq_true rfl) w_1_107 rfl dX3_read_5 ?_
  refine sk_VvZ (q0 := 0) (n := 0) (rest := []) (wr := fmR om_13_e00 _) ⟨hx, hb, hml, hown, hts⟩ hl.1 (c_erd_begin l D cI cJ cC cZ cS zk zv zf q xa xv xo xt xz xf xp tl tb hxa hxz htl htb) w_2_221 w_2_222 w_2_223 w_1_4 w_2_224 hd_X6_begin_0 ⟨⟨(Nat.le_of_ble_eq_true rfl), (Nat.le_of_ble_eq_true rfl)⟩, (Nat.le_of_ble_eq_true rfl), (Nat.le_of_ble_eq_true rfl)⟩ hK hP hD hS hZ hA (fmT om_13_e00 0) (fmF om_13_e00 0) (fm_C1 rfl rfl) (fm_R rfl rfl) (fm_nT om_13_e00 0) (fm_nF om_13_e00 0) (fm_di om_13_e00 0) rfl rfl rfl rfl (Nat.le_of_ble_eq_true rfl) dX3_read_8 (fun u H locs hw hP hD hS => ?_)
  refine exE hw (fun xa2_10 hw1 => exE hw1 (fun xv2_11 hw2 => exE hw2 (fun xt2_12 hw3 => exE hw3 (fun xz2_13 hw4 => anE hw4 (fun hxa2_14 hw5 => anE hw5 (fun hxz2_15 hw6 => anE hw6 (fun hO2_16 eu_17 => ?_)))))))
  clear hw hw1 hw2 hw3 hw4 hw5 hw6
  refine o_mgE (ws' := [(q 3, .inr (3, [.ref (q 2), .ref (q 22), .ref (q 23)])), (q 2, .inr (6, [.ref (q 0), .int (nI xa2_10), .int xv2_11, .int 0, .int xt2_12, .int (nI xz2_13), .int 0, .int (-1)])), (q 0, .inr (10, [.ref (q 20), .int (nI tl)])), (q 20, .inl (cI, 1600, .inl (fun j => nI (tb j)))), (q 22, .inr (8, [.ref (q 2), .int 0])), (q 23, .inr (8, [.ref (q 2), .int 1])), (q 6, .inr (2, [.ref (q 24), .ref (q 25), .ref (q 26), .ref (q 27), .ref (q 28), .int (nI jd), .int (nI jm), .int 0, .int 0, .int 0])), (q 24, .inr (0, [.ref (q 29), .ref (q 30), .ref (q 31), .ref (q 32), .int 0, .int 0])), (q 29, .inl (cI, 1600, .inl j1)), (q 27, .inl (cI, 3, .inl gf_1)), (q 28, .inl (cI, 3, .inl gt_2)), (q 25, .inl (cI, 9, .inl gb_3)), (q 26, .inl (cI, 9, .inl gw_4))]) eu_17 hP hD rfl (fun hP hD => ?_)
  refine lv_aload_n hx hb dX3_read_11 rfl (lv_at hl 0 rfl) ?_
  refine lv_aload_n hx hb dX3_read_12 rfl (lv_at hl 1 rfl) ?_
  refine sk_VvZ (q0 := 0) (n := 1) (rest := []) (wr := fmR om_13_1e40 _) ⟨hx, hb, hml, hown, hts⟩ hl.1 (c_elt_opening l D cI cJ cC cZ cS zk zv zf q xa2_10 xv2_11 0 xt2_12 xz2_13 0 (-1) tl tb jd jm 0 0 0 (.ok (sk tb tl 0, false)) hxa2_14 hxz2_15 htl htb hO2_16) w_3_46 w_3_48 w_0_4 w_1_5 w_3_49 hd_X3_readOpening_1 ⟨⟨(Nat.le_of_ble_eq_true rfl), (Nat.le_of_ble_eq_true rfl)⟩, (Nat.le_of_ble_eq_true rfl), (Nat.le_of_ble_eq_true rfl)⟩ hK hP hD hS hZ hA (fmT om_13_1e40 0) (fmF om_13_1e40 0) (fm_C1 rfl rfl) (fm_R rfl rfl) (fm_nT om_13_1e40 0) (fm_nF om_13_1e40 0) (fm_di om_13_1e40 0) rfl rfl rfl rfl (Nat.le_of_ble_eq_true rfl) dX3_read_13 (fun u H locs hw hP hD hS => ?_)
  refine exE hw (fun xa2_18 hw1 => exE hw1 (fun xv2_19 hw2 => exE hw2 (fun xt2_20 hw3 => exE hw3 (fun xz2_21 hw4 => exE hw4 (fun xf2_22 hw5 => exE hw5 (fun xp2_23 hw6 => exE hw6 (fun jd2_24 hw7 => exE hw7 (fun jm2_25 hw8 => anE hw8 (fun hxa2_26 hw9 => anE hw9 (fun hxz2_27 hw10 => anE hw10 (fun hjd2_28 hw11 => anE hw11 (fun hjd3_29 hw12 => anE hw12 (fun hjm2_30 hw13 => anE hw13 (fun hnd_31 hw14 => anE hw14 (fun hnm_32 hw15 => anE hw15 (fun hO2_33 eu_34 => ?_))))))))))))))))
  clear hw hw1 hw2 hw3 hw4 hw5 hw6 hw7 hw8 hw9 hw10 hw11 hw12 hw13 hw14 hw15
  refine o_mgE (ws' := [(q 3, .inr (3, [.ref (q 2), .ref (q 22), .ref (q 23)])), (q 2, .inr (6, [.ref (q 0), .int (nI xa2_18), .int xv2_19, .int 0, .int xt2_20, .int (nI xz2_21), .int xf2_22, .int xp2_23])), (q 0, .inr (10, [.ref (q 20), .int (nI tl)])), (q 20, .inl (cI, 1600, .inl (fun j => nI (tb j)))), (q 22, .inr (8, [.ref (q 2), .int 0])), (q 23, .inr (8, [.ref (q 2), .int 1])), (q 6, .inr (2, [.ref (q 24), .ref (q 25), .ref (q 26), .ref (q 27), .ref (q 28), .int (nI jd2_24), .int (nI jm2_25), .int 0, .int 0, .int 1])), (q 24, .inr (0, [.ref (q 29), .ref (q 30), .ref (q 31), .ref (q 32), .int 0, .int 0])), (q 29, .inl (cI, 1600, .inl j1)), (q 27, .inl (cI, 3, .inl gf_1)), (q 28, .inl (cI, 3, .inl gt_2)), (q 25, .inl (cI, 9, .inl gb_3)), (q 26, .inl (cI, 9, .inl gw_4))]) eu_34 hP hD rfl (fun hP hD => ?_)
  have hO_35 := ll_open (j1 := j1) htb hO2_33 hnd_31 hnm_32 hgf_5 hgt_6 hgb_7 hgw_8
  have lp_36 : ∀ (n_37 : Nat) (za : Nat) (zw : Int32) (zt : Int32) (zz : Nat) (zg : Int32) (zp : Int32) (yu : Int32) (yr : Int32) (yn : Nat) (yc : Nat) (yx : Nat) (y1 : Nat → Int32) (yf : Nat → Int32) (yt : Nat → Int32) (yb : Nat → Int32) (yw : Nat → Int32) (zmu : Nat → Bool) (zo : LkR) (H : Heap) (locs : List Loc) (ls : Array Slot), 60 - yn < n_37 → (llO tb tl zo za zw zt zz zg zp jd2_24 jm2_25 yu yr yc yx y1 yf yt yb yw) → (yn ≤ 60) → (za ≤ 1600) → (zz ≤ 1600) → (yc ≤ 1600) → (yx ≤ 1) → (muO zmu yu) → (len5 zo) → (bindR zo (stP tb tl (60 - yn)) = lockP tb tl) → va_P D vwCl [(q 3, .inr (3, [.ref (q 2), .ref (q 22), .ref (q 23)])), (q 2, .inr (6, [.ref (q 0), .int (nI za), .int zw, .int 0, .int zt, .int (nI zz), .int zg, .int zp])), (q 0, .inr (10, [.ref (q 20), .int (nI tl)])), (q 20, .inl (cI, 1600, .inl (fun j => nI (tb j)))), (q 22, .inr (8, [.ref (q 2), .int 0])), (q 23, .inr (8, [.ref (q 2), .int 1])), (q 6, .inr (2, [.ref (q 24), .ref (q 25), .ref (q 26), .ref (q 27), .ref (q 28), .int (nI jd2_24), .int (nI jm2_25), .int yu, .int yr, .int (nI yn)])), (q 24, .inr (0, [.ref (q 29), .ref (q 30), .ref (q 31), .ref (q 32), .int (nI yc), .int (nI yx)])), (q 29, .inl (cI, 1600, .inl y1)), (q 27, .inl (cI, 3, .inl yf)), (q 28, .inl (cI, 3, .inl yt)), (q 25, .inl (cI, 9, .inl yb)), (q 26, .inl (cI, 9, .inl yw))] H → va_D A [(q 3, .inr (3, [.ref (q 2), .ref (q 22), .ref (q 23)])), (q 2, .inr (6, [.ref (q 0), .int (nI za), .int zw, .int 0, .int zt, .int (nI zz), .int zg, .int zp])), (q 0, .inr (10, [.ref (q 20), .int (nI tl)])), (q 20, .inl (cI, 1600, .inl (fun j => nI (tb j)))), (q 22, .inr (8, [.ref (q 2), .int 0])), (q 23, .inr (8, [.ref (q 2), .int 1])), (q 6, .inr (2, [.ref (q 24), .ref (q 25), .ref (q 26), .ref (q 27), .ref (q 28), .int (nI jd2_24), .int (nI jm2_25), .int yu, .int yr, .int (nI yn)])), (q 24, .inr (0, [.ref (q 29), .ref (q 30), .ref (q 31), .ref (q 32), .int (nI yc), .int (nI yx)])), (q 29, .inl (cI, 1600, .inl y1)), (q 27, .inl (cI, 3, .inl yf)), (q 28, .inl (cI, 3, .inl yt)), (q 25, .inl (cI, 9, .inl yb)), (q 26, .inl (cI, 9, .inl yw))] → va_S A s.heap H locs → lv_has ls 2 [(0, .ref (q 3)), (1, .ref (q 6))] → W p l e { frames := 56, cells := 0, slots := 0, locals := 1344 } s m ([.ref (q 3), .ref (q 6)] : List Value).toArray below meth c H locs 0 0 (MQ below (skV D (skT cI cJ cC cZ cS) (fun (u : va_W) => ∃ (xa2 : Nat), ∃ (xv2 : Int32), ∃ (xt2 : Int32), ∃ (xz2 : Nat), ∃ (xf2 : Int32), ∃ (xp2 : Int32), ∃ (jc2 : Nat), ∃ (jx2 : Nat), ∃ (k1_ : Nat → Int32), ∃ (kf_ : Nat → Int32), ∃ (kt_ : Nat → Int32), ∃ (jd2 : Nat), ∃ (jm2 : Nat), ∃ (jn2 : Nat), ∃ (ju2 : Int32), ∃ (jr2 : Int32), ∃ (jb2 : Nat → Int32), ∃ (jw2 : Nat → Int32), xa2 ≤ 1600 ∧ xz2 ≤ 1600 ∧ jc2 ≤ 1600 ∧ jx2 ≤ 1 ∧ 2 ≤ jd2 ∧ jd2 ≤ 9 ∧ jm2 ≤ 9 ∧ jn2 ≤ 60 ∧ finO tb tl xf2 xp2 jn2 jd2 jm2 ju2 jr2 jc2 jx2 k1_ kf_ kt_ jb2 jw2 ∧ u = [(q 3, .inr (3, [.ref (q 2), .ref (q 22), .ref (q 23)])), (q 2, .inr (6, [.ref (q 0), .int (nI xa2), .int xv2, .int 0, .int xt2, .int (nI xz2), .int xf2, .int xp2])), (q 0, .inr (10, [.ref (q 20), .int (nI tl)])), (q 20, .inl (cI, 1600, .inl (fun j => nI (tb j)))), (q 22, .inr (8, [.ref (q 2), .int 0])), (q 23, .inr (8, [.ref (q 2), .int 1])), (q 6, .inr (2, [.ref (q 24), .ref (q 25), .ref (q 26), .ref (q 27), .ref (q 28), .int (nI jd2), .int (nI jm2), .int ju2, .int jr2, .int (nI jn2)])), (q 24, .inr (0, [.ref (q 29), .ref (q 30), .ref (q 31), .ref (q 32), .int (nI jc2), .int (nI jx2)])), (q 29, .inl (cI, 1600, .inl k1_)), (q 27, .inl (cI, 3, .inl kf_)), (q 28, .inl (cI, 3, .inl kt_)), (q 25, .inl (cI, 9, .inl jb2)), (q 26, .inl (cI, 9, .inl jw2))]) A) ([.ref (q 3), .ref (q 6)] : List Value).toArray s 0 0 A) (F0 m 16 ls []) := by
    intro n_37
    induction n_37 with
    | zero => intro za zw zt zz zg zp yu yr yn yc yx y1 yf yt yb yw zmu zo H locs ls hm; exact absurd hm (Nat.not_lt_zero _)
    | succ n_37 ih_lp_36 =>
      intro za zw zt zz zg zp yu yr yn yc yx y1 yf yt yb yw zmu zo H locs ls hm hzO hyn hza hzz hyc hyx hzm hz5 hrem hP hD hS hl
      refine lv_aload_n hx hb dX3_read_16 rfl (lv_at hl 1 rfl) ?_
      refine sk_get (v := .int (nI yn)) (C := RX2) (T := TX2) (N := 10) hx hb hts inlX2 hown hK hP 6 rfl rfl 9 (Nat.le_of_ble_eq_true rfl) w_1_201 rfl dX3_read_17 ?_
      refine lv_bipush (v := 60) hx hb dX3_read_20 (by decide) ?_
      refine lv_icmp_ge (tgt := 146) hx hb dX3_read_22 (by decide) (fun c_38 => ?_) (fun c_38 => ?_)
      · have c_38 : 60 ≤ yn := (nle 60 yn (Nat.le_of_ble_eq_true rfl) (by omega)).mp c_38
        have jn_39 : ∀ (et : Int32) (eg : Int32) (ep : Int32) (H : Heap) (locs : List Loc) (ls : Array Slot), (fnO (lockP tb tl) eg ep yn jd2_24 jm2_25 yu yr yc yx y1 yf yt yb yw) → va_P D vwCl [(q 3, .inr (3, [.ref (q 2), .ref (q 22), .ref (q 23)])), (q 2, .inr (6, [.ref (q 0), .int (nI za), .int zw, .int 0, .int et, .int (nI zz), .int eg, .int ep])), (q 0, .inr (10, [.ref (q 20), .int (nI tl)])), (q 20, .inl (cI, 1600, .inl (fun j => nI (tb j)))), (q 22, .inr (8, [.ref (q 2), .int 0])), (q 23, .inr (8, [.ref (q 2), .int 1])), (q 6, .inr (2, [.ref (q 24), .ref (q 25), .ref (q 26), .ref (q 27), .ref (q 28), .int (nI jd2_24), .int (nI jm2_25), .int yu, .int yr, .int (nI yn)])), (q 24, .inr (0, [.ref (q 29), .ref (q 30), .ref (q 31), .ref (q 32), .int (nI yc), .int (nI yx)])), (q 29, .inl (cI, 1600, .inl y1)), (q 27, .inl (cI, 3, .inl yf)), (q 28, .inl (cI, 3, .inl yt)), (q 25, .inl (cI, 9, .inl yb)), (q 26, .inl (cI, 9, .inl yw))] H → va_D A [(q 3, .inr (3, [.ref (q 2), .ref (q 22), .ref (q 23)])), (q 2, .inr (6, [.ref (q 0), .int (nI za), .int zw, .int 0, .int et, .int (nI zz), .int eg, .int ep])), (q 0, .inr (10, [.ref (q 20), .int (nI tl)])), (q 20, .inl (cI, 1600, .inl (fun j => nI (tb j)))), (q 22, .inr (8, [.ref (q 2), .int 0])), (q 23, .inr (8, [.ref (q 2), .int 1])), (q 6, .inr (2, [.ref (q 24), .ref (q 25), .ref (q 26), .ref (q 27), .ref (q 28), .int (nI jd2_24), .int (nI jm2_25), .int yu, .int yr, .int (nI yn)])), (q 24, .inr (0, [.ref (q 29), .ref (q 30), .ref (q 31), .ref (q 32), .int (nI yc), .int (nI yx)])), (q 29, .inl (cI, 1600, .inl y1)), (q 27, .inl (cI, 3, .inl yf)), (q 28, .inl (cI, 3, .inl yt)), (q 25, .inl (cI, 9, .inl yb)), (q 26, .inl (cI, 9, .inl yw))] → va_S A s.heap H locs → lv_has ls 2 [(0, .ref (q 3)), (1, .ref (q 6))] → W p l e { frames := 56, cells := 0, slots := 0, locals := 1344 } s m ([.ref (q 3), .ref (q 6)] : List Value).toArray below meth c H locs 0 0 (MQ below (skV D (skT cI cJ cC cZ cS) (fun (u : va_W) => ∃ (xa2 : Nat), ∃ (xv2 : Int32), ∃ (xt2 : Int32), ∃ (xz2 : Nat), ∃ (xf2 : Int32), ∃ (xp2 : Int32), ∃ (jc2 : Nat), ∃ (jx2 : Nat), ∃ (k1_ : Nat → Int32), ∃ (kf_ : Nat → Int32), ∃ (kt_ : Nat → Int32), ∃ (jd2 : Nat), ∃ (jm2 : Nat), ∃ (jn2 : Nat), ∃ (ju2 : Int32), ∃ (jr2 : Int32), ∃ (jb2 : Nat → Int32), ∃ (jw2 : Nat → Int32), xa2 ≤ 1600 ∧ xz2 ≤ 1600 ∧ jc2 ≤ 1600 ∧ jx2 ≤ 1 ∧ 2 ≤ jd2 ∧ jd2 ≤ 9 ∧ jm2 ≤ 9 ∧ jn2 ≤ 60 ∧ finO tb tl xf2 xp2 jn2 jd2 jm2 ju2 jr2 jc2 jx2 k1_ kf_ kt_ jb2 jw2 ∧ u = [(q 3, .inr (3, [.ref (q 2), .ref (q 22), .ref (q 23)])), (q 2, .inr (6, [.ref (q 0), .int (nI xa2), .int xv2, .int 0, .int xt2, .int (nI xz2), .int xf2, .int xp2])), (q 0, .inr (10, [.ref (q 20), .int (nI tl)])), (q 20, .inl (cI, 1600, .inl (fun j => nI (tb j)))), (q 22, .inr (8, [.ref (q 2), .int 0])), (q 23, .inr (8, [.ref (q 2), .int 1])), (q 6, .inr (2, [.ref (q 24), .ref (q 25), .ref (q 26), .ref (q 27), .ref (q 28), .int (nI jd2), .int (nI jm2), .int ju2, .int jr2, .int (nI jn2)])), (q 24, .inr (0, [.ref (q 29), .ref (q 30), .ref (q 31), .ref (q 32), .int (nI jc2), .int (nI jx2)])), (q 29, .inl (cI, 1600, .inl k1_)), (q 27, .inl (cI, 3, .inl kf_)), (q 28, .inl (cI, 3, .inl kt_)), (q 25, .inl (cI, 9, .inl jb2)), (q 26, .inl (cI, 9, .inl jw2))]) A) ([.ref (q 3), .ref (q 6)] : List Value).toArray s 0 0 A) (F0 m 182 ls []) := by
          intro et eg ep H locs ls hfn hP hD hS hl
          refine lv_aload_n hx hb dX3_read_182 rfl (lv_at hl 1 rfl) ?_
          refine sk_Vv (q0 := 0) (n := 0) (rest := []) (wr := fmR om_13_7c _) ⟨hx, hb, hml, hown, hts⟩ hl.1 (c_elk_addUntold l D cI cJ cC cZ cS q jd2_24 jm2_25 yu yr yn yc yx y1 yf yt yb yw tl tb hyc hyx (un_0 hfn)) w_3_140 w_3_141 w_3_142 w_1_9 w_3_143 hd_X2_addUntold_0 ⟨⟨(Nat.le_of_ble_eq_true rfl), (Nat.le_of_ble_eq_true rfl)⟩, (Nat.le_of_ble_eq_true rfl), (Nat.le_of_ble_eq_true rfl)⟩ hK hP hD hS hA (fmT om_13_7c 0) (fmF om_13_7c 0) (fm_C1 rfl rfl) (fm_R rfl rfl) (fm_nT om_13_7c 0) (fm_nF om_13_7c 0) (fm_di om_13_7c 0) rfl rfl rfl rfl (Nat.le_of_ble_eq_true rfl) dX3_read_183 (fun u H locs hw hP hD hS => ?_)
          refine exE hw (fun jc2_40 hw1 => exE hw1 (fun jx2_41 hw2 => exE hw2 (fun k1__42 hw3 => exE hw3 (fun kf__43 hw4 => exE hw4 (fun kt__44 hw5 => anE hw5 (fun hjc2_45 hw6 => anE hw6 (fun hjx2_46 hw7 => anE hw7 (fun hun2_47 eu_48 => ?_))))))))
          clear hw hw1 hw2 hw3 hw4 hw5 hw6 hw7
          refine o_mgE (ws' := [(q 3, .inr (3, [.ref (q 2), .ref (q 22), .ref (q 23)])), (q 2, .inr (6, [.ref (q 0), .int (nI za), .int zw, .int 0, .int et, .int (nI zz), .int eg, .int ep])), (q 0, .inr (10, [.ref (q 20), .int (nI tl)])), (q 20, .inl (cI, 1600, .inl (fun j => nI (tb j)))), (q 22, .inr (8, [.ref (q 2), .int 0])), (q 23, .inr (8, [.ref (q 2), .int 1])), (q 6, .inr (2, [.ref (q 24), .ref (q 25), .ref (q 26), .ref (q 27), .ref (q 28), .int (nI jd2_24), .int (nI jm2_25), .int yu, .int yr, .int (nI yn)])), (q 24, .inr (0, [.ref (q 29), .ref (q 30), .ref (q 31), .ref (q 32), .int (nI jc2_40), .int (nI jx2_41)])), (q 29, .inl (cI, 1600, .inl k1__42)), (q 27, .inl (cI, 3, .inl kf__43)), (q 28, .inl (cI, 3, .inl kt__44)), (q 25, .inl (cI, 9, .inl yb)), (q 26, .inl (cI, 9, .inl yw))]) eu_48 hP hD rfl (fun hP hD => ?_)
          exact sk_vret hx hb hr hlocks hK hP hD hS (⟨za, zw, et, zz, eg, ep, jc2_40, jx2_41, k1__42, kf__43, kt__44, jd2_24, jm2_25, yn, yu, yr, yb, yw, hza, hzz, hjc2_45, hjx2_46, hjd2_28, hjd3_29, hjm2_30, hyn, fin_un hfn hun2_47, rfl⟩) (Nat.le_of_ble_eq_true rfl) (Nat.le_of_ble_eq_true rfl) dX3_read_186
        refine lv_aload_n hx hb dX3_read_146 rfl (lv_at hl 0 rfl) ?_
        refine sk_get (v := .ref (q 2)) (C := RX3) (T := TX3) (N := 3) hx hb hts inlX3 hown hK hP 0 rfl rfl 0 (Nat.le_of_ble_eq_true rfl) w_1_107 rfl dX3_read_147 ?_
        refine sk_get (v := .int zg) (C := RX6) (T := TX6) (N := 8) hx hb hts inlX6 hown hK hP 1 rfl rfl 6 (Nat.le_of_ble_eq_true rfl) w_1_67 rfl dX3_read_150 ?_
        refine lv_if_ne (tgt := 182) hx hb dX3_read_153 (by decide) (fun c_49 => ?_) (fun c_49 => ?_)
        · skip
          exact jn_39 zt zg zp _ _ _ (fin_er hzO c_49 hrem) hP hD hS (lv_sub hl [0, 1] rfl)
        · skip
          refine lv_aload_n hx hb dX3_read_156 rfl (lv_at hl 0 rfl) ?_
          refine sk_get (v := .ref (q 2)) (C := RX3) (T := TX3) (N := 3) hx hb hts inlX3 hown hK hP 0 rfl rfl 0 (Nat.le_of_ble_eq_true rfl) w_1_107 rfl dX3_read_157 ?_
          refine sk_get (v := .int zt) (C := RX6) (T := TX6) (N := 8) hx hb hts inlX6 hown hK hP 1 rfl rfl 4 (Nat.le_of_ble_eq_true rfl) w_1_62 rfl dX3_read_160 ?_
          refine lv_iconst (v := (-1)) hx hb dX3_read_163 (by decide) ?_
          refine lv_icmp_eq (tgt := 182) hx hb dX3_read_164 (by decide) (fun c_50 => ?_) (fun c_50 => ?_)
          · skip
            exact jn_39 zt zg zp _ _ _ (fin_end htb htl hzO c_49 c_50 (by omega) hz5 hrem) hP hD hS (lv_sub hl [0, 1] rfl)
          · skip
            refine lv_aload_n hx hb dX3_read_167 rfl (lv_at hl 0 rfl) ?_
            refine sk_get (v := .ref (q 2)) (C := RX3) (T := TX3) (N := 3) hx hb hts inlX3 hown hK hP 0 rfl rfl 0 (Nat.le_of_ble_eq_true rfl) w_1_107 rfl dX3_read_168 ?_
            refine lv_iconst (v := 5) hx hb dX3_read_171 ic_5 ?_
            refine lv_aload_n hx hb dX3_read_172 rfl (lv_at hl 0 rfl) ?_
            refine sk_get (v := .ref (q 2)) (C := RX3) (T := TX3) (N := 3) hx hb hts inlX3 hown hK hP 0 rfl rfl 0 (Nat.le_of_ble_eq_true rfl) w_1_107 rfl dX3_read_173 ?_
            refine sk_get (v := .int (nI zz)) (C := RX6) (T := TX6) (N := 8) hx hb hts inlX6 hown hK hP 1 rfl rfl 5 (Nat.le_of_ble_eq_true rfl) w_1_65 rfl dX3_read_176 ?_
            refine sk_Vv (q0 := 0) (n := 2) (rest := []) (wr := fmR om_13_800 _) ⟨hx, hb, hml, hown, hts⟩ hl.1 (c_erd_fail l D cI cJ cC cZ cS q za zw 0 zt zz zg zp tl tb 5 zz (lc zo) (by omega) (by omega) (by omega) (hzO).1) w_3_74 w_3_59 w_3_60 w_1_4 w_3_61 hd_X6_fail_2 ⟨⟨(Nat.le_of_ble_eq_true rfl), (Nat.le_of_ble_eq_true rfl)⟩, (Nat.le_of_ble_eq_true rfl), (Nat.le_of_ble_eq_true rfl)⟩ hK hP hD hS hA (fmT om_13_800 0) (fmF om_13_800 0) (fm_C1 rfl rfl) (fm_R rfl rfl) (fm_nT om_13_800 0) (fm_nF om_13_800 0) (fm_di om_13_800 0) rfl rfl rfl rfl (Nat.le_of_ble_eq_true rfl) dX3_read_179 (fun u H locs hw hP hD hS => ?_)
            refine exE hw (fun xf2_51 hw1 => exE hw1 (fun xp2_52 hw2 => anE hw2 (fun hO2_53 eu_54 => ?_)))
            clear hw hw1 hw2
            refine o_mgE (ws' := [(q 3, .inr (3, [.ref (q 2), .ref (q 22), .ref (q 23)])), (q 2, .inr (6, [.ref (q 0), .int (nI za), .int zw, .int 0, .int (-2), .int (nI zz), .int xf2_51, .int xp2_52])), (q 0, .inr (10, [.ref (q 20), .int (nI tl)])), (q 20, .inl (cI, 1600, .inl (fun j => nI (tb j)))), (q 22, .inr (8, [.ref (q 2), .int 0])), (q 23, .inr (8, [.ref (q 2), .int 1])), (q 6, .inr (2, [.ref (q 24), .ref (q 25), .ref (q 26), .ref (q 27), .ref (q 28), .int (nI jd2_24), .int (nI jm2_25), .int yu, .int yr, .int (nI yn)])), (q 24, .inr (0, [.ref (q 29), .ref (q 30), .ref (q 31), .ref (q 32), .int (nI yc), .int (nI yx)])), (q 29, .inl (cI, 1600, .inl y1)), (q 27, .inl (cI, 3, .inl yf)), (q 28, .inl (cI, 3, .inl yt)), (q 25, .inl (cI, 9, .inl yb)), (q 26, .inl (cI, 9, .inl yw))]) eu_54 hP hD rfl (fun hP hD => ?_)
            have hO_55 := ll_ld hzO hO2_53
            exact jn_39 (-2) xf2_51 xp2_52 _ _ _ (fin_many htb hzO c_49 c_50 (by omega) hO2_53 hrem) hP hD hS (lv_sub hl [0, 1] rfl)
      · have c_38 : ¬ (60 ≤ yn) := fun h => c_38 ((nle 60 yn (Nat.le_of_ble_eq_true rfl) (by omega)).mpr h)
        refine lv_aload_n hx hb dX3_read_25 rfl (lv_at hl 0 rfl) ?_
        refine sk_get (v := .ref (q 2)) (C := RX3) (T := TX3) (N := 3) hx hb hts inlX3 hown hK hP 0 rfl rfl 0 (Nat.le_of_ble_eq_true rfl) w_1_107 rfl dX3_read_26 ?_
        refine sk_get (v := .int zg) (C := RX6) (T := TX6) (N := 8) hx hb hts inlX6 hown hK hP 1 rfl rfl 6 (Nat.le_of_ble_eq_true rfl) w_1_67 rfl dX3_read_29 ?_
        refine lv_if_ne (tgt := 146) hx hb dX3_read_32 (by decide) (fun c_56 => ?_) (fun c_56 => ?_)
        · skip
          have jn_57 : ∀ (et : Int32) (eg : Int32) (ep : Int32) (H : Heap) (locs : List Loc) (ls : Array Slot), (fnO (lockP tb tl) eg ep yn jd2_24 jm2_25 yu yr yc yx y1 yf yt yb yw) → va_P D vwCl [(q 3, .inr (3, [.ref (q 2), .ref (q 22), .ref (q 23)])), (q 2, .inr (6, [.ref (q 0), .int (nI za), .int zw, .int 0, .int et, .int (nI zz), .int eg, .int ep])), (q 0, .inr (10, [.ref (q 20), .int (nI tl)])), (q 20, .inl (cI, 1600, .inl (fun j => nI (tb j)))), (q 22, .inr (8, [.ref (q 2), .int 0])), (q 23, .inr (8, [.ref (q 2), .int 1])), (q 6, .inr (2, [.ref (q 24), .ref (q 25), .ref (q 26), .ref (q 27), .ref (q 28), .int (nI jd2_24), .int (nI jm2_25), .int yu, .int yr, .int (nI yn)])), (q 24, .inr (0, [.ref (q 29), .ref (q 30), .ref (q 31), .ref (q 32), .int (nI yc), .int (nI yx)])), (q 29, .inl (cI, 1600, .inl y1)), (q 27, .inl (cI, 3, .inl yf)), (q 28, .inl (cI, 3, .inl yt)), (q 25, .inl (cI, 9, .inl yb)), (q 26, .inl (cI, 9, .inl yw))] H → va_D A [(q 3, .inr (3, [.ref (q 2), .ref (q 22), .ref (q 23)])), (q 2, .inr (6, [.ref (q 0), .int (nI za), .int zw, .int 0, .int et, .int (nI zz), .int eg, .int ep])), (q 0, .inr (10, [.ref (q 20), .int (nI tl)])), (q 20, .inl (cI, 1600, .inl (fun j => nI (tb j)))), (q 22, .inr (8, [.ref (q 2), .int 0])), (q 23, .inr (8, [.ref (q 2), .int 1])), (q 6, .inr (2, [.ref (q 24), .ref (q 25), .ref (q 26), .ref (q 27), .ref (q 28), .int (nI jd2_24), .int (nI jm2_25), .int yu, .int yr, .int (nI yn)])), (q 24, .inr (0, [.ref (q 29), .ref (q 30), .ref (q 31), .ref (q 32), .int (nI yc), .int (nI yx)])), (q 29, .inl (cI, 1600, .inl y1)), (q 27, .inl (cI, 3, .inl yf)), (q 28, .inl (cI, 3, .inl yt)), (q 25, .inl (cI, 9, .inl yb)), (q 26, .inl (cI, 9, .inl yw))] → va_S A s.heap H locs → lv_has ls 2 [(0, .ref (q 3)), (1, .ref (q 6))] → W p l e { frames := 56, cells := 0, slots := 0, locals := 1344 } s m ([.ref (q 3), .ref (q 6)] : List Value).toArray below meth c H locs 0 0 (MQ below (skV D (skT cI cJ cC cZ cS) (fun (u : va_W) => ∃ (xa2 : Nat), ∃ (xv2 : Int32), ∃ (xt2 : Int32), ∃ (xz2 : Nat), ∃ (xf2 : Int32), ∃ (xp2 : Int32), ∃ (jc2 : Nat), ∃ (jx2 : Nat), ∃ (k1_ : Nat → Int32), ∃ (kf_ : Nat → Int32), ∃ (kt_ : Nat → Int32), ∃ (jd2 : Nat), ∃ (jm2 : Nat), ∃ (jn2 : Nat), ∃ (ju2 : Int32), ∃ (jr2 : Int32), ∃ (jb2 : Nat → Int32), ∃ (jw2 : Nat → Int32), xa2 ≤ 1600 ∧ xz2 ≤ 1600 ∧ jc2 ≤ 1600 ∧ jx2 ≤ 1 ∧ 2 ≤ jd2 ∧ jd2 ≤ 9 ∧ jm2 ≤ 9 ∧ jn2 ≤ 60 ∧ finO tb tl xf2 xp2 jn2 jd2 jm2 ju2 jr2 jc2 jx2 k1_ kf_ kt_ jb2 jw2 ∧ u = [(q 3, .inr (3, [.ref (q 2), .ref (q 22), .ref (q 23)])), (q 2, .inr (6, [.ref (q 0), .int (nI xa2), .int xv2, .int 0, .int xt2, .int (nI xz2), .int xf2, .int xp2])), (q 0, .inr (10, [.ref (q 20), .int (nI tl)])), (q 20, .inl (cI, 1600, .inl (fun j => nI (tb j)))), (q 22, .inr (8, [.ref (q 2), .int 0])), (q 23, .inr (8, [.ref (q 2), .int 1])), (q 6, .inr (2, [.ref (q 24), .ref (q 25), .ref (q 26), .ref (q 27), .ref (q 28), .int (nI jd2), .int (nI jm2), .int ju2, .int jr2, .int (nI jn2)])), (q 24, .inr (0, [.ref (q 29), .ref (q 30), .ref (q 31), .ref (q 32), .int (nI jc2), .int (nI jx2)])), (q 29, .inl (cI, 1600, .inl k1_)), (q 27, .inl (cI, 3, .inl kf_)), (q 28, .inl (cI, 3, .inl kt_)), (q 25, .inl (cI, 9, .inl jb2)), (q 26, .inl (cI, 9, .inl jw2))]) A) ([.ref (q 3), .ref (q 6)] : List Value).toArray s 0 0 A) (F0 m 182 ls []) := by
            intro et eg ep H locs ls hfn hP hD hS hl
            refine lv_aload_n hx hb dX3_read_182 rfl (lv_at hl 1 rfl) ?_
            refine sk_Vv (q0 := 0) (n := 0) (rest := []) (wr := fmR om_13_7c _) ⟨hx, hb, hml, hown, hts⟩ hl.1 (c_elk_addUntold l D cI cJ cC cZ cS q jd2_24 jm2_25 yu yr yn yc yx y1 yf yt yb yw tl tb hyc hyx (un_0 hfn)) w_3_140 w_3_141 w_3_142 w_1_9 w_3_143 hd_X2_addUntold_0 ⟨⟨(Nat.le_of_ble_eq_true rfl), (Nat.le_of_ble_eq_true rfl)⟩, (Nat.le_of_ble_eq_true rfl), (Nat.le_of_ble_eq_true rfl)⟩ hK hP hD hS hA (fmT om_13_7c 0) (fmF om_13_7c 0) (fm_C1 rfl rfl) (fm_R rfl rfl) (fm_nT om_13_7c 0) (fm_nF om_13_7c 0) (fm_di om_13_7c 0) rfl rfl rfl rfl (Nat.le_of_ble_eq_true rfl) dX3_read_183 (fun u H locs hw hP hD hS => ?_)
            refine exE hw (fun jc2_58 hw1 => exE hw1 (fun jx2_59 hw2 => exE hw2 (fun k1__60 hw3 => exE hw3 (fun kf__61 hw4 => exE hw4 (fun kt__62 hw5 => anE hw5 (fun hjc2_63 hw6 => anE hw6 (fun hjx2_64 hw7 => anE hw7 (fun hun2_65 eu_66 => ?_))))))))
            clear hw hw1 hw2 hw3 hw4 hw5 hw6 hw7
            refine o_mgE (ws' := [(q 3, .inr (3, [.ref (q 2), .ref (q 22), .ref (q 23)])), (q 2, .inr (6, [.ref (q 0), .int (nI za), .int zw, .int 0, .int et, .int (nI zz), .int eg, .int ep])), (q 0, .inr (10, [.ref (q 20), .int (nI tl)])), (q 20, .inl (cI, 1600, .inl (fun j => nI (tb j)))), (q 22, .inr (8, [.ref (q 2), .int 0])), (q 23, .inr (8, [.ref (q 2), .int 1])), (q 6, .inr (2, [.ref (q 24), .ref (q 25), .ref (q 26), .ref (q 27), .ref (q 28), .int (nI jd2_24), .int (nI jm2_25), .int yu, .int yr, .int (nI yn)])), (q 24, .inr (0, [.ref (q 29), .ref (q 30), .ref (q 31), .ref (q 32), .int (nI jc2_58), .int (nI jx2_59)])), (q 29, .inl (cI, 1600, .inl k1__60)), (q 27, .inl (cI, 3, .inl kf__61)), (q 28, .inl (cI, 3, .inl kt__62)), (q 25, .inl (cI, 9, .inl yb)), (q 26, .inl (cI, 9, .inl yw))]) eu_66 hP hD rfl (fun hP hD => ?_)
            exact sk_vret hx hb hr hlocks hK hP hD hS (⟨za, zw, et, zz, eg, ep, jc2_58, jx2_59, k1__60, kf__61, kt__62, jd2_24, jm2_25, yn, yu, yr, yb, yw, hza, hzz, hjc2_63, hjx2_64, hjd2_28, hjd3_29, hjm2_30, hyn, fin_un hfn hun2_65, rfl⟩) (Nat.le_of_ble_eq_true rfl) (Nat.le_of_ble_eq_true rfl) dX3_read_186
          refine lv_aload_n hx hb dX3_read_146 rfl (lv_at hl 0 rfl) ?_
          refine sk_get (v := .ref (q 2)) (C := RX3) (T := TX3) (N := 3) hx hb hts inlX3 hown hK hP 0 rfl rfl 0 (Nat.le_of_ble_eq_true rfl) w_1_107 rfl dX3_read_147 ?_
          refine sk_get (v := .int zg) (C := RX6) (T := TX6) (N := 8) hx hb hts inlX6 hown hK hP 1 rfl rfl 6 (Nat.le_of_ble_eq_true rfl) w_1_67 rfl dX3_read_150 ?_
          refine lv_if_ne (tgt := 182) hx hb dX3_read_153 (by decide) (fun c_67 => ?_) (fun c => absurd c c_56)
          exact jn_57 zt zg zp _ _ _ (fin_er hzO c_56 hrem) hP hD hS (lv_sub hl [0, 1] rfl)
        · skip
          refine lv_aload_n hx hb dX3_read_35 rfl (lv_at hl 0 rfl) ?_
          refine sk_get (v := .ref (q 2)) (C := RX3) (T := TX3) (N := 3) hx hb hts inlX3 hown hK hP 0 rfl rfl 0 (Nat.le_of_ble_eq_true rfl) w_1_107 rfl dX3_read_36 ?_
          refine sk_get (v := .int zt) (C := RX6) (T := TX6) (N := 8) hx hb hts inlX6 hown hK hP 1 rfl rfl 4 (Nat.le_of_ble_eq_true rfl) w_1_62 rfl dX3_read_39 ?_
          refine lv_iconst (v := (-1)) hx hb dX3_read_42 (by decide) ?_
          refine lv_icmp_eq (tgt := 146) hx hb dX3_read_43 (by decide) (fun c_68 => ?_) (fun c_68 => ?_)
          · skip
            have jn_69 : ∀ (et : Int32) (eg : Int32) (ep : Int32) (H : Heap) (locs : List Loc) (ls : Array Slot), (fnO (lockP tb tl) eg ep yn jd2_24 jm2_25 yu yr yc yx y1 yf yt yb yw) → va_P D vwCl [(q 3, .inr (3, [.ref (q 2), .ref (q 22), .ref (q 23)])), (q 2, .inr (6, [.ref (q 0), .int (nI za), .int zw, .int 0, .int et, .int (nI zz), .int eg, .int ep])), (q 0, .inr (10, [.ref (q 20), .int (nI tl)])), (q 20, .inl (cI, 1600, .inl (fun j => nI (tb j)))), (q 22, .inr (8, [.ref (q 2), .int 0])), (q 23, .inr (8, [.ref (q 2), .int 1])), (q 6, .inr (2, [.ref (q 24), .ref (q 25), .ref (q 26), .ref (q 27), .ref (q 28), .int (nI jd2_24), .int (nI jm2_25), .int yu, .int yr, .int (nI yn)])), (q 24, .inr (0, [.ref (q 29), .ref (q 30), .ref (q 31), .ref (q 32), .int (nI yc), .int (nI yx)])), (q 29, .inl (cI, 1600, .inl y1)), (q 27, .inl (cI, 3, .inl yf)), (q 28, .inl (cI, 3, .inl yt)), (q 25, .inl (cI, 9, .inl yb)), (q 26, .inl (cI, 9, .inl yw))] H → va_D A [(q 3, .inr (3, [.ref (q 2), .ref (q 22), .ref (q 23)])), (q 2, .inr (6, [.ref (q 0), .int (nI za), .int zw, .int 0, .int et, .int (nI zz), .int eg, .int ep])), (q 0, .inr (10, [.ref (q 20), .int (nI tl)])), (q 20, .inl (cI, 1600, .inl (fun j => nI (tb j)))), (q 22, .inr (8, [.ref (q 2), .int 0])), (q 23, .inr (8, [.ref (q 2), .int 1])), (q 6, .inr (2, [.ref (q 24), .ref (q 25), .ref (q 26), .ref (q 27), .ref (q 28), .int (nI jd2_24), .int (nI jm2_25), .int yu, .int yr, .int (nI yn)])), (q 24, .inr (0, [.ref (q 29), .ref (q 30), .ref (q 31), .ref (q 32), .int (nI yc), .int (nI yx)])), (q 29, .inl (cI, 1600, .inl y1)), (q 27, .inl (cI, 3, .inl yf)), (q 28, .inl (cI, 3, .inl yt)), (q 25, .inl (cI, 9, .inl yb)), (q 26, .inl (cI, 9, .inl yw))] → va_S A s.heap H locs → lv_has ls 2 [(0, .ref (q 3)), (1, .ref (q 6))] → W p l e { frames := 56, cells := 0, slots := 0, locals := 1344 } s m ([.ref (q 3), .ref (q 6)] : List Value).toArray below meth c H locs 0 0 (MQ below (skV D (skT cI cJ cC cZ cS) (fun (u : va_W) => ∃ (xa2 : Nat), ∃ (xv2 : Int32), ∃ (xt2 : Int32), ∃ (xz2 : Nat), ∃ (xf2 : Int32), ∃ (xp2 : Int32), ∃ (jc2 : Nat), ∃ (jx2 : Nat), ∃ (k1_ : Nat → Int32), ∃ (kf_ : Nat → Int32), ∃ (kt_ : Nat → Int32), ∃ (jd2 : Nat), ∃ (jm2 : Nat), ∃ (jn2 : Nat), ∃ (ju2 : Int32), ∃ (jr2 : Int32), ∃ (jb2 : Nat → Int32), ∃ (jw2 : Nat → Int32), xa2 ≤ 1600 ∧ xz2 ≤ 1600 ∧ jc2 ≤ 1600 ∧ jx2 ≤ 1 ∧ 2 ≤ jd2 ∧ jd2 ≤ 9 ∧ jm2 ≤ 9 ∧ jn2 ≤ 60 ∧ finO tb tl xf2 xp2 jn2 jd2 jm2 ju2 jr2 jc2 jx2 k1_ kf_ kt_ jb2 jw2 ∧ u = [(q 3, .inr (3, [.ref (q 2), .ref (q 22), .ref (q 23)])), (q 2, .inr (6, [.ref (q 0), .int (nI xa2), .int xv2, .int 0, .int xt2, .int (nI xz2), .int xf2, .int xp2])), (q 0, .inr (10, [.ref (q 20), .int (nI tl)])), (q 20, .inl (cI, 1600, .inl (fun j => nI (tb j)))), (q 22, .inr (8, [.ref (q 2), .int 0])), (q 23, .inr (8, [.ref (q 2), .int 1])), (q 6, .inr (2, [.ref (q 24), .ref (q 25), .ref (q 26), .ref (q 27), .ref (q 28), .int (nI jd2), .int (nI jm2), .int ju2, .int jr2, .int (nI jn2)])), (q 24, .inr (0, [.ref (q 29), .ref (q 30), .ref (q 31), .ref (q 32), .int (nI jc2), .int (nI jx2)])), (q 29, .inl (cI, 1600, .inl k1_)), (q 27, .inl (cI, 3, .inl kf_)), (q 28, .inl (cI, 3, .inl kt_)), (q 25, .inl (cI, 9, .inl jb2)), (q 26, .inl (cI, 9, .inl jw2))]) A) ([.ref (q 3), .ref (q 6)] : List Value).toArray s 0 0 A) (F0 m 182 ls []) := by
              intro et eg ep H locs ls hfn hP hD hS hl
              refine lv_aload_n hx hb dX3_read_182 rfl (lv_at hl 1 rfl) ?_
              refine sk_Vv (q0 := 0) (n := 0) (rest := []) (wr := fmR om_13_7c _) ⟨hx, hb, hml, hown, hts⟩ hl.1 (c_elk_addUntold l D cI cJ cC cZ cS q jd2_24 jm2_25 yu yr yn yc yx y1 yf yt yb yw tl tb hyc hyx (un_0 hfn)) w_3_140 w_3_141 w_3_142 w_1_9 w_3_143 hd_X2_addUntold_0 ⟨⟨(Nat.le_of_ble_eq_true rfl), (Nat.le_of_ble_eq_true rfl)⟩, (Nat.le_of_ble_eq_true rfl), (Nat.le_of_ble_eq_true rfl)⟩ hK hP hD hS hA (fmT om_13_7c 0) (fmF om_13_7c 0) (fm_C1 rfl rfl) (fm_R rfl rfl) (fm_nT om_13_7c 0) (fm_nF om_13_7c 0) (fm_di om_13_7c 0) rfl rfl rfl rfl (Nat.le_of_ble_eq_true rfl) dX3_read_183 (fun u H locs hw hP hD hS => ?_)
              refine exE hw (fun jc2_70 hw1 => exE hw1 (fun jx2_71 hw2 => exE hw2 (fun k1__72 hw3 => exE hw3 (fun kf__73 hw4 => exE hw4 (fun kt__74 hw5 => anE hw5 (fun hjc2_75 hw6 => anE hw6 (fun hjx2_76 hw7 => anE hw7 (fun hun2_77 eu_78 => ?_))))))))
              clear hw hw1 hw2 hw3 hw4 hw5 hw6 hw7
              refine o_mgE (ws' := [(q 3, .inr (3, [.ref (q 2), .ref (q 22), .ref (q 23)])), (q 2, .inr (6, [.ref (q 0), .int (nI za), .int zw, .int 0, .int et, .int (nI zz), .int eg, .int ep])), (q 0, .inr (10, [.ref (q 20), .int (nI tl)])), (q 20, .inl (cI, 1600, .inl (fun j => nI (tb j)))), (q 22, .inr (8, [.ref (q 2), .int 0])), (q 23, .inr (8, [.ref (q 2), .int 1])), (q 6, .inr (2, [.ref (q 24), .ref (q 25), .ref (q 26), .ref (q 27), .ref (q 28), .int (nI jd2_24), .int (nI jm2_25), .int yu, .int yr, .int (nI yn)])), (q 24, .inr (0, [.ref (q 29), .ref (q 30), .ref (q 31), .ref (q 32), .int (nI jc2_70), .int (nI jx2_71)])), (q 29, .inl (cI, 1600, .inl k1__72)), (q 27, .inl (cI, 3, .inl kf__73)), (q 28, .inl (cI, 3, .inl kt__74)), (q 25, .inl (cI, 9, .inl yb)), (q 26, .inl (cI, 9, .inl yw))]) eu_78 hP hD rfl (fun hP hD => ?_)
              exact sk_vret hx hb hr hlocks hK hP hD hS (⟨za, zw, et, zz, eg, ep, jc2_70, jx2_71, k1__72, kf__73, kt__74, jd2_24, jm2_25, yn, yu, yr, yb, yw, hza, hzz, hjc2_75, hjx2_76, hjd2_28, hjd3_29, hjm2_30, hyn, fin_un hfn hun2_77, rfl⟩) (Nat.le_of_ble_eq_true rfl) (Nat.le_of_ble_eq_true rfl) dX3_read_186
            refine lv_aload_n hx hb dX3_read_146 rfl (lv_at hl 0 rfl) ?_
            refine sk_get (v := .ref (q 2)) (C := RX3) (T := TX3) (N := 3) hx hb hts inlX3 hown hK hP 0 rfl rfl 0 (Nat.le_of_ble_eq_true rfl) w_1_107 rfl dX3_read_147 ?_
            refine sk_get (v := .int zg) (C := RX6) (T := TX6) (N := 8) hx hb hts inlX6 hown hK hP 1 rfl rfl 6 (Nat.le_of_ble_eq_true rfl) w_1_67 rfl dX3_read_150 ?_
            refine lv_if_ne (tgt := 182) hx hb dX3_read_153 (by decide) (fun c => absurd c_56 c) (fun c_79 => ?_)
            refine lv_aload_n hx hb dX3_read_156 rfl (lv_at hl 0 rfl) ?_
            refine sk_get (v := .ref (q 2)) (C := RX3) (T := TX3) (N := 3) hx hb hts inlX3 hown hK hP 0 rfl rfl 0 (Nat.le_of_ble_eq_true rfl) w_1_107 rfl dX3_read_157 ?_
            refine sk_get (v := .int zt) (C := RX6) (T := TX6) (N := 8) hx hb hts inlX6 hown hK hP 1 rfl rfl 4 (Nat.le_of_ble_eq_true rfl) w_1_62 rfl dX3_read_160 ?_
            refine lv_iconst (v := (-1)) hx hb dX3_read_163 (by decide) ?_
            refine lv_icmp_eq (tgt := 182) hx hb dX3_read_164 (by decide) (fun c_80 => ?_) (fun c => absurd c_68 c)
            exact jn_69 zt zg zp _ _ _ (fin_end htb htl hzO c_56 c_68 (by omega) hz5 hrem) hP hD hS (lv_sub hl [0, 1] rfl)
          · skip
            have jn_81 : ∀ (oa : Nat) (ow : Int32) (ot : Int32) (oz : Nat) (of0 : Int32) (op0 : Int32) (ou : Int32) (or_ : Int32) (oc : Nat) (ox : Nat) (o1_ : Nat → Int32) (of_ : Nat → Int32) (ot_ : Nat → Int32) (ob_ : Nat → Int32) (ow_ : Nat → Int32) (omu : Nat → Bool) (wo : LkR) (H : Heap) (locs : List Loc) (ls : Array Slot), (llO tb tl wo oa ow ot oz of0 op0 jd2_24 jm2_25 ou or_ oc ox o1_ of_ ot_ ob_ ow_) → (oa ≤ 1600) → (oz ≤ 1600) → (oc ≤ 1600) → (ox ≤ 1) → (muO omu ou) → (wo = bindR zo (bodyR tb tl)) → va_P D vwCl [(q 3, .inr (3, [.ref (q 2), .ref (q 22), .ref (q 23)])), (q 2, .inr (6, [.ref (q 0), .int (nI oa), .int ow, .int 0, .int ot, .int (nI oz), .int of0, .int op0])), (q 0, .inr (10, [.ref (q 20), .int (nI tl)])), (q 20, .inl (cI, 1600, .inl (fun j => nI (tb j)))), (q 22, .inr (8, [.ref (q 2), .int 0])), (q 23, .inr (8, [.ref (q 2), .int 1])), (q 6, .inr (2, [.ref (q 24), .ref (q 25), .ref (q 26), .ref (q 27), .ref (q 28), .int (nI jd2_24), .int (nI jm2_25), .int ou, .int or_, .int (nI yn)])), (q 24, .inr (0, [.ref (q 29), .ref (q 30), .ref (q 31), .ref (q 32), .int (nI oc), .int (nI ox)])), (q 29, .inl (cI, 1600, .inl o1_)), (q 27, .inl (cI, 3, .inl of_)), (q 28, .inl (cI, 3, .inl ot_)), (q 25, .inl (cI, 9, .inl ob_)), (q 26, .inl (cI, 9, .inl ow_))] H → va_D A [(q 3, .inr (3, [.ref (q 2), .ref (q 22), .ref (q 23)])), (q 2, .inr (6, [.ref (q 0), .int (nI oa), .int ow, .int 0, .int ot, .int (nI oz), .int of0, .int op0])), (q 0, .inr (10, [.ref (q 20), .int (nI tl)])), (q 20, .inl (cI, 1600, .inl (fun j => nI (tb j)))), (q 22, .inr (8, [.ref (q 2), .int 0])), (q 23, .inr (8, [.ref (q 2), .int 1])), (q 6, .inr (2, [.ref (q 24), .ref (q 25), .ref (q 26), .ref (q 27), .ref (q 28), .int (nI jd2_24), .int (nI jm2_25), .int ou, .int or_, .int (nI yn)])), (q 24, .inr (0, [.ref (q 29), .ref (q 30), .ref (q 31), .ref (q 32), .int (nI oc), .int (nI ox)])), (q 29, .inl (cI, 1600, .inl o1_)), (q 27, .inl (cI, 3, .inl of_)), (q 28, .inl (cI, 3, .inl ot_)), (q 25, .inl (cI, 9, .inl ob_)), (q 26, .inl (cI, 9, .inl ow_))] → va_S A s.heap H locs → lv_has ls 2 [(0, .ref (q 3)), (1, .ref (q 6))] → W p l e { frames := 56, cells := 0, slots := 0, locals := 1344 } s m ([.ref (q 3), .ref (q 6)] : List Value).toArray below meth c H locs 0 0 (MQ below (skV D (skT cI cJ cC cZ cS) (fun (u : va_W) => ∃ (xa2 : Nat), ∃ (xv2 : Int32), ∃ (xt2 : Int32), ∃ (xz2 : Nat), ∃ (xf2 : Int32), ∃ (xp2 : Int32), ∃ (jc2 : Nat), ∃ (jx2 : Nat), ∃ (k1_ : Nat → Int32), ∃ (kf_ : Nat → Int32), ∃ (kt_ : Nat → Int32), ∃ (jd2 : Nat), ∃ (jm2 : Nat), ∃ (jn2 : Nat), ∃ (ju2 : Int32), ∃ (jr2 : Int32), ∃ (jb2 : Nat → Int32), ∃ (jw2 : Nat → Int32), xa2 ≤ 1600 ∧ xz2 ≤ 1600 ∧ jc2 ≤ 1600 ∧ jx2 ≤ 1 ∧ 2 ≤ jd2 ∧ jd2 ≤ 9 ∧ jm2 ≤ 9 ∧ jn2 ≤ 60 ∧ finO tb tl xf2 xp2 jn2 jd2 jm2 ju2 jr2 jc2 jx2 k1_ kf_ kt_ jb2 jw2 ∧ u = [(q 3, .inr (3, [.ref (q 2), .ref (q 22), .ref (q 23)])), (q 2, .inr (6, [.ref (q 0), .int (nI xa2), .int xv2, .int 0, .int xt2, .int (nI xz2), .int xf2, .int xp2])), (q 0, .inr (10, [.ref (q 20), .int (nI tl)])), (q 20, .inl (cI, 1600, .inl (fun j => nI (tb j)))), (q 22, .inr (8, [.ref (q 2), .int 0])), (q 23, .inr (8, [.ref (q 2), .int 1])), (q 6, .inr (2, [.ref (q 24), .ref (q 25), .ref (q 26), .ref (q 27), .ref (q 28), .int (nI jd2), .int (nI jm2), .int ju2, .int jr2, .int (nI jn2)])), (q 24, .inr (0, [.ref (q 29), .ref (q 30), .ref (q 31), .ref (q 32), .int (nI jc2), .int (nI jx2)])), (q 29, .inl (cI, 1600, .inl k1_)), (q 27, .inl (cI, 3, .inl kf_)), (q 28, .inl (cI, 3, .inl kt_)), (q 25, .inl (cI, 9, .inl jb2)), (q 26, .inl (cI, 9, .inl jw2))]) A) ([.ref (q 3), .ref (q 6)] : List Value).toArray s 0 0 A) (F0 m 124 ls []) := by
              intro oa ow ot oz of0 op0 ou or_ oc ox o1_ of_ ot_ ob_ ow_ omu wo H locs ls hwO hoa hoz hoc hox hom hwb hP hD hS hl
              refine lv_aload_n hx hb dX3_read_124 rfl (lv_at hl 0 rfl) ?_
              refine sk_get (v := .ref (q 2)) (C := RX3) (T := TX3) (N := 3) hx hb hts inlX3 hown hK hP 0 rfl rfl 0 (Nat.le_of_ble_eq_true rfl) w_1_107 rfl dX3_read_125 ?_
              refine lv_bipush (v := 59) hx hb dX3_read_128 (by decide) ?_
              refine sk_VvZ (q0 := 0) (n := 1) (rest := []) (wr := fmR om_13_e00 _) ⟨hx, hb, hml, hown, hts⟩ hl.1 (c_erd_needs l D cI cJ cC cZ cS zk zv zf q oa ow 0 ot oz of0 op0 tl tb 59 (lc wo) hoa hoz htl htb (by decide) (hwO).1) w_3_50 w_3_51 w_3_52 w_1_4 w_3_53 hd_X6_needs_1 ⟨⟨(Nat.le_of_ble_eq_true rfl), (Nat.le_of_ble_eq_true rfl)⟩, (Nat.le_of_ble_eq_true rfl), (Nat.le_of_ble_eq_true rfl)⟩ hK hP hD hS hZ hA (fmT om_13_e00 0) (fmF om_13_e00 0) (fm_C1 rfl rfl) (fm_R rfl rfl) (fm_nT om_13_e00 0) (fm_nF om_13_e00 0) (fm_di om_13_e00 0) rfl rfl rfl rfl (Nat.le_of_ble_eq_true rfl) dX3_read_130 (fun u H locs hw hP hD hS => ?_)
              refine exE hw (fun xa2_82 hw1 => exE hw1 (fun xv2_83 hw2 => exE hw2 (fun xt2_84 hw3 => exE hw3 (fun xz2_85 hw4 => exE hw4 (fun xf2_86 hw5 => exE hw5 (fun xp2_87 hw6 => anE hw6 (fun hxa2_88 hw7 => anE hw7 (fun hxz2_89 hw8 => anE hw8 (fun hO2_90 eu_91 => ?_)))))))))
              clear hw hw1 hw2 hw3 hw4 hw5 hw6 hw7 hw8
              refine o_mgE (ws' := [(q 3, .inr (3, [.ref (q 2), .ref (q 22), .ref (q 23)])), (q 2, .inr (6, [.ref (q 0), .int (nI xa2_82), .int xv2_83, .int 0, .int xt2_84, .int (nI xz2_85), .int xf2_86, .int xp2_87])), (q 0, .inr (10, [.ref (q 20), .int (nI tl)])), (q 20, .inl (cI, 1600, .inl (fun j => nI (tb j)))), (q 22, .inr (8, [.ref (q 2), .int 0])), (q 23, .inr (8, [.ref (q 2), .int 1])), (q 6, .inr (2, [.ref (q 24), .ref (q 25), .ref (q 26), .ref (q 27), .ref (q 28), .int (nI jd2_24), .int (nI jm2_25), .int ou, .int or_, .int (nI yn)])), (q 24, .inr (0, [.ref (q 29), .ref (q 30), .ref (q 31), .ref (q 32), .int (nI oc), .int (nI ox)])), (q 29, .inl (cI, 1600, .inl o1_)), (q 27, .inl (cI, 3, .inl of_)), (q 28, .inl (cI, 3, .inl ot_)), (q 25, .inl (cI, 9, .inl ob_)), (q 26, .inl (cI, 9, .inl ow_))]) eu_91 hP hD rfl (fun hP hD => ?_)
              have hO_92 := ll_ld hwO hO2_90
              refine lv_aload_n hx hb dX3_read_133 rfl (lv_at hl 1 rfl) ?_
              refine lv_dup hx hb dX3_read_134 rfl ?_
              refine sk_get (v := .int (nI yn)) (C := RX2) (T := TX2) (N := 10) hx hb hts inlX2 hown hK hP 6 rfl rfl 9 (Nat.le_of_ble_eq_true rfl) w_1_201 rfl dX3_read_135 ?_
              refine lv_iconst (v := 1) hx hb dX3_read_138 ic_1 ?_
              refine lv_iadd hx hb dX3_read_139 ?_
              refine sk_top (nI (yn + 1)) (nI_add yn 1) ?_
              refine sk_put (ws' := [(q 3, .inr (3, [.ref (q 2), .ref (q 22), .ref (q 23)])), (q 2, .inr (6, [.ref (q 0), .int (nI xa2_82), .int xv2_83, .int 0, .int xt2_84, .int (nI xz2_85), .int xf2_86, .int xp2_87])), (q 0, .inr (10, [.ref (q 20), .int (nI tl)])), (q 20, .inl (cI, 1600, .inl (fun j => nI (tb j)))), (q 22, .inr (8, [.ref (q 2), .int 0])), (q 23, .inr (8, [.ref (q 2), .int 1])), (q 6, .inr (2, [.ref (q 24), .ref (q 25), .ref (q 26), .ref (q 27), .ref (q 28), .int (nI jd2_24), .int (nI jm2_25), .int ou, .int or_, .int (nI (yn + 1))])), (q 24, .inr (0, [.ref (q 29), .ref (q 30), .ref (q 31), .ref (q 32), .int (nI oc), .int (nI ox)])), (q 29, .inl (cI, 1600, .inl o1_)), (q 27, .inl (cI, 3, .inl of_)), (q 28, .inl (cI, 3, .inl ot_)), (q 25, .inl (cI, 9, .inl ob_)), (q 26, .inl (cI, 9, .inl ow_))]) (C := RX2) (T := TX2) (N := 10) (v := .int (nI (yn + 1))) hx hb hts inlX2 tyX2 tyX2_ok nmX2 hown hK hP hD hS 6 rfl rfl 9 (Nat.le_of_ble_eq_true rfl) w_1_201 rfl rfl rfl (Nat.le_of_ble_eq_true rfl) rfl dX3_read_140 (fun H locs hP hD hS => ?_)
              refine lv_goto (tgt := 16) hx hb dX3_read_143 (by decide) ?_
              exact ih_lp_36 xa2_82 xv2_83 xt2_84 xz2_85 xf2_86 xp2_87 ou or_ (yn + 1) oc ox o1_ of_ ot_ ob_ ow_ omu (ld wo (tkF tb tl 59)) _ _ _ (by omega) hO_92 (by omega) hxa2_88 hxz2_89 hoc hox hom (len5_ld (fwd_tk (tb := tb) (n := tl) (w := 59)) (by rw [hwb]; exact len5_b hz5)) (lk_s htb hzO c_68 (by omega) hwb hrem) hP hD hS (lv_sub hl [0, 1] rfl)
            refine lv_aload_n hx hb dX3_read_46 rfl (lv_at hl 0 rfl) ?_
            refine sk_get (v := .ref (q 2)) (C := RX3) (T := TX3) (N := 3) hx hb hts inlX3 hown hK hP 0 rfl rfl 0 (Nat.le_of_ble_eq_true rfl) w_1_107 rfl dX3_read_47 ?_
            refine sk_get (v := .int zt) (C := RX6) (T := TX6) (N := 8) hx hb hts inlX6 hown hK hP 1 rfl rfl 4 (Nat.le_of_ble_eq_true rfl) w_1_62 rfl dX3_read_50 ?_
            by_cases g_93 : zt = 261
            · refine lv_tableIn (off := 27) (tgt := 80) hx hb dX3_read_53 (by rw [g_93]; decide) (by rw [g_93]; decide) (by rw [g_93]; rfl) (by decide) ?_
              refine lv_aload_n hx hb dX3_read_80 rfl (lv_at hl 0 rfl) ?_
              refine lv_aload_n hx hb dX3_read_81 rfl (lv_at hl 1 rfl) ?_
              refine lv_iconst (v := 0) hx hb dX3_read_82 ic_0 ?_
              refine lv_aload_n hx hb dX3_read_83 rfl (lv_at hl 0 rfl) ?_
              refine sk_get (v := .ref (q 22)) (C := RX3) (T := TX3) (N := 3) hx hb hts inlX3 hown hK hP 0 rfl rfl 1 (Nat.le_of_ble_eq_true rfl) w_1_108 rfl dX3_read_84 ?_
              refine sk_VvZ (q0 := 0) (n := 3) (rest := []) (wr := fmR om_13_1f7c _) ⟨hx, hb, hml, hown, hts⟩ hl.1 (c_elt_sumOf l D cI cJ cC cZ cS zk zv zf q za zw zt zz zg zp tl tb jd2_24 jm2_25 yu yr yn yc yx y1 yf yt (q 22) 0 0 (lr zo) hza hzz htl htb hyc hyx (by omega) (by omega) ⟨by rw [g_93]; decide, by rw [g_93]; decide⟩ (lr_rs hzO) (lr_len hz5)) w_3_66 w_3_68 w_0_5 w_1_5 w_3_69 hd_X3_readSumOf_3 ⟨⟨(Nat.le_of_ble_eq_true rfl), (Nat.le_of_ble_eq_true rfl)⟩, (Nat.le_of_ble_eq_true rfl), (Nat.le_of_ble_eq_true rfl)⟩ hK hP hD hS hZ hA (fmT om_13_1f7c 0) (fmF om_13_1f7c 0) (fm_C1 rfl rfl) (fm_R rfl rfl) (fm_nT om_13_1f7c 0) (fm_nF om_13_1f7c 0) (fm_di om_13_1f7c 0) rfl rfl rfl rfl (Nat.le_of_ble_eq_true rfl) dX3_read_87 (fun u H locs hw hP hD hS => ?_)
              refine exE hw (fun xa2_94 hw1 => exE hw1 (fun xv2_95 hw2 => exE hw2 (fun xt2_96 hw3 => exE hw3 (fun xz2_97 hw4 => exE hw4 (fun xf2_98 hw5 => exE hw5 (fun xp2_99 hw6 => exE hw6 (fun jc2_100 hw7 => exE hw7 (fun jx2_101 hw8 => exE hw8 (fun k1__102 hw9 => exE hw9 (fun kf__103 hw10 => exE hw10 (fun kt__104 hw11 => anE hw11 (fun hxa2_105 hw12 => anE hw12 (fun hxz2_106 hw13 => anE hw13 (fun hjc2_107 hw14 => anE hw14 (fun hjx2_108 hw15 => anE hw15 (fun hsm_109 eu_110 => ?_))))))))))))))))
              clear hw hw1 hw2 hw3 hw4 hw5 hw6 hw7 hw8 hw9 hw10 hw11 hw12 hw13 hw14 hw15
              refine o_mgE (ws' := [(q 3, .inr (3, [.ref (q 2), .ref (q 22), .ref (q 23)])), (q 2, .inr (6, [.ref (q 0), .int (nI xa2_94), .int xv2_95, .int 0, .int xt2_96, .int (nI xz2_97), .int xf2_98, .int xp2_99])), (q 0, .inr (10, [.ref (q 20), .int (nI tl)])), (q 20, .inl (cI, 1600, .inl (fun j => nI (tb j)))), (q 22, .inr (8, [.ref (q 2), .int 0])), (q 23, .inr (8, [.ref (q 2), .int 1])), (q 6, .inr (2, [.ref (q 24), .ref (q 25), .ref (q 26), .ref (q 27), .ref (q 28), .int (nI jd2_24), .int (nI jm2_25), .int yu, .int yr, .int (nI yn)])), (q 24, .inr (0, [.ref (q 29), .ref (q 30), .ref (q 31), .ref (q 32), .int (nI jc2_100), .int (nI jx2_101)])), (q 29, .inl (cI, 1600, .inl k1__102)), (q 27, .inl (cI, 3, .inl kf__103)), (q 28, .inl (cI, 3, .inl kt__104)), (q 25, .inl (cI, 9, .inl yb)), (q 26, .inl (cI, 9, .inl yw))]) eu_110 hP hD rfl (fun hP hD => ?_)
              have hO_111 := ll_sum htb htl hzO (by decide) (Or.inl ⟨g_93, rfl, rfl⟩) hz5 hsm_109
              refine lv_goto (tgt := 124) hx hb dX3_read_90 (by decide) ?_
              exact jn_81 xa2_94 xv2_95 xt2_96 xz2_97 xf2_98 xp2_99 yu yr jc2_100 jx2_101 k1__102 kf__103 kt__104 yb yw zmu (bindR zo (bodyR tb tl)) _ _ _ hO_111 hxa2_105 hxz2_106 hjc2_107 hjx2_108 hzm rfl hP hD hS (lv_sub hl [0, 1] rfl)
            by_cases g_112 : zt = 262
            · refine lv_tableIn (off := 40) (tgt := 93) hx hb dX3_read_53 (by rw [g_112]; decide) (by rw [g_112]; decide) (by rw [g_112]; rfl) (by decide) ?_
              refine lv_aload_n hx hb dX3_read_93 rfl (lv_at hl 0 rfl) ?_
              refine lv_aload_n hx hb dX3_read_94 rfl (lv_at hl 1 rfl) ?_
              refine lv_iconst (v := 1) hx hb dX3_read_95 ic_1 ?_
              refine lv_aload_n hx hb dX3_read_96 rfl (lv_at hl 0 rfl) ?_
              refine sk_get (v := .ref (q 23)) (C := RX3) (T := TX3) (N := 3) hx hb hts inlX3 hown hK hP 0 rfl rfl 2 (Nat.le_of_ble_eq_true rfl) w_1_109 rfl dX3_read_97 ?_
              refine sk_VvZ (q0 := 0) (n := 3) (rest := []) (wr := fmR om_13_1efc _) ⟨hx, hb, hml, hown, hts⟩ hl.1 (c_elt_sumOf l D cI cJ cC cZ cS zk zv zf q za zw zt zz zg zp tl tb jd2_24 jm2_25 yu yr yn yc yx y1 yf yt (q 23) 1 1 (lr zo) hza hzz htl htb hyc hyx (by omega) (by omega) ⟨by rw [g_112]; decide, by rw [g_112]; decide⟩ (lr_rs hzO) (lr_len hz5)) w_3_66 w_3_68 w_0_5 w_1_5 w_3_69 hd_X3_readSumOf_3 ⟨⟨(Nat.le_of_ble_eq_true rfl), (Nat.le_of_ble_eq_true rfl)⟩, (Nat.le_of_ble_eq_true rfl), (Nat.le_of_ble_eq_true rfl)⟩ hK hP hD hS hZ hA (fmT om_13_1efc 0) (fmF om_13_1efc 0) (fm_C1 rfl rfl) (fm_R rfl rfl) (fm_nT om_13_1efc 0) (fm_nF om_13_1efc 0) (fm_di om_13_1efc 0) rfl rfl rfl rfl (Nat.le_of_ble_eq_true rfl) dX3_read_100 (fun u H locs hw hP hD hS => ?_)
              refine exE hw (fun xa2_113 hw1 => exE hw1 (fun xv2_114 hw2 => exE hw2 (fun xt2_115 hw3 => exE hw3 (fun xz2_116 hw4 => exE hw4 (fun xf2_117 hw5 => exE hw5 (fun xp2_118 hw6 => exE hw6 (fun jc2_119 hw7 => exE hw7 (fun jx2_120 hw8 => exE hw8 (fun k1__121 hw9 => exE hw9 (fun kf__122 hw10 => exE hw10 (fun kt__123 hw11 => anE hw11 (fun hxa2_124 hw12 => anE hw12 (fun hxz2_125 hw13 => anE hw13 (fun hjc2_126 hw14 => anE hw14 (fun hjx2_127 hw15 => anE hw15 (fun hsm_128 eu_129 => ?_))))))))))))))))
              clear hw hw1 hw2 hw3 hw4 hw5 hw6 hw7 hw8 hw9 hw10 hw11 hw12 hw13 hw14 hw15
              refine o_mgE (ws' := [(q 3, .inr (3, [.ref (q 2), .ref (q 22), .ref (q 23)])), (q 2, .inr (6, [.ref (q 0), .int (nI xa2_113), .int xv2_114, .int 0, .int xt2_115, .int (nI xz2_116), .int xf2_117, .int xp2_118])), (q 0, .inr (10, [.ref (q 20), .int (nI tl)])), (q 20, .inl (cI, 1600, .inl (fun j => nI (tb j)))), (q 22, .inr (8, [.ref (q 2), .int 0])), (q 23, .inr (8, [.ref (q 2), .int 1])), (q 6, .inr (2, [.ref (q 24), .ref (q 25), .ref (q 26), .ref (q 27), .ref (q 28), .int (nI jd2_24), .int (nI jm2_25), .int yu, .int yr, .int (nI yn)])), (q 24, .inr (0, [.ref (q 29), .ref (q 30), .ref (q 31), .ref (q 32), .int (nI jc2_119), .int (nI jx2_120)])), (q 29, .inl (cI, 1600, .inl k1__121)), (q 27, .inl (cI, 3, .inl kf__122)), (q 28, .inl (cI, 3, .inl kt__123)), (q 25, .inl (cI, 9, .inl yb)), (q 26, .inl (cI, 9, .inl yw))]) eu_129 hP hD rfl (fun hP hD => ?_)
              have hO_130 := ll_sum htb htl hzO (by decide) (Or.inr (Or.inl ⟨g_112, rfl, rfl⟩)) hz5 hsm_128
              refine lv_goto (tgt := 124) hx hb dX3_read_103 (by decide) ?_
              exact jn_81 xa2_113 xv2_114 xt2_115 xz2_116 xf2_117 xp2_118 yu yr jc2_119 jx2_120 k1__121 kf__122 kt__123 yb yw zmu (bindR zo (bodyR tb tl)) _ _ _ hO_130 hxa2_124 hxz2_125 hjc2_126 hjx2_127 hzm rfl hP hD hS (lv_sub hl [0, 1] rfl)
            by_cases g_131 : zt = 263
            · refine lv_tableIn (off := 53) (tgt := 106) hx hb dX3_read_53 (by rw [g_131]; decide) (by rw [g_131]; decide) (by rw [g_131]; rfl) (by decide) ?_
              refine lv_aload_n hx hb dX3_read_106 rfl (lv_at hl 0 rfl) ?_
              refine lv_aload_n hx hb dX3_read_107 rfl (lv_at hl 1 rfl) ?_
              refine lv_iconst (v := 2) hx hb dX3_read_108 ic_2 ?_
              refine lv_aload_n hx hb dX3_read_109 rfl (lv_at hl 0 rfl) ?_
              refine sk_get (v := .ref (q 22)) (C := RX3) (T := TX3) (N := 3) hx hb hts inlX3 hown hK hP 0 rfl rfl 1 (Nat.le_of_ble_eq_true rfl) w_1_108 rfl dX3_read_110 ?_
              refine sk_VvZ (q0 := 0) (n := 3) (rest := []) (wr := fmR om_13_1f7c _) ⟨hx, hb, hml, hown, hts⟩ hl.1 (c_elt_sumOf l D cI cJ cC cZ cS zk zv zf q za zw zt zz zg zp tl tb jd2_24 jm2_25 yu yr yn yc yx y1 yf yt (q 22) 0 2 (lr zo) hza hzz htl htb hyc hyx (by omega) (by omega) ⟨by rw [g_131]; decide, by rw [g_131]; decide⟩ (lr_rs hzO) (lr_len hz5)) w_3_66 w_3_68 w_0_5 w_1_5 w_3_69 hd_X3_readSumOf_3 ⟨⟨(Nat.le_of_ble_eq_true rfl), (Nat.le_of_ble_eq_true rfl)⟩, (Nat.le_of_ble_eq_true rfl), (Nat.le_of_ble_eq_true rfl)⟩ hK hP hD hS hZ hA (fmT om_13_1f7c 0) (fmF om_13_1f7c 0) (fm_C1 rfl rfl) (fm_R rfl rfl) (fm_nT om_13_1f7c 0) (fm_nF om_13_1f7c 0) (fm_di om_13_1f7c 0) rfl rfl rfl rfl (Nat.le_of_ble_eq_true rfl) dX3_read_113 (fun u H locs hw hP hD hS => ?_)
              refine exE hw (fun xa2_132 hw1 => exE hw1 (fun xv2_133 hw2 => exE hw2 (fun xt2_134 hw3 => exE hw3 (fun xz2_135 hw4 => exE hw4 (fun xf2_136 hw5 => exE hw5 (fun xp2_137 hw6 => exE hw6 (fun jc2_138 hw7 => exE hw7 (fun jx2_139 hw8 => exE hw8 (fun k1__140 hw9 => exE hw9 (fun kf__141 hw10 => exE hw10 (fun kt__142 hw11 => anE hw11 (fun hxa2_143 hw12 => anE hw12 (fun hxz2_144 hw13 => anE hw13 (fun hjc2_145 hw14 => anE hw14 (fun hjx2_146 hw15 => anE hw15 (fun hsm_147 eu_148 => ?_))))))))))))))))
              clear hw hw1 hw2 hw3 hw4 hw5 hw6 hw7 hw8 hw9 hw10 hw11 hw12 hw13 hw14 hw15
              refine o_mgE (ws' := [(q 3, .inr (3, [.ref (q 2), .ref (q 22), .ref (q 23)])), (q 2, .inr (6, [.ref (q 0), .int (nI xa2_132), .int xv2_133, .int 0, .int xt2_134, .int (nI xz2_135), .int xf2_136, .int xp2_137])), (q 0, .inr (10, [.ref (q 20), .int (nI tl)])), (q 20, .inl (cI, 1600, .inl (fun j => nI (tb j)))), (q 22, .inr (8, [.ref (q 2), .int 0])), (q 23, .inr (8, [.ref (q 2), .int 1])), (q 6, .inr (2, [.ref (q 24), .ref (q 25), .ref (q 26), .ref (q 27), .ref (q 28), .int (nI jd2_24), .int (nI jm2_25), .int yu, .int yr, .int (nI yn)])), (q 24, .inr (0, [.ref (q 29), .ref (q 30), .ref (q 31), .ref (q 32), .int (nI jc2_138), .int (nI jx2_139)])), (q 29, .inl (cI, 1600, .inl k1__140)), (q 27, .inl (cI, 3, .inl kf__141)), (q 28, .inl (cI, 3, .inl kt__142)), (q 25, .inl (cI, 9, .inl yb)), (q 26, .inl (cI, 9, .inl yw))]) eu_148 hP hD rfl (fun hP hD => ?_)
              have hO_149 := ll_sum htb htl hzO (by decide) (Or.inr (Or.inr ⟨g_131, rfl, rfl⟩)) hz5 hsm_147
              refine lv_goto (tgt := 124) hx hb dX3_read_116 (by decide) ?_
              exact jn_81 xa2_132 xv2_133 xt2_134 xz2_135 xf2_136 xp2_137 yu yr jc2_138 jx2_139 k1__140 kf__141 kt__142 yb yw zmu (bindR zo (bodyR tb tl)) _ _ _ hO_149 hxa2_143 hxz2_144 hjc2_145 hjx2_146 hzm rfl hP hD hS (lv_sub hl [0, 1] rfl)
            refine lv_tableOut (tgt := 119) hx hb dX3_read_53 (sk_out2 261 263 (by intro k hk1 hk2; rcases (show k = 261 ∨ k = 262 ∨ k = 263 by omega) with rfl | rfl | rfl <;> assumption)) (by decide) ?_
            refine lv_aload_n hx hb dX3_read_119 rfl (lv_at hl 0 rfl) ?_
            refine lv_aload_n hx hb dX3_read_120 rfl (lv_at hl 1 rfl) ?_
            refine sk_VvZ (q0 := 0) (n := 1) (rest := []) (wr := fmR om_13_1e43 _) ⟨hx, hb, hml, hown, hts⟩ hl.1 (c_elt_numbers l D cI cJ cC cZ cS zk zv zf q za zw 0 zt zz zg zp tl tb jd2_24 jm2_25 yu yr yn yb yw zmu (lc zo) hza hzz htl htb (by omega) hjd3_29 hzm hzO.1) w_3_127 w_3_129 w_0_11 w_1_5 w_3_130 hd_X3_readNumbers_1 ⟨⟨(Nat.le_of_ble_eq_true rfl), (Nat.le_of_ble_eq_true rfl)⟩, (Nat.le_of_ble_eq_true rfl), (Nat.le_of_ble_eq_true rfl)⟩ hK hP hD hS hZ hA (fmT om_13_1e43 0) (fmF om_13_1e43 0) (fm_C1 rfl rfl) (fm_R rfl rfl) (fm_nT om_13_1e43 0) (fm_nF om_13_1e43 0) (fm_di om_13_1e43 0) rfl rfl rfl rfl (Nat.le_of_ble_eq_true rfl) dX3_read_121 (fun u H locs hw hP hD hS => ?_)
            refine exE hw (fun xa2_150 hw1 => exE hw1 (fun xv2_151 hw2 => exE hw2 (fun xt2_152 hw3 => exE hw3 (fun xz2_153 hw4 => exE hw4 (fun xf2_154 hw5 => exE hw5 (fun xp2_155 hw6 => exE hw6 (fun ju2_156 hw7 => exE hw7 (fun jr2_157 hw8 => exE hw8 (fun jb2_158 hw9 => exE hw9 (fun jw2_159 hw10 => anE hw10 (fun hxa2_160 hw11 => anE hw11 (fun hxz2_161 hw12 => anE hw12 (fun hnb_162 eu_163 => ?_)))))))))))))
            clear hw hw1 hw2 hw3 hw4 hw5 hw6 hw7 hw8 hw9 hw10 hw11 hw12
            refine o_mgE (ws' := [(q 3, .inr (3, [.ref (q 2), .ref (q 22), .ref (q 23)])), (q 2, .inr (6, [.ref (q 0), .int (nI xa2_150), .int xv2_151, .int 0, .int xt2_152, .int (nI xz2_153), .int xf2_154, .int xp2_155])), (q 0, .inr (10, [.ref (q 20), .int (nI tl)])), (q 20, .inl (cI, 1600, .inl (fun j => nI (tb j)))), (q 22, .inr (8, [.ref (q 2), .int 0])), (q 23, .inr (8, [.ref (q 2), .int 1])), (q 6, .inr (2, [.ref (q 24), .ref (q 25), .ref (q 26), .ref (q 27), .ref (q 28), .int (nI jd2_24), .int (nI jm2_25), .int ju2_156, .int jr2_157, .int (nI yn)])), (q 24, .inr (0, [.ref (q 29), .ref (q 30), .ref (q 31), .ref (q 32), .int (nI yc), .int (nI yx)])), (q 29, .inl (cI, 1600, .inl y1)), (q 27, .inl (cI, 3, .inl yf)), (q 28, .inl (cI, 3, .inl yt)), (q 25, .inl (cI, 9, .inl jb2_158)), (q 26, .inl (cI, 9, .inl jw2_159))]) eu_163 hP hD rfl (fun hP hD => ?_)
            have hO_164 := ll_nb htb hzO hzm (by assumption) (by assumption) (by assumption) hnb_162
            obtain ⟨mu_165, hmu_165⟩ := nb_mu hnb_162 hzm
            exact jn_81 xa2_150 xv2_151 xt2_152 xz2_153 xf2_154 xp2_155 ju2_156 jr2_157 yc yx y1 yf yt jb2_158 jw2_159 mu_165 (bindR zo (bodyR tb tl)) _ _ _ hO_164 hxa2_160 hxz2_161 hyc hyx hmu_165 rfl hP hD hS (lv_sub hl [0, 1] rfl)
  exact lp_36 (60 - 1 + 1) xa2_18 xv2_19 xt2_20 xz2_21 xf2_22 xp2_23 0 0 1 0 0 j1 gf_1 gt_2 gb_3 gw_4 (fun _ => false) (openP tb tl (sk tb tl 0, false)) _ _ _ (Nat.lt_succ_self _) hO_35 (by omega) hxa2_26 hxz2_27 (by omega) (by omega) muO_0 (len5_open) (show bindR _ (stP tb tl 59) = _ from rfl) hP hD hS (lv_sub hl [0, 1] rfl)
/-! bytes -/
def lo8 (x : Int32) : Nat := (x &&& 255).toBitVec.toNat
theorem lo8_le (x : Int32) : lo8 x ≤ 255 := by
  unfold lo8
  rw [Int32.toBitVec_and, BitVec.toNat_and]
  exact Nat.and_le_right
theorem lo8_eq (x : Int32) : x &&& 255 = nI (lo8 x) := by
  refine Int32.toBitVec_inj.mp ?_
  show _ = BitVec.ofNat 32 _
  unfold lo8
  rw [BitVec.ofNat_toNat, BitVec.setWidth_eq]
theorem lo8_nI {k : Nat} (h : k ≤ 255) : lo8 (nI k) = k := by
  have h1 : ∀ k, k < 256 → lo8 (nI k) = k := by decide +kernel
  exact h1 k (by omega)
/-- the k-th of the twenty bytes -/
def wByte (a b c d e : Int32) (k : Nat) : Nat := lo8 ((if k < 4 then a else if k < 8 then b else if k < 12 then c else if k < 16 then d else e) >>> (nI (8 * (3 - k % 4)) &&& 31))
def feedN (tb : Nat → Nat) (t : Nat) (f : Nat → Nat) : Nat → Nat → Nat
  | 0 => tb
  | k + 1 => updN (feedN tb t f k) (t + k) (f k)
def feedT (tb : Nat → Nat) (t : Nat) (a b c d e : Int32) : Nat → Nat := feedN tb t (wByte a b c d e) 20
theorem ush_lo (x : BitVec 32) (s : Nat) (hs : s ≤ 24) : (x >>> s) &&& 255#32 = (x.sshiftRight s) &&& 255#32 := by
  apply BitVec.eq_of_getLsbD_eq
  intro i hi
  rw [BitVec.getLsbD_and, BitVec.getLsbD_and]
  by_cases h : i < 8
  · rw [BitVec.getLsbD_ushiftRight, BitVec.getLsbD_sshiftRight]
    rw [if_pos (by omega)]
    simp [show ¬ 32 ≤ i by omega]
  · have h0 : ∀ i, i < 32 → 8 ≤ i → (255#32).getLsbD i = false := by decide
    rw [h0 i hi (by omega), Bool.and_false, Bool.and_false]
theorem by_s (x S : Int32) (k : Nat) (hk : k ≤ 24) (h1 : ((S.toUInt32 &&& Int32.toUInt32 31).toBitVec % 32).toNat = k) (h2 : ((nI k &&& 31).toBitVec.smod 32).toNat = k) : lo8 ((x.toUInt32 >>> (S.toUInt32 &&& Int32.toUInt32 31)).toInt32) = lo8 (x >>> (nI k &&& 31)) := by
  have e1 : (x.toUInt32 >>> (S.toUInt32 &&& Int32.toUInt32 31)).toInt32.toBitVec = x.toBitVec >>> k := by
    rw [← h1]
    exact UInt32.toBitVec_shiftRight _ _
  have e2 : (x >>> (nI k &&& 31)).toBitVec = x.toBitVec.sshiftRight k := by
    show x.toBitVec.sshiftRight _ = _
    rw [h2]
  have e3 : ((255 : Int32)).toBitVec = 255#32 := by decide
  unfold lo8
  rw [Int32.toBitVec_and, Int32.toBitVec_and, e1, e2, e3, ush_lo _ _ hk]
theorem by_0 (x : Int32) : lo8 x = lo8 (x >>> (nI 0 &&& 31)) := by
  have e2 : (x >>> (nI 0 &&& 31)).toBitVec = x.toBitVec.sshiftRight 0 := by
    show x.toBitVec.sshiftRight _ = _
    rw [show ((nI 0 &&& 31).toBitVec.smod 32).toNat = 0 by decide]
  unfold lo8
  rw [Int32.toBitVec_and, Int32.toBitVec_and, e2, BitVec.sshiftRight_zero]
theorem by_24 (x : Int32) : lo8 ((x.toUInt32 >>> ((24 : Int32).toUInt32 &&& Int32.toUInt32 31)).toInt32) = lo8 (x >>> (nI 24 &&& 31)) := by_s x 24 24 (by decide) (by decide) (by decide)
theorem by_16 (x : Int32) : lo8 ((x.toUInt32 >>> ((16 : Int32).toUInt32 &&& Int32.toUInt32 31)).toInt32) = lo8 (x >>> (nI 16 &&& 31)) := by_s x 16 16 (by decide) (by decide) (by decide)
theorem by_8 (x : Int32) : lo8 ((x.toUInt32 >>> ((8 : Int32).toUInt32 &&& Int32.toUInt32 31)).toInt32) = lo8 (x >>> (nI 8 &&& 31)) := by_s x 8 8 (by decide) (by decide) (by decide)
def add4 (tb : Nat → Nat) (t : Nat) (x : Int32) : Nat → Nat := updN (updN (updN (updN tb t (lo8 (x >>> (nI 24 &&& 31)))) (t + 1) (lo8 (x >>> (nI 16 &&& 31)))) (t + 2) (lo8 (x >>> (nI 8 &&& 31)))) (t + 3) (lo8 (x >>> (nI 0 &&& 31)))
theorem add_5 (tb : Nat → Nat) (t : Nat) (a b c d e : Int32) : add4 (add4 (add4 (add4 (add4 tb t a) (t + 4) b) (t + 4 + 4) c) (t + 4 + 4 + 4) d) (t + 4 + 4 + 4 + 4) e = feedT tb t a b c d e := rfl
theorem sk_iastX {p : Program} {l : Launch} {e : Env} {R : Room} {s : State} {m : MethodId} {args : Array Value} {below : List Frame} {meth : Method} {c : Code} {H : Heap} {locs : List Loc} {cells slots : Nat} {Q : State → Prop} {cc : ByteArray} {pc : Nat} {ls : Array Slot} {rest : List Value} {D : va_G} {tys : List (ClassId × FieldType)} {ws : va_W} {A : Nat → Prop} {H0 : Heap} {a : Nat} (hexec : p.tables.exec = Jvm.exec) (hb : c.code = cc) (hK : skK D tys s) (hP : va_P D vwCl ws H) (hD : va_D A ws) (hS : va_S A H0 H locs) (q0 t0 : Nat) {cA : ClassId} {n B : Nat} {f : Nat → Nat} {ws' : (Nat → Nat) → va_W} (ha : ws[q0]? = some (a, .inl (cA, n, .inl (fun j => nI (f j))))) (ht : tys[t0]? = some (cA, .int)) {k v : Nat} (hk : k < n) (hn : n < 2147483648) (hf : ∀ j, f j ≤ B) (hv : v ≤ B) (hw' : ∀ f', ws.set q0 (a, .inl (cA, n, .inl (fun j => nI (f' j)))) = ws' f') (hdg : decode cc pc = .ok (.iastore, 1))
    (kk : ∀ (f' : Nat → Nat) (H1 : Heap) (locs1 : List Loc), (∀ j, f' j ≤ B) → f' = updN f k v → va_P D vwCl (ws' f') H1 → va_D A (ws' f') → va_S A H0 H1 locs1 → W p l e R s m args below meth c H1 locs1 cells slots Q (F0 m (pc + 1) ls rest)) : W p l e R s m args below meth c H locs cells slots Q (F0 m pc ls (.int (nI v) :: .int (nI k) :: .ref a :: rest)) := by
  refine va_iast hexec hb hK.1 hP hD hS q0 t0 ha ht (vin k n hk hn) hdg (fun H1 locs1 h1 h2 h3 => ?_)
  rw [updN_fun f k v (by omega)] at h1 h2
  exact kk _ H1 locs1 (updN_le hf hv) rfl ((hw' _) ▸ h1) ((hw' _) ▸ h2) h3
def chkN (tb : Nat → Nat) : Nat → Nat
  | 0 => 139
  | k + 1 => (3 * chkN tb k + tb k) % 251
set_option maxHeartbeats 4000000 in
set_option maxRecDepth 100000 in
theorem c_eTape_add_1600 (l : Launch) (D : va_G) (cI cJ cC cZ cS : ClassId) (h0 : Nat) (k1 : Nat) (tl : Nat) (tb : Nat → Nat) (o : Int32) (htl : tl ≤ 1600) (htb : ∀ j, tb j ≤ 255) : skM l yX10_add cX10_add 2 none 0 0 0 0 D (skT cI cJ cC cZ cS) [.ref h0, .int o] [(h0, .inr (10, [.ref k1, .int (nI tl)])), (k1, .inl (cI, 1600, .inl (fun j => nI (tb j))))] (skV D (skT cI cJ cC cZ cS) (fun (u : va_W) => ∃ (t2 : Nat), ∃ (tb2 : Nat → Nat), ((tl < 1600 ∧ t2 = tl + 1) ∨ (1600 ≤ tl ∧ t2 = tl)) ∧ (∀ j, tb2 j ≤ 255) ∧ (tl < 1600 → tb2 = updN tb tl (lo8 o)) ∧ u = [(h0, .inr (10, [.ref k1, .int (nI t2)])), (k1, .inl (cI, 1600, .inl (fun j => nI (tb2 j))))])) := by
  refine skM_of pf_X10_add (Nat.le_of_ble_eq_true rfl) ?_
  intro p e s m below meth c A ls E hP hD hl
  refine skE_el E (fun hx hb hr hml hlocks hin hown hts hK hA => ?_)
  have hown : s.vm.findClass RX10 = some m.cls := hown
  have hS : va_S A s.heap s.heap [] := va_S.rf
  have hl : lv_has ls 2 [(0, .ref h0), (1, .int o)] := hl
  refine lv_aload_n hx hb dX10_add_0 rfl (lv_at hl 0 rfl) ?_
  refine sk_get (v := .int (nI tl)) (C := RX10) (T := TX10) (N := 2) hx hb hts inlX10 hown hK hP 0 rfl rfl 1 (Nat.le_of_ble_eq_true rfl) w_1_41 rfl dX10_add_1 ?_
  refine lv_aload_n hx hb dX10_add_4 rfl (lv_at hl 0 rfl) ?_
  refine sk_get (v := .ref k1) (C := RX10) (T := TX10) (N := 2) hx hb hts inlX10 hown hK hP 0 rfl rfl 0 (Nat.le_of_ble_eq_true rfl) w_1_39 rfl dX10_add_5 ?_
  refine va_alen (v := 1600) hx hb hK.1 hP 1 0 rfl rfl rfl dX10_add_8 ?_
  refine lv_icmp_ge (tgt := 36) hx hb dX10_add_9 (by decide) (fun c_1 => ?_) (fun c_1 => ?_)
  · have c_1 : 1600 ≤ tl := (nle 1600 tl (Nat.le_of_ble_eq_true rfl) (by omega)).mp c_1
    exact sk_vret hx hb hr hlocks hK hP hD hS (⟨tl, tb, by omega, htb, (fun hq => absurd hq (by omega)), rfl⟩) (Nat.le_of_ble_eq_true rfl) (Nat.le_of_ble_eq_true rfl) dX10_add_36
  · have c_1 : ¬ (1600 ≤ tl) := fun h => c_1 ((nle 1600 tl (Nat.le_of_ble_eq_true rfl) (by omega)).mpr h)
    refine lv_aload_n hx hb dX10_add_12 rfl (lv_at hl 0 rfl) ?_
    refine sk_get (v := .ref k1) (C := RX10) (T := TX10) (N := 2) hx hb hts inlX10 hown hK hP 0 rfl rfl 0 (Nat.le_of_ble_eq_true rfl) w_1_39 rfl dX10_add_13 ?_
    refine lv_aload_n hx hb dX10_add_16 rfl (lv_at hl 0 rfl) ?_
    refine sk_get (v := .int (nI tl)) (C := RX10) (T := TX10) (N := 2) hx hb hts inlX10 hown hK hP 0 rfl rfl 1 (Nat.le_of_ble_eq_true rfl) w_1_41 rfl dX10_add_17 ?_
    refine lv_iload_n hx hb dX10_add_20 rfl (lv_at hl 1 rfl) ?_
    refine lv_sipush (v := 255) hx hb dX10_add_21 (by decide) ?_
    refine lv_iand hx hb dX10_add_24 ?_
    have hlo_2 := lo8_le o
    refine sk_top (nI (lo8 o)) (lo8_eq o) ?_
    refine sk_iastX (k := tl) (v := (lo8 o)) (B := 255) (ws' := fun f_3 => [(h0, .inr (10, [.ref k1, .int (nI tl)])), (k1, .inl (cI, 1600, .inl (fun j => nI (f_3 j))))]) hx hb hK hP hD hS 1 0 rfl rfl (by omega) (by omega) htb (by omega) (fun _ => rfl) dX10_add_25 (fun f_3 H locs hf_4 ef_5 hP hD hS => ?_)
    refine lv_aload_n hx hb dX10_add_26 rfl (lv_at hl 0 rfl) ?_
    refine lv_dup hx hb dX10_add_27 rfl ?_
    refine sk_get (v := .int (nI tl)) (C := RX10) (T := TX10) (N := 2) hx hb hts inlX10 hown hK hP 0 rfl rfl 1 (Nat.le_of_ble_eq_true rfl) w_1_41 rfl dX10_add_28 ?_
    refine lv_iconst (v := 1) hx hb dX10_add_31 ic_1 ?_
    refine lv_iadd hx hb dX10_add_32 ?_
    refine sk_top (nI (tl + 1)) (nI_add tl 1) ?_
    refine sk_put (ws' := [(h0, .inr (10, [.ref k1, .int (nI (tl + 1))])), (k1, .inl (cI, 1600, .inl (fun j => nI (f_3 j))))]) (C := RX10) (T := TX10) (N := 2) (v := .int (nI (tl + 1))) hx hb hts inlX10 tyX10 tyX10_ok nmX10 hown hK hP hD hS 0 rfl rfl 1 (Nat.le_of_ble_eq_true rfl) w_1_41 rfl rfl rfl (Nat.le_of_ble_eq_true rfl) rfl dX10_add_33 (fun H locs hP hD hS => ?_)
    exact sk_vret hx hb hr hlocks hK hP hD hS (⟨tl + 1, f_3, by omega, hf_4, (fun _ => ef_5), rfl⟩) (Nat.le_of_ble_eq_true rfl) (Nat.le_of_ble_eq_true rfl) dX10_add_36
set_option maxHeartbeats 4000000 in
set_option maxRecDepth 100000 in
theorem c_eTape_left_1600 (l : Launch) (D : va_G) (cI cJ cC cZ cS : ClassId) (h0 : Nat) (k1 : Nat) (tl : Nat) (tb : Nat → Nat) (k : Nat) (htl : tl ≤ 1600) (htb : ∀ j, tb j ≤ 255) (hk : k < 1600) : skM l yX10_left cX10_left 2 (some .int) 0 0 0 0 D (skT cI cJ cC cZ cS) [.ref h0, .int (nI k)] [(h0, .inr (10, [.ref k1, .int (nI tl)])), (k1, .inl (cI, 1600, .inl (fun j => nI (tb j))))] (skI D (skT cI cJ cC cZ cS) (fun (r : Int32) (u : va_W) => tb k ≤ 255 ∧ r = nI (tb k) ∧ u = [(h0, .inr (10, [.ref k1, .int (nI tl)])), (k1, .inl (cI, 1600, .inl (fun j => nI (tb j))))])) := by
  refine skM_of pf_X10_left (Nat.le_of_ble_eq_true rfl) ?_
  intro p e s m below meth c A ls E hP hD hl
  refine skE_el E (fun hx hb hr hml hlocks hin hown hts hK hA => ?_)
  have hown : s.vm.findClass RX10 = some m.cls := hown
  have hS : va_S A s.heap s.heap [] := va_S.rf
  have hl : lv_has ls 2 [(0, .ref h0), (1, .int (nI k))] := hl
  refine lv_iload_n hx hb dX10_left_0 rfl (lv_at hl 1 rfl) ?_
  refine lv_if_lt (tgt := 22) hx hb dX10_left_1 (by decide) (fun c => absurd c (nI_pos (by omega))) (fun c_1 => ?_)
  refine lv_iload_n hx hb dX10_left_4 rfl (lv_at hl 1 rfl) ?_
  refine lv_aload_n hx hb dX10_left_5 rfl (lv_at hl 0 rfl) ?_
  refine sk_get (v := .ref k1) (C := RX10) (T := TX10) (N := 2) hx hb hts inlX10 hown hK hP 0 rfl rfl 0 (Nat.le_of_ble_eq_true rfl) w_1_39 rfl dX10_left_6 ?_
  refine va_alen (v := 1600) hx hb hK.1 hP 1 0 rfl rfl rfl dX10_left_9 ?_
  refine lv_icmp_ge (tgt := 22) hx hb dX10_left_10 (by decide) (fun c => absurd c (fun h9 => absurd ((nle 1600 k (Nat.le_of_ble_eq_true rfl) (by omega)).mp h9) (by omega))) (fun c_2 => ?_)
  refine lv_aload_n hx hb dX10_left_13 rfl (lv_at hl 0 rfl) ?_
  refine sk_get (v := .ref k1) (C := RX10) (T := TX10) (N := 2) hx hb hts inlX10 hown hK hP 0 rfl rfl 0 (Nat.le_of_ble_eq_true rfl) w_1_39 rfl dX10_left_14 ?_
  refine lv_iload_n hx hb dX10_left_17 rfl (lv_at hl 1 rfl) ?_
  refine va_iald hx hb hK.1 hP 1 0 rfl rfl (vin k 1600 (by omega) (Nat.le_of_ble_eq_true rfl)) dX10_left_18 ?_
  refine sk_top (nI (tb k)) (nrd tb k (by omega)) ?_
  have hb_3 := htb k
  refine lv_goto (tgt := 23) hx hb dX10_left_19 (by decide) ?_
  exact sk_iret hx hb hr rfl hlocks hK hP hD hS (⟨htb k, rfl, rfl⟩) (Nat.le_of_ble_eq_true rfl) (Nat.le_of_ble_eq_true rfl) dX10_left_23
set_option maxHeartbeats 4000000 in
set_option maxRecDepth 100000 in
theorem c_eTape_checkOf_1600 (l : Launch) (D : va_G) (cI cJ cC cZ cS : ClassId) (h0 : Nat) (k1 : Nat) (tl : Nat) (tb : Nat → Nat) (cn : Nat) (htl : tl ≤ 1600) (htb : ∀ j, tb j ≤ 255) (hcn : cn ≤ 1600) : skM l yX10_checkOf cX10_checkOf 4 (some .int) 1 21 0 0 D (skT cI cJ cC cZ cS) [.ref h0, .int (nI cn)] [(h0, .inr (10, [.ref k1, .int (nI tl)])), (k1, .inl (cI, 1600, .inl (fun j => nI (tb j))))] (skI D (skT cI cJ cC cZ cS) (fun (r : Int32) (u : va_W) => ∃ (ck2 : Nat), ck2 = chkN tb cn ∧ ck2 < 251 ∧ r = nI ck2 ∧ u = [(h0, .inr (10, [.ref k1, .int (nI tl)])), (k1, .inl (cI, 1600, .inl (fun j => nI (tb j))))])) := by
  refine skM_of pf_X10_checkOf (Nat.le_of_ble_eq_true rfl) ?_
  intro p e s m below meth c A ls E hP hD hl
  refine skE_el E (fun hx hb hr hml hlocks hin hown hts hK hA => ?_)
  have hown : s.vm.findClass RX10 = some m.cls := hown
  have hS : va_S A s.heap s.heap [] := va_S.rf
  have hl : lv_has ls 4 [(0, .ref h0), (1, .int (nI cn))] := hl
  refine lv_sipush (v := 139) hx hb dX10_checkOf_0 (by decide) ?_
  refine lv_istore_n (lv' := [(2, .int 139), (0, .ref h0), (1, .int (nI cn))]) hx hb dX10_checkOf_3 rfl hl (by decide) rfl (fun ls hl => ?_)
  refine lv_iconst (v := 0) hx hb dX10_checkOf_4 ic_0 ?_
  refine lv_istore_n (lv' := [(3, .int 0), (2, .int 139), (0, .ref h0), (1, .int (nI cn))]) hx hb dX10_checkOf_5 rfl hl (by decide) rfl (fun ls hl => ?_)
  have lp_1 : ∀ (n_2 : Nat) (i : Nat) (ck : Nat) (H : Heap) (locs : List Loc) (ls : Array Slot), cn - i < n_2 → (i ≤ cn) → (ck < 251) → (ck = chkN tb i) → va_P D vwCl [(h0, .inr (10, [.ref k1, .int (nI tl)])), (k1, .inl (cI, 1600, .inl (fun j => nI (tb j))))] H → va_D A [(h0, .inr (10, [.ref k1, .int (nI tl)])), (k1, .inl (cI, 1600, .inl (fun j => nI (tb j))))] → va_S A s.heap H locs → lv_has ls 4 [(3, .int (nI i)), (2, .int (nI ck)), (0, .ref h0), (1, .int (nI cn))] → W p l e { frames := 1, cells := 0, slots := 0, locals := 21 } s m ([.ref h0, .int (nI cn)] : List Value).toArray below meth c H locs 0 0 (MQ below (skI D (skT cI cJ cC cZ cS) (fun (r : Int32) (u : va_W) => ∃ (ck2 : Nat), ck2 = chkN tb cn ∧ ck2 < 251 ∧ r = nI ck2 ∧ u = [(h0, .inr (10, [.ref k1, .int (nI tl)])), (k1, .inl (cI, 1600, .inl (fun j => nI (tb j))))]) A) ([.ref h0, .int (nI cn)] : List Value).toArray s 0 0 A) (F0 m 6 ls []) := by
    intro n_2
    induction n_2 with
    | zero => intro i ck H locs ls hm; exact absurd hm (Nat.not_lt_zero _)
    | succ n_2 ih_lp_1 =>
      intro i ck H locs ls hm hi hc9 hci hP hD hS hl
      refine lv_iload_n hx hb dX10_checkOf_6 rfl (lv_at hl 0 rfl) ?_
      refine lv_iload_n hx hb dX10_checkOf_7 rfl (lv_at hl 3 rfl) ?_
      refine lv_icmp_ge (tgt := 31) hx hb dX10_checkOf_8 (by decide) (fun c_3 => ?_) (fun c_3 => ?_)
      · have c_3 : cn ≤ i := (nle cn i (by omega) (by omega)).mp c_3
        refine lv_iload_n hx hb dX10_checkOf_31 rfl (lv_at hl 1 rfl) ?_
        exact sk_iret hx hb hr rfl hlocks hK hP hD hS (⟨ck, (by rw [show cn = i by omega]; exact hci), hc9, rfl, rfl⟩) (Nat.le_of_ble_eq_true rfl) (Nat.le_of_ble_eq_true rfl) dX10_checkOf_32
      · have c_3 : ¬ (cn ≤ i) := fun h => c_3 ((nle cn i (by omega) (by omega)).mpr h)
        refine lv_iconst (v := 3) hx hb dX10_checkOf_11 ic_3 ?_
        refine lv_iload_n hx hb dX10_checkOf_12 rfl (lv_at hl 1 rfl) ?_
        refine lv_imul hx hb dX10_checkOf_13 ?_
        refine sk_top (nI (3 * ck)) (nmul 3 ck) ?_
        refine lv_aload_n hx hb dX10_checkOf_14 rfl (lv_at hl 2 rfl) ?_
        refine lv_iload_n hx hb dX10_checkOf_15 rfl (lv_at hl 0 rfl) ?_
        refine sk_Vi (q0 := 0) (n := 1) (rest := [.int (nI (3 * ck))]) (wr := fmR om_2_3 _) ⟨hx, hb, hml, hown, hts⟩ hl.1 (c_eTape_left_1600 l D cI cJ cC cZ cS h0 k1 tl tb i htl htb (by omega)) w_5_132 w_4_215 w_4_216 w_1_2 w_4_217 hd_X10_left_1 ⟨⟨(Nat.le_of_ble_eq_true rfl), (Nat.le_of_ble_eq_true rfl)⟩, (Nat.le_of_ble_eq_true rfl), (Nat.le_of_ble_eq_true rfl)⟩ hK hP hD hS hA (fmT om_2_3 0) (fmF om_2_3 0) (fm_C1 rfl rfl) (fm_R rfl rfl) (fm_nT om_2_3 0) (fm_nF om_2_3 0) (fm_di om_2_3 0) rfl rfl rfl rfl (Nat.le_of_ble_eq_true rfl) dX10_checkOf_16 (fun r_4 u H locs hw hP hD hS => ?_)
        refine anE hw (fun hv_5 hw1 => anE hw1 (fun er_7 eu_6 => ?_))
        clear hw hw1
        subst er_7
        refine o_mgE (ws' := [(h0, .inr (10, [.ref k1, .int (nI tl)])), (k1, .inl (cI, 1600, .inl (fun j => nI (tb j))))]) eu_6 hP hD rfl (fun hP hD => ?_)
        refine lv_iadd hx hb dX10_checkOf_19 ?_
        refine sk_top (nI (3 * ck + (tb i))) (nI_add (3 * ck) (tb i)) ?_
        refine lv_sipush (v := 251) hx hb dX10_checkOf_20 (by decide) ?_
        refine lv_irem hx hb dX10_checkOf_23 (by decide) ?_
        refine sk_top (nI ((3 * ck + (tb i)) % 251)) (nrem (3 * ck + (tb i)) 251 (by omega) (by omega) (by omega)) ?_
        refine lv_istore_n (lv' := [(2, .int (nI ((3 * ck + (tb i)) % 251))), (3, .int (nI i)), (0, .ref h0), (1, .int (nI cn))]) hx hb dX10_checkOf_24 rfl hl (by decide) rfl (fun ls hl => ?_)
        refine lv_iinc (v := nI (i + 1)) (lv' := [(3, .int (nI (i + 1))), (2, .int (nI ((3 * ck + (tb i)) % 251))), (0, .ref h0), (1, .int (nI cn))]) hx hb dX10_checkOf_25 hl (k := 1) rfl (ninc i 1 (by decide)) (by decide) rfl (fun ls hl => ?_)
        refine lv_goto (tgt := 6) hx hb dX10_checkOf_28 (by decide) ?_
        exact ih_lp_1 (i + 1) ((3 * ck + (tb i)) % 251) _ _ _ (by omega) (by omega) (by omega) (by rw [chkN, ← hci]) hP hD hS (lv_sub hl [0, 1, 2, 3] rfl)
  exact lp_1 (cn - 0 + 1) 0 139 _ _ _ (Nat.lt_succ_self _) (by omega) (by omega) rfl hP hD hS (lv_sub hl [0, 1, 2, 3] rfl)
set_option maxHeartbeats 4000000 in
set_option maxRecDepth 100000 in
theorem c_eTape_add_31 (l : Launch) (D : va_G) (cI cJ cC cZ cS : ClassId) (h0 : Nat) (k1 : Nat) (tl : Nat) (tb : Nat → Nat) (o : Int32) (htl : tl ≤ 31) (htb : ∀ j, tb j ≤ 255) : skM l yX10_add cX10_add 2 none 0 0 0 0 D (skT cI cJ cC cZ cS) [.ref h0, .int o] [(h0, .inr (10, [.ref k1, .int (nI tl)])), (k1, .inl (cI, 31, .inl (fun j => nI (tb j))))] (skV D (skT cI cJ cC cZ cS) (fun (u : va_W) => ∃ (t2 : Nat), ∃ (tb2 : Nat → Nat), ((tl < 31 ∧ t2 = tl + 1) ∨ (31 ≤ tl ∧ t2 = tl)) ∧ (∀ j, tb2 j ≤ 255) ∧ (tl < 31 → tb2 = updN tb tl (lo8 o)) ∧ u = [(h0, .inr (10, [.ref k1, .int (nI t2)])), (k1, .inl (cI, 31, .inl (fun j => nI (tb2 j))))])) := by
  refine skM_of pf_X10_add (Nat.le_of_ble_eq_true rfl) ?_
  intro p e s m below meth c A ls E hP hD hl
  refine skE_el E (fun hx hb hr hml hlocks hin hown hts hK hA => ?_)
  have hown : s.vm.findClass RX10 = some m.cls := hown
  have hS : va_S A s.heap s.heap [] := va_S.rf
  have hl : lv_has ls 2 [(0, .ref h0), (1, .int o)] := hl
  refine lv_aload_n hx hb dX10_add_0 rfl (lv_at hl 0 rfl) ?_
  refine sk_get (v := .int (nI tl)) (C := RX10) (T := TX10) (N := 2) hx hb hts inlX10 hown hK hP 0 rfl rfl 1 (Nat.le_of_ble_eq_true rfl) w_1_41 rfl dX10_add_1 ?_
  refine lv_aload_n hx hb dX10_add_4 rfl (lv_at hl 0 rfl) ?_
  refine sk_get (v := .ref k1) (C := RX10) (T := TX10) (N := 2) hx hb hts inlX10 hown hK hP 0 rfl rfl 0 (Nat.le_of_ble_eq_true rfl) w_1_39 rfl dX10_add_5 ?_
  refine va_alen (v := 31) hx hb hK.1 hP 1 0 rfl rfl rfl dX10_add_8 ?_
  refine lv_icmp_ge (tgt := 36) hx hb dX10_add_9 (by decide) (fun c_1 => ?_) (fun c_1 => ?_)
  · have c_1 : 31 ≤ tl := (nle 31 tl (Nat.le_of_ble_eq_true rfl) (by omega)).mp c_1
    exact sk_vret hx hb hr hlocks hK hP hD hS (⟨tl, tb, by omega, htb, (fun hq => absurd hq (by omega)), rfl⟩) (Nat.le_of_ble_eq_true rfl) (Nat.le_of_ble_eq_true rfl) dX10_add_36
  · have c_1 : ¬ (31 ≤ tl) := fun h => c_1 ((nle 31 tl (Nat.le_of_ble_eq_true rfl) (by omega)).mpr h)
    refine lv_aload_n hx hb dX10_add_12 rfl (lv_at hl 0 rfl) ?_
    refine sk_get (v := .ref k1) (C := RX10) (T := TX10) (N := 2) hx hb hts inlX10 hown hK hP 0 rfl rfl 0 (Nat.le_of_ble_eq_true rfl) w_1_39 rfl dX10_add_13 ?_
    refine lv_aload_n hx hb dX10_add_16 rfl (lv_at hl 0 rfl) ?_
    refine sk_get (v := .int (nI tl)) (C := RX10) (T := TX10) (N := 2) hx hb hts inlX10 hown hK hP 0 rfl rfl 1 (Nat.le_of_ble_eq_true rfl) w_1_41 rfl dX10_add_17 ?_
    refine lv_iload_n hx hb dX10_add_20 rfl (lv_at hl 1 rfl) ?_
    refine lv_sipush (v := 255) hx hb dX10_add_21 (by decide) ?_
    refine lv_iand hx hb dX10_add_24 ?_
    have hlo_2 := lo8_le o
    refine sk_top (nI (lo8 o)) (lo8_eq o) ?_
    refine sk_iastX (k := tl) (v := (lo8 o)) (B := 255) (ws' := fun f_3 => [(h0, .inr (10, [.ref k1, .int (nI tl)])), (k1, .inl (cI, 31, .inl (fun j => nI (f_3 j))))]) hx hb hK hP hD hS 1 0 rfl rfl (by omega) (by omega) htb (by omega) (fun _ => rfl) dX10_add_25 (fun f_3 H locs hf_4 ef_5 hP hD hS => ?_)
    refine lv_aload_n hx hb dX10_add_26 rfl (lv_at hl 0 rfl) ?_
    refine lv_dup hx hb dX10_add_27 rfl ?_
    refine sk_get (v := .int (nI tl)) (C := RX10) (T := TX10) (N := 2) hx hb hts inlX10 hown hK hP 0 rfl rfl 1 (Nat.le_of_ble_eq_true rfl) w_1_41 rfl dX10_add_28 ?_
    refine lv_iconst (v := 1) hx hb dX10_add_31 ic_1 ?_
    refine lv_iadd hx hb dX10_add_32 ?_
    refine sk_top (nI (tl + 1)) (nI_add tl 1) ?_
    refine sk_put (ws' := [(h0, .inr (10, [.ref k1, .int (nI (tl + 1))])), (k1, .inl (cI, 31, .inl (fun j => nI (f_3 j))))]) (C := RX10) (T := TX10) (N := 2) (v := .int (nI (tl + 1))) hx hb hts inlX10 tyX10 tyX10_ok nmX10 hown hK hP hD hS 0 rfl rfl 1 (Nat.le_of_ble_eq_true rfl) w_1_41 rfl rfl rfl (Nat.le_of_ble_eq_true rfl) rfl dX10_add_33 (fun H locs hP hD hS => ?_)
    exact sk_vret hx hb hr hlocks hK hP hD hS (⟨tl + 1, f_3, by omega, hf_4, (fun _ => ef_5), rfl⟩) (Nat.le_of_ble_eq_true rfl) (Nat.le_of_ble_eq_true rfl) dX10_add_36
set_option maxHeartbeats 4000000 in
set_option maxRecDepth 100000 in
theorem c_eTape_left_31 (l : Launch) (D : va_G) (cI cJ cC cZ cS : ClassId) (h0 : Nat) (k1 : Nat) (tl : Nat) (tb : Nat → Nat) (k : Nat) (htl : tl ≤ 31) (htb : ∀ j, tb j ≤ 255) (hk : k < 31) : skM l yX10_left cX10_left 2 (some .int) 0 0 0 0 D (skT cI cJ cC cZ cS) [.ref h0, .int (nI k)] [(h0, .inr (10, [.ref k1, .int (nI tl)])), (k1, .inl (cI, 31, .inl (fun j => nI (tb j))))] (skI D (skT cI cJ cC cZ cS) (fun (r : Int32) (u : va_W) => tb k ≤ 255 ∧ r = nI (tb k) ∧ u = [(h0, .inr (10, [.ref k1, .int (nI tl)])), (k1, .inl (cI, 31, .inl (fun j => nI (tb j))))])) := by
  refine skM_of pf_X10_left (Nat.le_of_ble_eq_true rfl) ?_
  intro p e s m below meth c A ls E hP hD hl
  refine skE_el E (fun hx hb hr hml hlocks hin hown hts hK hA => ?_)
  have hown : s.vm.findClass RX10 = some m.cls := hown
  have hS : va_S A s.heap s.heap [] := va_S.rf
  have hl : lv_has ls 2 [(0, .ref h0), (1, .int (nI k))] := hl
  refine lv_iload_n hx hb dX10_left_0 rfl (lv_at hl 1 rfl) ?_
  refine lv_if_lt (tgt := 22) hx hb dX10_left_1 (by decide) (fun c => absurd c (nI_pos (by omega))) (fun c_1 => ?_)
  refine lv_iload_n hx hb dX10_left_4 rfl (lv_at hl 1 rfl) ?_
  refine lv_aload_n hx hb dX10_left_5 rfl (lv_at hl 0 rfl) ?_
  refine sk_get (v := .ref k1) (C := RX10) (T := TX10) (N := 2) hx hb hts inlX10 hown hK hP 0 rfl rfl 0 (Nat.le_of_ble_eq_true rfl) w_1_39 rfl dX10_left_6 ?_
  refine va_alen (v := 31) hx hb hK.1 hP 1 0 rfl rfl rfl dX10_left_9 ?_
  refine lv_icmp_ge (tgt := 22) hx hb dX10_left_10 (by decide) (fun c => absurd c (fun h9 => absurd ((nle 31 k (Nat.le_of_ble_eq_true rfl) (by omega)).mp h9) (by omega))) (fun c_2 => ?_)
  refine lv_aload_n hx hb dX10_left_13 rfl (lv_at hl 0 rfl) ?_
  refine sk_get (v := .ref k1) (C := RX10) (T := TX10) (N := 2) hx hb hts inlX10 hown hK hP 0 rfl rfl 0 (Nat.le_of_ble_eq_true rfl) w_1_39 rfl dX10_left_14 ?_
  refine lv_iload_n hx hb dX10_left_17 rfl (lv_at hl 1 rfl) ?_
  refine va_iald hx hb hK.1 hP 1 0 rfl rfl (vin k 31 (by omega) (Nat.le_of_ble_eq_true rfl)) dX10_left_18 ?_
  refine sk_top (nI (tb k)) (nrd tb k (by omega)) ?_
  have hb_3 := htb k
  refine lv_goto (tgt := 23) hx hb dX10_left_19 (by decide) ?_
  exact sk_iret hx hb hr rfl hlocks hK hP hD hS (⟨htb k, rfl, rfl⟩) (Nat.le_of_ble_eq_true rfl) (Nat.le_of_ble_eq_true rfl) dX10_left_23
set_option maxHeartbeats 4000000 in
set_option maxRecDepth 100000 in
theorem c_eTape_checkOf_31 (l : Launch) (D : va_G) (cI cJ cC cZ cS : ClassId) (h0 : Nat) (k1 : Nat) (tl : Nat) (tb : Nat → Nat) (cn : Nat) (htl : tl ≤ 31) (htb : ∀ j, tb j ≤ 255) (hcn : cn ≤ 31) : skM l yX10_checkOf cX10_checkOf 4 (some .int) 1 21 0 0 D (skT cI cJ cC cZ cS) [.ref h0, .int (nI cn)] [(h0, .inr (10, [.ref k1, .int (nI tl)])), (k1, .inl (cI, 31, .inl (fun j => nI (tb j))))] (skI D (skT cI cJ cC cZ cS) (fun (r : Int32) (u : va_W) => ∃ (ck2 : Nat), ck2 = chkN tb cn ∧ ck2 < 251 ∧ r = nI ck2 ∧ u = [(h0, .inr (10, [.ref k1, .int (nI tl)])), (k1, .inl (cI, 31, .inl (fun j => nI (tb j))))])) := by
  refine skM_of pf_X10_checkOf (Nat.le_of_ble_eq_true rfl) ?_
  intro p e s m below meth c A ls E hP hD hl
  refine skE_el E (fun hx hb hr hml hlocks hin hown hts hK hA => ?_)
  have hown : s.vm.findClass RX10 = some m.cls := hown
  have hS : va_S A s.heap s.heap [] := va_S.rf
  have hl : lv_has ls 4 [(0, .ref h0), (1, .int (nI cn))] := hl
  refine lv_sipush (v := 139) hx hb dX10_checkOf_0 (by decide) ?_
  refine lv_istore_n (lv' := [(2, .int 139), (0, .ref h0), (1, .int (nI cn))]) hx hb dX10_checkOf_3 rfl hl (by decide) rfl (fun ls hl => ?_)
  refine lv_iconst (v := 0) hx hb dX10_checkOf_4 ic_0 ?_
  refine lv_istore_n (lv' := [(3, .int 0), (2, .int 139), (0, .ref h0), (1, .int (nI cn))]) hx hb dX10_checkOf_5 rfl hl (by decide) rfl (fun ls hl => ?_)
  have lp_1 : ∀ (n_2 : Nat) (i : Nat) (ck : Nat) (H : Heap) (locs : List Loc) (ls : Array Slot), cn - i < n_2 → (i ≤ cn) → (ck < 251) → (ck = chkN tb i) → va_P D vwCl [(h0, .inr (10, [.ref k1, .int (nI tl)])), (k1, .inl (cI, 31, .inl (fun j => nI (tb j))))] H → va_D A [(h0, .inr (10, [.ref k1, .int (nI tl)])), (k1, .inl (cI, 31, .inl (fun j => nI (tb j))))] → va_S A s.heap H locs → lv_has ls 4 [(3, .int (nI i)), (2, .int (nI ck)), (0, .ref h0), (1, .int (nI cn))] → W p l e { frames := 1, cells := 0, slots := 0, locals := 21 } s m ([.ref h0, .int (nI cn)] : List Value).toArray below meth c H locs 0 0 (MQ below (skI D (skT cI cJ cC cZ cS) (fun (r : Int32) (u : va_W) => ∃ (ck2 : Nat), ck2 = chkN tb cn ∧ ck2 < 251 ∧ r = nI ck2 ∧ u = [(h0, .inr (10, [.ref k1, .int (nI tl)])), (k1, .inl (cI, 31, .inl (fun j => nI (tb j))))]) A) ([.ref h0, .int (nI cn)] : List Value).toArray s 0 0 A) (F0 m 6 ls []) := by
    intro n_2
    induction n_2 with
    | zero => intro i ck H locs ls hm; exact absurd hm (Nat.not_lt_zero _)
    | succ n_2 ih_lp_1 =>
      intro i ck H locs ls hm hi hc9 hci hP hD hS hl
      refine lv_iload_n hx hb dX10_checkOf_6 rfl (lv_at hl 0 rfl) ?_
      refine lv_iload_n hx hb dX10_checkOf_7 rfl (lv_at hl 3 rfl) ?_
      refine lv_icmp_ge (tgt := 31) hx hb dX10_checkOf_8 (by decide) (fun c_3 => ?_) (fun c_3 => ?_)
      · have c_3 : cn ≤ i := (nle cn i (by omega) (by omega)).mp c_3
        refine lv_iload_n hx hb dX10_checkOf_31 rfl (lv_at hl 1 rfl) ?_
        exact sk_iret hx hb hr rfl hlocks hK hP hD hS (⟨ck, (by rw [show cn = i by omega]; exact hci), hc9, rfl, rfl⟩) (Nat.le_of_ble_eq_true rfl) (Nat.le_of_ble_eq_true rfl) dX10_checkOf_32
      · have c_3 : ¬ (cn ≤ i) := fun h => c_3 ((nle cn i (by omega) (by omega)).mpr h)
        refine lv_iconst (v := 3) hx hb dX10_checkOf_11 ic_3 ?_
        refine lv_iload_n hx hb dX10_checkOf_12 rfl (lv_at hl 1 rfl) ?_
        refine lv_imul hx hb dX10_checkOf_13 ?_
        refine sk_top (nI (3 * ck)) (nmul 3 ck) ?_
        refine lv_aload_n hx hb dX10_checkOf_14 rfl (lv_at hl 2 rfl) ?_
        refine lv_iload_n hx hb dX10_checkOf_15 rfl (lv_at hl 0 rfl) ?_
        refine sk_Vi (q0 := 0) (n := 1) (rest := [.int (nI (3 * ck))]) (wr := fmR om_2_3 _) ⟨hx, hb, hml, hown, hts⟩ hl.1 (c_eTape_left_31 l D cI cJ cC cZ cS h0 k1 tl tb i htl htb (by omega)) w_5_132 w_4_215 w_4_216 w_1_2 w_4_217 hd_X10_left_1 ⟨⟨(Nat.le_of_ble_eq_true rfl), (Nat.le_of_ble_eq_true rfl)⟩, (Nat.le_of_ble_eq_true rfl), (Nat.le_of_ble_eq_true rfl)⟩ hK hP hD hS hA (fmT om_2_3 0) (fmF om_2_3 0) (fm_C1 rfl rfl) (fm_R rfl rfl) (fm_nT om_2_3 0) (fm_nF om_2_3 0) (fm_di om_2_3 0) rfl rfl rfl rfl (Nat.le_of_ble_eq_true rfl) dX10_checkOf_16 (fun r_4 u H locs hw hP hD hS => ?_)
        refine anE hw (fun hv_5 hw1 => anE hw1 (fun er_7 eu_6 => ?_))
        clear hw hw1
        subst er_7
        refine o_mgE (ws' := [(h0, .inr (10, [.ref k1, .int (nI tl)])), (k1, .inl (cI, 31, .inl (fun j => nI (tb j))))]) eu_6 hP hD rfl (fun hP hD => ?_)
        refine lv_iadd hx hb dX10_checkOf_19 ?_
        refine sk_top (nI (3 * ck + (tb i))) (nI_add (3 * ck) (tb i)) ?_
        refine lv_sipush (v := 251) hx hb dX10_checkOf_20 (by decide) ?_
        refine lv_irem hx hb dX10_checkOf_23 (by decide) ?_
        refine sk_top (nI ((3 * ck + (tb i)) % 251)) (nrem (3 * ck + (tb i)) 251 (by omega) (by omega) (by omega)) ?_
        refine lv_istore_n (lv' := [(2, .int (nI ((3 * ck + (tb i)) % 251))), (3, .int (nI i)), (0, .ref h0), (1, .int (nI cn))]) hx hb dX10_checkOf_24 rfl hl (by decide) rfl (fun ls hl => ?_)
        refine lv_iinc (v := nI (i + 1)) (lv' := [(3, .int (nI (i + 1))), (2, .int (nI ((3 * ck + (tb i)) % 251))), (0, .ref h0), (1, .int (nI cn))]) hx hb dX10_checkOf_25 hl (k := 1) rfl (ninc i 1 (by decide)) (by decide) rfl (fun ls hl => ?_)
        refine lv_goto (tgt := 6) hx hb dX10_checkOf_28 (by decide) ?_
        exact ih_lp_1 (i + 1) ((3 * ck + (tb i)) % 251) _ _ _ (by omega) (by omega) (by omega) (by rw [chkN, ← hci]) hP hD hS (lv_sub hl [0, 1, 2, 3] rfl)
  exact lp_1 (cn - 0 + 1) 0 139 _ _ _ (Nat.lt_succ_self _) (by omega) (by omega) rfl hP hD hS (lv_sub hl [0, 1, 2, 3] rfl)
set_option maxHeartbeats 4000000 in
set_option maxRecDepth 100000 in
theorem c_eTape_addNumber (l : Launch) (D : va_G) (cI cJ cC cZ cS : ClassId) (h0 : Nat) (k1 : Nat) (tl : Nat) (tb : Nat → Nat) (o : Int32) (htl : tl ≤ 1600) (htb : ∀ j, tb j ≤ 255) : skM l yX10_addNumber cX10_addNumber 2 none 1 21 0 0 D (skT cI cJ cC cZ cS) [.ref h0, .int o] [(h0, .inr (10, [.ref k1, .int (nI tl)])), (k1, .inl (cI, 1600, .inl (fun j => nI (tb j))))] (skV D (skT cI cJ cC cZ cS) (fun (u : va_W) => ∃ (t2 : Nat), ∃ (tb2 : Nat → Nat), ((tl ≤ 1596 → t2 = tl + 4)) ∧ t2 ≤ 1600 ∧ (∀ j, tb2 j ≤ 255) ∧ (tl ≤ 1596 → tb2 = add4 tb tl o) ∧ u = [(h0, .inr (10, [.ref k1, .int (nI t2)])), (k1, .inl (cI, 1600, .inl (fun j => nI (tb2 j))))])) := by
  refine skM_of pf_X10_addNumber (Nat.le_of_ble_eq_true rfl) ?_
  intro p e s m below meth c A ls E hP hD hl
  refine skE_el E (fun hx hb hr hml hlocks hin hown hts hK hA => ?_)
  have hown : s.vm.findClass RX10 = some m.cls := hown
  have hS : va_S A s.heap s.heap [] := va_S.rf
  have hl : lv_has ls 2 [(0, .ref h0), (1, .int o)] := hl
  refine lv_aload_n hx hb dX10_addNumber_0 rfl (lv_at hl 0 rfl) ?_
  refine lv_iload_n hx hb dX10_addNumber_1 rfl (lv_at hl 1 rfl) ?_
  refine lv_bipush (v := 24) hx hb dX10_addNumber_2 (by decide) ?_
  refine lv_iushr hx hb dX10_addNumber_4 rfl ?_
  refine sk_Vv (q0 := 0) (n := 1) (rest := []) (wr := fmR om_2_3 _) ⟨hx, hb, hml, hown, hts⟩ hl.1 (c_eTape_add_1600 l D cI cJ cC cZ cS h0 k1 tl tb (((o).toUInt32 >>> ((24 : Int32).toUInt32 &&& Int32.toUInt32 31)).toInt32) htl htb) w_2_190 w_2_191 w_2_192 w_1_2 w_2_193 hd_X10_add_1 ⟨⟨(Nat.le_of_ble_eq_true rfl), (Nat.le_of_ble_eq_true rfl)⟩, (Nat.le_of_ble_eq_true rfl), (Nat.le_of_ble_eq_true rfl)⟩ hK hP hD hS hA (fmT om_2_3 0) (fmF om_2_3 0) (fm_C1 rfl rfl) (fm_R rfl rfl) (fm_nT om_2_3 0) (fm_nF om_2_3 0) (fm_di om_2_3 0) rfl rfl rfl rfl (Nat.le_of_ble_eq_true rfl) dX10_addNumber_5 (fun u H locs hw hP hD hS => ?_)
  refine exE hw (fun t2_1 hw1 => exE hw1 (fun tb2_2 hw2 => anE hw2 (fun ht2_3 hw3 => anE hw3 (fun htb2_4 hw4 => anE hw4 (fun hup_5 eu_6 => ?_)))))
  clear hw hw1 hw2 hw3 hw4
  refine o_mgE (ws' := [(h0, .inr (10, [.ref k1, .int (nI t2_1)])), (k1, .inl (cI, 1600, .inl (fun j => nI (tb2_2 j))))]) eu_6 hP hD rfl (fun hP hD => ?_)
  refine lv_aload_n hx hb dX10_addNumber_8 rfl (lv_at hl 0 rfl) ?_
  refine lv_iload_n hx hb dX10_addNumber_9 rfl (lv_at hl 1 rfl) ?_
  refine lv_bipush (v := 16) hx hb dX10_addNumber_10 (by decide) ?_
  refine lv_iushr hx hb dX10_addNumber_12 rfl ?_
  refine sk_Vv (q0 := 0) (n := 1) (rest := []) (wr := fmR om_2_3 _) ⟨hx, hb, hml, hown, hts⟩ hl.1 (c_eTape_add_1600 l D cI cJ cC cZ cS h0 k1 t2_1 tb2_2 (((o).toUInt32 >>> ((16 : Int32).toUInt32 &&& Int32.toUInt32 31)).toInt32) (by omega) htb2_4) w_2_190 w_2_191 w_2_192 w_1_2 w_2_193 hd_X10_add_1 ⟨⟨(Nat.le_of_ble_eq_true rfl), (Nat.le_of_ble_eq_true rfl)⟩, (Nat.le_of_ble_eq_true rfl), (Nat.le_of_ble_eq_true rfl)⟩ hK hP hD hS hA (fmT om_2_3 0) (fmF om_2_3 0) (fm_C1 rfl rfl) (fm_R rfl rfl) (fm_nT om_2_3 0) (fm_nF om_2_3 0) (fm_di om_2_3 0) rfl rfl rfl rfl (Nat.le_of_ble_eq_true rfl) dX10_addNumber_13 (fun u H locs hw hP hD hS => ?_)
  refine exE hw (fun t2_7 hw1 => exE hw1 (fun tb2_8 hw2 => anE hw2 (fun ht2_9 hw3 => anE hw3 (fun htb2_10 hw4 => anE hw4 (fun hup_11 eu_12 => ?_)))))
  clear hw hw1 hw2 hw3 hw4
  refine o_mgE (ws' := [(h0, .inr (10, [.ref k1, .int (nI t2_7)])), (k1, .inl (cI, 1600, .inl (fun j => nI (tb2_8 j))))]) eu_12 hP hD rfl (fun hP hD => ?_)
  refine lv_aload_n hx hb dX10_addNumber_16 rfl (lv_at hl 0 rfl) ?_
  refine lv_iload_n hx hb dX10_addNumber_17 rfl (lv_at hl 1 rfl) ?_
  refine lv_bipush (v := 8) hx hb dX10_addNumber_18 (by decide) ?_
  refine lv_iushr hx hb dX10_addNumber_20 rfl ?_
  refine sk_Vv (q0 := 0) (n := 1) (rest := []) (wr := fmR om_2_3 _) ⟨hx, hb, hml, hown, hts⟩ hl.1 (c_eTape_add_1600 l D cI cJ cC cZ cS h0 k1 t2_7 tb2_8 (((o).toUInt32 >>> ((8 : Int32).toUInt32 &&& Int32.toUInt32 31)).toInt32) (by omega) htb2_10) w_2_190 w_2_191 w_2_192 w_1_2 w_2_193 hd_X10_add_1 ⟨⟨(Nat.le_of_ble_eq_true rfl), (Nat.le_of_ble_eq_true rfl)⟩, (Nat.le_of_ble_eq_true rfl), (Nat.le_of_ble_eq_true rfl)⟩ hK hP hD hS hA (fmT om_2_3 0) (fmF om_2_3 0) (fm_C1 rfl rfl) (fm_R rfl rfl) (fm_nT om_2_3 0) (fm_nF om_2_3 0) (fm_di om_2_3 0) rfl rfl rfl rfl (Nat.le_of_ble_eq_true rfl) dX10_addNumber_21 (fun u H locs hw hP hD hS => ?_)
  refine exE hw (fun t2_13 hw1 => exE hw1 (fun tb2_14 hw2 => anE hw2 (fun ht2_15 hw3 => anE hw3 (fun htb2_16 hw4 => anE hw4 (fun hup_17 eu_18 => ?_)))))
  clear hw hw1 hw2 hw3 hw4
  refine o_mgE (ws' := [(h0, .inr (10, [.ref k1, .int (nI t2_13)])), (k1, .inl (cI, 1600, .inl (fun j => nI (tb2_14 j))))]) eu_18 hP hD rfl (fun hP hD => ?_)
  refine lv_aload_n hx hb dX10_addNumber_24 rfl (lv_at hl 0 rfl) ?_
  refine lv_iload_n hx hb dX10_addNumber_25 rfl (lv_at hl 1 rfl) ?_
  refine sk_Vv (q0 := 0) (n := 1) (rest := []) (wr := fmR om_2_3 _) ⟨hx, hb, hml, hown, hts⟩ hl.1 (c_eTape_add_1600 l D cI cJ cC cZ cS h0 k1 t2_13 tb2_14 o (by omega) htb2_16) w_2_190 w_2_191 w_2_192 w_1_2 w_2_193 hd_X10_add_1 ⟨⟨(Nat.le_of_ble_eq_true rfl), (Nat.le_of_ble_eq_true rfl)⟩, (Nat.le_of_ble_eq_true rfl), (Nat.le_of_ble_eq_true rfl)⟩ hK hP hD hS hA (fmT om_2_3 0) (fmF om_2_3 0) (fm_C1 rfl rfl) (fm_R rfl rfl) (fm_nT om_2_3 0) (fm_nF om_2_3 0) (fm_di om_2_3 0) rfl rfl rfl rfl (Nat.le_of_ble_eq_true rfl) dX10_addNumber_26 (fun u H locs hw hP hD hS => ?_)
  refine exE hw (fun t2_19 hw1 => exE hw1 (fun tb2_20 hw2 => anE hw2 (fun ht2_21 hw3 => anE hw3 (fun htb2_22 hw4 => anE hw4 (fun hup_23 eu_24 => ?_)))))
  clear hw hw1 hw2 hw3 hw4
  refine o_mgE (ws' := [(h0, .inr (10, [.ref k1, .int (nI t2_19)])), (k1, .inl (cI, 1600, .inl (fun j => nI (tb2_20 j))))]) eu_24 hP hD rfl (fun hP hD => ?_)
  exact sk_vret hx hb hr hlocks hK hP hD hS (⟨t2_19, tb2_20, by omega, by omega, htb2_22, (fun hq => by rw [hup_23 (by omega), hup_17 (by omega), hup_11 (by omega), hup_5 (by omega), by_24, by_16, by_8, by_0 o, show t2_1 = tl + 1 by omega, show t2_7 = tl + 2 by omega, show t2_13 = tl + 3 by omega]; rfl), rfl⟩) (Nat.le_of_ble_eq_true rfl) (Nat.le_of_ble_eq_true rfl) dX10_addNumber_29
/-! tests: signs, words, what is read -/
def wNot : List Nat := [110, 111, 116]
def wAnd : List Nat := [97, 110, 100]
def wOr : List Nat := [111, 114]
def wAll : List Nat := [97, 108, 108]
theorem tok275 {tb : Nat → Nat} {n : Nat} {c : Cur} (htb : ∀ j, tb j ≤ 255) : tokOf tb n c = 275 ↔ isW tb n wNot c = true := tok_W (k := 19) htb (by decide)
theorem tok274 {tb : Nat → Nat} {n : Nat} {c : Cur} (htb : ∀ j, tb j ≤ 255) : tokOf tb n c = 274 ↔ isW tb n wAnd c = true := tok_W (k := 18) htb (by decide)
theorem tok273 {tb : Nat → Nat} {n : Nat} {c : Cur} (htb : ∀ j, tb j ≤ 255) : tokOf tb n c = 273 ↔ isW tb n wOr c = true := tok_W (k := 17) htb (by decide)
theorem tok276 {tb : Nat → Nat} {n : Nat} {c : Cur} (htb : ∀ j, tb j ≤ 255) : tokOf tb n c = 276 ↔ isW tb n wAll c = true := tok_W (k := 20) htb (by decide)
theorem tok91 {tb : Nat → Nat} {n : Nat} {c : Cur} (htb : ∀ j, tb j ≤ 255) : tokOf tb n c = 91 ↔ isS tb n 91 c = true := tok_S (b := 91) htb (by decide)
theorem tok60 {tb : Nat → Nat} {n : Nat} {c : Cur} (htb : ∀ j, tb j ≤ 255) : tokOf tb n c = 60 ↔ isS tb n 60 c = true := tok_S (b := 60) htb (by decide)
theorem tok61 {tb : Nat → Nat} {n : Nat} {c : Cur} (htb : ∀ j, tb j ≤ 255) : tokOf tb n c = 61 ↔ isS tb n 61 c = true := tok_S (b := 61) htb (by decide)
theorem tok62 {tb : Nat → Nat} {n : Nat} {c : Cur} (htb : ∀ j, tb j ≤ 255) : tokOf tb n c = 62 ↔ isS tb n 62 c = true := tok_S (b := 62) htb (by decide)
theorem tk93 {tb : Nat → Nat} {n : Nat} (htb : ∀ j, tb j ≤ 255) : tkF tb n 93 = signP tb n 93 := tkF_sign (b := 93) htb (by decide)
def andR (tb : Nat → Nat) (n : Nat) (F : Cur → Res) : Nat → Cur → List Nat → Res
  | 0, _, _ => .error (0, 0)
  | f + 1, c, k => if isW tb n wAnd c = true then bindR (F (nx tb n c.1)) (fun r => andR tb n F f r.1 (k ++ r.2 ++ [10])) else .ok (c, k)
def bothR (tb : Nat → Nat) (n : Nat) (F : Cur → Res) (c : Cur) : Res := bindR (F c) (fun r => andR tb n F (n + 2) r.1 r.2)
def orR (tb : Nat → Nat) (n : Nat) (F : Cur → Res) : Nat → Cur → List Nat → Res
  | 0, _, _ => .error (0, 0)
  | f + 1, c, k => if isW tb n wOr c = true then bindR (bothR tb n F (nx tb n c.1)) (fun r => orR tb n F f r.1 (k ++ r.2 ++ [11])) else .ok (c, k)
def testR (tb : Nat → Nat) (n : Nat) (F : Cur → Res) (c : Cur) : Res := bindR (bothR tb n F c) (fun r => orR tb n F (n + 2) r.1 r.2)
def relV (tb : Nat → Nat) (n : Nat) (c : Cur) : Option Nat := if isS tb n 60 c = true then some 7 else if isS tb n 62 c = true then some 8 else if isS tb n 61 c = true then some 9 else none
def relB (tb : Nat → Nat) (n d : Nat) (r : Cur × List Nat) : Res := match relV tb n r.1 with
  | some v => bindR (sumOf tb n (rdPart tb n 2 d) (nx tb n r.1.1)) (fun q => .ok (q.1, r.2 ++ q.2 ++ [v]))
  | none => .error (1, r.1.1)
def relR (tb : Nat → Nat) (n d : Nat) (c : Cur) : Res := bindR (sumOf tb n (rdPart tb n 2 d) c) (relB tb n d)
def fcB (tb : Nat → Nat) (n d : Nat) (Q : Option (Cur → Res)) (c : Cur) : Res :=
  if isW tb n wNot c = true then
    (match Q with
     | none => .error (4, c.1)
     | some F => bindR (F (nx tb n c.1)) (fun r => .ok (r.1, r.2 ++ [12])))
  else if isS tb n 91 c = true then
    (match Q with
     | none => .error (4, c.1)
     | some F => bindR (testR tb n F (nx tb n c.1)) (fun r => bindR (signP tb n 93 r.1) (fun c1 => .ok (c1, r.2))))
  else if isW tb n wAll c = true then .ok (nx tb n c.1, [13])
  else relR tb n d c
def fcR (tb : Nat → Nat) (n : Nat) : Nat → Cur → Res
  | 0, c => fcB tb n 0 none c
  | d + 1, c => fcB tb n (d + 1) (some (fcR tb n d)) c
/-! they never go back -/
theorem andR_mono {tb : Nat → Nat} {n : Nat} {F : Cur → Res} (hF : mono F) : ∀ f c k r, andR tb n F f c k = .ok r → c.1 ≤ r.1.1
  | 0, c, k, r, h => by cases h
  | f + 1, c, k, r, h => by
    rw [andR] at h
    split at h
    · next hs =>
      have hn := nx_gt (tb := tb) (isW_lt hs)
      obtain ⟨a, h1, h2⟩ := bindR_ok h
      have b1 := hF _ _ h1
      have b2 := andR_mono hF f _ _ _ h2
      omega
    · cases h; exact Nat.le_refl _
theorem bothR_mono {tb : Nat → Nat} {n : Nat} {F : Cur → Res} (hF : mono F) : mono (bothR tb n F) := by
  intro c r h
  obtain ⟨a, h1, h2⟩ := bindR_ok h
  have b1 := hF _ _ h1
  have b2 := andR_mono hF _ _ _ _ h2
  omega
theorem orR_mono {tb : Nat → Nat} {n : Nat} {F : Cur → Res} (hF : mono F) : ∀ f c k r, orR tb n F f c k = .ok r → c.1 ≤ r.1.1
  | 0, c, k, r, h => by cases h
  | f + 1, c, k, r, h => by
    rw [orR] at h
    split at h
    · next hs =>
      have hn := nx_gt (tb := tb) (isW_lt hs)
      obtain ⟨a, h1, h2⟩ := bindR_ok h
      have b1 := bothR_mono hF _ _ h1
      have b2 := orR_mono hF f _ _ _ h2
      omega
    · cases h; exact Nat.le_refl _
theorem testR_mono {tb : Nat → Nat} {n : Nat} {F : Cur → Res} (hF : mono F) : mono (testR tb n F) := by
  intro c r h
  obtain ⟨a, h1, h2⟩ := bindR_ok h
  have b1 := bothR_mono hF _ _ h1
  have b2 := orR_mono hF _ _ _ _ h2
  omega
theorem relR_mono {tb : Nat → Nat} {n d : Nat} : mono (relR tb n d) := by
  intro c r h
  obtain ⟨a, h1, h2⟩ := bindR_ok h
  have b1 := sumOf_mono rdPart_mono _ _ h1
  unfold relB at h2
  split at h2
  · obtain ⟨q, h3, h4⟩ := bindR_ok h2
    cases h4
    have b2 := sumOf_mono rdPart_mono _ _ h3
    have b3 := nx_ge tb n a.1.1
    show c.1 ≤ q.1.1
    omega
  · cases h2
theorem fcB_mono {tb : Nat → Nat} {n d : Nat} {Q : Option (Cur → Res)} (hQ : ∀ F, Q = some F → mono F) : mono (fcB tb n d Q) := by
  intro c r h
  unfold fcB at h
  have hg := nx_ge tb n c.1
  split at h
  · cases Q with
    | none => cases h
    | some F =>
      obtain ⟨a, h1, h2⟩ := bindR_ok h
      cases h2
      have b1 := hQ F rfl _ _ h1
      show c.1 ≤ a.1.1
      omega
  · split at h
    · cases Q with
      | none => cases h
      | some F =>
        obtain ⟨a, h1, h2⟩ := bindR_ok h
        obtain ⟨c1, h3, h4⟩ := bindR_ok h2
        cases h4
        have b1 := testR_mono (hQ F rfl) _ _ h1
        have b2 := (signP_ok h3).2.2
        show c.1 ≤ c1.1
        omega
    · split at h
      · cases h; exact hg
      · exact relR_mono _ _ h
theorem fcR_mono {tb : Nat → Nat} {n : Nat} : ∀ d, mono (fcR tb n d)
  | 0 => fun c r h => fcB_mono (Q := none) (fun F hF => by cases hF) c r h
  | d + 1 => fun c r h => fcB_mono (Q := some (fcR tb n d)) (fun F hF => by cases hF; exact fcR_mono d) c r h
/-! enough rounds are enough -/
theorem andR_fuel {tb : Nat → Nat} {n : Nat} {F : Cur → Res} (hF : mono F) : ∀ f g c k, n < f + c.1 → n < g + c.1 → 1 ≤ f → 1 ≤ g → andR tb n F f c k = andR tb n F g c k
  | 0, g, c, k, _, _, h, _ => absurd h (by omega)
  | f + 1, 0, c, k, _, _, _, h => absurd h (by omega)
  | f + 1, g + 1, c, k, h1, h2, _, _ => by
    rw [andR, andR]
    split
    · next hs =>
      have hl := isW_lt hs
      have hn := nx_gt (tb := tb) hl
      refine bindR_congr _ (fun a ha => ?_)
      have h3 := hF _ _ ha
      exact andR_fuel hF f g _ _ (by omega) (by omega) (by omega) (by omega)
    · rfl
theorem orR_fuel {tb : Nat → Nat} {n : Nat} {F : Cur → Res} (hF : mono F) : ∀ f g c k, n < f + c.1 → n < g + c.1 → 1 ≤ f → 1 ≤ g → orR tb n F f c k = orR tb n F g c k
  | 0, g, c, k, _, _, h, _ => absurd h (by omega)
  | f + 1, 0, c, k, _, _, _, h => absurd h (by omega)
  | f + 1, g + 1, c, k, h1, h2, _, _ => by
    rw [orR, orR]
    split
    · next hs =>
      have hl := isW_lt hs
      have hn := nx_gt (tb := tb) hl
      refine bindR_congr _ (fun a ha => ?_)
      have h3 := bothR_mono hF _ _ ha
      exact orR_fuel hF f g _ _ (by omega) (by omega) (by omega) (by omega)
    · rfl
theorem andR_stop {tb : Nat → Nat} {n : Nat} {F : Cur → Res} {f : Nat} {c : Cur} {k : List Nat} (h : ¬ isW tb n wAnd c = true) : andR tb n F (f + 1) c k = .ok (c, k) := by rw [andR, if_neg h]
theorem orR_stop {tb : Nat → Nat} {n : Nat} {F : Cur → Res} {f : Nat} {c : Cur} {k : List Nat} (h : ¬ isW tb n wOr c = true) : orR tb n F (f + 1) c k = .ok (c, k) := by rw [orR, if_neg h]
theorem andR_pre {tb : Nat → Nat} {n : Nat} {F : Cur → Res} (k : List Nat) : ∀ f c q, andR tb n F f c (k ++ q) = bindR (andR tb n F f c q) (fun r => .ok (r.1, k ++ r.2))
  | 0, c, q => rfl
  | f + 1, c, q => by
    rw [andR, andR]
    split
    · rw [bindR_assoc]
      refine bindR_congr _ (fun a _ => ?_)
      rw [← andR_pre k f, List.append_assoc, List.append_assoc, List.append_assoc]
    · rfl
theorem orR_pre {tb : Nat → Nat} {n : Nat} {F : Cur → Res} (k : List Nat) : ∀ f c q, orR tb n F f c (k ++ q) = bindR (orR tb n F f c q) (fun r => .ok (r.1, k ++ r.2))
  | 0, c, q => rfl
  | f + 1, c, q => by
    rw [orR, orR]
    split
    · rw [bindR_assoc]
      refine bindR_congr _ (fun a _ => ?_)
      rw [← orR_pre k f, List.append_assoc, List.append_assoc, List.append_assoc]
    · rfl
/-! no more steps than bytes -/
theorem andR_len {tb : Nat → Nat} {n : Nat} {F : Cur → Res} (hF : lenP F) : ∀ f c k r, andR tb n F f c k = .ok r → r.2.length + c.1 ≤ r.1.1 + k.length
  | 0, c, k, r, h => by cases h
  | f + 1, c, k, r, h => by
    rw [andR] at h
    split at h
    · next hs =>
      have hn := nx_gt (tb := tb) (isW_lt hs)
      obtain ⟨a, h1, h2⟩ := bindR_ok h
      have b1 := hF _ _ h1
      have b2 := andR_len hF f _ _ _ h2
      rw [List.length_append, List.length_append, List.length_singleton] at b2
      omega
    · cases h; show k.length + c.1 ≤ c.1 + k.length; omega
theorem len_both {tb : Nat → Nat} {n : Nat} {F : Cur → Res} (hF : lenP F) : lenP (bothR tb n F) := fun c q h => by
  obtain ⟨a, h1, h2⟩ := bindR_ok h
  have b1 := hF _ _ h1
  have b2 := andR_len hF _ _ _ _ h2
  omega
theorem orR_len {tb : Nat → Nat} {n : Nat} {F : Cur → Res} (hF : lenP F) : ∀ f c k r, orR tb n F f c k = .ok r → r.2.length + c.1 ≤ r.1.1 + k.length
  | 0, c, k, r, h => by cases h
  | f + 1, c, k, r, h => by
    rw [orR] at h
    split at h
    · next hs =>
      have hn := nx_gt (tb := tb) (isW_lt hs)
      obtain ⟨a, h1, h2⟩ := bindR_ok h
      have b1 := len_both hF _ _ h1
      have b2 := orR_len hF f _ _ _ h2
      rw [List.length_append, List.length_append, List.length_singleton] at b2
      omega
    · cases h; show k.length + c.1 ≤ c.1 + k.length; omega
theorem len_test {tb : Nat → Nat} {n : Nat} {F : Cur → Res} (hF : lenP F) : lenP (testR tb n F) := fun c q h => by
  obtain ⟨a, h1, h2⟩ := bindR_ok h
  have b1 := len_both hF _ _ h1
  have b2 := orR_len hF _ _ _ _ h2
  omega
theorem relV_lt {tb : Nat → Nat} {n v : Nat} {c : Cur} (h : relV tb n c = some v) : c.1 < n := by
  unfold relV at h
  split at h
  · next hs => exact (isS_lt hs).1
  · split at h
    · next hs => exact (isS_lt hs).1
    · split at h
      · next hs => exact (isS_lt hs).1
      · cases h
theorem len_rel {tb : Nat → Nat} {n d : Nat} : lenP (relR tb n d) := fun c q h => by
  obtain ⟨a, h1, h2⟩ := bindR_ok h
  have b1 := len_sum (len_part d) _ _ h1
  unfold relB at h2
  split at h2
  · next v hv =>
    obtain ⟨z, h3, h4⟩ := bindR_ok h2
    cases h4
    have b2 := len_sum (len_part d) _ _ h3
    have b3 := nx_gt (tb := tb) (relV_lt hv)
    show (a.2 ++ z.2 ++ [v]).length + c.1 ≤ z.1.1
    rw [List.length_append, List.length_append, List.length_singleton]
    omega
  · cases h2
theorem len_fcB {tb : Nat → Nat} {n d : Nat} {Q : Option (Cur → Res)} (hQ : ∀ F, Q = some F → lenP F) : lenP (fcB tb n d Q) := fun c r h => by
  unfold fcB at h
  split at h
  · next hw =>
    have hn := nx_gt (tb := tb) (isW_lt hw)
    cases Q with
    | none => cases h
    | some F =>
      obtain ⟨a, h1, h2⟩ := bindR_ok h
      cases h2
      have b1 := hQ F rfl _ _ h1
      show (a.2 ++ [12]).length + c.1 ≤ a.1.1
      rw [List.length_append, List.length_singleton]
      omega
  · split at h
    · next hs =>
      have hn := nx_gt (tb := tb) (isS_lt hs).1
      cases Q with
      | none => cases h
      | some F =>
        obtain ⟨a, h1, h2⟩ := bindR_ok h
        obtain ⟨c1, h3, h4⟩ := bindR_ok h2
        cases h4
        have b1 := len_test (hQ F rfl) _ _ h1
        have b2 := (signP_ok h3).2.2
        show a.2.length + c.1 ≤ c1.1
        omega
    · split at h
      · next hw =>
        have hn := nx_gt (tb := tb) (isW_lt hw)
        cases h
        show 1 + c.1 ≤ (nx tb n c.1).1
        omega
      · exact len_rel _ _ h
theorem len_fc {tb : Nat → Nat} {n : Nat} : ∀ d, lenP (fcR tb n d)
  | 0 => fun c r h => len_fcB (Q := none) (fun F hF => by cases hF) c r h
  | d + 1 => fun c r h => len_fcB (Q := some (fcR tb n d)) (fun F hF => by cases hF; exact len_fc d) c r h
/-! a fact, by its token -/
theorem fB_not {tb : Nat → Nat} {n d : Nat} {c : Cur} (htb : ∀ j, tb j ≤ 255) (h : tokOf tb n c = 275) : fcR tb n (d + 1) c = bindR (fcR tb n d (nx tb n c.1)) (fun r => .ok (r.1, r.2 ++ [12])) := by
  rw [fcR, fcB, if_pos ((tok275 htb).mp h)]
theorem fB_not0 {tb : Nat → Nat} {n : Nat} {c : Cur} (htb : ∀ j, tb j ≤ 255) (h : tokOf tb n c = 275) : fcR tb n 0 c = .error (4, c.1) := by
  rw [fcR, fcB, if_pos ((tok275 htb).mp h)]
theorem t_noN {tb : Nat → Nat} {n : Nat} {c : Cur} (htb : ∀ j, tb j ≤ 255) {w : Int32} (h : tokOf tb n c = w) (hw : ¬ w = 275) : ¬ isW tb n wNot c = true := fun q => hw (h.symm.trans ((tok275 htb).mpr q))
theorem fB_sq {tb : Nat → Nat} {n d : Nat} {c : Cur} (htb : ∀ j, tb j ≤ 255) (h : tokOf tb n c = 91) : fcR tb n (d + 1) c = bindR (testR tb n (fcR tb n d) (nx tb n c.1)) (fun r => bindR (signP tb n 93 r.1) (fun c1 => .ok (c1, r.2))) := by
  rw [fcR, fcB, if_neg (t_noN htb h (by decide)), if_pos ((tok91 htb).mp h)]
theorem fB_sq0 {tb : Nat → Nat} {n : Nat} {c : Cur} (htb : ∀ j, tb j ≤ 255) (h : tokOf tb n c = 91) : fcR tb n 0 c = .error (4, c.1) := by
  rw [fcR, fcB, if_neg (t_noN htb h (by decide)), if_pos ((tok91 htb).mp h)]
theorem fcR_B (tb : Nat → Nat) (n d : Nat) (c : Cur) : ∃ Q, fcR tb n d c = fcB tb n d Q c := by
  cases d with
  | zero => exact ⟨none, rfl⟩
  | succ d => exact ⟨some (fcR tb n d), rfl⟩
theorem fB_all {tb : Nat → Nat} {n d : Nat} {c : Cur} (htb : ∀ j, tb j ≤ 255) (h : tokOf tb n c = 276) : fcR tb n d c = .ok (nx tb n c.1, [13]) := by
  obtain ⟨Q, e⟩ := fcR_B tb n d c
  rw [e]
  unfold fcB
  rw [if_neg (t_noN htb h (by decide)), if_neg (fun q => absurd (h.symm.trans ((tok91 htb).mpr q)) (by decide)), if_pos ((tok276 htb).mp h)]
theorem fB_rel {tb : Nat → Nat} {n d : Nat} {c : Cur} (htb : ∀ j, tb j ≤ 255) (h1 : ¬ tokOf tb n c = 275) (h2 : ¬ tokOf tb n c = 91) (h3 : ¬ tokOf tb n c = 276) : fcR tb n d c = relR tb n d c := by
  obtain ⟨Q, e⟩ := fcR_B tb n d c
  rw [e]
  unfold fcB
  rw [if_neg (fun q => h1 ((tok275 htb).mpr q)), if_neg (fun q => h2 ((tok91 htb).mpr q)), if_neg (fun q => h3 ((tok276 htb).mpr q))]
def relT (t : Int32) (v : Nat) : Prop := (t = 60 ∧ v = 7) ∨ (t = 62 ∧ v = 8) ∨ (t = 61 ∧ v = 9)
theorem relT_real {t : Int32} {v : Nat} (h : relT t v) : ¬ t = -1 ∧ ¬ t = -2 := by
  rcases h with ⟨h, -⟩ | ⟨h, -⟩ | ⟨h, -⟩ <;> (rw [h]; decide)
theorem relV_some {tb : Nat → Nat} {n v : Nat} {c : Cur} (htb : ∀ j, tb j ≤ 255) (h : relT (tokOf tb n c) v) : relV tb n c = some v := by
  unfold relV
  rcases h with ⟨h, e⟩ | ⟨h, e⟩ | ⟨h, e⟩
  · rw [if_pos ((tok60 htb).mp h), e]
  · rw [if_neg (fun q => absurd (h.symm.trans ((tok60 htb).mpr q)) (by decide)), if_pos ((tok62 htb).mp h), e]
  · rw [if_neg (fun q => absurd (h.symm.trans ((tok60 htb).mpr q)) (by decide)), if_neg (fun q => absurd (h.symm.trans ((tok62 htb).mpr q)) (by decide)), if_pos ((tok61 htb).mp h), e]
theorem relV_none {tb : Nat → Nat} {n : Nat} {c : Cur} (htb : ∀ j, tb j ≤ 255) (h1 : ¬ tokOf tb n c = 60) (h2 : ¬ tokOf tb n c = 62) (h3 : ¬ tokOf tb n c = 61) : relV tb n c = none := by
  unfold relV
  rw [if_neg (fun q => h1 ((tok60 htb).mpr q)), if_neg (fun q => h2 ((tok62 htb).mpr q)), if_neg (fun q => h3 ((tok61 htb).mpr q))]
/-! what the class does with a fact is the fact -/
theorem op_ok {tb : Nat → Nat} {n xo : Nat} {w : Int32} {r : Cur × List Nat} (ht : tokOf tb n r.1 = w) (hx : xo < 6) : bd (.ok r) (opF tb n w xo) = .ok (nx tb n r.1.1, r.2) := by
  show bindR (opF tb n w xo r.1) _ = _
  unfold opF; rw [if_pos ht, if_pos hx]; rfl
theorem f_not {tb : Nat → Nat} {n d xo : Nat} {o : Res} {xa : Nat} {xv xt : Int32} {xz : Nat} {xf xp : Int32} {cl mw : Nat} {f : Nat → Int32} (htb : ∀ j, tb j ≤ 255) (h : rsO tb n o xa xv xt xz xf xp cl mw f) (e : xt = 275) (hx : xo < 6) (hd : 1 ≤ d) : ad (bindR (bd o (opF tb n 275 xo)) (apF (fcR tb n (d - 1)))) 12 = bindR o (apF (fcR tb n d)) := by
  obtain ⟨d, rfl⟩ : ∃ m, d = m + 1 := ⟨d - 1, by omega⟩
  rw [Nat.add_sub_cancel]
  cases o with
  | error e => rfl
  | ok r =>
    have ht := (rs_t h rfl).symm.trans e
    rw [op_ok ht hx]
    show bindR (bindR (fcR tb n d (nx tb n r.1.1)) _) _ = bindR (fcR tb n (d + 1) r.1) _
    rw [fB_not htb ht, bindR_assoc, bindR_assoc]
    refine bindR_congr _ (fun a _ => ?_)
    show Except.ok (a.1, (r.2 ++ a.2) ++ [12]) = Except.ok (a.1, r.2 ++ (a.2 ++ [12]))
    rw [List.append_assoc]
theorem f_not0 {tb : Nat → Nat} {n d xo : Nat} {o : Res} {xa : Nat} {xv xt : Int32} {xz : Nat} {xf xp : Int32} {cl mw : Nat} {f : Nat → Int32} (htb : ∀ j, tb j ≤ 255) (h : rsO tb n o xa xv xt xz xf xp cl mw f) (e : xt = 275) (hx : xo = 6) (hd : d = 0) : bd o (opF tb n 275 xo) = bindR o (apF (fcR tb n d)) := by
  subst hd
  cases o with
  | error e => rfl
  | ok r =>
    have ht := (rs_t h rfl).symm.trans e
    show bindR (opF tb n 275 xo r.1) _ = bindR (fcR tb n 0 r.1) _
    unfold opF; rw [if_pos ht, if_neg (by omega), fB_not0 htb ht]; rfl
theorem f_sq {tb : Nat → Nat} {n d xo : Nat} {o : Res} {xa : Nat} {xv xt : Int32} {xz : Nat} {xf xp : Int32} {cl mw : Nat} {f : Nat → Int32} (htb : ∀ j, tb j ≤ 255) (h : rsO tb n o xa xv xt xz xf xp cl mw f) (e : xt = 91) (hx : xo < 6) (hd : 1 ≤ d) : bd (bindR (bd o (opF tb n 91 xo)) (apF (testR tb n (fcR tb n (d - 1))))) (tkF tb n 93) = bindR o (apF (fcR tb n d)) := by
  obtain ⟨d, rfl⟩ : ∃ m, d = m + 1 := ⟨d - 1, by omega⟩
  rw [Nat.add_sub_cancel]
  cases o with
  | error e => rfl
  | ok r =>
    have ht := (rs_t h rfl).symm.trans e
    rw [op_ok ht hx, tk93 htb]
    show bindR (bindR (testR tb n (fcR tb n d) (nx tb n r.1.1)) _) _ = bindR (fcR tb n (d + 1) r.1) _
    rw [fB_sq htb ht, bindR_assoc, bindR_assoc]
    refine bindR_congr _ (fun a _ => ?_)
    show bindR (signP tb n 93 a.1) _ = bindR (bindR (signP tb n 93 a.1) _) _
    rw [bindR_assoc]
    rfl
theorem f_sq0 {tb : Nat → Nat} {n d xo : Nat} {o : Res} {xa : Nat} {xv xt : Int32} {xz : Nat} {xf xp : Int32} {cl mw : Nat} {f : Nat → Int32} (htb : ∀ j, tb j ≤ 255) (h : rsO tb n o xa xv xt xz xf xp cl mw f) (e : xt = 91) (hx : xo = 6) (hd : d = 0) : bd o (opF tb n 91 xo) = bindR o (apF (fcR tb n d)) := by
  subst hd
  cases o with
  | error e => rfl
  | ok r =>
    have ht := (rs_t h rfl).symm.trans e
    show bindR (opF tb n 91 xo r.1) _ = bindR (fcR tb n 0 r.1) _
    unfold opF; rw [if_pos ht, if_neg (by omega), fB_sq0 htb ht]; rfl
theorem f_all {tb : Nat → Nat} {n d : Nat} {o : Res} {xa : Nat} {xv xt : Int32} {xz : Nat} {xf xp : Int32} {cl mw : Nat} {f : Nat → Int32} (htb : ∀ j, tb j ≤ 255) (h : rsO tb n o xa xv xt xz xf xp cl mw f) (e : xt = 276) : ad (bd o (nxF tb n)) 13 = bindR o (apF (fcR tb n d)) := by
  cases o with
  | error e => rfl
  | ok r =>
    have ht := (rs_t h rfl).symm.trans e
    show _ = bindR (fcR tb n d r.1) _
    rw [fB_all htb ht]; rfl
theorem f_rel {tb : Nat → Nat} {n d : Nat} {o : Res} {xa : Nat} {xv xt : Int32} {xz : Nat} {xf xp : Int32} {cl mw : Nat} {f : Nat → Int32} (htb : ∀ j, tb j ≤ 255) (h : rsO tb n o xa xv xt xz xf xp cl mw f) (h1 : ¬ xt = 275) (h2 : ¬ xt = 91) (h3 : ¬ xt = 276) : bindR o (fun r => bindR (sumOf tb n (rdPart tb n 2 d) r.1) (fun q => bindR (relB tb n d q) (fun z => .ok (z.1, r.2 ++ z.2)))) = bindR o (apF (fcR tb n d)) := by
  cases o with
  | error e => rfl
  | ok r =>
    have ht := rs_t h rfl
    rw [ht] at h1 h2 h3
    show _ = bindR (fcR tb n d r.1) _
    rw [fB_rel htb h1 h2 h3]
    unfold relR
    rw [bindR_assoc]
    rfl
theorem f_relN {tb : Nat → Nat} {n d : Nat} {o : Res} {xa : Nat} {xv xt : Int32} {xz : Nat} {xf xp : Int32} {cl mw : Nat} {f : Nat → Int32} {ya : Nat} {yv yt : Int32} {yz : Nat} {yf yp : Int32} {c2 w2 : Nat} {g : Nat → Int32} (htb : ∀ j, tb j ≤ 255) (h : rsO tb n o xa xv xt xz xf xp cl mw f) (h1 : ¬ xt = 275) (h2 : ¬ xt = 91) (h3 : ¬ xt = 276) (hy : rsO tb n (bindR o (apF (sumOf tb n (rdPart tb n 2 d)))) ya yv yt yz yf yp c2 w2 g) (g1 : ¬ yt = 60) (g2 : ¬ yt = 62) (g3 : ¬ yt = 61) : bd (bindR o (apF (sumOf tb n (rdPart tb n 2 d)))) (hereF 1) = bindR o (apF (fcR tb n d)) := by
  rw [← f_rel htb h h1 h2 h3]
  cases o with
  | error e => rfl
  | ok r =>
    show bindR (bindR (sumOf tb n (rdPart tb n 2 d) r.1) _) _ = bindR (sumOf tb n (rdPart tb n 2 d) r.1) _
    cases hq : sumOf tb n (rdPart tb n 2 d) r.1 with
    | error e => rfl
    | ok q =>
      have e2 : bindR (.ok r) (apF (sumOf tb n (rdPart tb n 2 d))) = .ok (q.1, r.2 ++ q.2) := by
        show bindR (sumOf tb n (rdPart tb n 2 d) r.1) _ = _
        rw [hq]; rfl
      have ht := rs_t hy e2
      rw [ht] at g1 g2 g3
      show _ = bindR (relB tb n d q) _
      unfold relB
      rw [relV_none htb g1 g2 g3]
      rfl
theorem f_relY {tb : Nat → Nat} {n d v : Nat} {o : Res} {xa : Nat} {xv xt : Int32} {xz : Nat} {xf xp : Int32} {cl mw : Nat} {f : Nat → Int32} {ya : Nat} {yv yt : Int32} {yz : Nat} {yf yp : Int32} {c2 w2 : Nat} {g : Nat → Int32} (htb : ∀ j, tb j ≤ 255) (h : rsO tb n o xa xv xt xz xf xp cl mw f) (h1 : ¬ xt = 275) (h2 : ¬ xt = 91) (h3 : ¬ xt = 276) (hy : rsO tb n (bindR o (apF (sumOf tb n (rdPart tb n 2 d)))) ya yv yt yz yf yp c2 w2 g) (g1 : relT yt v) : ad (bindR (bd (bindR o (apF (sumOf tb n (rdPart tb n 2 d)))) (nxF tb n)) (apF (sumOf tb n (rdPart tb n 2 d)))) v = bindR o (apF (fcR tb n d)) := by
  rw [← f_rel htb h h1 h2 h3]
  cases o with
  | error e => rfl
  | ok r =>
    show ad (bindR (bd (bindR (sumOf tb n (rdPart tb n 2 d) r.1) _) _) _) v = bindR (sumOf tb n (rdPart tb n 2 d) r.1) _
    cases hq : sumOf tb n (rdPart tb n 2 d) r.1 with
    | error e => rfl
    | ok q =>
      have e2 : bindR (.ok r) (apF (sumOf tb n (rdPart tb n 2 d))) = .ok (q.1, r.2 ++ q.2) := by
        show bindR (sumOf tb n (rdPart tb n 2 d) r.1) _ = _
        rw [hq]; rfl
      have ht := rs_t hy e2
      rw [ht] at g1
      show bindR (bindR (sumOf tb n (rdPart tb n 2 d) (nx tb n q.1.1)) (fun z => .ok (z.1, (r.2 ++ q.2) ++ z.2))) (fun z => .ok (z.1, z.2 ++ [v])) = bindR (relB tb n d q) _
      unfold relB
      rw [relV_some htb g1, bindR_assoc]
      show _ = bindR (bindR (sumOf tb n (rdPart tb n 2 d) (nx tb n q.1.1)) _) _
      rw [bindR_assoc]
      refine bindR_congr _ (fun a _ => ?_)
      show Except.ok (a.1, ((r.2 ++ q.2) ++ a.2) ++ [v]) = Except.ok (a.1, r.2 ++ (q.2 ++ a.2 ++ [v]))
      rw [List.append_assoc, List.append_assoc, List.append_assoc]
/-! the reader's fields changed, not what was read -/
theorem rs_re {tb : Nat → Nat} {n : Nat} {o : Res} {xa : Nat} {xv xt : Int32} {xz : Nat} {xf xp : Int32} {cl mw : Nat} {f : Nat → Int32} {ya : Nat} {yv yt : Int32} {yz : Nat} {yf yp : Int32} (h : rsO tb n o xa xv xt xz xf xp cl mw f) (h2 : rdO tb n (rc o) ya yv yt yz yf yp) : rsO tb n o ya yv yt yz yf yp cl mw f := ⟨h2, h.2⟩
theorem both_0 {tb : Nat → Nat} {n : Nat} {F : Cur → Res} (o : Res) : bindR (bindR o (apF F)) (fun r => andR tb n F (n + 2) r.1 r.2) = bindR o (apF (bothR tb n F)) := by
  cases o with
  | error e => rfl
  | ok r =>
    show bindR (bindR (F r.1) _) _ = bindR (bindR (F r.1) _) _
    rw [bindR_assoc, bindR_assoc]
    refine bindR_congr _ (fun a _ => ?_)
    exact andR_pre r.2 (n + 2) a.1 a.2
theorem both_s {tb : Nat → Nat} {n : Nat} {F : Cur → Res} {T : Res} {o : Res} {xa : Nat} {xv xt : Int32} {xz : Nat} {xf xp : Int32} {cl mw : Nat} {f : Nat → Int32} (htb : ∀ j, tb j ≤ 255) (h : rsO tb n o xa xv xt xz xf xp cl mw f) (hF : mono F) (e : xt = 274) (hT : bindR o (fun r => andR tb n F (n + 2) r.1 r.2) = T) : bindR (ad (bindR (bd o (nxF tb n)) (apF F)) 10) (fun r => andR tb n F (n + 2) r.1 r.2) = T := by
  rw [← hT]
  cases o with
  | error e => rfl
  | ok r =>
    rw [rs_t h rfl] at e
    show bindR (bindR (bindR (F (nx tb n r.1.1)) (fun q => .ok (q.1, r.2 ++ q.2))) (fun q => .ok (q.1, q.2 ++ [10]))) _ = andR tb n F (n + 2) r.1 r.2
    rw [andR, bindR_assoc, bindR_assoc]
    have hs := (tok274 htb).mp e
    have hn := nx_gt (tb := tb) (isW_lt hs)
    rw [if_pos hs]
    refine bindR_congr _ (fun a ha => ?_)
    have hm := hF _ _ ha
    exact andR_fuel hF _ _ _ _ (by omega) (by omega) (by omega) (by omega)
theorem both_e {tb : Nat → Nat} {n i : Nat} {F : Cur → Res} {T : Res} {o : Res} {xa : Nat} {xv xt : Int32} {xz : Nat} {xf xp : Int32} {cl mw : Nat} {f : Nat → Int32} {ya : Nat} {yv yt : Int32} {yz : Nat} {yf yp : Int32} (htb : ∀ j, tb j ≤ 255) (h : rsO tb n o xa xv xt xz xf xp cl mw f) (hn : n ≤ 1600) (hi : iO i o) (e : 1600 ≤ i ∨ ¬ xt = 274) (hT : bindR o (fun r => andR tb n F (n + 2) r.1 r.2) = T) (h2 : rsO tb n o ya yv yt yz yf yp cl mw f) : rsO tb n T ya yv yt yz yf yp cl mw f := by
  have : T = o := by
    rw [← hT]
    cases o with
    | error e => rfl
    | ok r =>
      have hx := hi r rfl
      rw [rs_t h rfl] at e
      have a1 : ¬ isW tb n wAnd r.1 = true := fun q => by
        have q1 := isW_lt q
        have q2 := (tok274 htb).mpr q
        rcases e with e | e
        · omega
        · exact e q2
      show andR tb n F (n + 1 + 1) r.1 r.2 = _
      rw [andR_stop a1]
  rw [this]; exact h2
theorem test_0 {tb : Nat → Nat} {n : Nat} {F : Cur → Res} (o : Res) : bindR (bindR o (apF (bothR tb n F))) (fun r => orR tb n F (n + 2) r.1 r.2) = bindR o (apF (testR tb n F)) := by
  cases o with
  | error e => rfl
  | ok r =>
    show bindR (bindR ((bothR tb n F) r.1) _) _ = bindR (bindR ((bothR tb n F) r.1) _) _
    rw [bindR_assoc, bindR_assoc]
    refine bindR_congr _ (fun a _ => ?_)
    exact orR_pre r.2 (n + 2) a.1 a.2
theorem test_s {tb : Nat → Nat} {n : Nat} {F : Cur → Res} {T : Res} {o : Res} {xa : Nat} {xv xt : Int32} {xz : Nat} {xf xp : Int32} {cl mw : Nat} {f : Nat → Int32} (htb : ∀ j, tb j ≤ 255) (h : rsO tb n o xa xv xt xz xf xp cl mw f) (hF : mono F) (e : xt = 273) (hT : bindR o (fun r => orR tb n F (n + 2) r.1 r.2) = T) : bindR (ad (bindR (bd o (nxF tb n)) (apF (bothR tb n F))) 11) (fun r => orR tb n F (n + 2) r.1 r.2) = T := by
  rw [← hT]
  cases o with
  | error e => rfl
  | ok r =>
    rw [rs_t h rfl] at e
    show bindR (bindR (bindR ((bothR tb n F) (nx tb n r.1.1)) (fun q => .ok (q.1, r.2 ++ q.2))) (fun q => .ok (q.1, q.2 ++ [11]))) _ = orR tb n F (n + 2) r.1 r.2
    rw [orR, bindR_assoc, bindR_assoc]
    have hs := (tok273 htb).mp e
    have hn := nx_gt (tb := tb) (isW_lt hs)
    rw [if_pos hs]
    refine bindR_congr _ (fun a ha => ?_)
    have hm := (bothR_mono hF) _ _ ha
    exact orR_fuel hF _ _ _ _ (by omega) (by omega) (by omega) (by omega)
theorem test_e {tb : Nat → Nat} {n i : Nat} {F : Cur → Res} {T : Res} {o : Res} {xa : Nat} {xv xt : Int32} {xz : Nat} {xf xp : Int32} {cl mw : Nat} {f : Nat → Int32} {ya : Nat} {yv yt : Int32} {yz : Nat} {yf yp : Int32} (htb : ∀ j, tb j ≤ 255) (h : rsO tb n o xa xv xt xz xf xp cl mw f) (hn : n ≤ 1600) (hi : iO i o) (e : 1600 ≤ i ∨ ¬ xt = 273) (hT : bindR o (fun r => orR tb n F (n + 2) r.1 r.2) = T) (h2 : rsO tb n o ya yv yt yz yf yp cl mw f) : rsO tb n T ya yv yt yz yf yp cl mw f := by
  have : T = o := by
    rw [← hT]
    cases o with
    | error e => rfl
    | ok r =>
      have hx := hi r rfl
      rw [rs_t h rfl] at e
      have a1 : ¬ isW tb n wOr r.1 = true := fun q => by
        have q1 := isW_lt q
        have q2 := (tok273 htb).mpr q
        rcases e with e | e
        · omega
        · exact e q2
      show orR tb n F (n + 1 + 1) r.1 r.2 = _
      rw [orR_stop a1]
  rw [this]; exact h2
/-! a question -/
def qsP (tb : Nat → Nat) (n : Nat) (c : Cur) : Except Err Cur := rc (sumOf tb n (rdPart tb n 2 6) c)
def qtP (tb : Nat → Nat) (n : Nat) (c : Cur) : Except Err Cur := rc (testR tb n (fcR tb n 6) c)
def isV (tb : Nat → Nat) (n k : Nat) (c : Cur) : Bool := isW tb n (CWs.getD k []) c
def quF (tb : Nat → Nat) (n : Nat) (c : Cur) : Except Err Cur :=
  if isV tb n 15 c = true ∨ isV tb n 23 c = true ∨ isV tb n 24 c = true then qtP tb n (nx tb n c.1)
  else if isV tb n 25 c = true ∨ isV tb n 26 c = true ∨ isV tb n 27 c = true then qsP tb n (nx tb n c.1)
  else .error (1, c.1)
def fiF (n : Nat) (c : Cur) : Except Err Cur := if n ≤ c.1 then .ok c else .error (1, c.1)
def quP (tb : Nat → Nat) (n : Nat) : Except Err Cur := bindR (quF tb n (sk tb n 0, false)) (fiF n)
def quO (P : Except Err Cur) (xf xp : Int32) : Prop := match P with
  | .ok _ => xf = 0 ∧ xp = -1
  | .error e => xf = nI e.1 ∧ xp = nI e.2
theorem qu_rd {tb : Nat → Nat} {n : Nat} {P : Except Err Cur} {xa : Nat} {xv xt : Int32} {xz : Nat} {xf xp : Int32} (h : rdO tb n P xa xv xt xz xf xp) : quO P xf xp := by
  cases P with
  | ok c => exact ⟨h.1, h.2.1⟩
  | error e => exact ⟨h.1, h.2.1⟩
theorem qu_eq {P : Except Err Cur} {a b c d : Int32} (h1 : quO P a b) (h2 : quO P c d) : c = a ∧ d = b := by
  cases P with
  | ok z => exact ⟨h2.1.trans h1.1.symm, h2.2.trans h1.2.symm⟩
  | error e => exact ⟨h2.1.trans h1.1.symm, h2.2.trans h1.2.symm⟩
def ftO (w a b r : Int32) : Prop := (w = 0 ∧ r = a) ∨ (w = 1 ∧ r = b) ∨ (¬ w = 0 ∧ ¬ w = 1 ∧ r = -1)
theorem ftO_eq {w a b r q : Int32} (h1 : ftO w a b r) (h2 : ftO w a b q) : r = q := by
  rcases h1 with ⟨e, h1⟩ | ⟨e, h1⟩ | ⟨e1, e2, h1⟩
  · rcases h2 with ⟨f, h2⟩ | ⟨f, h2⟩ | ⟨f1, f2, h2⟩
    · rw [h1, h2]
    · exact absurd (e.symm.trans f) (by decide)
    · exact absurd e f1
  · rcases h2 with ⟨f, h2⟩ | ⟨f, h2⟩ | ⟨f1, f2, h2⟩
    · exact absurd (f.symm.trans e) (by decide)
    · rw [h1, h2]
    · exact absurd e f2
  · rcases h2 with ⟨f, h2⟩ | ⟨f, h2⟩ | ⟨f1, f2, h2⟩
    · exact absurd f e1
    · exact absurd f e2
    · rw [h1, h2]
def askR (tb : Nat → Nat) (tl dy : Nat) (xf xp ef ep : Int32) : Prop := (dy = 0 ∧ ef = xf ∧ ep = xp) ∨ (1 ≤ dy ∧ quO (quP tb tl) ef ep)
theorem askR_eq {tb : Nat → Nat} {tl dy : Nat} {xf xp a b c d : Int32} (h1 : askR tb tl dy xf xp a b) (h2 : askR tb tl dy xf xp c d) : c = a ∧ d = b := by
  rcases h1 with ⟨e, h1, h1'⟩ | ⟨e, h1⟩
  · rcases h2 with ⟨f, h2, h2'⟩ | ⟨f, h2⟩
    · exact ⟨h2.trans h1.symm, h2'.trans h1'.symm⟩
    · omega
  · rcases h2 with ⟨f, h2, h2'⟩ | ⟨f, h2⟩
    · omega
    · exact qu_eq h1 h2
theorem askR_il {tb : Nat → Nat} {tl dy il : Nat} {xf xp a b : Int32} (h : (il = 0 ∧ a = xf ∧ b = xp) ∨ (il = 1 ∧ quO (quP tb tl) a b)) (h1 : il = 1 → 1 ≤ dy) (h2 : 1 ≤ dy → il = 1) : askR tb tl dy xf xp a b := by
  rcases h with ⟨e, h⟩ | ⟨e, h⟩
  · refine Or.inl ⟨?_, h⟩
    rcases Nat.eq_zero_or_pos dy with q | q
    · exact q
    · have := h2 q; omega
  · exact Or.inr ⟨h1 e, h⟩
/-- by the word that a question begins with -/
theorem tokV {tb : Nat → Nat} {n k : Nat} {c : Cur} (htb : ∀ j, tb j ≤ 255) (hk : k < 28) : tokOf tb n c = nI (256 + k) ↔ isV tb n k c = true := tok_W htb hk
theorem isV_1 {tb : Nat → Nat} {n j k : Nat} {c : Cur} (htb : ∀ j, tb j ≤ 255) (hj : j < 28) (hk : k < 28) (h : isV tb n j c = true) (hne : ¬ j = k) : ¬ isV tb n k c = true := fun q => by
  have a := ((tokV htb hj).mpr h).symm.trans ((tokV htb hk).mpr q)
  have := (nI_eq (by omega) (by omega)).mp a
  omega
theorem rc_ap {P : Cur → Res} (o : Res) : rc (bindR o (apF P)) = bindR (rc o) (fun c => rc (P c)) := by
  cases o with
  | error e => rfl
  | ok r =>
    show bindR (bindR (P r.1) (fun q => .ok (q.1, r.2 ++ q.2))) _ = bindR (P r.1) _
    rw [bindR_assoc]; rfl
theorem q_t {tb : Nat → Nat} {n k : Nat} {xa : Nat} {xv xt : Int32} {xz : Nat} {xf xp : Int32} (htb : ∀ j, tb j ≤ 255) (h : rdO tb n (.ok (sk tb n 0, false)) xa xv xt xz xf xp) (e : xt = nI (256 + k)) (hk : k = 15 ∨ k = 23 ∨ k = 24) : rc (bindR (.ok (nx tb n (sk tb n 0), [])) (apF (testR tb n (fcR tb n 6)))) = quF tb n (sk tb n 0, false) := by
  have ht : tokOf tb n (sk tb n 0, false) = nI (256 + k) := h.2.2.2.2.1.symm.trans e
  have hv := (tokV htb (by omega)).mp ht
  rw [rc_ap]
  unfold quF
  rw [if_pos (by rcases hk with hk | hk | hk <;> subst hk; exact Or.inl hv; exact Or.inr (Or.inl hv); exact Or.inr (Or.inr hv))]
  rfl
theorem q_s {tb : Nat → Nat} {n k : Nat} {xa : Nat} {xv xt : Int32} {xz : Nat} {xf xp : Int32} (htb : ∀ j, tb j ≤ 255) (h : rdO tb n (.ok (sk tb n 0, false)) xa xv xt xz xf xp) (e : xt = nI (256 + k)) (hk : k = 25 ∨ k = 26 ∨ k = 27) : rc (bindR (.ok (nx tb n (sk tb n 0), [])) (apF (sumOf tb n (rdPart tb n 2 6)))) = quF tb n (sk tb n 0, false) := by
  have ht : tokOf tb n (sk tb n 0, false) = nI (256 + k) := h.2.2.2.2.1.symm.trans e
  have hv := (tokV htb (by omega)).mp ht
  rw [rc_ap]
  unfold quF
  rw [if_neg (fun q => by rcases q with q | q | q <;> exact isV_1 htb (by omega) (by omega) hv (by omega) q), if_pos (by rcases hk with hk | hk | hk <;> subst hk; exact Or.inl hv; exact Or.inr (Or.inl hv); exact Or.inr (Or.inr hv))]
  rfl
theorem q_n {tb : Nat → Nat} {n : Nat} {xa : Nat} {xv xt : Int32} {xz : Nat} {xf xp : Int32} (htb : ∀ j, tb j ≤ 255) (h : rdO tb n (.ok (sk tb n 0, false)) xa xv xt xz xf xp) (h1 : ¬ xt = 271) (h2 : ¬ xt = 279) (h3 : ¬ xt = 280) (h4 : ¬ xt = 281) (h5 : ¬ xt = 282) (h6 : ¬ xt = 283) : bindR (.ok (sk tb n 0, false)) (hereF 1) = quF tb n (sk tb n 0, false) := by
  have ht : xt = tokOf tb n (sk tb n 0, false) := h.2.2.2.2.1
  have g : ∀ k, k < 28 → ¬ xt = nI (256 + k) → ¬ isV tb n k (sk tb n 0, false) = true := fun k hk a q => a (ht.trans ((tokV htb hk).mpr q))
  unfold quF
  rw [if_neg (fun q => by rcases q with q | q | q; exact g 15 (by decide) h1 q; exact g 23 (by decide) h2 q; exact g 24 (by decide) h3 q), if_neg (fun q => by rcases q with q | q | q; exact g 25 (by decide) h4 q; exact g 26 (by decide) h5 q; exact g 27 (by decide) h6 q)]
  rfl
theorem rs_0 {tb : Nat → Nat} {n : Nat} {c : Cur} {xa : Nat} {xv xt : Int32} {xz : Nat} {xf xp : Int32} {f : Nat → Int32} (h : rdO tb n (.ok c) xa xv xt xz xf xp) : rsO tb n (.ok (c, [])) xa xv xt xz xf xp 0 0 f := ⟨h, fun r hr => by
  cases hr
  exact ⟨rfl, ⟨fun q => absurd q (by decide), fun q => by cases q⟩, fun j hj => absurd hj (Nat.not_lt_zero j)⟩⟩
theorem lenO_0 (c : Cur) : lenO (.ok (c, [])) := fun r e => by cases e; exact Nat.zero_le _
theorem cm_9 {v : Nat} (h : v ≤ 9) : ¬ cm v = -1 := by
  match v, h with
  | 0, _ => decide
  | 1, _ => decide
  | 2, _ => decide
  | 3, _ => decide
  | 4, _ => decide
  | 5, _ => decide
  | 6, _ => decide
  | 7, _ => decide
  | 8, _ => decide
  | 9, _ => decide
  | v + 10, h => exact absurd h (by omega)
/-- the end: nothing more, or a fault here -/
theorem q_e1 {tb : Nat → Nat} {n : Nat} {o : Except Err Cur} {xa : Nat} {xv xt : Int32} {xz : Nat} {xf xp : Int32} (htb : ∀ j, tb j ≤ 255) (h : rdO tb n o xa xv xt xz xf xp) (e : xt = -1) : rdO tb n (bindR o (fiF n)) xa xv xt xz xf xp := by
  cases o with
  | error e => exact h
  | ok c =>
    have h0 : rdC tb n c xa xv xt xz xf xp := h
    have hn := (tok_E htb).mp (h0.2.2.2.2.1.symm.trans e)
    have h1 : bindR (.ok c) (fiF n) = .ok c := by show fiF n c = _; unfold fiF; rw [if_pos hn]
    rw [h1]; exact h
theorem q_e2 {tb : Nat → Nat} {n : Nat} {o : Except Err Cur} {xa : Nat} {xv xt : Int32} {xz : Nat} {xf xp : Int32} {ya : Nat} {yv yt : Int32} {yz : Nat} {yf yp : Int32} (htb : ∀ j, tb j ≤ 255) (h : rdO tb n o xa xv xt xz xf xp) (e : ¬ xt = -1) (hp : rdO tb n (bindR o (hereF 1)) ya yv yt yz yf yp) : rdO tb n (bindR o (fiF n)) ya yv yt yz yf yp :=
  rd_swap h (fun c hc => by unfold fiF; rw [if_neg (fun q => e (hc.2.2.2.2.1.trans ((tok_E htb).mpr q)))]; rfl) hp
set_option maxHeartbeats 4000000 in
set_option maxRecDepth 100000 in
theorem c_eq_stepOf (l : Launch) (D : va_G) (cI cJ cC cZ cS : ClassId) (o : Int32)  : skM l yX5_stepOf cX5_stepOf 1 (some .int) 0 0 0 0 D (skT cI cJ cC cZ cS) [.int o] [] (skI D (skT cI cJ cC cZ cS) (fun (r : Int32) (u : va_W) => ((r = -1 ∧ ¬ o = 60 ∧ ¬ o = 62 ∧ ¬ o = 61) ∨ ∃ v : Nat, v ≤ 9 ∧ r = cm v ∧ relT o v) ∧ u = [])) := by
  refine skM_of pf_X5_stepOf (Nat.le_of_ble_eq_true rfl) ?_
  intro p e s m below meth c A ls E hP hD hl
  refine skE_el E (fun hx hb hr hml hlocks hin hown hts hK hA => ?_)
  have hown : s.vm.findClass RX5 = some m.cls := hown
  have hS : va_S A s.heap s.heap [] := va_S.rf
  have hl : lv_has ls 1 [(0, .int o)] := hl
  refine lv_iload_n hx hb dX5_stepOf_0 rfl (lv_at hl 0 rfl) ?_
  by_cases g_1 : o = 60
  · refine lv_tableIn (off := 27) (tgt := 28) hx hb dX5_stepOf_1 (by rw [g_1]; decide) (by rw [g_1]; decide) (by rw [g_1]; rfl) (by decide) ?_
    refine lv_sipush (v := 30006) hx hb dX5_stepOf_28 (by decide) ?_
    exact sk_iret hx hb hr rfl hlocks hK hP hD hS (⟨(Or.inr ⟨7, by omega, by decide, Or.inl ⟨g_1, rfl⟩⟩), rfl⟩) (Nat.le_of_ble_eq_true rfl) (Nat.le_of_ble_eq_true rfl) dX5_stepOf_31
  by_cases g_2 : o = 61
  · refine lv_tableIn (off := 35) (tgt := 36) hx hb dX5_stepOf_1 (by rw [g_2]; decide) (by rw [g_2]; decide) (by rw [g_2]; rfl) (by decide) ?_
    refine lv_sipush (v := 30008) hx hb dX5_stepOf_36 (by decide) ?_
    exact sk_iret hx hb hr rfl hlocks hK hP hD hS (⟨(Or.inr ⟨9, by omega, by decide, Or.inr (Or.inr ⟨g_2, rfl⟩)⟩), rfl⟩) (Nat.le_of_ble_eq_true rfl) (Nat.le_of_ble_eq_true rfl) dX5_stepOf_39
  by_cases g_3 : o = 62
  · refine lv_tableIn (off := 31) (tgt := 32) hx hb dX5_stepOf_1 (by rw [g_3]; decide) (by rw [g_3]; decide) (by rw [g_3]; rfl) (by decide) ?_
    refine lv_sipush (v := 30007) hx hb dX5_stepOf_32 (by decide) ?_
    exact sk_iret hx hb hr rfl hlocks hK hP hD hS (⟨(Or.inr ⟨8, by omega, by decide, Or.inr (Or.inl ⟨g_3, rfl⟩)⟩), rfl⟩) (Nat.le_of_ble_eq_true rfl) (Nat.le_of_ble_eq_true rfl) dX5_stepOf_35
  refine lv_tableOut (tgt := 40) hx hb dX5_stepOf_1 (sk_out2 60 62 (by intro k hk1 hk2; rcases (show k = 60 ∨ k = 61 ∨ k = 62 by omega) with rfl | rfl | rfl <;> assumption)) (by decide) ?_
  refine lv_iconst (v := (-1)) hx hb dX5_stepOf_40 (by decide) ?_
  exact sk_iret hx hb hr rfl hlocks hK hP hD hS (⟨(Or.inl ⟨rfl, by assumption, by assumption, by assumption⟩), rfl⟩) (Nat.le_of_ble_eq_true rfl) (Nat.le_of_ble_eq_true rfl) dX5_stepOf_41
def CT_ereadFact (l : Launch) (D : va_G) (cI cJ cC cZ cS : ClassId) (zk zv : Nat) (zf : Value) (dd : Nat) : Prop := ∀ (q : Nat → Nat) (vb : Int32) (xa : Nat) (xv : Int32) (xo : Nat) (xt : Int32) (xz : Nat) (xf : Int32) (xp : Int32) (tl : Nat) (tb : Nat → Nat) (cl : Nat) (mw : Nat) (f1 : Nat → Int32) (og : Res) (hxa : xa ≤ 1600) (hxz : xz ≤ 1600) (htl : tl ≤ 1600) (htb : ∀ j, tb j ≤ 255) (hcl : cl ≤ 1600) (hmw : mw ≤ 1) (hdd : xo + dd = 6) (hO : rsO tb tl og xa xv xt xz xf xp cl mw f1) (hlen : lenO og), skMZ zk zv zf l yX5_readFact cX5_readFact 2 none (40 + 8 * dd) (900 + 200 * dd) 0 0 D (skT cI cJ cC cZ cS) [.ref (q 4)] [(q 4, .inr (5, [.ref (q 2), .ref (q 55), .ref (q 56), .int vb])), (q 55, .inr (8, [.ref (q 2), .int 2])), (q 2, .inr (6, [.ref (q 0), .int (nI xa), .int xv, .int (nI xo), .int xt, .int (nI xz), .int xf, .int xp])), (q 0, .inr (10, [.ref (q 20), .int (nI tl)])), (q 20, .inl (cI, 1600, .inl (fun j => nI (tb j)))), (q 56, .inr (0, [.ref (q 57), .ref (q 58), .ref (q 59), .ref (q 60), .int (nI cl), .int (nI mw)])), (q 57, .inl (cI, 1600, .inl f1))] (skV D (skT cI cJ cC cZ cS) (fun (u : va_W) => ∃ (xa2 : Nat), ∃ (xv2 : Int32), ∃ (xt2 : Int32), ∃ (xz2 : Nat), ∃ (xf2 : Int32), ∃ (xp2 : Int32), ∃ (c2 : Nat), ∃ (w2 : Nat), ∃ (g1 : Nat → Int32), xa2 ≤ 1600 ∧ xz2 ≤ 1600 ∧ c2 ≤ 1600 ∧ w2 ≤ 1 ∧ rsO tb tl (bindR og (apF (fcR tb tl dd))) xa2 xv2 xt2 xz2 xf2 xp2 c2 w2 g1 ∧ u = [(q 4, .inr (5, [.ref (q 2), .ref (q 55), .ref (q 56), .int vb])), (q 55, .inr (8, [.ref (q 2), .int 2])), (q 2, .inr (6, [.ref (q 0), .int (nI xa2), .int xv2, .int (nI xo), .int xt2, .int (nI xz2), .int xf2, .int xp2])), (q 0, .inr (10, [.ref (q 20), .int (nI tl)])), (q 20, .inl (cI, 1600, .inl (fun j => nI (tb j)))), (q 56, .inr (0, [.ref (q 57), .ref (q 58), .ref (q 59), .ref (q 60), .int (nI c2), .int (nI w2)])), (q 57, .inl (cI, 1600, .inl g1))]))
def CT_ereadBoth (l : Launch) (D : va_G) (cI cJ cC cZ cS : ClassId) (zk zv : Nat) (zf : Value) (dd : Nat) : Prop := ∀ (q : Nat → Nat) (vb : Int32) (xa : Nat) (xv : Int32) (xo : Nat) (xt : Int32) (xz : Nat) (xf : Int32) (xp : Int32) (tl : Nat) (tb : Nat → Nat) (cl : Nat) (mw : Nat) (f1 : Nat → Int32) (og : Res) (hxa : xa ≤ 1600) (hxz : xz ≤ 1600) (htl : tl ≤ 1600) (htb : ∀ j, tb j ≤ 255) (hcl : cl ≤ 1600) (hmw : mw ≤ 1) (hdd : xo + dd = 6) (hO : rsO tb tl og xa xv xt xz xf xp cl mw f1) (hlen : lenO og), skMZ zk zv zf l yX5_readBoth cX5_readBoth 2 none (41 + 8 * dd) (925 + 200 * dd) 0 0 D (skT cI cJ cC cZ cS) [.ref (q 4)] [(q 4, .inr (5, [.ref (q 2), .ref (q 55), .ref (q 56), .int vb])), (q 55, .inr (8, [.ref (q 2), .int 2])), (q 2, .inr (6, [.ref (q 0), .int (nI xa), .int xv, .int (nI xo), .int xt, .int (nI xz), .int xf, .int xp])), (q 0, .inr (10, [.ref (q 20), .int (nI tl)])), (q 20, .inl (cI, 1600, .inl (fun j => nI (tb j)))), (q 56, .inr (0, [.ref (q 57), .ref (q 58), .ref (q 59), .ref (q 60), .int (nI cl), .int (nI mw)])), (q 57, .inl (cI, 1600, .inl f1))] (skV D (skT cI cJ cC cZ cS) (fun (u : va_W) => ∃ (xa2 : Nat), ∃ (xv2 : Int32), ∃ (xt2 : Int32), ∃ (xz2 : Nat), ∃ (xf2 : Int32), ∃ (xp2 : Int32), ∃ (c2 : Nat), ∃ (w2 : Nat), ∃ (g1 : Nat → Int32), xa2 ≤ 1600 ∧ xz2 ≤ 1600 ∧ c2 ≤ 1600 ∧ w2 ≤ 1 ∧ rsO tb tl (bindR og (apF (bothR tb tl (fcR tb tl dd)))) xa2 xv2 xt2 xz2 xf2 xp2 c2 w2 g1 ∧ u = [(q 4, .inr (5, [.ref (q 2), .ref (q 55), .ref (q 56), .int vb])), (q 55, .inr (8, [.ref (q 2), .int 2])), (q 2, .inr (6, [.ref (q 0), .int (nI xa2), .int xv2, .int (nI xo), .int xt2, .int (nI xz2), .int xf2, .int xp2])), (q 0, .inr (10, [.ref (q 20), .int (nI tl)])), (q 20, .inl (cI, 1600, .inl (fun j => nI (tb j)))), (q 56, .inr (0, [.ref (q 57), .ref (q 58), .ref (q 59), .ref (q 60), .int (nI c2), .int (nI w2)])), (q 57, .inl (cI, 1600, .inl g1))]))
def CT_ereadTest (l : Launch) (D : va_G) (cI cJ cC cZ cS : ClassId) (zk zv : Nat) (zf : Value) (dd : Nat) : Prop := ∀ (q : Nat → Nat) (vb : Int32) (xa : Nat) (xv : Int32) (xo : Nat) (xt : Int32) (xz : Nat) (xf : Int32) (xp : Int32) (tl : Nat) (tb : Nat → Nat) (cl : Nat) (mw : Nat) (f1 : Nat → Int32) (og : Res) (hxa : xa ≤ 1600) (hxz : xz ≤ 1600) (htl : tl ≤ 1600) (htb : ∀ j, tb j ≤ 255) (hcl : cl ≤ 1600) (hmw : mw ≤ 1) (hdd : xo + dd = 6) (hO : rsO tb tl og xa xv xt xz xf xp cl mw f1) (hlen : lenO og), skMZ zk zv zf l yX5_readTest cX5_readTest 2 none (42 + 8 * dd) (950 + 200 * dd) 0 0 D (skT cI cJ cC cZ cS) [.ref (q 4)] [(q 4, .inr (5, [.ref (q 2), .ref (q 55), .ref (q 56), .int vb])), (q 55, .inr (8, [.ref (q 2), .int 2])), (q 2, .inr (6, [.ref (q 0), .int (nI xa), .int xv, .int (nI xo), .int xt, .int (nI xz), .int xf, .int xp])), (q 0, .inr (10, [.ref (q 20), .int (nI tl)])), (q 20, .inl (cI, 1600, .inl (fun j => nI (tb j)))), (q 56, .inr (0, [.ref (q 57), .ref (q 58), .ref (q 59), .ref (q 60), .int (nI cl), .int (nI mw)])), (q 57, .inl (cI, 1600, .inl f1))] (skV D (skT cI cJ cC cZ cS) (fun (u : va_W) => ∃ (xa2 : Nat), ∃ (xv2 : Int32), ∃ (xt2 : Int32), ∃ (xz2 : Nat), ∃ (xf2 : Int32), ∃ (xp2 : Int32), ∃ (c2 : Nat), ∃ (w2 : Nat), ∃ (g1 : Nat → Int32), xa2 ≤ 1600 ∧ xz2 ≤ 1600 ∧ c2 ≤ 1600 ∧ w2 ≤ 1 ∧ rsO tb tl (bindR og (apF (testR tb tl (fcR tb tl dd)))) xa2 xv2 xt2 xz2 xf2 xp2 c2 w2 g1 ∧ u = [(q 4, .inr (5, [.ref (q 2), .ref (q 55), .ref (q 56), .int vb])), (q 55, .inr (8, [.ref (q 2), .int 2])), (q 2, .inr (6, [.ref (q 0), .int (nI xa2), .int xv2, .int (nI xo), .int xt2, .int (nI xz2), .int xf2, .int xp2])), (q 0, .inr (10, [.ref (q 20), .int (nI tl)])), (q 20, .inl (cI, 1600, .inl (fun j => nI (tb j)))), (q 56, .inr (0, [.ref (q 57), .ref (q 58), .ref (q 59), .ref (q 60), .int (nI c2), .int (nI w2)])), (q 57, .inl (cI, 1600, .inl g1))]))
set_option maxHeartbeats 4000000 in
set_option maxRecDepth 100000 in
theorem c_ereadFact (l : Launch) (D : va_G) (cI cJ cC cZ cS : ClassId) (zk zv : Nat) (zf : Value) (dd : Nat) (ht : ∀ d, d + 1 = dd → CT_ereadTest l D cI cJ cC cZ cS zk zv zf d) (hf : ∀ d, d + 1 = dd → CT_ereadFact l D cI cJ cC cZ cS zk zv zf d) : CT_ereadFact l D cI cJ cC cZ cS zk zv zf dd := by
  intro q vb xa xv xo xt xz xf xp tl tb cl mw f1 og hxa hxz htl htb hcl hmw hdd hO hlen
  refine skMZ_of pf_X5_readFact (Nat.le_of_ble_eq_true rfl) ?_
  intro p e s m below meth c A ls E hP hD hZ hl
  refine skE_el E (fun hx hb hr hml hlocks hin hown hts hK hA => ?_)
  have hown : s.vm.findClass RX5 = some m.cls := hown
  have hS : va_S A s.heap s.heap [] := va_S.rf
  have hl : lv_has ls 2 [(0, .ref (q 4))] := hl
  refine lv_aload_n hx hb dX5_readFact_0 rfl (lv_at hl 0 rfl) ?_
  refine sk_get (v := .ref (q 2)) (C := RX5) (T := TX5) (N := 4) hx hb hts inlX5 hown hK hP 0 rfl rfl 0 (Nat.le_of_ble_eq_true rfl) w_1_154 rfl dX5_readFact_1 ?_
  refine sk_get (v := .int xt) (C := RX6) (T := TX6) (N := 8) hx hb hts inlX6 hown hK hP 2 rfl rfl 4 (Nat.le_of_ble_eq_true rfl) w_1_61 rfl dX5_readFact_4 ?_
  refine lv_sipush (v := 275) hx hb dX5_readFact_7 (by decide) ?_
  refine lv_icmp_ne (tgt := 50) hx hb dX5_readFact_10 (by decide) (fun c_1 => ?_) (fun c_1 => ?_)
  · skip
    refine lv_aload_n hx hb dX5_readFact_50 rfl (lv_at hl 0 rfl) ?_
    refine sk_get (v := .ref (q 2)) (C := RX5) (T := TX5) (N := 4) hx hb hts inlX5 hown hK hP 0 rfl rfl 0 (Nat.le_of_ble_eq_true rfl) w_1_154 rfl dX5_readFact_51 ?_
    refine sk_get (v := .int xt) (C := RX6) (T := TX6) (N := 8) hx hb hts inlX6 hown hK hP 2 rfl rfl 4 (Nat.le_of_ble_eq_true rfl) w_1_61 rfl dX5_readFact_54 ?_
    refine lv_bipush (v := 91) hx hb dX5_readFact_57 (by decide) ?_
    refine lv_icmp_ne (tgt := 97) hx hb dX5_readFact_59 (by decide) (fun c_2 => ?_) (fun c_2 => ?_)
    · skip
      refine lv_aload_n hx hb dX5_readFact_97 rfl (lv_at hl 0 rfl) ?_
      refine sk_get (v := .ref (q 2)) (C := RX5) (T := TX5) (N := 4) hx hb hts inlX5 hown hK hP 0 rfl rfl 0 (Nat.le_of_ble_eq_true rfl) w_1_154 rfl dX5_readFact_98 ?_
      refine lv_sipush (v := 276) hx hb dX5_readFact_101 (by decide) ?_
      refine sk_ViZ (q0 := 0) (n := 1) (rest := []) (wr := fmR om_7_1c _) ⟨hx, hb, hml, hown, hts⟩ hl.1 (c_erd_takes l D cI cJ cC cZ cS zk zv zf q xa xv xo xt xz xf xp tl tb 276 (rc og) hxa hxz htl htb (by decide) (hO).1) w_5_86 w_5_87 w_5_88 w_1_4 w_5_89 hd_X6_takes_1 ⟨⟨(by dsimp only; omega), (by dsimp only; omega)⟩, (by dsimp only; omega), (by dsimp only; omega)⟩ hK hP hD hS hZ hA (fmT om_7_1c 0) (fmF om_7_1c 0) (fm_C1 rfl rfl) (fm_R rfl rfl) (fm_nT om_7_1c 0) (fm_nF om_7_1c 0) (fm_di om_7_1c 0) rfl rfl rfl rfl (Nat.le_of_ble_eq_true rfl) dX5_readFact_104 (fun r_10 u H locs hw hP hD hS => ?_)
      refine exE hw (fun xa2_3 hw1 => exE hw1 (fun xv2_4 hw2 => exE hw2 (fun xt2_5 hw3 => exE hw3 (fun xz2_6 hw4 => exE hw4 (fun xf2_7 hw5 => exE hw5 (fun xp2_8 hw6 => exE hw6 (fun b_9 hw7 => anE hw7 (fun hxa2_11 hw8 => anE hw8 (fun hxz2_12 hw9 => anE hw9 (fun hb1_13 hw10 => anE hw10 (fun hO2_14 hw11 => anE hw11 (fun er_16 eu_15 => ?_))))))))))))
      clear hw hw1 hw2 hw3 hw4 hw5 hw6 hw7 hw8 hw9 hw10 hw11
      subst er_16
      refine o_mgE (ws' := [(q 4, .inr (5, [.ref (q 2), .ref (q 55), .ref (q 56), .int vb])), (q 55, .inr (8, [.ref (q 2), .int 2])), (q 2, .inr (6, [.ref (q 0), .int (nI xa2_3), .int xv2_4, .int (nI xo), .int xt2_5, .int (nI xz2_6), .int xf2_7, .int xp2_8])), (q 0, .inr (10, [.ref (q 20), .int (nI tl)])), (q 20, .inl (cI, 1600, .inl (fun j => nI (tb j)))), (q 56, .inr (0, [.ref (q 57), .ref (q 58), .ref (q 59), .ref (q 60), .int (nI cl), .int (nI mw)])), (q 57, .inl (cI, 1600, .inl f1))]) eu_15 hP hD rfl (fun hP hD => ?_)
      refine lv_if_eq (tgt := 121) hx hb dX5_readFact_107 (by decide) (fun c_17 => ?_) (fun c_17 => ?_)
      · have c_17 : b_9 = 0 := (neq b_9 0 (by omega) (Nat.le_of_ble_eq_true rfl)).mp c_17
        have hw_19 := (rr_0 hO2_14 (by omega)).1
        have hO_18 := rs_re hO (rr_0 hO2_14 (by omega)).2
        refine lv_aload_n hx hb dX5_readFact_121 rfl (lv_at hl 0 rfl) ?_
        refine sk_get (v := .ref (q 55)) (C := RX5) (T := TX5) (N := 4) hx hb hts inlX5 hown hK hP 0 rfl rfl 1 (Nat.le_of_ble_eq_true rfl) w_1_155 rfl dX5_readFact_122 ?_
        refine lv_aload_n hx hb dX5_readFact_125 rfl (lv_at hl 0 rfl) ?_
        refine sk_get (v := .ref (q 56)) (C := RX5) (T := TX5) (N := 4) hx hb hts inlX5 hown hK hP 0 rfl rfl 2 (Nat.le_of_ble_eq_true rfl) w_1_156 rfl dX5_readFact_126 ?_
        refine sk_VvZ (q0 := 0) (n := 1) (rest := []) (wr := fmR om_7_3f _) ⟨hx, hb, hml, hown, hts⟩ hl.1 (c_esread l D cI cJ cC cZ cS zk zv zf dd q (q 55) 2 xa2_3 xv2_4 xo xt2_5 xz2_6 xf2_7 xp2_8 tl tb (q 56) (q 57) (q 58) (q 59) (q 60) cl mw f1 og hxa2_11 hxz2_12 htl htb hcl hmw (by omega) hdd hO_18 hlen) w_5_90 w_3_81 w_3_82 w_1_6 w_3_83 hd_X8_read_1 ⟨⟨(by dsimp only; omega), (by dsimp only; omega)⟩, (by dsimp only; omega), (by dsimp only; omega)⟩ hK hP hD hS hZ hA (fmT om_7_3f 0) (fmF om_7_3f 0) (fm_C1 rfl rfl) (fm_R rfl rfl) (fm_nT om_7_3f 0) (fm_nF om_7_3f 0) (fm_di om_7_3f 0) rfl rfl rfl rfl (Nat.le_of_ble_eq_true rfl) dX5_readFact_129 (fun u H locs hw hP hD hS => ?_)
        refine exE hw (fun xa2_20 hw1 => exE hw1 (fun xv2_21 hw2 => exE hw2 (fun xt2_22 hw3 => exE hw3 (fun xz2_23 hw4 => exE hw4 (fun xf2_24 hw5 => exE hw5 (fun xp2_25 hw6 => exE hw6 (fun c2_26 hw7 => exE hw7 (fun w2_27 hw8 => exE hw8 (fun g1_28 hw9 => anE hw9 (fun hxa2_29 hw10 => anE hw10 (fun hxz2_30 hw11 => anE hw11 (fun hc2_31 hw12 => anE hw12 (fun hw2_32 hw13 => anE hw13 (fun hO2_33 eu_34 => ?_))))))))))))))
        clear hw hw1 hw2 hw3 hw4 hw5 hw6 hw7 hw8 hw9 hw10 hw11 hw12 hw13
        refine o_mgE (ws' := [(q 4, .inr (5, [.ref (q 2), .ref (q 55), .ref (q 56), .int vb])), (q 55, .inr (8, [.ref (q 2), .int 2])), (q 2, .inr (6, [.ref (q 0), .int (nI xa2_20), .int xv2_21, .int (nI xo), .int xt2_22, .int (nI xz2_23), .int xf2_24, .int xp2_25])), (q 0, .inr (10, [.ref (q 20), .int (nI tl)])), (q 20, .inl (cI, 1600, .inl (fun j => nI (tb j)))), (q 56, .inr (0, [.ref (q 57), .ref (q 58), .ref (q 59), .ref (q 60), .int (nI c2_26), .int (nI w2_27)])), (q 57, .inl (cI, 1600, .inl g1_28))]) eu_34 hP hD rfl (fun hP hD => ?_)
        have hL_35 := lenO_ap (len_sum (tb := tb) (n := tl) (len_part (tb := tb) (n := tl) (kind := 2) dd)) hlen
        refine lv_aload_n hx hb dX5_readFact_132 rfl (lv_at hl 0 rfl) ?_
        refine sk_get (v := .ref (q 2)) (C := RX5) (T := TX5) (N := 4) hx hb hts inlX5 hown hK hP 0 rfl rfl 0 (Nat.le_of_ble_eq_true rfl) w_1_154 rfl dX5_readFact_133 ?_
        refine sk_get (v := .int xt2_22) (C := RX6) (T := TX6) (N := 8) hx hb hts inlX6 hown hK hP 2 rfl rfl 4 (Nat.le_of_ble_eq_true rfl) w_1_61 rfl dX5_readFact_136 ?_
        refine sk_Si (n := 1) (rest := []) (wr := [(q 4, .inr (5, [.ref (q 2), .ref (q 55), .ref (q 56), .int vb])), (q 55, .inr (8, [.ref (q 2), .int 2])), (q 2, .inr (6, [.ref (q 0), .int (nI xa2_20), .int xv2_21, .int (nI xo), .int xt2_22, .int (nI xz2_23), .int xf2_24, .int xp2_25])), (q 0, .inr (10, [.ref (q 20), .int (nI tl)])), (q 20, .inl (cI, 1600, .inl (fun j => nI (tb j)))), (q 56, .inr (0, [.ref (q 57), .ref (q 58), .ref (q 59), .ref (q 60), .int (nI c2_26), .int (nI w2_27)])), (q 57, .inl (cI, 1600, .inl g1_28))]) ⟨hx, hb, hml, hown, hts⟩ hl.1 (c_eq_stepOf l D cI cJ cC cZ cS xt2_22) w_5_91 w_5_92 w_1_7 w_5_93 hd_X5_stepOf_1 ⟨⟨(by dsimp only; omega), (by dsimp only; omega)⟩, (by dsimp only; omega), (by dsimp only; omega)⟩ hK hP hD hS hA [] [0, 1, 2, 3, 4, 5, 6] rfl rfl (by decide +kernel) (by decide +kernel) (by decide +kernel) rfl rfl (Nat.le_of_ble_eq_true rfl) dX5_readFact_139 (fun r_36 u H locs hw hP hD hS => ?_)
        obtain ⟨hst_37, rfl⟩ := hw
        refine o_re (ws' := [(q 4, .inr (5, [.ref (q 2), .ref (q 55), .ref (q 56), .int vb])), (q 55, .inr (8, [.ref (q 2), .int 2])), (q 2, .inr (6, [.ref (q 0), .int (nI xa2_20), .int xv2_21, .int (nI xo), .int xt2_22, .int (nI xz2_23), .int xf2_24, .int xp2_25])), (q 0, .inr (10, [.ref (q 20), .int (nI tl)])), (q 20, .inl (cI, 1600, .inl (fun j => nI (tb j)))), (q 56, .inr (0, [.ref (q 57), .ref (q 58), .ref (q 59), .ref (q 60), .int (nI c2_26), .int (nI w2_27)])), (q 57, .inl (cI, 1600, .inl g1_28))]) hP hD rfl (fun hP hD => ?_)
        refine lv_istore_n (lv' := [(1, .int r_36), (0, .ref (q 4))]) hx hb dX5_readFact_142 rfl hl (by decide) rfl (fun ls hl => ?_)
        refine lv_iload_n hx hb dX5_readFact_143 rfl (lv_at hl 0 rfl) ?_
        refine lv_iconst (v := (-1)) hx hb dX5_readFact_144 (by decide) ?_
        refine lv_icmp_ne (tgt := 158) hx hb dX5_readFact_145 (by decide) (fun c_38 => ?_) (fun c_38 => ?_)
        · obtain ⟨vx, hvx, hvr, hvt⟩ := hst_37.resolve_left (fun hq => c_38 hq.1)
          refine lv_aload_n hx hb dX5_readFact_158 rfl (lv_at hl 1 rfl) ?_
          refine sk_get (v := .ref (q 2)) (C := RX5) (T := TX5) (N := 4) hx hb hts inlX5 hown hK hP 0 rfl rfl 0 (Nat.le_of_ble_eq_true rfl) w_1_154 rfl dX5_readFact_159 ?_
          refine sk_VvZ (q0 := 0) (n := 0) (rest := []) (wr := fmR om_7_1c _) ⟨hx, hb, hml, hown, hts⟩ hl.1 (c_erd_step l D cI cJ cC cZ cS zk zv zf q xa2_20 xv2_21 xo xt2_22 xz2_23 xf2_24 xp2_25 tl tb (bindR (rc (bindR og (apF (sumOf tb tl (rdPart tb tl 2 dd))))) (beF tb tl)) hxa2_29 hxz2_30 htl htb (rd_st htb (hO2_33).1 (relT_real hvt))) w_5_69 w_2_226 w_2_227 w_1_4 w_2_228 hd_X6_step_0 ⟨⟨(by dsimp only; omega), (by dsimp only; omega)⟩, (by dsimp only; omega), (by dsimp only; omega)⟩ hK hP hD hS hZ hA (fmT om_7_1c 0) (fmF om_7_1c 0) (fm_C1 rfl rfl) (fm_R rfl rfl) (fm_nT om_7_1c 0) (fm_nF om_7_1c 0) (fm_di om_7_1c 0) rfl rfl rfl rfl (Nat.le_of_ble_eq_true rfl) dX5_readFact_162 (fun u H locs hw hP hD hS => ?_)
          refine exE hw (fun xa2_39 hw1 => exE hw1 (fun xv2_40 hw2 => exE hw2 (fun xt2_41 hw3 => exE hw3 (fun xz2_42 hw4 => anE hw4 (fun hxa2_43 hw5 => anE hw5 (fun hxz2_44 hw6 => anE hw6 (fun hO2_45 eu_46 => ?_)))))))
          clear hw hw1 hw2 hw3 hw4 hw5 hw6
          refine o_mgE (ws' := [(q 4, .inr (5, [.ref (q 2), .ref (q 55), .ref (q 56), .int vb])), (q 55, .inr (8, [.ref (q 2), .int 2])), (q 2, .inr (6, [.ref (q 0), .int (nI xa2_39), .int xv2_40, .int (nI xo), .int xt2_41, .int (nI xz2_42), .int xf2_24, .int xp2_25])), (q 0, .inr (10, [.ref (q 20), .int (nI tl)])), (q 20, .inl (cI, 1600, .inl (fun j => nI (tb j)))), (q 56, .inr (0, [.ref (q 57), .ref (q 58), .ref (q 59), .ref (q 60), .int (nI c2_26), .int (nI w2_27)])), (q 57, .inl (cI, 1600, .inl g1_28))]) eu_46 hP hD rfl (fun hP hD => ?_)
          rw [stF_nx] at hO2_45
          have hO_47 := rs_bd hO2_33 hO2_45
          have hL_48 := lenS_nx htb hO2_33 (relT_real hvt) hL_35
          refine lv_aload_n hx hb dX5_readFact_165 rfl (lv_at hl 1 rfl) ?_
          refine sk_get (v := .ref (q 55)) (C := RX5) (T := TX5) (N := 4) hx hb hts inlX5 hown hK hP 0 rfl rfl 1 (Nat.le_of_ble_eq_true rfl) w_1_155 rfl dX5_readFact_166 ?_
          refine lv_aload_n hx hb dX5_readFact_169 rfl (lv_at hl 1 rfl) ?_
          refine sk_get (v := .ref (q 56)) (C := RX5) (T := TX5) (N := 4) hx hb hts inlX5 hown hK hP 0 rfl rfl 2 (Nat.le_of_ble_eq_true rfl) w_1_156 rfl dX5_readFact_170 ?_
          refine sk_VvZ (q0 := 0) (n := 1) (rest := []) (wr := fmR om_7_3f _) ⟨hx, hb, hml, hown, hts⟩ hl.1 (c_esread l D cI cJ cC cZ cS zk zv zf dd q (q 55) 2 xa2_39 xv2_40 xo xt2_41 xz2_42 xf2_24 xp2_25 tl tb (q 56) (q 57) (q 58) (q 59) (q 60) c2_26 w2_27 g1_28 (bd (bindR og (apF (sumOf tb tl (rdPart tb tl 2 dd)))) (nxF tb tl)) hxa2_43 hxz2_44 htl htb hc2_31 hw2_32 (by omega) hdd hO_47 (lenO_S hL_48)) w_5_90 w_3_81 w_3_82 w_1_6 w_3_83 hd_X8_read_1 ⟨⟨(by dsimp only; omega), (by dsimp only; omega)⟩, (by dsimp only; omega), (by dsimp only; omega)⟩ hK hP hD hS hZ hA (fmT om_7_3f 0) (fmF om_7_3f 0) (fm_C1 rfl rfl) (fm_R rfl rfl) (fm_nT om_7_3f 0) (fm_nF om_7_3f 0) (fm_di om_7_3f 0) rfl rfl rfl rfl (Nat.le_of_ble_eq_true rfl) dX5_readFact_173 (fun u H locs hw hP hD hS => ?_)
          refine exE hw (fun xa2_49 hw1 => exE hw1 (fun xv2_50 hw2 => exE hw2 (fun xt2_51 hw3 => exE hw3 (fun xz2_52 hw4 => exE hw4 (fun xf2_53 hw5 => exE hw5 (fun xp2_54 hw6 => exE hw6 (fun c2_55 hw7 => exE hw7 (fun w2_56 hw8 => exE hw8 (fun g1_57 hw9 => anE hw9 (fun hxa2_58 hw10 => anE hw10 (fun hxz2_59 hw11 => anE hw11 (fun hc2_60 hw12 => anE hw12 (fun hw2_61 hw13 => anE hw13 (fun hO2_62 eu_63 => ?_))))))))))))))
          clear hw hw1 hw2 hw3 hw4 hw5 hw6 hw7 hw8 hw9 hw10 hw11 hw12 hw13
          refine o_mgE (ws' := [(q 4, .inr (5, [.ref (q 2), .ref (q 55), .ref (q 56), .int vb])), (q 55, .inr (8, [.ref (q 2), .int 2])), (q 2, .inr (6, [.ref (q 0), .int (nI xa2_49), .int xv2_50, .int (nI xo), .int xt2_51, .int (nI xz2_52), .int xf2_53, .int xp2_54])), (q 0, .inr (10, [.ref (q 20), .int (nI tl)])), (q 20, .inl (cI, 1600, .inl (fun j => nI (tb j)))), (q 56, .inr (0, [.ref (q 57), .ref (q 58), .ref (q 59), .ref (q 60), .int (nI c2_55), .int (nI w2_56)])), (q 57, .inl (cI, 1600, .inl g1_57))]) eu_63 hP hD rfl (fun hP hD => ?_)
          have hL_64 := lenS_ap (len_sum (tb := tb) (n := tl) (len_part (tb := tb) (n := tl) (kind := 2) dd)) hL_48
          refine lv_aload_n hx hb dX5_readFact_176 rfl (lv_at hl 1 rfl) ?_
          refine sk_get (v := .ref (q 56)) (C := RX5) (T := TX5) (N := 4) hx hb hts inlX5 hown hK hP 0 rfl rfl 2 (Nat.le_of_ble_eq_true rfl) w_1_156 rfl dX5_readFact_177 ?_
          refine lv_iload_n hx hb dX5_readFact_180 rfl (lv_at hl 0 rfl) ?_
          refine sk_Vv (q0 := 0) (n := 1) (rest := []) (wr := fmR om_7_3 _) ⟨hx, hb, hml, hown, hts⟩ hl.1 (c_eCode_addX l D cI cJ cC cZ cS (q 56) (q 57) (q 58) (q 59) (q 60) c2_55 w2_56 g1_57 r_36 (bindR (bd (bindR og (apF (sumOf tb tl (rdPart tb tl 2 dd)))) (nxF tb tl)) (apF (sumOf tb tl (rdPart tb tl 2 dd)))) vx hc2_60 hw2_61 hvr (by omega) (hO2_62).2 (rm_S hO2_62 htl hL_64)) w_5_83 w_3_98 w_3_99 w_1_8 w_3_100 hd_X0_add_1 ⟨⟨(by dsimp only; omega), (by dsimp only; omega)⟩, (by dsimp only; omega), (by dsimp only; omega)⟩ hK hP hD hS hA (fmT om_7_3 0) (fmF om_7_3 0) (fm_C1 rfl rfl) (fm_R rfl rfl) (fm_nT om_7_3 0) (fm_nF om_7_3 0) (fm_di om_7_3 0) rfl rfl rfl rfl (Nat.le_of_ble_eq_true rfl) dX5_readFact_181 (fun u H locs hw hP hD hS => ?_)
          refine exE hw (fun c2_65 hw1 => exE hw1 (fun w2_66 hw2 => exE hw2 (fun g1_67 hw3 => anE hw3 (fun hc2_68 hw4 => anE hw4 (fun hw2_69 hw5 => anE hw5 (fun hO2_70 eu_71 => ?_))))))
          clear hw hw1 hw2 hw3 hw4 hw5
          refine o_mgE (ws' := [(q 4, .inr (5, [.ref (q 2), .ref (q 55), .ref (q 56), .int vb])), (q 55, .inr (8, [.ref (q 2), .int 2])), (q 2, .inr (6, [.ref (q 0), .int (nI xa2_49), .int xv2_50, .int (nI xo), .int xt2_51, .int (nI xz2_52), .int xf2_53, .int xp2_54])), (q 0, .inr (10, [.ref (q 20), .int (nI tl)])), (q 20, .inl (cI, 1600, .inl (fun j => nI (tb j)))), (q 56, .inr (0, [.ref (q 57), .ref (q 58), .ref (q 59), .ref (q 60), .int (nI c2_65), .int (nI w2_66)])), (q 57, .inl (cI, 1600, .inl g1_67))]) eu_71 hP hD rfl (fun hP hD => ?_)
          have hO_72 := rs_ad hO2_62 hO2_70
          have hL_73 := lenO_ad (v := vx) hL_64
          exact sk_vret hx hb hr hlocks hK hP hD hS (⟨xa2_49, xv2_50, xt2_51, xz2_52, xf2_53, xp2_54, c2_65, w2_66, g1_67, hxa2_58, hxz2_59, hc2_68, hw2_69, by rw [← f_relY htb hO c_1 c_2 hw_19 hO2_33 hvt]; exact hO_72, rfl⟩) (Nat.le_of_ble_eq_true rfl) (Nat.le_of_ble_eq_true rfl) dX5_readFact_184
        · have hno := (hst_37.resolve_right (fun hq => by obtain ⟨v9, hv9, e9, -⟩ := hq; exact cm_9 hv9 (e9.symm.trans c_38))).2
          refine lv_aload_n hx hb dX5_readFact_148 rfl (lv_at hl 1 rfl) ?_
          refine sk_get (v := .ref (q 2)) (C := RX5) (T := TX5) (N := 4) hx hb hts inlX5 hown hK hP 0 rfl rfl 0 (Nat.le_of_ble_eq_true rfl) w_1_154 rfl dX5_readFact_149 ?_
          refine sk_Vv (q0 := 0) (n := 0) (rest := []) (wr := fmR om_7_10 _) ⟨hx, hb, hml, hown, hts⟩ hl.1 (c_erd_failHere l D cI cJ cC cZ cS q xa2_20 xv2_21 xo xt2_22 xz2_23 xf2_24 xp2_25 tl tb (rc (bindR og (apF (sumOf tb tl (rdPart tb tl 2 dd))))) hxz2_30 (hO2_33).1) w_5_94 w_3_55 w_3_56 w_1_4 w_3_57 hd_X6_failHere_0 ⟨⟨(by dsimp only; omega), (by dsimp only; omega)⟩, (by dsimp only; omega), (by dsimp only; omega)⟩ hK hP hD hS hA (fmT om_7_10 0) (fmF om_7_10 0) (fm_C1 rfl rfl) (fm_R rfl rfl) (fm_nT om_7_10 0) (fm_nF om_7_10 0) (fm_di om_7_10 0) rfl rfl rfl rfl (Nat.le_of_ble_eq_true rfl) dX5_readFact_152 (fun u H locs hw hP hD hS => ?_)
          refine exE hw (fun xf2_74 hw1 => exE hw1 (fun xp2_75 hw2 => anE hw2 (fun hO2_76 eu_77 => ?_)))
          clear hw hw1 hw2
          refine o_mgE (ws' := [(q 4, .inr (5, [.ref (q 2), .ref (q 55), .ref (q 56), .int vb])), (q 55, .inr (8, [.ref (q 2), .int 2])), (q 2, .inr (6, [.ref (q 0), .int (nI xa2_20), .int xv2_21, .int (nI xo), .int (-2), .int (nI xz2_23), .int xf2_74, .int xp2_75])), (q 0, .inr (10, [.ref (q 20), .int (nI tl)])), (q 20, .inl (cI, 1600, .inl (fun j => nI (tb j)))), (q 56, .inr (0, [.ref (q 57), .ref (q 58), .ref (q 59), .ref (q 60), .int (nI c2_26), .int (nI w2_27)])), (q 57, .inl (cI, 1600, .inl g1_28))]) eu_77 hP hD rfl (fun hP hD => ?_)
          have hO_78 := rs_bd hO2_33 hO2_76
          have hL_79 := lenO_bd (fwd_here (k := 1)) hL_35
          refine lv_goto (tgt := 184) hx hb dX5_readFact_155 (by decide) ?_
          exact sk_vret hx hb hr hlocks hK hP hD hS (⟨xa2_20, xv2_21, (-2), xz2_23, xf2_74, xp2_75, c2_26, w2_27, g1_28, hxa2_29, hxz2_30, hc2_31, hw2_32, by rw [← f_relN htb hO c_1 c_2 hw_19 hO2_33 hno.1 hno.2.1 hno.2.2]; exact hO_78, rfl⟩) (Nat.le_of_ble_eq_true rfl) (Nat.le_of_ble_eq_true rfl) dX5_readFact_184
      · have c_17 : ¬ (b_9 = 0) := fun h => c_17 ((neq b_9 0 (by omega) (Nat.le_of_ble_eq_true rfl)).mpr h)
        have hw_81 := (rr_1 hO2_14 (by omega)).1
        have hO_80 := rs_bd hO (rr_1 hO2_14 (by omega)).2
        have hL_82 := lenS_nx htb hO ⟨by rw [hw_81]; decide, by rw [hw_81]; decide⟩ hlen
        refine lv_aload_n hx hb dX5_readFact_110 rfl (lv_at hl 0 rfl) ?_
        refine sk_get (v := .ref (q 56)) (C := RX5) (T := TX5) (N := 4) hx hb hts inlX5 hown hK hP 0 rfl rfl 2 (Nat.le_of_ble_eq_true rfl) w_1_156 rfl dX5_readFact_111 ?_
        refine lv_iconst (v := 1) hx hb dX5_readFact_114 ic_1 ?_
        refine sk_Vv (q0 := 0) (n := 1) (rest := []) (wr := fmR om_7_3 _) ⟨hx, hb, hml, hown, hts⟩ hl.1 (c_eCode_addX l D cI cJ cC cZ cS (q 56) (q 57) (q 58) (q 59) (q 60) cl mw f1 1 (bd og (nxF tb tl)) 13 hcl hmw (by decide) (by omega) (hO_80).2 (rm_S hO_80 htl hL_82)) w_5_83 w_3_98 w_3_99 w_1_8 w_3_100 hd_X0_add_1 ⟨⟨(by dsimp only; omega), (by dsimp only; omega)⟩, (by dsimp only; omega), (by dsimp only; omega)⟩ hK hP hD hS hA (fmT om_7_3 0) (fmF om_7_3 0) (fm_C1 rfl rfl) (fm_R rfl rfl) (fm_nT om_7_3 0) (fm_nF om_7_3 0) (fm_di om_7_3 0) rfl rfl rfl rfl (Nat.le_of_ble_eq_true rfl) dX5_readFact_115 (fun u H locs hw hP hD hS => ?_)
        refine exE hw (fun c2_83 hw1 => exE hw1 (fun w2_84 hw2 => exE hw2 (fun g1_85 hw3 => anE hw3 (fun hc2_86 hw4 => anE hw4 (fun hw2_87 hw5 => anE hw5 (fun hO2_88 eu_89 => ?_))))))
        clear hw hw1 hw2 hw3 hw4 hw5
        refine o_mgE (ws' := [(q 4, .inr (5, [.ref (q 2), .ref (q 55), .ref (q 56), .int vb])), (q 55, .inr (8, [.ref (q 2), .int 2])), (q 2, .inr (6, [.ref (q 0), .int (nI xa2_3), .int xv2_4, .int (nI xo), .int xt2_5, .int (nI xz2_6), .int xf2_7, .int xp2_8])), (q 0, .inr (10, [.ref (q 20), .int (nI tl)])), (q 20, .inl (cI, 1600, .inl (fun j => nI (tb j)))), (q 56, .inr (0, [.ref (q 57), .ref (q 58), .ref (q 59), .ref (q 60), .int (nI c2_83), .int (nI w2_84)])), (q 57, .inl (cI, 1600, .inl g1_85))]) eu_89 hP hD rfl (fun hP hD => ?_)
        have hO_90 := rs_ad hO_80 hO2_88
        have hL_91 := lenO_ad (v := 13) hL_82
        refine lv_goto (tgt := 184) hx hb dX5_readFact_118 (by decide) ?_
        exact sk_vret hx hb hr hlocks hK hP hD hS (⟨xa2_3, xv2_4, xt2_5, xz2_6, xf2_7, xp2_8, c2_83, w2_84, g1_85, hxa2_11, hxz2_12, hc2_86, hw2_87, by rw [← f_all htb hO hw_81]; exact hO_90, rfl⟩) (Nat.le_of_ble_eq_true rfl) (Nat.le_of_ble_eq_true rfl) dX5_readFact_184
    · skip
      refine lv_aload_n hx hb dX5_readFact_62 rfl (lv_at hl 0 rfl) ?_
      refine sk_get (v := .ref (q 2)) (C := RX5) (T := TX5) (N := 4) hx hb hts inlX5 hown hK hP 0 rfl rfl 0 (Nat.le_of_ble_eq_true rfl) w_1_154 rfl dX5_readFact_63 ?_
      refine lv_bipush (v := 91) hx hb dX5_readFact_66 (by decide) ?_
      refine sk_ViZ (q0 := 0) (n := 1) (rest := []) (wr := fmR om_7_1c _) ⟨hx, hb, hml, hown, hts⟩ hl.1 (c_erd_opens l D cI cJ cC cZ cS zk zv zf q xa xv xo xt xz xf xp tl tb 91 (rc og) hxa hxz htl htb (by decide) (by omega) (hO).1) w_5_82 w_3_102 w_3_103 w_1_4 w_3_104 hd_X6_opens_1 ⟨⟨(by dsimp only; omega), (by dsimp only; omega)⟩, (by dsimp only; omega), (by dsimp only; omega)⟩ hK hP hD hS hZ hA (fmT om_7_1c 0) (fmF om_7_1c 0) (fm_C1 rfl rfl) (fm_R rfl rfl) (fm_nT om_7_1c 0) (fm_nF om_7_1c 0) (fm_di om_7_1c 0) rfl rfl rfl rfl (Nat.le_of_ble_eq_true rfl) dX5_readFact_68 (fun r_99 u H locs hw hP hD hS => ?_)
      refine exE hw (fun xa2_92 hw1 => exE hw1 (fun xv2_93 hw2 => exE hw2 (fun xt2_94 hw3 => exE hw3 (fun xz2_95 hw4 => exE hw4 (fun xf2_96 hw5 => exE hw5 (fun xp2_97 hw6 => exE hw6 (fun b_98 hw7 => anE hw7 (fun hxa2_100 hw8 => anE hw8 (fun hxz2_101 hw9 => anE hw9 (fun hb1_102 hw10 => anE hw10 (fun hO2_103 hw11 => anE hw11 (fun er_105 eu_104 => ?_))))))))))))
      clear hw hw1 hw2 hw3 hw4 hw5 hw6 hw7 hw8 hw9 hw10 hw11
      subst er_105
      refine o_mgE (ws' := [(q 4, .inr (5, [.ref (q 2), .ref (q 55), .ref (q 56), .int vb])), (q 55, .inr (8, [.ref (q 2), .int 2])), (q 2, .inr (6, [.ref (q 0), .int (nI xa2_92), .int xv2_93, .int (nI (xo + b_98)), .int xt2_94, .int (nI xz2_95), .int xf2_96, .int xp2_97])), (q 0, .inr (10, [.ref (q 20), .int (nI tl)])), (q 20, .inl (cI, 1600, .inl (fun j => nI (tb j)))), (q 56, .inr (0, [.ref (q 57), .ref (q 58), .ref (q 59), .ref (q 60), .int (nI cl), .int (nI mw)])), (q 57, .inl (cI, 1600, .inl f1))]) eu_104 hP hD rfl (fun hP hD => ?_)
      have hO_106 := rs_bd hO hO2_103
      have hL_107 := lenS_op (n := tl) (w := 91) (xo := xo) htb (by decide) hlen
      refine lv_if_eq (tgt := 184) hx hb dX5_readFact_71 (by decide) (fun c_108 => ?_) (fun c_108 => ?_)
      · have c_108 : b_98 = 0 := (neq b_98 0 (by omega) (Nat.le_of_ble_eq_true rfl)).mp c_108
        obtain rfl : b_98 = 0 := by omega
        exact sk_vret hx hb hr hlocks hK hP hD hS (⟨xa2_92, xv2_93, xt2_94, xz2_95, xf2_96, xp2_97, cl, mw, f1, hxa2_100, hxz2_101, hcl, hmw, by rw [← f_sq0 (xo := xo) htb hO c_2 (rr_0 hb1_102 (by omega) c_2) (by have := rr_0 hb1_102 (by omega) c_2; omega)]; exact hO_106, rfl⟩) (Nat.le_of_ble_eq_true rfl) (Nat.le_of_ble_eq_true rfl) dX5_readFact_184
      · have c_108 : ¬ (b_98 = 0) := fun h => c_108 ((neq b_98 0 (by omega) (Nat.le_of_ble_eq_true rfl)).mpr h)
        have hxo1 := (rr_1 hb1_102 (by omega)).1
        obtain rfl : b_98 = 1 := by omega
        refine lv_aload_n hx hb dX5_readFact_74 rfl (lv_at hl 0 rfl) ?_
        refine sk_VvZ (q0 := 0) (n := 0) (rest := []) (wr := fmR om_7_7f _) ⟨hx, hb, hml, hown, hts⟩ hl.1 (ht (dd - 1) (by omega) q vb xa2_92 xv2_93 (xo + 1) xt2_94 xz2_95 xf2_96 xp2_97 tl tb cl mw f1 (bd og (opF tb tl 91 xo)) hxa2_100 hxz2_101 htl htb hcl hmw (by omega) hO_106 (lenO_S hL_107)) w_5_70 w_5_72 w_0_34 w_1_7 w_5_73 hd_X5_readTest_0 ⟨⟨(by dsimp only; omega), (by dsimp only; omega)⟩, (by dsimp only; omega), (by dsimp only; omega)⟩ hK hP hD hS hZ hA (fmT om_7_7f 0) (fmF om_7_7f 0) (fm_C1 rfl rfl) (fm_R rfl rfl) (fm_nT om_7_7f 0) (fm_nF om_7_7f 0) (fm_di om_7_7f 0) rfl rfl rfl rfl (Nat.le_of_ble_eq_true rfl) dX5_readFact_75 (fun u H locs hw hP hD hS => ?_)
        refine exE hw (fun xa2_109 hw1 => exE hw1 (fun xv2_110 hw2 => exE hw2 (fun xt2_111 hw3 => exE hw3 (fun xz2_112 hw4 => exE hw4 (fun xf2_113 hw5 => exE hw5 (fun xp2_114 hw6 => exE hw6 (fun c2_115 hw7 => exE hw7 (fun w2_116 hw8 => exE hw8 (fun g1_117 hw9 => anE hw9 (fun hxa2_118 hw10 => anE hw10 (fun hxz2_119 hw11 => anE hw11 (fun hc2_120 hw12 => anE hw12 (fun hw2_121 hw13 => anE hw13 (fun hO2_122 eu_123 => ?_))))))))))))))
        clear hw hw1 hw2 hw3 hw4 hw5 hw6 hw7 hw8 hw9 hw10 hw11 hw12 hw13
        refine o_mgE (ws' := [(q 4, .inr (5, [.ref (q 2), .ref (q 55), .ref (q 56), .int vb])), (q 55, .inr (8, [.ref (q 2), .int 2])), (q 2, .inr (6, [.ref (q 0), .int (nI xa2_109), .int xv2_110, .int (nI (xo + 1)), .int xt2_111, .int (nI xz2_112), .int xf2_113, .int xp2_114])), (q 0, .inr (10, [.ref (q 20), .int (nI tl)])), (q 20, .inl (cI, 1600, .inl (fun j => nI (tb j)))), (q 56, .inr (0, [.ref (q 57), .ref (q 58), .ref (q 59), .ref (q 60), .int (nI c2_115), .int (nI w2_116)])), (q 57, .inl (cI, 1600, .inl g1_117))]) eu_123 hP hD rfl (fun hP hD => ?_)
        have hL_124 := lenS_ap (len_test (tb := tb) (n := tl) (len_fc (tb := tb) (n := tl) (dd - 1))) hL_107
        refine lv_aload_n hx hb dX5_readFact_78 rfl (lv_at hl 0 rfl) ?_
        refine sk_get (v := .ref (q 2)) (C := RX5) (T := TX5) (N := 4) hx hb hts inlX5 hown hK hP 0 rfl rfl 0 (Nat.le_of_ble_eq_true rfl) w_1_154 rfl dX5_readFact_79 ?_
        refine sk_Vv (q0 := 0) (n := 0) (rest := []) (wr := fmR om_7_10 _) ⟨hx, hb, hml, hown, hts⟩ hl.1 (c_erd_shuts l D cI cJ cC cZ cS q xa2_109 xv2_110 (xo + 1) xt2_111 xz2_112 xf2_113 xp2_114 (by omega) (by omega)) w_5_84 w_3_106 w_3_107 w_1_4 w_3_108 hd_X6_shuts_0 ⟨⟨(by dsimp only; omega), (by dsimp only; omega)⟩, (by dsimp only; omega), (by dsimp only; omega)⟩ hK hP hD hS hA (fmT om_7_10 0) (fmF om_7_10 0) (fm_C1 rfl rfl) (fm_R rfl rfl) (fm_nT om_7_10 0) (fm_nF om_7_10 0) (fm_di om_7_10 0) rfl rfl rfl rfl (Nat.le_of_ble_eq_true rfl) dX5_readFact_82 (fun u H locs hw hP hD hS => ?_)
        refine o_mgE (ws' := [(q 4, .inr (5, [.ref (q 2), .ref (q 55), .ref (q 56), .int vb])), (q 55, .inr (8, [.ref (q 2), .int 2])), (q 2, .inr (6, [.ref (q 0), .int (nI xa2_109), .int xv2_110, .int (nI ((xo + 1) - 1)), .int xt2_111, .int (nI xz2_112), .int xf2_113, .int xp2_114])), (q 0, .inr (10, [.ref (q 20), .int (nI tl)])), (q 20, .inl (cI, 1600, .inl (fun j => nI (tb j)))), (q 56, .inr (0, [.ref (q 57), .ref (q 58), .ref (q 59), .ref (q 60), .int (nI c2_115), .int (nI w2_116)])), (q 57, .inl (cI, 1600, .inl g1_117))]) hw hP hD rfl (fun hP hD => ?_)
        refine lv_aload_n hx hb dX5_readFact_85 rfl (lv_at hl 0 rfl) ?_
        refine sk_get (v := .ref (q 2)) (C := RX5) (T := TX5) (N := 4) hx hb hts inlX5 hown hK hP 0 rfl rfl 0 (Nat.le_of_ble_eq_true rfl) w_1_154 rfl dX5_readFact_86 ?_
        refine lv_bipush (v := 93) hx hb dX5_readFact_89 (by decide) ?_
        refine sk_VvZ (q0 := 0) (n := 1) (rest := []) (wr := fmR om_7_1c _) ⟨hx, hb, hml, hown, hts⟩ hl.1 (c_erd_needs l D cI cJ cC cZ cS zk zv zf q xa2_109 xv2_110 ((xo + 1) - 1) xt2_111 xz2_112 xf2_113 xp2_114 tl tb 93 (rc (bindR (bd og (opF tb tl 91 xo)) (apF (testR tb tl (fcR tb tl (dd - 1)))))) hxa2_118 hxz2_119 htl htb (by decide) (hO2_122).1) w_5_85 w_3_51 w_3_52 w_1_4 w_3_53 hd_X6_needs_1 ⟨⟨(by dsimp only; omega), (by dsimp only; omega)⟩, (by dsimp only; omega), (by dsimp only; omega)⟩ hK hP hD hS hZ hA (fmT om_7_1c 0) (fmF om_7_1c 0) (fm_C1 rfl rfl) (fm_R rfl rfl) (fm_nT om_7_1c 0) (fm_nF om_7_1c 0) (fm_di om_7_1c 0) rfl rfl rfl rfl (Nat.le_of_ble_eq_true rfl) dX5_readFact_91 (fun u H locs hw hP hD hS => ?_)
        refine exE hw (fun xa2_125 hw1 => exE hw1 (fun xv2_126 hw2 => exE hw2 (fun xt2_127 hw3 => exE hw3 (fun xz2_128 hw4 => exE hw4 (fun xf2_129 hw5 => exE hw5 (fun xp2_130 hw6 => anE hw6 (fun hxa2_131 hw7 => anE hw7 (fun hxz2_132 hw8 => anE hw8 (fun hO2_133 eu_134 => ?_)))))))))
        clear hw hw1 hw2 hw3 hw4 hw5 hw6 hw7 hw8
        refine o_mgE (ws' := [(q 4, .inr (5, [.ref (q 2), .ref (q 55), .ref (q 56), .int vb])), (q 55, .inr (8, [.ref (q 2), .int 2])), (q 2, .inr (6, [.ref (q 0), .int (nI xa2_125), .int xv2_126, .int (nI ((xo + 1) - 1)), .int xt2_127, .int (nI xz2_128), .int xf2_129, .int xp2_130])), (q 0, .inr (10, [.ref (q 20), .int (nI tl)])), (q 20, .inl (cI, 1600, .inl (fun j => nI (tb j)))), (q 56, .inr (0, [.ref (q 57), .ref (q 58), .ref (q 59), .ref (q 60), .int (nI c2_115), .int (nI w2_116)])), (q 57, .inl (cI, 1600, .inl g1_117))]) eu_134 hP hD rfl (fun hP hD => ?_)
        have hO_135 := rs_bd hO2_122 hO2_133
        have hL_136 := lenS_bd (fwd_tk (tb := tb) (n := tl) (w := 93)) hL_124
        refine lv_goto (tgt := 184) hx hb dX5_readFact_94 (by decide) ?_
        exact sk_vret hx hb hr hlocks hK hP hD hS (⟨xa2_125, xv2_126, xt2_127, xz2_128, xf2_129, xp2_130, c2_115, w2_116, g1_117, hxa2_131, hxz2_132, hc2_120, hw2_121, by rw [← f_sq (xo := xo) htb hO c_2 (by omega) (by omega)]; exact hO_135, rfl⟩) (Nat.le_of_ble_eq_true rfl) (Nat.le_of_ble_eq_true rfl) dX5_readFact_184
  · skip
    refine lv_aload_n hx hb dX5_readFact_13 rfl (lv_at hl 0 rfl) ?_
    refine sk_get (v := .ref (q 2)) (C := RX5) (T := TX5) (N := 4) hx hb hts inlX5 hown hK hP 0 rfl rfl 0 (Nat.le_of_ble_eq_true rfl) w_1_154 rfl dX5_readFact_14 ?_
    refine lv_sipush (v := 275) hx hb dX5_readFact_17 (by decide) ?_
    refine sk_ViZ (q0 := 0) (n := 1) (rest := []) (wr := fmR om_7_1c _) ⟨hx, hb, hml, hown, hts⟩ hl.1 (c_erd_opens l D cI cJ cC cZ cS zk zv zf q xa xv xo xt xz xf xp tl tb 275 (rc og) hxa hxz htl htb (by decide) (by omega) (hO).1) w_5_82 w_3_102 w_3_103 w_1_4 w_3_104 hd_X6_opens_1 ⟨⟨(by dsimp only; omega), (by dsimp only; omega)⟩, (by dsimp only; omega), (by dsimp only; omega)⟩ hK hP hD hS hZ hA (fmT om_7_1c 0) (fmF om_7_1c 0) (fm_C1 rfl rfl) (fm_R rfl rfl) (fm_nT om_7_1c 0) (fm_nF om_7_1c 0) (fm_di om_7_1c 0) rfl rfl rfl rfl (Nat.le_of_ble_eq_true rfl) dX5_readFact_20 (fun r_144 u H locs hw hP hD hS => ?_)
    refine exE hw (fun xa2_137 hw1 => exE hw1 (fun xv2_138 hw2 => exE hw2 (fun xt2_139 hw3 => exE hw3 (fun xz2_140 hw4 => exE hw4 (fun xf2_141 hw5 => exE hw5 (fun xp2_142 hw6 => exE hw6 (fun b_143 hw7 => anE hw7 (fun hxa2_145 hw8 => anE hw8 (fun hxz2_146 hw9 => anE hw9 (fun hb1_147 hw10 => anE hw10 (fun hO2_148 hw11 => anE hw11 (fun er_150 eu_149 => ?_))))))))))))
    clear hw hw1 hw2 hw3 hw4 hw5 hw6 hw7 hw8 hw9 hw10 hw11
    subst er_150
    refine o_mgE (ws' := [(q 4, .inr (5, [.ref (q 2), .ref (q 55), .ref (q 56), .int vb])), (q 55, .inr (8, [.ref (q 2), .int 2])), (q 2, .inr (6, [.ref (q 0), .int (nI xa2_137), .int xv2_138, .int (nI (xo + b_143)), .int xt2_139, .int (nI xz2_140), .int xf2_141, .int xp2_142])), (q 0, .inr (10, [.ref (q 20), .int (nI tl)])), (q 20, .inl (cI, 1600, .inl (fun j => nI (tb j)))), (q 56, .inr (0, [.ref (q 57), .ref (q 58), .ref (q 59), .ref (q 60), .int (nI cl), .int (nI mw)])), (q 57, .inl (cI, 1600, .inl f1))]) eu_149 hP hD rfl (fun hP hD => ?_)
    have hO_151 := rs_bd hO hO2_148
    have hL_152 := lenS_op (n := tl) (w := 275) (xo := xo) htb (by decide) hlen
    refine lv_if_eq (tgt := 184) hx hb dX5_readFact_23 (by decide) (fun c_153 => ?_) (fun c_153 => ?_)
    · have c_153 : b_143 = 0 := (neq b_143 0 (by omega) (Nat.le_of_ble_eq_true rfl)).mp c_153
      obtain rfl : b_143 = 0 := by omega
      exact sk_vret hx hb hr hlocks hK hP hD hS (⟨xa2_137, xv2_138, xt2_139, xz2_140, xf2_141, xp2_142, cl, mw, f1, hxa2_145, hxz2_146, hcl, hmw, by rw [← f_not0 (xo := xo) htb hO c_1 (rr_0 hb1_147 (by omega) c_1) (by have := rr_0 hb1_147 (by omega) c_1; omega)]; exact hO_151, rfl⟩) (Nat.le_of_ble_eq_true rfl) (Nat.le_of_ble_eq_true rfl) dX5_readFact_184
    · have c_153 : ¬ (b_143 = 0) := fun h => c_153 ((neq b_143 0 (by omega) (Nat.le_of_ble_eq_true rfl)).mpr h)
      have hxo1 := (rr_1 hb1_147 (by omega)).1
      obtain rfl : b_143 = 1 := by omega
      refine lv_aload_n hx hb dX5_readFact_26 rfl (lv_at hl 0 rfl) ?_
      refine sk_VvZ (q0 := 0) (n := 0) (rest := []) (wr := fmR om_7_7f _) ⟨hx, hb, hml, hown, hts⟩ hl.1 (hf (dd - 1) (by omega) q vb xa2_137 xv2_138 (xo + 1) xt2_139 xz2_140 xf2_141 xp2_142 tl tb cl mw f1 (bd og (opF tb tl 275 xo)) hxa2_145 hxz2_146 htl htb hcl hmw (by omega) hO_151 (lenO_S hL_152)) w_5_78 w_5_80 w_0_36 w_1_7 w_5_81 hd_X5_readFact_0 ⟨⟨(by dsimp only; omega), (by dsimp only; omega)⟩, (by dsimp only; omega), (by dsimp only; omega)⟩ hK hP hD hS hZ hA (fmT om_7_7f 0) (fmF om_7_7f 0) (fm_C1 rfl rfl) (fm_R rfl rfl) (fm_nT om_7_7f 0) (fm_nF om_7_7f 0) (fm_di om_7_7f 0) rfl rfl rfl rfl (Nat.le_of_ble_eq_true rfl) dX5_readFact_27 (fun u H locs hw hP hD hS => ?_)
      refine exE hw (fun xa2_154 hw1 => exE hw1 (fun xv2_155 hw2 => exE hw2 (fun xt2_156 hw3 => exE hw3 (fun xz2_157 hw4 => exE hw4 (fun xf2_158 hw5 => exE hw5 (fun xp2_159 hw6 => exE hw6 (fun c2_160 hw7 => exE hw7 (fun w2_161 hw8 => exE hw8 (fun g1_162 hw9 => anE hw9 (fun hxa2_163 hw10 => anE hw10 (fun hxz2_164 hw11 => anE hw11 (fun hc2_165 hw12 => anE hw12 (fun hw2_166 hw13 => anE hw13 (fun hO2_167 eu_168 => ?_))))))))))))))
      clear hw hw1 hw2 hw3 hw4 hw5 hw6 hw7 hw8 hw9 hw10 hw11 hw12 hw13
      refine o_mgE (ws' := [(q 4, .inr (5, [.ref (q 2), .ref (q 55), .ref (q 56), .int vb])), (q 55, .inr (8, [.ref (q 2), .int 2])), (q 2, .inr (6, [.ref (q 0), .int (nI xa2_154), .int xv2_155, .int (nI (xo + 1)), .int xt2_156, .int (nI xz2_157), .int xf2_158, .int xp2_159])), (q 0, .inr (10, [.ref (q 20), .int (nI tl)])), (q 20, .inl (cI, 1600, .inl (fun j => nI (tb j)))), (q 56, .inr (0, [.ref (q 57), .ref (q 58), .ref (q 59), .ref (q 60), .int (nI c2_160), .int (nI w2_161)])), (q 57, .inl (cI, 1600, .inl g1_162))]) eu_168 hP hD rfl (fun hP hD => ?_)
      have hL_169 := lenS_ap (len_fc (tb := tb) (n := tl) (dd - 1)) hL_152
      refine lv_aload_n hx hb dX5_readFact_30 rfl (lv_at hl 0 rfl) ?_
      refine sk_get (v := .ref (q 56)) (C := RX5) (T := TX5) (N := 4) hx hb hts inlX5 hown hK hP 0 rfl rfl 2 (Nat.le_of_ble_eq_true rfl) w_1_156 rfl dX5_readFact_31 ?_
      refine lv_sipush (v := 20001) hx hb dX5_readFact_34 (by decide) ?_
      refine sk_Vv (q0 := 0) (n := 1) (rest := []) (wr := fmR om_7_3 _) ⟨hx, hb, hml, hown, hts⟩ hl.1 (c_eCode_addX l D cI cJ cC cZ cS (q 56) (q 57) (q 58) (q 59) (q 60) c2_160 w2_161 g1_162 20001 (bindR (bd og (opF tb tl 275 xo)) (apF (fcR tb tl (dd - 1)))) 12 hc2_165 hw2_166 (by decide) (by omega) (hO2_167).2 (rm_S hO2_167 htl hL_169)) w_5_83 w_3_98 w_3_99 w_1_8 w_3_100 hd_X0_add_1 ⟨⟨(by dsimp only; omega), (by dsimp only; omega)⟩, (by dsimp only; omega), (by dsimp only; omega)⟩ hK hP hD hS hA (fmT om_7_3 0) (fmF om_7_3 0) (fm_C1 rfl rfl) (fm_R rfl rfl) (fm_nT om_7_3 0) (fm_nF om_7_3 0) (fm_di om_7_3 0) rfl rfl rfl rfl (Nat.le_of_ble_eq_true rfl) dX5_readFact_37 (fun u H locs hw hP hD hS => ?_)
      refine exE hw (fun c2_170 hw1 => exE hw1 (fun w2_171 hw2 => exE hw2 (fun g1_172 hw3 => anE hw3 (fun hc2_173 hw4 => anE hw4 (fun hw2_174 hw5 => anE hw5 (fun hO2_175 eu_176 => ?_))))))
      clear hw hw1 hw2 hw3 hw4 hw5
      refine o_mgE (ws' := [(q 4, .inr (5, [.ref (q 2), .ref (q 55), .ref (q 56), .int vb])), (q 55, .inr (8, [.ref (q 2), .int 2])), (q 2, .inr (6, [.ref (q 0), .int (nI xa2_154), .int xv2_155, .int (nI (xo + 1)), .int xt2_156, .int (nI xz2_157), .int xf2_158, .int xp2_159])), (q 0, .inr (10, [.ref (q 20), .int (nI tl)])), (q 20, .inl (cI, 1600, .inl (fun j => nI (tb j)))), (q 56, .inr (0, [.ref (q 57), .ref (q 58), .ref (q 59), .ref (q 60), .int (nI c2_170), .int (nI w2_171)])), (q 57, .inl (cI, 1600, .inl g1_172))]) eu_176 hP hD rfl (fun hP hD => ?_)
      have hO_177 := rs_ad hO2_167 hO2_175
      have hL_178 := lenO_ad (v := 12) hL_169
      refine lv_aload_n hx hb dX5_readFact_40 rfl (lv_at hl 0 rfl) ?_
      refine sk_get (v := .ref (q 2)) (C := RX5) (T := TX5) (N := 4) hx hb hts inlX5 hown hK hP 0 rfl rfl 0 (Nat.le_of_ble_eq_true rfl) w_1_154 rfl dX5_readFact_41 ?_
      refine sk_Vv (q0 := 0) (n := 0) (rest := []) (wr := fmR om_7_10 _) ⟨hx, hb, hml, hown, hts⟩ hl.1 (c_erd_shuts l D cI cJ cC cZ cS q xa2_154 xv2_155 (xo + 1) xt2_156 xz2_157 xf2_158 xp2_159 (by omega) (by omega)) w_5_84 w_3_106 w_3_107 w_1_4 w_3_108 hd_X6_shuts_0 ⟨⟨(by dsimp only; omega), (by dsimp only; omega)⟩, (by dsimp only; omega), (by dsimp only; omega)⟩ hK hP hD hS hA (fmT om_7_10 0) (fmF om_7_10 0) (fm_C1 rfl rfl) (fm_R rfl rfl) (fm_nT om_7_10 0) (fm_nF om_7_10 0) (fm_di om_7_10 0) rfl rfl rfl rfl (Nat.le_of_ble_eq_true rfl) dX5_readFact_44 (fun u H locs hw hP hD hS => ?_)
      refine o_mgE (ws' := [(q 4, .inr (5, [.ref (q 2), .ref (q 55), .ref (q 56), .int vb])), (q 55, .inr (8, [.ref (q 2), .int 2])), (q 2, .inr (6, [.ref (q 0), .int (nI xa2_154), .int xv2_155, .int (nI ((xo + 1) - 1)), .int xt2_156, .int (nI xz2_157), .int xf2_158, .int xp2_159])), (q 0, .inr (10, [.ref (q 20), .int (nI tl)])), (q 20, .inl (cI, 1600, .inl (fun j => nI (tb j)))), (q 56, .inr (0, [.ref (q 57), .ref (q 58), .ref (q 59), .ref (q 60), .int (nI c2_170), .int (nI w2_171)])), (q 57, .inl (cI, 1600, .inl g1_172))]) hw hP hD rfl (fun hP hD => ?_)
      refine lv_goto (tgt := 184) hx hb dX5_readFact_47 (by decide) ?_
      exact sk_vret hx hb hr hlocks hK hP hD hS (⟨xa2_154, xv2_155, xt2_156, xz2_157, xf2_158, xp2_159, c2_170, w2_171, g1_172, hxa2_163, hxz2_164, hc2_173, hw2_174, by rw [← f_not (xo := xo) htb hO c_1 (by omega) (by omega)]; exact hO_177, rfl⟩) (Nat.le_of_ble_eq_true rfl) (Nat.le_of_ble_eq_true rfl) dX5_readFact_184
set_option maxHeartbeats 4000000 in
set_option maxRecDepth 100000 in
theorem c_ereadBoth (l : Launch) (D : va_G) (cI cJ cC cZ cS : ClassId) (zk zv : Nat) (zf : Value) (dd : Nat) (hq : CT_ereadFact l D cI cJ cC cZ cS zk zv zf dd) : CT_ereadBoth l D cI cJ cC cZ cS zk zv zf dd := by
  intro q vb xa xv xo xt xz xf xp tl tb cl mw f1 og hxa hxz htl htb hcl hmw hdd hO hlen
  refine skMZ_of pf_X5_readBoth (Nat.le_of_ble_eq_true rfl) ?_
  intro p e s m below meth c A ls E hP hD hZ hl
  refine skE_el E (fun hx hb hr hml hlocks hin hown hts hK hA => ?_)
  have hown : s.vm.findClass RX5 = some m.cls := hown
  have hS : va_S A s.heap s.heap [] := va_S.rf
  have hl : lv_has ls 2 [(0, .ref (q 4))] := hl
  refine lv_aload_n hx hb dX5_readBoth_0 rfl (lv_at hl 0 rfl) ?_
  refine sk_VvZ (q0 := 0) (n := 0) (rest := []) (wr := fmR om_7_7f _) ⟨hx, hb, hml, hown, hts⟩ hl.1 (hq q vb xa xv xo xt xz xf xp tl tb cl mw f1 og hxa hxz htl htb hcl hmw hdd hO hlen) w_5_78 w_5_80 w_0_36 w_1_7 w_5_81 hd_X5_readFact_0 ⟨⟨(by dsimp only; omega), (by dsimp only; omega)⟩, (by dsimp only; omega), (by dsimp only; omega)⟩ hK hP hD hS hZ hA (fmT om_7_7f 0) (fmF om_7_7f 0) (fm_C1 rfl rfl) (fm_R rfl rfl) (fm_nT om_7_7f 0) (fm_nF om_7_7f 0) (fm_di om_7_7f 0) rfl rfl rfl rfl (Nat.le_of_ble_eq_true rfl) dX5_readBoth_1 (fun u H locs hw hP hD hS => ?_)
  refine exE hw (fun xa2_1 hw1 => exE hw1 (fun xv2_2 hw2 => exE hw2 (fun xt2_3 hw3 => exE hw3 (fun xz2_4 hw4 => exE hw4 (fun xf2_5 hw5 => exE hw5 (fun xp2_6 hw6 => exE hw6 (fun c2_7 hw7 => exE hw7 (fun w2_8 hw8 => exE hw8 (fun g1_9 hw9 => anE hw9 (fun hxa2_10 hw10 => anE hw10 (fun hxz2_11 hw11 => anE hw11 (fun hc2_12 hw12 => anE hw12 (fun hw2_13 hw13 => anE hw13 (fun hO2_14 eu_15 => ?_))))))))))))))
  clear hw hw1 hw2 hw3 hw4 hw5 hw6 hw7 hw8 hw9 hw10 hw11 hw12 hw13
  refine o_mgE (ws' := [(q 4, .inr (5, [.ref (q 2), .ref (q 55), .ref (q 56), .int vb])), (q 55, .inr (8, [.ref (q 2), .int 2])), (q 2, .inr (6, [.ref (q 0), .int (nI xa2_1), .int xv2_2, .int (nI xo), .int xt2_3, .int (nI xz2_4), .int xf2_5, .int xp2_6])), (q 0, .inr (10, [.ref (q 20), .int (nI tl)])), (q 20, .inl (cI, 1600, .inl (fun j => nI (tb j)))), (q 56, .inr (0, [.ref (q 57), .ref (q 58), .ref (q 59), .ref (q 60), .int (nI c2_7), .int (nI w2_8)])), (q 57, .inl (cI, 1600, .inl g1_9))]) eu_15 hP hD rfl (fun hP hD => ?_)
  have hL_16 := lenO_ap (len_fc (tb := tb) (n := tl) dd) hlen
  refine lv_iconst (v := 0) hx hb dX5_readBoth_4 ic_0 ?_
  refine lv_istore_n (lv' := [(1, .int 0), (0, .ref (q 4))]) hx hb dX5_readBoth_5 rfl hl (by decide) rfl (fun ls hl => ?_)
  have lp_17 : ∀ (n_18 : Nat) (i : Nat) (za : Nat) (zw : Int32) (zt : Int32) (zz : Nat) (zg : Int32) (zp : Int32) (yc : Nat) (yw : Nat) (yf : Nat → Int32) (zo : Res) (H : Heap) (locs : List Loc) (ls : Array Slot), 1600 - i < n_18 → (rsO tb tl zo za zw zt zz zg zp yc yw yf) → (i ≤ 1600) → (za ≤ 1600) → (zz ≤ 1600) → (yc ≤ 1600) → (yw ≤ 1) → (lenO zo) → (iO i zo) → (bindR zo (fun r => andR tb tl (fcR tb tl dd) (tl + 2) r.1 r.2) = bindR og (apF (bothR tb tl (fcR tb tl dd)))) → va_P D vwCl [(q 4, .inr (5, [.ref (q 2), .ref (q 55), .ref (q 56), .int vb])), (q 55, .inr (8, [.ref (q 2), .int 2])), (q 2, .inr (6, [.ref (q 0), .int (nI za), .int zw, .int (nI xo), .int zt, .int (nI zz), .int zg, .int zp])), (q 0, .inr (10, [.ref (q 20), .int (nI tl)])), (q 20, .inl (cI, 1600, .inl (fun j => nI (tb j)))), (q 56, .inr (0, [.ref (q 57), .ref (q 58), .ref (q 59), .ref (q 60), .int (nI yc), .int (nI yw)])), (q 57, .inl (cI, 1600, .inl yf))] H → va_D A [(q 4, .inr (5, [.ref (q 2), .ref (q 55), .ref (q 56), .int vb])), (q 55, .inr (8, [.ref (q 2), .int 2])), (q 2, .inr (6, [.ref (q 0), .int (nI za), .int zw, .int (nI xo), .int zt, .int (nI zz), .int zg, .int zp])), (q 0, .inr (10, [.ref (q 20), .int (nI tl)])), (q 20, .inl (cI, 1600, .inl (fun j => nI (tb j)))), (q 56, .inr (0, [.ref (q 57), .ref (q 58), .ref (q 59), .ref (q 60), .int (nI yc), .int (nI yw)])), (q 57, .inl (cI, 1600, .inl yf))] → va_S A s.heap H locs → lv_has ls 2 [(1, .int (nI i)), (0, .ref (q 4))] → W p l e { frames := 41 + 8 * dd, cells := 0, slots := 0, locals := 925 + 200 * dd } s m ([.ref (q 4)] : List Value).toArray below meth c H locs 0 0 (MQ below (skV D (skT cI cJ cC cZ cS) (fun (u : va_W) => ∃ (xa2 : Nat), ∃ (xv2 : Int32), ∃ (xt2 : Int32), ∃ (xz2 : Nat), ∃ (xf2 : Int32), ∃ (xp2 : Int32), ∃ (c2 : Nat), ∃ (w2 : Nat), ∃ (g1 : Nat → Int32), xa2 ≤ 1600 ∧ xz2 ≤ 1600 ∧ c2 ≤ 1600 ∧ w2 ≤ 1 ∧ rsO tb tl (bindR og (apF (bothR tb tl (fcR tb tl dd)))) xa2 xv2 xt2 xz2 xf2 xp2 c2 w2 g1 ∧ u = [(q 4, .inr (5, [.ref (q 2), .ref (q 55), .ref (q 56), .int vb])), (q 55, .inr (8, [.ref (q 2), .int 2])), (q 2, .inr (6, [.ref (q 0), .int (nI xa2), .int xv2, .int (nI xo), .int xt2, .int (nI xz2), .int xf2, .int xp2])), (q 0, .inr (10, [.ref (q 20), .int (nI tl)])), (q 20, .inl (cI, 1600, .inl (fun j => nI (tb j)))), (q 56, .inr (0, [.ref (q 57), .ref (q 58), .ref (q 59), .ref (q 60), .int (nI c2), .int (nI w2)])), (q 57, .inl (cI, 1600, .inl g1))]) A) ([.ref (q 4)] : List Value).toArray s 0 0 A) (F0 m 6 ls []) := by
    intro n_18
    induction n_18 with
    | zero => intro i za zw zt zz zg zp yc yw yf zo H locs ls hm; exact absurd hm (Nat.not_lt_zero _)
    | succ n_18 ih_lp_17 =>
      intro i za zw zt zz zg zp yc yw yf zo H locs ls hm hzO hi hza hzz hyc hyw hzl hiO hrem hP hD hS hl
      refine lv_iload_n hx hb dX5_readBoth_6 rfl (lv_at hl 0 rfl) ?_
      refine lv_sipush (v := 1600) hx hb dX5_readBoth_7 (by decide) ?_
      refine lv_icmp_ge (tgt := 46) hx hb dX5_readBoth_10 (by decide) (fun c_19 => ?_) (fun c_19 => ?_)
      · have c_19 : 1600 ≤ i := (nle 1600 i (Nat.le_of_ble_eq_true rfl) (by omega)).mp c_19
        exact sk_vret hx hb hr hlocks hK hP hD hS (⟨za, zw, zt, zz, zg, zp, yc, yw, yf, hza, hzz, hyc, hyw, both_e htb hzO htl hiO (Or.inl (by omega)) hrem hzO, rfl⟩) (Nat.le_of_ble_eq_true rfl) (Nat.le_of_ble_eq_true rfl) dX5_readBoth_46
      · have c_19 : ¬ (1600 ≤ i) := fun h => c_19 ((nle 1600 i (Nat.le_of_ble_eq_true rfl) (by omega)).mpr h)
        refine lv_aload_n hx hb dX5_readBoth_13 rfl (lv_at hl 1 rfl) ?_
        refine sk_get (v := .ref (q 2)) (C := RX5) (T := TX5) (N := 4) hx hb hts inlX5 hown hK hP 0 rfl rfl 0 (Nat.le_of_ble_eq_true rfl) w_1_154 rfl dX5_readBoth_14 ?_
        refine lv_sipush (v := 274) hx hb dX5_readBoth_17 (by decide) ?_
        refine sk_ViZ (q0 := 0) (n := 1) (rest := []) (wr := fmR om_7_1c _) ⟨hx, hb, hml, hown, hts⟩ hl.1 (c_erd_takes l D cI cJ cC cZ cS zk zv zf q za zw xo zt zz zg zp tl tb 274 (rc zo) hza hzz htl htb (by decide) (hzO).1) w_5_86 w_5_87 w_5_88 w_1_4 w_5_89 hd_X6_takes_1 ⟨⟨(by dsimp only; omega), (by dsimp only; omega)⟩, (by dsimp only; omega), (by dsimp only; omega)⟩ hK hP hD hS hZ hA (fmT om_7_1c 0) (fmF om_7_1c 0) (fm_C1 rfl rfl) (fm_R rfl rfl) (fm_nT om_7_1c 0) (fm_nF om_7_1c 0) (fm_di om_7_1c 0) rfl rfl rfl rfl (Nat.le_of_ble_eq_true rfl) dX5_readBoth_20 (fun r_27 u H locs hw hP hD hS => ?_)
        refine exE hw (fun xa2_20 hw1 => exE hw1 (fun xv2_21 hw2 => exE hw2 (fun xt2_22 hw3 => exE hw3 (fun xz2_23 hw4 => exE hw4 (fun xf2_24 hw5 => exE hw5 (fun xp2_25 hw6 => exE hw6 (fun b_26 hw7 => anE hw7 (fun hxa2_28 hw8 => anE hw8 (fun hxz2_29 hw9 => anE hw9 (fun hb1_30 hw10 => anE hw10 (fun hO2_31 hw11 => anE hw11 (fun er_33 eu_32 => ?_))))))))))))
        clear hw hw1 hw2 hw3 hw4 hw5 hw6 hw7 hw8 hw9 hw10 hw11
        subst er_33
        refine o_mgE (ws' := [(q 4, .inr (5, [.ref (q 2), .ref (q 55), .ref (q 56), .int vb])), (q 55, .inr (8, [.ref (q 2), .int 2])), (q 2, .inr (6, [.ref (q 0), .int (nI xa2_20), .int xv2_21, .int (nI xo), .int xt2_22, .int (nI xz2_23), .int xf2_24, .int xp2_25])), (q 0, .inr (10, [.ref (q 20), .int (nI tl)])), (q 20, .inl (cI, 1600, .inl (fun j => nI (tb j)))), (q 56, .inr (0, [.ref (q 57), .ref (q 58), .ref (q 59), .ref (q 60), .int (nI yc), .int (nI yw)])), (q 57, .inl (cI, 1600, .inl yf))]) eu_32 hP hD rfl (fun hP hD => ?_)
        refine lv_if_eq (tgt := 46) hx hb dX5_readBoth_23 (by decide) (fun c_34 => ?_) (fun c_34 => ?_)
        · have c_34 : b_26 = 0 := (neq b_26 0 (by omega) (Nat.le_of_ble_eq_true rfl)).mp c_34
          have hw_36 := (rr_0 hO2_31 (by omega)).1
          have hO_35 := rs_re hzO (rr_0 hO2_31 (by omega)).2
          exact sk_vret hx hb hr hlocks hK hP hD hS (⟨xa2_20, xv2_21, xt2_22, xz2_23, xf2_24, xp2_25, yc, yw, yf, hxa2_28, hxz2_29, hyc, hyw, both_e htb hzO htl hiO (Or.inr hw_36) hrem hO_35, rfl⟩) (Nat.le_of_ble_eq_true rfl) (Nat.le_of_ble_eq_true rfl) dX5_readBoth_46
        · have c_34 : ¬ (b_26 = 0) := fun h => c_34 ((neq b_26 0 (by omega) (Nat.le_of_ble_eq_true rfl)).mpr h)
          have hw_38 := (rr_1 hO2_31 (by omega)).1
          have hO_37 := rs_bd hzO (rr_1 hO2_31 (by omega)).2
          have hL_39 := lenS_nx htb hzO ⟨by rw [hw_38]; decide, by rw [hw_38]; decide⟩ hzl
          refine lv_aload_n hx hb dX5_readBoth_26 rfl (lv_at hl 1 rfl) ?_
          refine sk_VvZ (q0 := 0) (n := 0) (rest := []) (wr := fmR om_7_7f _) ⟨hx, hb, hml, hown, hts⟩ hl.1 (hq q vb xa2_20 xv2_21 xo xt2_22 xz2_23 xf2_24 xp2_25 tl tb yc yw yf (bd zo (nxF tb tl)) hxa2_28 hxz2_29 htl htb hyc hyw hdd hO_37 (lenO_S hL_39)) w_5_78 w_5_80 w_0_36 w_1_7 w_5_81 hd_X5_readFact_0 ⟨⟨(by dsimp only; omega), (by dsimp only; omega)⟩, (by dsimp only; omega), (by dsimp only; omega)⟩ hK hP hD hS hZ hA (fmT om_7_7f 0) (fmF om_7_7f 0) (fm_C1 rfl rfl) (fm_R rfl rfl) (fm_nT om_7_7f 0) (fm_nF om_7_7f 0) (fm_di om_7_7f 0) rfl rfl rfl rfl (Nat.le_of_ble_eq_true rfl) dX5_readBoth_27 (fun u H locs hw hP hD hS => ?_)
          refine exE hw (fun xa2_40 hw1 => exE hw1 (fun xv2_41 hw2 => exE hw2 (fun xt2_42 hw3 => exE hw3 (fun xz2_43 hw4 => exE hw4 (fun xf2_44 hw5 => exE hw5 (fun xp2_45 hw6 => exE hw6 (fun c2_46 hw7 => exE hw7 (fun w2_47 hw8 => exE hw8 (fun g1_48 hw9 => anE hw9 (fun hxa2_49 hw10 => anE hw10 (fun hxz2_50 hw11 => anE hw11 (fun hc2_51 hw12 => anE hw12 (fun hw2_52 hw13 => anE hw13 (fun hO2_53 eu_54 => ?_))))))))))))))
          clear hw hw1 hw2 hw3 hw4 hw5 hw6 hw7 hw8 hw9 hw10 hw11 hw12 hw13
          refine o_mgE (ws' := [(q 4, .inr (5, [.ref (q 2), .ref (q 55), .ref (q 56), .int vb])), (q 55, .inr (8, [.ref (q 2), .int 2])), (q 2, .inr (6, [.ref (q 0), .int (nI xa2_40), .int xv2_41, .int (nI xo), .int xt2_42, .int (nI xz2_43), .int xf2_44, .int xp2_45])), (q 0, .inr (10, [.ref (q 20), .int (nI tl)])), (q 20, .inl (cI, 1600, .inl (fun j => nI (tb j)))), (q 56, .inr (0, [.ref (q 57), .ref (q 58), .ref (q 59), .ref (q 60), .int (nI c2_46), .int (nI w2_47)])), (q 57, .inl (cI, 1600, .inl g1_48))]) eu_54 hP hD rfl (fun hP hD => ?_)
          have hL_55 := lenS_ap (len_fc (tb := tb) (n := tl) dd) hL_39
          refine lv_aload_n hx hb dX5_readBoth_30 rfl (lv_at hl 1 rfl) ?_
          refine sk_get (v := .ref (q 56)) (C := RX5) (T := TX5) (N := 4) hx hb hts inlX5 hown hK hP 0 rfl rfl 2 (Nat.le_of_ble_eq_true rfl) w_1_156 rfl dX5_readBoth_31 ?_
          refine lv_sipush (v := 30009) hx hb dX5_readBoth_34 (by decide) ?_
          refine sk_Vv (q0 := 0) (n := 1) (rest := []) (wr := fmR om_7_3 _) ⟨hx, hb, hml, hown, hts⟩ hl.1 (c_eCode_addX l D cI cJ cC cZ cS (q 56) (q 57) (q 58) (q 59) (q 60) c2_46 w2_47 g1_48 30009 (bindR (bd zo (nxF tb tl)) (apF (fcR tb tl dd))) 10 hc2_51 hw2_52 (by decide) (by omega) (hO2_53).2 (rm_S hO2_53 htl hL_55)) w_5_83 w_3_98 w_3_99 w_1_8 w_3_100 hd_X0_add_1 ⟨⟨(by dsimp only; omega), (by dsimp only; omega)⟩, (by dsimp only; omega), (by dsimp only; omega)⟩ hK hP hD hS hA (fmT om_7_3 0) (fmF om_7_3 0) (fm_C1 rfl rfl) (fm_R rfl rfl) (fm_nT om_7_3 0) (fm_nF om_7_3 0) (fm_di om_7_3 0) rfl rfl rfl rfl (Nat.le_of_ble_eq_true rfl) dX5_readBoth_37 (fun u H locs hw hP hD hS => ?_)
          refine exE hw (fun c2_56 hw1 => exE hw1 (fun w2_57 hw2 => exE hw2 (fun g1_58 hw3 => anE hw3 (fun hc2_59 hw4 => anE hw4 (fun hw2_60 hw5 => anE hw5 (fun hO2_61 eu_62 => ?_))))))
          clear hw hw1 hw2 hw3 hw4 hw5
          refine o_mgE (ws' := [(q 4, .inr (5, [.ref (q 2), .ref (q 55), .ref (q 56), .int vb])), (q 55, .inr (8, [.ref (q 2), .int 2])), (q 2, .inr (6, [.ref (q 0), .int (nI xa2_40), .int xv2_41, .int (nI xo), .int xt2_42, .int (nI xz2_43), .int xf2_44, .int xp2_45])), (q 0, .inr (10, [.ref (q 20), .int (nI tl)])), (q 20, .inl (cI, 1600, .inl (fun j => nI (tb j)))), (q 56, .inr (0, [.ref (q 57), .ref (q 58), .ref (q 59), .ref (q 60), .int (nI c2_56), .int (nI w2_57)])), (q 57, .inl (cI, 1600, .inl g1_58))]) eu_62 hP hD rfl (fun hP hD => ?_)
          have hO_63 := rs_ad hO2_53 hO2_61
          have hL_64 := lenO_ad (v := 10) hL_55
          refine lv_iinc (v := nI (i + 1)) (lv' := [(1, .int (nI (i + 1))), (0, .ref (q 4))]) hx hb dX5_readBoth_40 hl (k := 0) rfl (ninc i 1 (by decide)) (by decide) rfl (fun ls hl => ?_)
          refine lv_goto (tgt := 6) hx hb dX5_readBoth_43 (by decide) ?_
          exact ih_lp_17 (i + 1) xa2_40 xv2_41 xt2_42 xz2_43 xf2_44 xp2_45 c2_56 w2_57 g1_58 (ad (bindR (bd zo (nxF tb tl)) (apF (fcR tb tl dd))) 10) _ _ _ (by omega) hO_63 (by omega) hxa2_49 hxz2_50 hc2_59 hw2_60 hL_64 (iO_s htb hzO ⟨by rw [hw_38]; decide, by rw [hw_38]; decide⟩ (fcR_mono dd) hiO) (both_s htb hzO (fcR_mono dd) hw_38 hrem) hP hD hS (lv_sub hl [0, 1] rfl)
  exact lp_17 (1600 - 0 + 1) 0 xa2_1 xv2_2 xt2_3 xz2_4 xf2_5 xp2_6 c2_7 w2_8 g1_9 (bindR og (apF (fcR tb tl dd))) _ _ _ (Nat.lt_succ_self _) hO2_14 (by omega) hxa2_10 hxz2_11 hc2_12 hw2_13 hL_16 (iO_0 _) (both_0 _) hP hD hS (lv_sub hl [0, 1] rfl)
set_option maxHeartbeats 4000000 in
set_option maxRecDepth 100000 in
theorem c_ereadTest (l : Launch) (D : va_G) (cI cJ cC cZ cS : ClassId) (zk zv : Nat) (zf : Value) (dd : Nat) (hq : CT_ereadBoth l D cI cJ cC cZ cS zk zv zf dd) : CT_ereadTest l D cI cJ cC cZ cS zk zv zf dd := by
  intro q vb xa xv xo xt xz xf xp tl tb cl mw f1 og hxa hxz htl htb hcl hmw hdd hO hlen
  refine skMZ_of pf_X5_readTest (Nat.le_of_ble_eq_true rfl) ?_
  intro p e s m below meth c A ls E hP hD hZ hl
  refine skE_el E (fun hx hb hr hml hlocks hin hown hts hK hA => ?_)
  have hown : s.vm.findClass RX5 = some m.cls := hown
  have hS : va_S A s.heap s.heap [] := va_S.rf
  have hl : lv_has ls 2 [(0, .ref (q 4))] := hl
  refine lv_aload_n hx hb dX5_readTest_0 rfl (lv_at hl 0 rfl) ?_
  refine sk_VvZ (q0 := 0) (n := 0) (rest := []) (wr := fmR om_7_7f _) ⟨hx, hb, hml, hown, hts⟩ hl.1 (hq q vb xa xv xo xt xz xf xp tl tb cl mw f1 og hxa hxz htl htb hcl hmw hdd hO hlen) w_5_74 w_5_76 w_0_35 w_1_7 w_5_77 hd_X5_readBoth_0 ⟨⟨(by dsimp only; omega), (by dsimp only; omega)⟩, (by dsimp only; omega), (by dsimp only; omega)⟩ hK hP hD hS hZ hA (fmT om_7_7f 0) (fmF om_7_7f 0) (fm_C1 rfl rfl) (fm_R rfl rfl) (fm_nT om_7_7f 0) (fm_nF om_7_7f 0) (fm_di om_7_7f 0) rfl rfl rfl rfl (Nat.le_of_ble_eq_true rfl) dX5_readTest_1 (fun u H locs hw hP hD hS => ?_)
  refine exE hw (fun xa2_1 hw1 => exE hw1 (fun xv2_2 hw2 => exE hw2 (fun xt2_3 hw3 => exE hw3 (fun xz2_4 hw4 => exE hw4 (fun xf2_5 hw5 => exE hw5 (fun xp2_6 hw6 => exE hw6 (fun c2_7 hw7 => exE hw7 (fun w2_8 hw8 => exE hw8 (fun g1_9 hw9 => anE hw9 (fun hxa2_10 hw10 => anE hw10 (fun hxz2_11 hw11 => anE hw11 (fun hc2_12 hw12 => anE hw12 (fun hw2_13 hw13 => anE hw13 (fun hO2_14 eu_15 => ?_))))))))))))))
  clear hw hw1 hw2 hw3 hw4 hw5 hw6 hw7 hw8 hw9 hw10 hw11 hw12 hw13
  refine o_mgE (ws' := [(q 4, .inr (5, [.ref (q 2), .ref (q 55), .ref (q 56), .int vb])), (q 55, .inr (8, [.ref (q 2), .int 2])), (q 2, .inr (6, [.ref (q 0), .int (nI xa2_1), .int xv2_2, .int (nI xo), .int xt2_3, .int (nI xz2_4), .int xf2_5, .int xp2_6])), (q 0, .inr (10, [.ref (q 20), .int (nI tl)])), (q 20, .inl (cI, 1600, .inl (fun j => nI (tb j)))), (q 56, .inr (0, [.ref (q 57), .ref (q 58), .ref (q 59), .ref (q 60), .int (nI c2_7), .int (nI w2_8)])), (q 57, .inl (cI, 1600, .inl g1_9))]) eu_15 hP hD rfl (fun hP hD => ?_)
  have hL_16 := lenO_ap (len_both (tb := tb) (n := tl) (len_fc (tb := tb) (n := tl) dd)) hlen
  refine lv_iconst (v := 0) hx hb dX5_readTest_4 ic_0 ?_
  refine lv_istore_n (lv' := [(1, .int 0), (0, .ref (q 4))]) hx hb dX5_readTest_5 rfl hl (by decide) rfl (fun ls hl => ?_)
  have lp_17 : ∀ (n_18 : Nat) (i : Nat) (za : Nat) (zw : Int32) (zt : Int32) (zz : Nat) (zg : Int32) (zp : Int32) (yc : Nat) (yw : Nat) (yf : Nat → Int32) (zo : Res) (H : Heap) (locs : List Loc) (ls : Array Slot), 1600 - i < n_18 → (rsO tb tl zo za zw zt zz zg zp yc yw yf) → (i ≤ 1600) → (za ≤ 1600) → (zz ≤ 1600) → (yc ≤ 1600) → (yw ≤ 1) → (lenO zo) → (iO i zo) → (bindR zo (fun r => orR tb tl (fcR tb tl dd) (tl + 2) r.1 r.2) = bindR og (apF (testR tb tl (fcR tb tl dd)))) → va_P D vwCl [(q 4, .inr (5, [.ref (q 2), .ref (q 55), .ref (q 56), .int vb])), (q 55, .inr (8, [.ref (q 2), .int 2])), (q 2, .inr (6, [.ref (q 0), .int (nI za), .int zw, .int (nI xo), .int zt, .int (nI zz), .int zg, .int zp])), (q 0, .inr (10, [.ref (q 20), .int (nI tl)])), (q 20, .inl (cI, 1600, .inl (fun j => nI (tb j)))), (q 56, .inr (0, [.ref (q 57), .ref (q 58), .ref (q 59), .ref (q 60), .int (nI yc), .int (nI yw)])), (q 57, .inl (cI, 1600, .inl yf))] H → va_D A [(q 4, .inr (5, [.ref (q 2), .ref (q 55), .ref (q 56), .int vb])), (q 55, .inr (8, [.ref (q 2), .int 2])), (q 2, .inr (6, [.ref (q 0), .int (nI za), .int zw, .int (nI xo), .int zt, .int (nI zz), .int zg, .int zp])), (q 0, .inr (10, [.ref (q 20), .int (nI tl)])), (q 20, .inl (cI, 1600, .inl (fun j => nI (tb j)))), (q 56, .inr (0, [.ref (q 57), .ref (q 58), .ref (q 59), .ref (q 60), .int (nI yc), .int (nI yw)])), (q 57, .inl (cI, 1600, .inl yf))] → va_S A s.heap H locs → lv_has ls 2 [(1, .int (nI i)), (0, .ref (q 4))] → W p l e { frames := 42 + 8 * dd, cells := 0, slots := 0, locals := 950 + 200 * dd } s m ([.ref (q 4)] : List Value).toArray below meth c H locs 0 0 (MQ below (skV D (skT cI cJ cC cZ cS) (fun (u : va_W) => ∃ (xa2 : Nat), ∃ (xv2 : Int32), ∃ (xt2 : Int32), ∃ (xz2 : Nat), ∃ (xf2 : Int32), ∃ (xp2 : Int32), ∃ (c2 : Nat), ∃ (w2 : Nat), ∃ (g1 : Nat → Int32), xa2 ≤ 1600 ∧ xz2 ≤ 1600 ∧ c2 ≤ 1600 ∧ w2 ≤ 1 ∧ rsO tb tl (bindR og (apF (testR tb tl (fcR tb tl dd)))) xa2 xv2 xt2 xz2 xf2 xp2 c2 w2 g1 ∧ u = [(q 4, .inr (5, [.ref (q 2), .ref (q 55), .ref (q 56), .int vb])), (q 55, .inr (8, [.ref (q 2), .int 2])), (q 2, .inr (6, [.ref (q 0), .int (nI xa2), .int xv2, .int (nI xo), .int xt2, .int (nI xz2), .int xf2, .int xp2])), (q 0, .inr (10, [.ref (q 20), .int (nI tl)])), (q 20, .inl (cI, 1600, .inl (fun j => nI (tb j)))), (q 56, .inr (0, [.ref (q 57), .ref (q 58), .ref (q 59), .ref (q 60), .int (nI c2), .int (nI w2)])), (q 57, .inl (cI, 1600, .inl g1))]) A) ([.ref (q 4)] : List Value).toArray s 0 0 A) (F0 m 6 ls []) := by
    intro n_18
    induction n_18 with
    | zero => intro i za zw zt zz zg zp yc yw yf zo H locs ls hm; exact absurd hm (Nat.not_lt_zero _)
    | succ n_18 ih_lp_17 =>
      intro i za zw zt zz zg zp yc yw yf zo H locs ls hm hzO hi hza hzz hyc hyw hzl hiO hrem hP hD hS hl
      refine lv_iload_n hx hb dX5_readTest_6 rfl (lv_at hl 0 rfl) ?_
      refine lv_sipush (v := 1600) hx hb dX5_readTest_7 (by decide) ?_
      refine lv_icmp_ge (tgt := 46) hx hb dX5_readTest_10 (by decide) (fun c_19 => ?_) (fun c_19 => ?_)
      · have c_19 : 1600 ≤ i := (nle 1600 i (Nat.le_of_ble_eq_true rfl) (by omega)).mp c_19
        exact sk_vret hx hb hr hlocks hK hP hD hS (⟨za, zw, zt, zz, zg, zp, yc, yw, yf, hza, hzz, hyc, hyw, test_e htb hzO htl hiO (Or.inl (by omega)) hrem hzO, rfl⟩) (Nat.le_of_ble_eq_true rfl) (Nat.le_of_ble_eq_true rfl) dX5_readTest_46
      · have c_19 : ¬ (1600 ≤ i) := fun h => c_19 ((nle 1600 i (Nat.le_of_ble_eq_true rfl) (by omega)).mpr h)
        refine lv_aload_n hx hb dX5_readTest_13 rfl (lv_at hl 1 rfl) ?_
        refine sk_get (v := .ref (q 2)) (C := RX5) (T := TX5) (N := 4) hx hb hts inlX5 hown hK hP 0 rfl rfl 0 (Nat.le_of_ble_eq_true rfl) w_1_154 rfl dX5_readTest_14 ?_
        refine lv_sipush (v := 273) hx hb dX5_readTest_17 (by decide) ?_
        refine sk_ViZ (q0 := 0) (n := 1) (rest := []) (wr := fmR om_7_1c _) ⟨hx, hb, hml, hown, hts⟩ hl.1 (c_erd_takes l D cI cJ cC cZ cS zk zv zf q za zw xo zt zz zg zp tl tb 273 (rc zo) hza hzz htl htb (by decide) (hzO).1) w_5_86 w_5_87 w_5_88 w_1_4 w_5_89 hd_X6_takes_1 ⟨⟨(by dsimp only; omega), (by dsimp only; omega)⟩, (by dsimp only; omega), (by dsimp only; omega)⟩ hK hP hD hS hZ hA (fmT om_7_1c 0) (fmF om_7_1c 0) (fm_C1 rfl rfl) (fm_R rfl rfl) (fm_nT om_7_1c 0) (fm_nF om_7_1c 0) (fm_di om_7_1c 0) rfl rfl rfl rfl (Nat.le_of_ble_eq_true rfl) dX5_readTest_20 (fun r_27 u H locs hw hP hD hS => ?_)
        refine exE hw (fun xa2_20 hw1 => exE hw1 (fun xv2_21 hw2 => exE hw2 (fun xt2_22 hw3 => exE hw3 (fun xz2_23 hw4 => exE hw4 (fun xf2_24 hw5 => exE hw5 (fun xp2_25 hw6 => exE hw6 (fun b_26 hw7 => anE hw7 (fun hxa2_28 hw8 => anE hw8 (fun hxz2_29 hw9 => anE hw9 (fun hb1_30 hw10 => anE hw10 (fun hO2_31 hw11 => anE hw11 (fun er_33 eu_32 => ?_))))))))))))
        clear hw hw1 hw2 hw3 hw4 hw5 hw6 hw7 hw8 hw9 hw10 hw11
        subst er_33
        refine o_mgE (ws' := [(q 4, .inr (5, [.ref (q 2), .ref (q 55), .ref (q 56), .int vb])), (q 55, .inr (8, [.ref (q 2), .int 2])), (q 2, .inr (6, [.ref (q 0), .int (nI xa2_20), .int xv2_21, .int (nI xo), .int xt2_22, .int (nI xz2_23), .int xf2_24, .int xp2_25])), (q 0, .inr (10, [.ref (q 20), .int (nI tl)])), (q 20, .inl (cI, 1600, .inl (fun j => nI (tb j)))), (q 56, .inr (0, [.ref (q 57), .ref (q 58), .ref (q 59), .ref (q 60), .int (nI yc), .int (nI yw)])), (q 57, .inl (cI, 1600, .inl yf))]) eu_32 hP hD rfl (fun hP hD => ?_)
        refine lv_if_eq (tgt := 46) hx hb dX5_readTest_23 (by decide) (fun c_34 => ?_) (fun c_34 => ?_)
        · have c_34 : b_26 = 0 := (neq b_26 0 (by omega) (Nat.le_of_ble_eq_true rfl)).mp c_34
          have hw_36 := (rr_0 hO2_31 (by omega)).1
          have hO_35 := rs_re hzO (rr_0 hO2_31 (by omega)).2
          exact sk_vret hx hb hr hlocks hK hP hD hS (⟨xa2_20, xv2_21, xt2_22, xz2_23, xf2_24, xp2_25, yc, yw, yf, hxa2_28, hxz2_29, hyc, hyw, test_e htb hzO htl hiO (Or.inr hw_36) hrem hO_35, rfl⟩) (Nat.le_of_ble_eq_true rfl) (Nat.le_of_ble_eq_true rfl) dX5_readTest_46
        · have c_34 : ¬ (b_26 = 0) := fun h => c_34 ((neq b_26 0 (by omega) (Nat.le_of_ble_eq_true rfl)).mpr h)
          have hw_38 := (rr_1 hO2_31 (by omega)).1
          have hO_37 := rs_bd hzO (rr_1 hO2_31 (by omega)).2
          have hL_39 := lenS_nx htb hzO ⟨by rw [hw_38]; decide, by rw [hw_38]; decide⟩ hzl
          refine lv_aload_n hx hb dX5_readTest_26 rfl (lv_at hl 1 rfl) ?_
          refine sk_VvZ (q0 := 0) (n := 0) (rest := []) (wr := fmR om_7_7f _) ⟨hx, hb, hml, hown, hts⟩ hl.1 (hq q vb xa2_20 xv2_21 xo xt2_22 xz2_23 xf2_24 xp2_25 tl tb yc yw yf (bd zo (nxF tb tl)) hxa2_28 hxz2_29 htl htb hyc hyw hdd hO_37 (lenO_S hL_39)) w_5_74 w_5_76 w_0_35 w_1_7 w_5_77 hd_X5_readBoth_0 ⟨⟨(by dsimp only; omega), (by dsimp only; omega)⟩, (by dsimp only; omega), (by dsimp only; omega)⟩ hK hP hD hS hZ hA (fmT om_7_7f 0) (fmF om_7_7f 0) (fm_C1 rfl rfl) (fm_R rfl rfl) (fm_nT om_7_7f 0) (fm_nF om_7_7f 0) (fm_di om_7_7f 0) rfl rfl rfl rfl (Nat.le_of_ble_eq_true rfl) dX5_readTest_27 (fun u H locs hw hP hD hS => ?_)
          refine exE hw (fun xa2_40 hw1 => exE hw1 (fun xv2_41 hw2 => exE hw2 (fun xt2_42 hw3 => exE hw3 (fun xz2_43 hw4 => exE hw4 (fun xf2_44 hw5 => exE hw5 (fun xp2_45 hw6 => exE hw6 (fun c2_46 hw7 => exE hw7 (fun w2_47 hw8 => exE hw8 (fun g1_48 hw9 => anE hw9 (fun hxa2_49 hw10 => anE hw10 (fun hxz2_50 hw11 => anE hw11 (fun hc2_51 hw12 => anE hw12 (fun hw2_52 hw13 => anE hw13 (fun hO2_53 eu_54 => ?_))))))))))))))
          clear hw hw1 hw2 hw3 hw4 hw5 hw6 hw7 hw8 hw9 hw10 hw11 hw12 hw13
          refine o_mgE (ws' := [(q 4, .inr (5, [.ref (q 2), .ref (q 55), .ref (q 56), .int vb])), (q 55, .inr (8, [.ref (q 2), .int 2])), (q 2, .inr (6, [.ref (q 0), .int (nI xa2_40), .int xv2_41, .int (nI xo), .int xt2_42, .int (nI xz2_43), .int xf2_44, .int xp2_45])), (q 0, .inr (10, [.ref (q 20), .int (nI tl)])), (q 20, .inl (cI, 1600, .inl (fun j => nI (tb j)))), (q 56, .inr (0, [.ref (q 57), .ref (q 58), .ref (q 59), .ref (q 60), .int (nI c2_46), .int (nI w2_47)])), (q 57, .inl (cI, 1600, .inl g1_48))]) eu_54 hP hD rfl (fun hP hD => ?_)
          have hL_55 := lenS_ap (len_both (tb := tb) (n := tl) (len_fc (tb := tb) (n := tl) dd)) hL_39
          refine lv_aload_n hx hb dX5_readTest_30 rfl (lv_at hl 1 rfl) ?_
          refine sk_get (v := .ref (q 56)) (C := RX5) (T := TX5) (N := 4) hx hb hts inlX5 hown hK hP 0 rfl rfl 2 (Nat.le_of_ble_eq_true rfl) w_1_156 rfl dX5_readTest_31 ?_
          refine lv_sipush (v := 30010) hx hb dX5_readTest_34 (by decide) ?_
          refine sk_Vv (q0 := 0) (n := 1) (rest := []) (wr := fmR om_7_3 _) ⟨hx, hb, hml, hown, hts⟩ hl.1 (c_eCode_addX l D cI cJ cC cZ cS (q 56) (q 57) (q 58) (q 59) (q 60) c2_46 w2_47 g1_48 30010 (bindR (bd zo (nxF tb tl)) (apF (bothR tb tl (fcR tb tl dd)))) 11 hc2_51 hw2_52 (by decide) (by omega) (hO2_53).2 (rm_S hO2_53 htl hL_55)) w_5_83 w_3_98 w_3_99 w_1_8 w_3_100 hd_X0_add_1 ⟨⟨(by dsimp only; omega), (by dsimp only; omega)⟩, (by dsimp only; omega), (by dsimp only; omega)⟩ hK hP hD hS hA (fmT om_7_3 0) (fmF om_7_3 0) (fm_C1 rfl rfl) (fm_R rfl rfl) (fm_nT om_7_3 0) (fm_nF om_7_3 0) (fm_di om_7_3 0) rfl rfl rfl rfl (Nat.le_of_ble_eq_true rfl) dX5_readTest_37 (fun u H locs hw hP hD hS => ?_)
          refine exE hw (fun c2_56 hw1 => exE hw1 (fun w2_57 hw2 => exE hw2 (fun g1_58 hw3 => anE hw3 (fun hc2_59 hw4 => anE hw4 (fun hw2_60 hw5 => anE hw5 (fun hO2_61 eu_62 => ?_))))))
          clear hw hw1 hw2 hw3 hw4 hw5
          refine o_mgE (ws' := [(q 4, .inr (5, [.ref (q 2), .ref (q 55), .ref (q 56), .int vb])), (q 55, .inr (8, [.ref (q 2), .int 2])), (q 2, .inr (6, [.ref (q 0), .int (nI xa2_40), .int xv2_41, .int (nI xo), .int xt2_42, .int (nI xz2_43), .int xf2_44, .int xp2_45])), (q 0, .inr (10, [.ref (q 20), .int (nI tl)])), (q 20, .inl (cI, 1600, .inl (fun j => nI (tb j)))), (q 56, .inr (0, [.ref (q 57), .ref (q 58), .ref (q 59), .ref (q 60), .int (nI c2_56), .int (nI w2_57)])), (q 57, .inl (cI, 1600, .inl g1_58))]) eu_62 hP hD rfl (fun hP hD => ?_)
          have hO_63 := rs_ad hO2_53 hO2_61
          have hL_64 := lenO_ad (v := 11) hL_55
          refine lv_iinc (v := nI (i + 1)) (lv' := [(1, .int (nI (i + 1))), (0, .ref (q 4))]) hx hb dX5_readTest_40 hl (k := 0) rfl (ninc i 1 (by decide)) (by decide) rfl (fun ls hl => ?_)
          refine lv_goto (tgt := 6) hx hb dX5_readTest_43 (by decide) ?_
          exact ih_lp_17 (i + 1) xa2_40 xv2_41 xt2_42 xz2_43 xf2_44 xp2_45 c2_56 w2_57 g1_58 (ad (bindR (bd zo (nxF tb tl)) (apF (bothR tb tl (fcR tb tl dd)))) 11) _ _ _ (by omega) hO_63 (by omega) hxa2_49 hxz2_50 hc2_59 hw2_60 hL_64 (iO_s htb hzO ⟨by rw [hw_38]; decide, by rw [hw_38]; decide⟩ (bothR_mono (fcR_mono dd)) hiO) (test_s htb hzO (fcR_mono dd) hw_38 hrem) hP hD hS (lv_sub hl [0, 1] rfl)
  exact lp_17 (1600 - 0 + 1) 0 xa2_1 xv2_2 xt2_3 xz2_4 xf2_5 xp2_6 c2_7 w2_8 g1_9 (bindR og (apF (bothR tb tl (fcR tb tl dd)))) _ _ _ (Nat.lt_succ_self _) hO2_14 (by omega) hxa2_10 hxz2_11 hc2_12 hw2_13 hL_16 (iO_0 _) (test_0 _) hP hD hS (lv_sub hl [0, 1] rfl)
theorem c_etests (l : Launch) (D : va_G) (cI cJ cC cZ cS : ClassId) (zk zv : Nat) (zf : Value) (dd : Nat) : CT_ereadTest l D cI cJ cC cZ cS zk zv zf dd ∧ CT_ereadFact l D cI cJ cC cZ cS zk zv zf dd := by
  induction dd with
  | zero =>
    have h1 := c_ereadFact l D cI cJ cC cZ cS zk zv zf 0 (fun d h => absurd h (by omega)) (fun d h => absurd h (by omega))
    exact ⟨c_ereadTest l D cI cJ cC cZ cS zk zv zf 0 (c_ereadBoth l D cI cJ cC cZ cS zk zv zf 0 h1), h1⟩
  | succ n ih =>
    have ht : ∀ d, d + 1 = n + 1 → CT_ereadTest l D cI cJ cC cZ cS zk zv zf d := fun d h => by rw [show d = n by omega]; exact ih.1
    have hf : ∀ d, d + 1 = n + 1 → CT_ereadFact l D cI cJ cC cZ cS zk zv zf d := fun d h => by rw [show d = n by omega]; exact ih.2
    have h1 := c_ereadFact l D cI cJ cC cZ cS zk zv zf (n + 1) ht hf
    exact ⟨c_ereadTest l D cI cJ cC cZ cS zk zv zf (n + 1) (c_ereadBoth l D cI cJ cC cZ cS zk zv zf (n + 1) h1), h1⟩
set_option maxHeartbeats 4000000 in
set_option maxRecDepth 100000 in
theorem c_eq_read (l : Launch) (D : va_G) (cI cJ cC cZ cS : ClassId) (zk zv : Nat) (zf : Value) (q : Nat → Nat) (vb : Int32) (xa : Nat) (xv : Int32) (xo : Nat) (xt : Int32) (xz : Nat) (xf : Int32) (xp : Int32) (tl : Nat) (tb : Nat → Nat) (cl : Nat) (mw : Nat) (f1 : Nat → Int32) (hxa : xa ≤ 1600) (hxz : xz ≤ 1600) (htl : tl ≤ 1600) (htb : ∀ j, tb j ≤ 255) (hcl : cl ≤ 1600) (hmw : mw ≤ 1) : skMZ zk zv zf l yX5_read cX5_read 1 none 91 2171 0 0 D (skT cI cJ cC cZ cS) [.ref (q 4)] [(q 4, .inr (5, [.ref (q 2), .ref (q 55), .ref (q 56), .int vb])), (q 55, .inr (8, [.ref (q 2), .int 2])), (q 2, .inr (6, [.ref (q 0), .int (nI xa), .int xv, .int (nI xo), .int xt, .int (nI xz), .int xf, .int xp])), (q 0, .inr (10, [.ref (q 20), .int (nI tl)])), (q 20, .inl (cI, 1600, .inl (fun j => nI (tb j)))), (q 56, .inr (0, [.ref (q 57), .ref (q 58), .ref (q 59), .ref (q 60), .int (nI cl), .int (nI mw)])), (q 57, .inl (cI, 1600, .inl f1))] (skV D (skT cI cJ cC cZ cS) (fun (u : va_W) => ∃ (xa2 : Nat), ∃ (xv2 : Int32), ∃ (xt2 : Int32), ∃ (xz2 : Nat), ∃ (xf2 : Int32), ∃ (xp2 : Int32), ∃ (c2 : Nat), ∃ (w2 : Nat), ∃ (g1 : Nat → Int32), ∃ (vb2 : Int32), xa2 ≤ 1600 ∧ xz2 ≤ 1600 ∧ c2 ≤ 1600 ∧ w2 ≤ 1 ∧ rdO tb tl (quP tb tl) xa2 xv2 xt2 xz2 xf2 xp2 ∧ u = [(q 4, .inr (5, [.ref (q 2), .ref (q 55), .ref (q 56), .int vb2])), (q 55, .inr (8, [.ref (q 2), .int 2])), (q 2, .inr (6, [.ref (q 0), .int (nI xa2), .int xv2, .int 0, .int xt2, .int (nI xz2), .int xf2, .int xp2])), (q 0, .inr (10, [.ref (q 20), .int (nI tl)])), (q 20, .inl (cI, 1600, .inl (fun j => nI (tb j)))), (q 56, .inr (0, [.ref (q 57), .ref (q 58), .ref (q 59), .ref (q 60), .int (nI c2), .int (nI w2)])), (q 57, .inl (cI, 1600, .inl g1))])) := by
  refine skMZ_of pf_X5_read (Nat.le_of_ble_eq_true rfl) ?_
  intro p e s m below meth c A ls E hP hD hZ hl
  refine skE_el E (fun hx hb hr hml hlocks hin hown hts hK hA => ?_)
  have hown : s.vm.findClass RX5 = some m.cls := hown
  have hS : va_S A s.heap s.heap [] := va_S.rf
  have hl : lv_has ls 1 [(0, .ref (q 4))] := hl
  refine lv_aload_n hx hb dX5_read_0 rfl (lv_at hl 0 rfl) ?_
  refine sk_get (v := .ref (q 56)) (C := RX5) (T := TX5) (N := 4) hx hb hts inlX5 hown hK hP 0 rfl rfl 2 (Nat.le_of_ble_eq_true rfl) w_1_156 rfl dX5_read_1 ?_
  refine sk_Vv (q0 := 0) (n := 0) (rest := []) (wr := fmR om_7_2 _) ⟨hx, hb, hml, hown, hts⟩ hl.1 (c_Code_clear l D cI cJ cC cZ cS (q 56) (q 57) (q 58) (q 59) (q 60) cl mw) w_5_67 w_2_215 w_2_216 w_1_8 w_2_217 hd_X0_clear_0 ⟨⟨(Nat.le_of_ble_eq_true rfl), (Nat.le_of_ble_eq_true rfl)⟩, (Nat.le_of_ble_eq_true rfl), (Nat.le_of_ble_eq_true rfl)⟩ hK hP hD hS hA (fmT om_7_2 0) (fmF om_7_2 0) (fm_C1 rfl rfl) (fm_R rfl rfl) (fm_nT om_7_2 0) (fm_nF om_7_2 0) (fm_di om_7_2 0) rfl rfl rfl rfl (Nat.le_of_ble_eq_true rfl) dX5_read_4 (fun u H locs hw hP hD hS => ?_)
  refine o_mgE (ws' := [(q 4, .inr (5, [.ref (q 2), .ref (q 55), .ref (q 56), .int vb])), (q 55, .inr (8, [.ref (q 2), .int 2])), (q 2, .inr (6, [.ref (q 0), .int (nI xa), .int xv, .int (nI xo), .int xt, .int (nI xz), .int xf, .int xp])), (q 0, .inr (10, [.ref (q 20), .int (nI tl)])), (q 20, .inl (cI, 1600, .inl (fun j => nI (tb j)))), (q 56, .inr (0, [.ref (q 57), .ref (q 58), .ref (q 59), .ref (q 60), .int 0, .int 0])), (q 57, .inl (cI, 1600, .inl f1))]) hw hP hD rfl (fun hP hD => ?_)
  refine lv_aload_n hx hb dX5_read_7 rfl (lv_at hl 0 rfl) ?_
  refine sk_get (v := .ref (q 2)) (C := RX5) (T := TX5) (N := 4) hx hb hts inlX5 hown hK hP 0 rfl rfl 0 (Nat.le_of_ble_eq_true rfl) w_1_154 rfl dX5_read_8 ?_
  refine sk_VvZ (q0 := 0) (n := 0) (rest := []) (wr := fmR om_7_1c _) ⟨hx, hb, hml, hown, hts⟩ hl.1 (c_erd_begin l D cI cJ cC cZ cS zk zv zf q xa xv xo xt xz xf xp tl tb hxa hxz htl htb) w_5_68 w_2_222 w_2_223 w_1_4 w_2_224 hd_X6_begin_0 ⟨⟨(Nat.le_of_ble_eq_true rfl), (Nat.le_of_ble_eq_true rfl)⟩, (Nat.le_of_ble_eq_true rfl), (Nat.le_of_ble_eq_true rfl)⟩ hK hP hD hS hZ hA (fmT om_7_1c 0) (fmF om_7_1c 0) (fm_C1 rfl rfl) (fm_R rfl rfl) (fm_nT om_7_1c 0) (fm_nF om_7_1c 0) (fm_di om_7_1c 0) rfl rfl rfl rfl (Nat.le_of_ble_eq_true rfl) dX5_read_11 (fun u H locs hw hP hD hS => ?_)
  refine exE hw (fun xa2_1 hw1 => exE hw1 (fun xv2_2 hw2 => exE hw2 (fun xt2_3 hw3 => exE hw3 (fun xz2_4 hw4 => anE hw4 (fun hxa2_5 hw5 => anE hw5 (fun hxz2_6 hw6 => anE hw6 (fun hO2_7 eu_8 => ?_)))))))
  clear hw hw1 hw2 hw3 hw4 hw5 hw6
  refine o_mgE (ws' := [(q 4, .inr (5, [.ref (q 2), .ref (q 55), .ref (q 56), .int vb])), (q 55, .inr (8, [.ref (q 2), .int 2])), (q 2, .inr (6, [.ref (q 0), .int (nI xa2_1), .int xv2_2, .int 0, .int xt2_3, .int (nI xz2_4), .int 0, .int (-1)])), (q 0, .inr (10, [.ref (q 20), .int (nI tl)])), (q 20, .inl (cI, 1600, .inl (fun j => nI (tb j)))), (q 56, .inr (0, [.ref (q 57), .ref (q 58), .ref (q 59), .ref (q 60), .int 0, .int 0])), (q 57, .inl (cI, 1600, .inl f1))]) eu_8 hP hD rfl (fun hP hD => ?_)
  refine lv_aload_n hx hb dX5_read_14 rfl (lv_at hl 0 rfl) ?_
  refine lv_aload_n hx hb dX5_read_15 rfl (lv_at hl 0 rfl) ?_
  refine sk_get (v := .ref (q 2)) (C := RX5) (T := TX5) (N := 4) hx hb hts inlX5 hown hK hP 0 rfl rfl 0 (Nat.le_of_ble_eq_true rfl) w_1_154 rfl dX5_read_16 ?_
  refine sk_get (v := .int xt2_3) (C := RX6) (T := TX6) (N := 8) hx hb hts inlX6 hown hK hP 2 rfl rfl 4 (Nat.le_of_ble_eq_true rfl) w_1_61 rfl dX5_read_19 ?_
  refine sk_put (ws' := [(q 4, .inr (5, [.ref (q 2), .ref (q 55), .ref (q 56), .int xt2_3])), (q 55, .inr (8, [.ref (q 2), .int 2])), (q 2, .inr (6, [.ref (q 0), .int (nI xa2_1), .int xv2_2, .int 0, .int xt2_3, .int (nI xz2_4), .int 0, .int (-1)])), (q 0, .inr (10, [.ref (q 20), .int (nI tl)])), (q 20, .inl (cI, 1600, .inl (fun j => nI (tb j)))), (q 56, .inr (0, [.ref (q 57), .ref (q 58), .ref (q 59), .ref (q 60), .int 0, .int 0])), (q 57, .inl (cI, 1600, .inl f1))]) (C := RX5) (T := TX5) (N := 4) (v := .int xt2_3) hx hb hts inlX5 tyX5 tyX5_ok nmX5 hown hK hP hD hS 0 rfl rfl 3 (Nat.le_of_ble_eq_true rfl) w_1_157 rfl rfl rfl (Nat.le_of_ble_eq_true rfl) rfl dX5_read_22 (fun H locs hP hD hS => ?_)
  have jn_9 : ∀ (oa : Nat) (ow : Int32) (ot : Int32) (oz : Nat) (og : Int32) (op : Int32) (oc : Nat) (ox : Nat) (o1_ : Nat → Int32) (wo : Except Err Cur) (H : Heap) (locs : List Loc) (ls : Array Slot), (rdO tb tl wo oa ow ot oz og op) → (oa ≤ 1600) → (oz ≤ 1600) → (oc ≤ 1600) → (ox ≤ 1) → (wo = quF tb tl (sk tb tl 0, false)) → va_P D vwCl [(q 4, .inr (5, [.ref (q 2), .ref (q 55), .ref (q 56), .int xt2_3])), (q 55, .inr (8, [.ref (q 2), .int 2])), (q 2, .inr (6, [.ref (q 0), .int (nI oa), .int ow, .int 0, .int ot, .int (nI oz), .int og, .int op])), (q 0, .inr (10, [.ref (q 20), .int (nI tl)])), (q 20, .inl (cI, 1600, .inl (fun j => nI (tb j)))), (q 56, .inr (0, [.ref (q 57), .ref (q 58), .ref (q 59), .ref (q 60), .int (nI oc), .int (nI ox)])), (q 57, .inl (cI, 1600, .inl o1_))] H → va_D A [(q 4, .inr (5, [.ref (q 2), .ref (q 55), .ref (q 56), .int xt2_3])), (q 55, .inr (8, [.ref (q 2), .int 2])), (q 2, .inr (6, [.ref (q 0), .int (nI oa), .int ow, .int 0, .int ot, .int (nI oz), .int og, .int op])), (q 0, .inr (10, [.ref (q 20), .int (nI tl)])), (q 20, .inl (cI, 1600, .inl (fun j => nI (tb j)))), (q 56, .inr (0, [.ref (q 57), .ref (q 58), .ref (q 59), .ref (q 60), .int (nI oc), .int (nI ox)])), (q 57, .inl (cI, 1600, .inl o1_))] → va_S A s.heap H locs → lv_has ls 1 [(0, .ref (q 4))] → W p l e { frames := 91, cells := 0, slots := 0, locals := 2171 } s m ([.ref (q 4)] : List Value).toArray below meth c H locs 0 0 (MQ below (skV D (skT cI cJ cC cZ cS) (fun (u : va_W) => ∃ (xa2 : Nat), ∃ (xv2 : Int32), ∃ (xt2 : Int32), ∃ (xz2 : Nat), ∃ (xf2 : Int32), ∃ (xp2 : Int32), ∃ (c2 : Nat), ∃ (w2 : Nat), ∃ (g1 : Nat → Int32), ∃ (vb2 : Int32), xa2 ≤ 1600 ∧ xz2 ≤ 1600 ∧ c2 ≤ 1600 ∧ w2 ≤ 1 ∧ rdO tb tl (quP tb tl) xa2 xv2 xt2 xz2 xf2 xp2 ∧ u = [(q 4, .inr (5, [.ref (q 2), .ref (q 55), .ref (q 56), .int vb2])), (q 55, .inr (8, [.ref (q 2), .int 2])), (q 2, .inr (6, [.ref (q 0), .int (nI xa2), .int xv2, .int 0, .int xt2, .int (nI xz2), .int xf2, .int xp2])), (q 0, .inr (10, [.ref (q 20), .int (nI tl)])), (q 20, .inl (cI, 1600, .inl (fun j => nI (tb j)))), (q 56, .inr (0, [.ref (q 57), .ref (q 58), .ref (q 59), .ref (q 60), .int (nI c2), .int (nI w2)])), (q 57, .inl (cI, 1600, .inl g1))]) A) ([.ref (q 4)] : List Value).toArray s 0 0 A) (F0 m 138 ls []) := by
    intro oa ow ot oz og op oc ox o1_ wo H locs ls hwO hoa hoz hoc hox hwq hP hD hS hl
    refine lv_aload_n hx hb dX5_read_138 rfl (lv_at hl 0 rfl) ?_
    refine sk_get (v := .ref (q 2)) (C := RX5) (T := TX5) (N := 4) hx hb hts inlX5 hown hK hP 0 rfl rfl 0 (Nat.le_of_ble_eq_true rfl) w_1_154 rfl dX5_read_139 ?_
    refine sk_get (v := .int ot) (C := RX6) (T := TX6) (N := 8) hx hb hts inlX6 hown hK hP 2 rfl rfl 4 (Nat.le_of_ble_eq_true rfl) w_1_61 rfl dX5_read_142 ?_
    refine lv_iconst (v := (-1)) hx hb dX5_read_145 (by decide) ?_
    refine lv_icmp_eq (tgt := 156) hx hb dX5_read_146 (by decide) (fun c_10 => ?_) (fun c_10 => ?_)
    · skip
      exact sk_vret hx hb hr hlocks hK hP hD hS (⟨oa, ow, ot, oz, og, op, oc, ox, o1_, xt2_3, hoa, hoz, hoc, hox, (by have h9 := q_e1 htb hwO c_10; rw [hwq] at h9; exact h9), rfl⟩) (Nat.le_of_ble_eq_true rfl) (Nat.le_of_ble_eq_true rfl) dX5_read_156
    · skip
      refine lv_aload_n hx hb dX5_read_149 rfl (lv_at hl 0 rfl) ?_
      refine sk_get (v := .ref (q 2)) (C := RX5) (T := TX5) (N := 4) hx hb hts inlX5 hown hK hP 0 rfl rfl 0 (Nat.le_of_ble_eq_true rfl) w_1_154 rfl dX5_read_150 ?_
      refine sk_Vv (q0 := 0) (n := 0) (rest := []) (wr := fmR om_7_10 _) ⟨hx, hb, hml, hown, hts⟩ hl.1 (c_erd_failHere l D cI cJ cC cZ cS q oa ow 0 ot oz og op tl tb wo hoz hwO) w_5_94 w_3_55 w_3_56 w_1_4 w_3_57 hd_X6_failHere_0 ⟨⟨(Nat.le_of_ble_eq_true rfl), (Nat.le_of_ble_eq_true rfl)⟩, (Nat.le_of_ble_eq_true rfl), (Nat.le_of_ble_eq_true rfl)⟩ hK hP hD hS hA (fmT om_7_10 0) (fmF om_7_10 0) (fm_C1 rfl rfl) (fm_R rfl rfl) (fm_nT om_7_10 0) (fm_nF om_7_10 0) (fm_di om_7_10 0) rfl rfl rfl rfl (Nat.le_of_ble_eq_true rfl) dX5_read_153 (fun u H locs hw hP hD hS => ?_)
      refine exE hw (fun xf2_11 hw1 => exE hw1 (fun xp2_12 hw2 => anE hw2 (fun hO2_13 eu_14 => ?_)))
      clear hw hw1 hw2
      refine o_mgE (ws' := [(q 4, .inr (5, [.ref (q 2), .ref (q 55), .ref (q 56), .int xt2_3])), (q 55, .inr (8, [.ref (q 2), .int 2])), (q 2, .inr (6, [.ref (q 0), .int (nI oa), .int ow, .int 0, .int (-2), .int (nI oz), .int xf2_11, .int xp2_12])), (q 0, .inr (10, [.ref (q 20), .int (nI tl)])), (q 20, .inl (cI, 1600, .inl (fun j => nI (tb j)))), (q 56, .inr (0, [.ref (q 57), .ref (q 58), .ref (q 59), .ref (q 60), .int (nI oc), .int (nI ox)])), (q 57, .inl (cI, 1600, .inl o1_))]) eu_14 hP hD rfl (fun hP hD => ?_)
      exact sk_vret hx hb hr hlocks hK hP hD hS (⟨oa, ow, (-2), oz, xf2_11, xp2_12, oc, ox, o1_, xt2_3, hoa, hoz, hoc, hox, (by have h9 := q_e2 htb hwO c_10 hO2_13; rw [hwq] at h9; exact h9), rfl⟩) (Nat.le_of_ble_eq_true rfl) (Nat.le_of_ble_eq_true rfl) dX5_read_156
  refine lv_aload_n hx hb dX5_read_25 rfl (lv_at hl 0 rfl) ?_
  refine sk_get (v := .int xt2_3) (C := RX5) (T := TX5) (N := 4) hx hb hts inlX5 hown hK hP 0 rfl rfl 3 (Nat.le_of_ble_eq_true rfl) w_1_157 rfl dX5_read_26 ?_
  by_cases g_15 : xt2_3 = 271
  · refine lv_tableIn (off := 67) (tgt := 96) hx hb dX5_read_29 (by rw [g_15]; decide) (by rw [g_15]; decide) (by rw [g_15]; rfl) (by decide) ?_
    refine lv_aload_n hx hb dX5_read_96 rfl (lv_at hl 0 rfl) ?_
    refine sk_get (v := .ref (q 2)) (C := RX5) (T := TX5) (N := 4) hx hb hts inlX5 hown hK hP 0 rfl rfl 0 (Nat.le_of_ble_eq_true rfl) w_1_154 rfl dX5_read_97 ?_
    refine sk_VvZ (q0 := 0) (n := 0) (rest := []) (wr := fmR om_7_1c _) ⟨hx, hb, hml, hown, hts⟩ hl.1 (c_erd_step l D cI cJ cC cZ cS zk zv zf q xa2_1 xv2_2 0 xt2_3 xz2_4 0 (-1) tl tb (bindR (.ok (sk tb tl 0, false)) (beF tb tl)) hxa2_5 hxz2_6 htl htb (rd_st htb hO2_7 ⟨by rw [g_15]; decide, by rw [g_15]; decide⟩)) w_5_69 w_2_226 w_2_227 w_1_4 w_2_228 hd_X6_step_0 ⟨⟨(Nat.le_of_ble_eq_true rfl), (Nat.le_of_ble_eq_true rfl)⟩, (Nat.le_of_ble_eq_true rfl), (Nat.le_of_ble_eq_true rfl)⟩ hK hP hD hS hZ hA (fmT om_7_1c 0) (fmF om_7_1c 0) (fm_C1 rfl rfl) (fm_R rfl rfl) (fm_nT om_7_1c 0) (fm_nF om_7_1c 0) (fm_di om_7_1c 0) rfl rfl rfl rfl (Nat.le_of_ble_eq_true rfl) dX5_read_100 (fun u H locs hw hP hD hS => ?_)
    refine exE hw (fun xa2_16 hw1 => exE hw1 (fun xv2_17 hw2 => exE hw2 (fun xt2_18 hw3 => exE hw3 (fun xz2_19 hw4 => anE hw4 (fun hxa2_20 hw5 => anE hw5 (fun hxz2_21 hw6 => anE hw6 (fun hO2_22 eu_23 => ?_)))))))
    clear hw hw1 hw2 hw3 hw4 hw5 hw6
    refine o_mgE (ws' := [(q 4, .inr (5, [.ref (q 2), .ref (q 55), .ref (q 56), .int xt2_3])), (q 55, .inr (8, [.ref (q 2), .int 2])), (q 2, .inr (6, [.ref (q 0), .int (nI xa2_16), .int xv2_17, .int 0, .int xt2_18, .int (nI xz2_19), .int 0, .int (-1)])), (q 0, .inr (10, [.ref (q 20), .int (nI tl)])), (q 20, .inl (cI, 1600, .inl (fun j => nI (tb j)))), (q 56, .inr (0, [.ref (q 57), .ref (q 58), .ref (q 59), .ref (q 60), .int 0, .int 0])), (q 57, .inl (cI, 1600, .inl f1))]) eu_23 hP hD rfl (fun hP hD => ?_)
    rw [stF_nx] at hO2_22
    have hO_24 := rs_0 (c := nx tb tl (sk tb tl 0)) (f := f1) hO2_22
    refine lv_aload_n hx hb dX5_read_103 rfl (lv_at hl 0 rfl) ?_
    refine sk_VvZ (q0 := 0) (n := 0) (rest := []) (wr := fmR om_7_7f _) ⟨hx, hb, hml, hown, hts⟩ hl.1 ((c_etests l D cI cJ cC cZ cS zk zv zf 6).1 q xt2_3 xa2_16 xv2_17 0 xt2_18 xz2_19 0 (-1) tl tb 0 0 f1 (.ok (nx tb tl (sk tb tl 0), [])) hxa2_20 hxz2_21 htl htb (by omega) (by omega) (by omega) hO_24 (lenO_0 (nx tb tl (sk tb tl 0)))) w_5_70 w_5_72 w_0_34 w_1_7 w_5_73 hd_X5_readTest_0 ⟨⟨(Nat.le_of_ble_eq_true rfl), (Nat.le_of_ble_eq_true rfl)⟩, (Nat.le_of_ble_eq_true rfl), (Nat.le_of_ble_eq_true rfl)⟩ hK hP hD hS hZ hA (fmT om_7_7f 0) (fmF om_7_7f 0) (fm_C1 rfl rfl) (fm_R rfl rfl) (fm_nT om_7_7f 0) (fm_nF om_7_7f 0) (fm_di om_7_7f 0) rfl rfl rfl rfl (Nat.le_of_ble_eq_true rfl) dX5_read_104 (fun u H locs hw hP hD hS => ?_)
    refine exE hw (fun xa2_25 hw1 => exE hw1 (fun xv2_26 hw2 => exE hw2 (fun xt2_27 hw3 => exE hw3 (fun xz2_28 hw4 => exE hw4 (fun xf2_29 hw5 => exE hw5 (fun xp2_30 hw6 => exE hw6 (fun c2_31 hw7 => exE hw7 (fun w2_32 hw8 => exE hw8 (fun g1_33 hw9 => anE hw9 (fun hxa2_34 hw10 => anE hw10 (fun hxz2_35 hw11 => anE hw11 (fun hc2_36 hw12 => anE hw12 (fun hw2_37 hw13 => anE hw13 (fun hO2_38 eu_39 => ?_))))))))))))))
    clear hw hw1 hw2 hw3 hw4 hw5 hw6 hw7 hw8 hw9 hw10 hw11 hw12 hw13
    refine o_mgE (ws' := [(q 4, .inr (5, [.ref (q 2), .ref (q 55), .ref (q 56), .int xt2_3])), (q 55, .inr (8, [.ref (q 2), .int 2])), (q 2, .inr (6, [.ref (q 0), .int (nI xa2_25), .int xv2_26, .int 0, .int xt2_27, .int (nI xz2_28), .int xf2_29, .int xp2_30])), (q 0, .inr (10, [.ref (q 20), .int (nI tl)])), (q 20, .inl (cI, 1600, .inl (fun j => nI (tb j)))), (q 56, .inr (0, [.ref (q 57), .ref (q 58), .ref (q 59), .ref (q 60), .int (nI c2_31), .int (nI w2_32)])), (q 57, .inl (cI, 1600, .inl g1_33))]) eu_39 hP hD rfl (fun hP hD => ?_)
    have hL_40 := lenO_ap (len_test (tb := tb) (n := tl) (len_fc (tb := tb) (n := tl) 6)) (lenO_0 (nx tb tl (sk tb tl 0)))
    have hO_41 := (hO2_38).1
    rw [q_t (k := 15) htb hO2_7 g_15 (by decide)] at hO_41
    refine lv_goto (tgt := 138) hx hb dX5_read_107 (by decide) ?_
    exact jn_9 xa2_25 xv2_26 xt2_27 xz2_28 xf2_29 xp2_30 c2_31 w2_32 g1_33 (quF tb tl (sk tb tl 0, false)) _ _ _ hO_41 hxa2_34 hxz2_35 hc2_36 hw2_37 rfl hP hD hS (lv_sub hl [0] rfl)
  by_cases g_42 : xt2_3 = 272
  · refine lv_tableIn (off := 102) (tgt := 131) hx hb dX5_read_29 (by rw [g_42]; decide) (by rw [g_42]; decide) (by rw [g_42]; rfl) (by decide) ?_
    refine lv_aload_n hx hb dX5_read_131 rfl (lv_at hl 0 rfl) ?_
    refine sk_get (v := .ref (q 2)) (C := RX5) (T := TX5) (N := 4) hx hb hts inlX5 hown hK hP 0 rfl rfl 0 (Nat.le_of_ble_eq_true rfl) w_1_154 rfl dX5_read_132 ?_
    refine sk_Vv (q0 := 0) (n := 0) (rest := []) (wr := fmR om_7_10 _) ⟨hx, hb, hml, hown, hts⟩ hl.1 (c_erd_failHere l D cI cJ cC cZ cS q xa2_1 xv2_2 0 xt2_3 xz2_4 0 (-1) tl tb (.ok (sk tb tl 0, false)) hxz2_6 hO2_7) w_5_94 w_3_55 w_3_56 w_1_4 w_3_57 hd_X6_failHere_0 ⟨⟨(Nat.le_of_ble_eq_true rfl), (Nat.le_of_ble_eq_true rfl)⟩, (Nat.le_of_ble_eq_true rfl), (Nat.le_of_ble_eq_true rfl)⟩ hK hP hD hS hA (fmT om_7_10 0) (fmF om_7_10 0) (fm_C1 rfl rfl) (fm_R rfl rfl) (fm_nT om_7_10 0) (fm_nF om_7_10 0) (fm_di om_7_10 0) rfl rfl rfl rfl (Nat.le_of_ble_eq_true rfl) dX5_read_135 (fun u H locs hw hP hD hS => ?_)
    refine exE hw (fun xf2_43 hw1 => exE hw1 (fun xp2_44 hw2 => anE hw2 (fun hO2_45 eu_46 => ?_)))
    clear hw hw1 hw2
    refine o_mgE (ws' := [(q 4, .inr (5, [.ref (q 2), .ref (q 55), .ref (q 56), .int xt2_3])), (q 55, .inr (8, [.ref (q 2), .int 2])), (q 2, .inr (6, [.ref (q 0), .int (nI xa2_1), .int xv2_2, .int 0, .int (-2), .int (nI xz2_4), .int xf2_43, .int xp2_44])), (q 0, .inr (10, [.ref (q 20), .int (nI tl)])), (q 20, .inl (cI, 1600, .inl (fun j => nI (tb j)))), (q 56, .inr (0, [.ref (q 57), .ref (q 58), .ref (q 59), .ref (q 60), .int 0, .int 0])), (q 57, .inl (cI, 1600, .inl f1))]) eu_46 hP hD rfl (fun hP hD => ?_)
    have hO_47 := hO2_45
    rw [q_n htb hO2_7 (by rw [g_42]; decide) (by rw [g_42]; decide) (by rw [g_42]; decide) (by rw [g_42]; decide) (by rw [g_42]; decide) (by rw [g_42]; decide)] at hO_47
    exact jn_9 xa2_1 xv2_2 (-2) xz2_4 xf2_43 xp2_44 0 0 f1 (quF tb tl (sk tb tl 0, false)) _ _ _ hO_47 hxa2_5 hxz2_6 (by omega) (by omega) rfl hP hD hS (lv_sub hl [0] rfl)
  by_cases g_48 : xt2_3 = 273
  · refine lv_tableIn (off := 102) (tgt := 131) hx hb dX5_read_29 (by rw [g_48]; decide) (by rw [g_48]; decide) (by rw [g_48]; rfl) (by decide) ?_
    refine lv_aload_n hx hb dX5_read_131 rfl (lv_at hl 0 rfl) ?_
    refine sk_get (v := .ref (q 2)) (C := RX5) (T := TX5) (N := 4) hx hb hts inlX5 hown hK hP 0 rfl rfl 0 (Nat.le_of_ble_eq_true rfl) w_1_154 rfl dX5_read_132 ?_
    refine sk_Vv (q0 := 0) (n := 0) (rest := []) (wr := fmR om_7_10 _) ⟨hx, hb, hml, hown, hts⟩ hl.1 (c_erd_failHere l D cI cJ cC cZ cS q xa2_1 xv2_2 0 xt2_3 xz2_4 0 (-1) tl tb (.ok (sk tb tl 0, false)) hxz2_6 hO2_7) w_5_94 w_3_55 w_3_56 w_1_4 w_3_57 hd_X6_failHere_0 ⟨⟨(Nat.le_of_ble_eq_true rfl), (Nat.le_of_ble_eq_true rfl)⟩, (Nat.le_of_ble_eq_true rfl), (Nat.le_of_ble_eq_true rfl)⟩ hK hP hD hS hA (fmT om_7_10 0) (fmF om_7_10 0) (fm_C1 rfl rfl) (fm_R rfl rfl) (fm_nT om_7_10 0) (fm_nF om_7_10 0) (fm_di om_7_10 0) rfl rfl rfl rfl (Nat.le_of_ble_eq_true rfl) dX5_read_135 (fun u H locs hw hP hD hS => ?_)
    refine exE hw (fun xf2_49 hw1 => exE hw1 (fun xp2_50 hw2 => anE hw2 (fun hO2_51 eu_52 => ?_)))
    clear hw hw1 hw2
    refine o_mgE (ws' := [(q 4, .inr (5, [.ref (q 2), .ref (q 55), .ref (q 56), .int xt2_3])), (q 55, .inr (8, [.ref (q 2), .int 2])), (q 2, .inr (6, [.ref (q 0), .int (nI xa2_1), .int xv2_2, .int 0, .int (-2), .int (nI xz2_4), .int xf2_49, .int xp2_50])), (q 0, .inr (10, [.ref (q 20), .int (nI tl)])), (q 20, .inl (cI, 1600, .inl (fun j => nI (tb j)))), (q 56, .inr (0, [.ref (q 57), .ref (q 58), .ref (q 59), .ref (q 60), .int 0, .int 0])), (q 57, .inl (cI, 1600, .inl f1))]) eu_52 hP hD rfl (fun hP hD => ?_)
    have hO_53 := hO2_51
    rw [q_n htb hO2_7 (by rw [g_48]; decide) (by rw [g_48]; decide) (by rw [g_48]; decide) (by rw [g_48]; decide) (by rw [g_48]; decide) (by rw [g_48]; decide)] at hO_53
    exact jn_9 xa2_1 xv2_2 (-2) xz2_4 xf2_49 xp2_50 0 0 f1 (quF tb tl (sk tb tl 0, false)) _ _ _ hO_53 hxa2_5 hxz2_6 (by omega) (by omega) rfl hP hD hS (lv_sub hl [0] rfl)
  by_cases g_54 : xt2_3 = 274
  · refine lv_tableIn (off := 102) (tgt := 131) hx hb dX5_read_29 (by rw [g_54]; decide) (by rw [g_54]; decide) (by rw [g_54]; rfl) (by decide) ?_
    refine lv_aload_n hx hb dX5_read_131 rfl (lv_at hl 0 rfl) ?_
    refine sk_get (v := .ref (q 2)) (C := RX5) (T := TX5) (N := 4) hx hb hts inlX5 hown hK hP 0 rfl rfl 0 (Nat.le_of_ble_eq_true rfl) w_1_154 rfl dX5_read_132 ?_
    refine sk_Vv (q0 := 0) (n := 0) (rest := []) (wr := fmR om_7_10 _) ⟨hx, hb, hml, hown, hts⟩ hl.1 (c_erd_failHere l D cI cJ cC cZ cS q xa2_1 xv2_2 0 xt2_3 xz2_4 0 (-1) tl tb (.ok (sk tb tl 0, false)) hxz2_6 hO2_7) w_5_94 w_3_55 w_3_56 w_1_4 w_3_57 hd_X6_failHere_0 ⟨⟨(Nat.le_of_ble_eq_true rfl), (Nat.le_of_ble_eq_true rfl)⟩, (Nat.le_of_ble_eq_true rfl), (Nat.le_of_ble_eq_true rfl)⟩ hK hP hD hS hA (fmT om_7_10 0) (fmF om_7_10 0) (fm_C1 rfl rfl) (fm_R rfl rfl) (fm_nT om_7_10 0) (fm_nF om_7_10 0) (fm_di om_7_10 0) rfl rfl rfl rfl (Nat.le_of_ble_eq_true rfl) dX5_read_135 (fun u H locs hw hP hD hS => ?_)
    refine exE hw (fun xf2_55 hw1 => exE hw1 (fun xp2_56 hw2 => anE hw2 (fun hO2_57 eu_58 => ?_)))
    clear hw hw1 hw2
    refine o_mgE (ws' := [(q 4, .inr (5, [.ref (q 2), .ref (q 55), .ref (q 56), .int xt2_3])), (q 55, .inr (8, [.ref (q 2), .int 2])), (q 2, .inr (6, [.ref (q 0), .int (nI xa2_1), .int xv2_2, .int 0, .int (-2), .int (nI xz2_4), .int xf2_55, .int xp2_56])), (q 0, .inr (10, [.ref (q 20), .int (nI tl)])), (q 20, .inl (cI, 1600, .inl (fun j => nI (tb j)))), (q 56, .inr (0, [.ref (q 57), .ref (q 58), .ref (q 59), .ref (q 60), .int 0, .int 0])), (q 57, .inl (cI, 1600, .inl f1))]) eu_58 hP hD rfl (fun hP hD => ?_)
    have hO_59 := hO2_57
    rw [q_n htb hO2_7 (by rw [g_54]; decide) (by rw [g_54]; decide) (by rw [g_54]; decide) (by rw [g_54]; decide) (by rw [g_54]; decide) (by rw [g_54]; decide)] at hO_59
    exact jn_9 xa2_1 xv2_2 (-2) xz2_4 xf2_55 xp2_56 0 0 f1 (quF tb tl (sk tb tl 0, false)) _ _ _ hO_59 hxa2_5 hxz2_6 (by omega) (by omega) rfl hP hD hS (lv_sub hl [0] rfl)
  by_cases g_60 : xt2_3 = 275
  · refine lv_tableIn (off := 102) (tgt := 131) hx hb dX5_read_29 (by rw [g_60]; decide) (by rw [g_60]; decide) (by rw [g_60]; rfl) (by decide) ?_
    refine lv_aload_n hx hb dX5_read_131 rfl (lv_at hl 0 rfl) ?_
    refine sk_get (v := .ref (q 2)) (C := RX5) (T := TX5) (N := 4) hx hb hts inlX5 hown hK hP 0 rfl rfl 0 (Nat.le_of_ble_eq_true rfl) w_1_154 rfl dX5_read_132 ?_
    refine sk_Vv (q0 := 0) (n := 0) (rest := []) (wr := fmR om_7_10 _) ⟨hx, hb, hml, hown, hts⟩ hl.1 (c_erd_failHere l D cI cJ cC cZ cS q xa2_1 xv2_2 0 xt2_3 xz2_4 0 (-1) tl tb (.ok (sk tb tl 0, false)) hxz2_6 hO2_7) w_5_94 w_3_55 w_3_56 w_1_4 w_3_57 hd_X6_failHere_0 ⟨⟨(Nat.le_of_ble_eq_true rfl), (Nat.le_of_ble_eq_true rfl)⟩, (Nat.le_of_ble_eq_true rfl), (Nat.le_of_ble_eq_true rfl)⟩ hK hP hD hS hA (fmT om_7_10 0) (fmF om_7_10 0) (fm_C1 rfl rfl) (fm_R rfl rfl) (fm_nT om_7_10 0) (fm_nF om_7_10 0) (fm_di om_7_10 0) rfl rfl rfl rfl (Nat.le_of_ble_eq_true rfl) dX5_read_135 (fun u H locs hw hP hD hS => ?_)
    refine exE hw (fun xf2_61 hw1 => exE hw1 (fun xp2_62 hw2 => anE hw2 (fun hO2_63 eu_64 => ?_)))
    clear hw hw1 hw2
    refine o_mgE (ws' := [(q 4, .inr (5, [.ref (q 2), .ref (q 55), .ref (q 56), .int xt2_3])), (q 55, .inr (8, [.ref (q 2), .int 2])), (q 2, .inr (6, [.ref (q 0), .int (nI xa2_1), .int xv2_2, .int 0, .int (-2), .int (nI xz2_4), .int xf2_61, .int xp2_62])), (q 0, .inr (10, [.ref (q 20), .int (nI tl)])), (q 20, .inl (cI, 1600, .inl (fun j => nI (tb j)))), (q 56, .inr (0, [.ref (q 57), .ref (q 58), .ref (q 59), .ref (q 60), .int 0, .int 0])), (q 57, .inl (cI, 1600, .inl f1))]) eu_64 hP hD rfl (fun hP hD => ?_)
    have hO_65 := hO2_63
    rw [q_n htb hO2_7 (by rw [g_60]; decide) (by rw [g_60]; decide) (by rw [g_60]; decide) (by rw [g_60]; decide) (by rw [g_60]; decide) (by rw [g_60]; decide)] at hO_65
    exact jn_9 xa2_1 xv2_2 (-2) xz2_4 xf2_61 xp2_62 0 0 f1 (quF tb tl (sk tb tl 0, false)) _ _ _ hO_65 hxa2_5 hxz2_6 (by omega) (by omega) rfl hP hD hS (lv_sub hl [0] rfl)
  by_cases g_66 : xt2_3 = 276
  · refine lv_tableIn (off := 102) (tgt := 131) hx hb dX5_read_29 (by rw [g_66]; decide) (by rw [g_66]; decide) (by rw [g_66]; rfl) (by decide) ?_
    refine lv_aload_n hx hb dX5_read_131 rfl (lv_at hl 0 rfl) ?_
    refine sk_get (v := .ref (q 2)) (C := RX5) (T := TX5) (N := 4) hx hb hts inlX5 hown hK hP 0 rfl rfl 0 (Nat.le_of_ble_eq_true rfl) w_1_154 rfl dX5_read_132 ?_
    refine sk_Vv (q0 := 0) (n := 0) (rest := []) (wr := fmR om_7_10 _) ⟨hx, hb, hml, hown, hts⟩ hl.1 (c_erd_failHere l D cI cJ cC cZ cS q xa2_1 xv2_2 0 xt2_3 xz2_4 0 (-1) tl tb (.ok (sk tb tl 0, false)) hxz2_6 hO2_7) w_5_94 w_3_55 w_3_56 w_1_4 w_3_57 hd_X6_failHere_0 ⟨⟨(Nat.le_of_ble_eq_true rfl), (Nat.le_of_ble_eq_true rfl)⟩, (Nat.le_of_ble_eq_true rfl), (Nat.le_of_ble_eq_true rfl)⟩ hK hP hD hS hA (fmT om_7_10 0) (fmF om_7_10 0) (fm_C1 rfl rfl) (fm_R rfl rfl) (fm_nT om_7_10 0) (fm_nF om_7_10 0) (fm_di om_7_10 0) rfl rfl rfl rfl (Nat.le_of_ble_eq_true rfl) dX5_read_135 (fun u H locs hw hP hD hS => ?_)
    refine exE hw (fun xf2_67 hw1 => exE hw1 (fun xp2_68 hw2 => anE hw2 (fun hO2_69 eu_70 => ?_)))
    clear hw hw1 hw2
    refine o_mgE (ws' := [(q 4, .inr (5, [.ref (q 2), .ref (q 55), .ref (q 56), .int xt2_3])), (q 55, .inr (8, [.ref (q 2), .int 2])), (q 2, .inr (6, [.ref (q 0), .int (nI xa2_1), .int xv2_2, .int 0, .int (-2), .int (nI xz2_4), .int xf2_67, .int xp2_68])), (q 0, .inr (10, [.ref (q 20), .int (nI tl)])), (q 20, .inl (cI, 1600, .inl (fun j => nI (tb j)))), (q 56, .inr (0, [.ref (q 57), .ref (q 58), .ref (q 59), .ref (q 60), .int 0, .int 0])), (q 57, .inl (cI, 1600, .inl f1))]) eu_70 hP hD rfl (fun hP hD => ?_)
    have hO_71 := hO2_69
    rw [q_n htb hO2_7 (by rw [g_66]; decide) (by rw [g_66]; decide) (by rw [g_66]; decide) (by rw [g_66]; decide) (by rw [g_66]; decide) (by rw [g_66]; decide)] at hO_71
    exact jn_9 xa2_1 xv2_2 (-2) xz2_4 xf2_67 xp2_68 0 0 f1 (quF tb tl (sk tb tl 0, false)) _ _ _ hO_71 hxa2_5 hxz2_6 (by omega) (by omega) rfl hP hD hS (lv_sub hl [0] rfl)
  by_cases g_72 : xt2_3 = 277
  · refine lv_tableIn (off := 102) (tgt := 131) hx hb dX5_read_29 (by rw [g_72]; decide) (by rw [g_72]; decide) (by rw [g_72]; rfl) (by decide) ?_
    refine lv_aload_n hx hb dX5_read_131 rfl (lv_at hl 0 rfl) ?_
    refine sk_get (v := .ref (q 2)) (C := RX5) (T := TX5) (N := 4) hx hb hts inlX5 hown hK hP 0 rfl rfl 0 (Nat.le_of_ble_eq_true rfl) w_1_154 rfl dX5_read_132 ?_
    refine sk_Vv (q0 := 0) (n := 0) (rest := []) (wr := fmR om_7_10 _) ⟨hx, hb, hml, hown, hts⟩ hl.1 (c_erd_failHere l D cI cJ cC cZ cS q xa2_1 xv2_2 0 xt2_3 xz2_4 0 (-1) tl tb (.ok (sk tb tl 0, false)) hxz2_6 hO2_7) w_5_94 w_3_55 w_3_56 w_1_4 w_3_57 hd_X6_failHere_0 ⟨⟨(Nat.le_of_ble_eq_true rfl), (Nat.le_of_ble_eq_true rfl)⟩, (Nat.le_of_ble_eq_true rfl), (Nat.le_of_ble_eq_true rfl)⟩ hK hP hD hS hA (fmT om_7_10 0) (fmF om_7_10 0) (fm_C1 rfl rfl) (fm_R rfl rfl) (fm_nT om_7_10 0) (fm_nF om_7_10 0) (fm_di om_7_10 0) rfl rfl rfl rfl (Nat.le_of_ble_eq_true rfl) dX5_read_135 (fun u H locs hw hP hD hS => ?_)
    refine exE hw (fun xf2_73 hw1 => exE hw1 (fun xp2_74 hw2 => anE hw2 (fun hO2_75 eu_76 => ?_)))
    clear hw hw1 hw2
    refine o_mgE (ws' := [(q 4, .inr (5, [.ref (q 2), .ref (q 55), .ref (q 56), .int xt2_3])), (q 55, .inr (8, [.ref (q 2), .int 2])), (q 2, .inr (6, [.ref (q 0), .int (nI xa2_1), .int xv2_2, .int 0, .int (-2), .int (nI xz2_4), .int xf2_73, .int xp2_74])), (q 0, .inr (10, [.ref (q 20), .int (nI tl)])), (q 20, .inl (cI, 1600, .inl (fun j => nI (tb j)))), (q 56, .inr (0, [.ref (q 57), .ref (q 58), .ref (q 59), .ref (q 60), .int 0, .int 0])), (q 57, .inl (cI, 1600, .inl f1))]) eu_76 hP hD rfl (fun hP hD => ?_)
    have hO_77 := hO2_75
    rw [q_n htb hO2_7 (by rw [g_72]; decide) (by rw [g_72]; decide) (by rw [g_72]; decide) (by rw [g_72]; decide) (by rw [g_72]; decide) (by rw [g_72]; decide)] at hO_77
    exact jn_9 xa2_1 xv2_2 (-2) xz2_4 xf2_73 xp2_74 0 0 f1 (quF tb tl (sk tb tl 0, false)) _ _ _ hO_77 hxa2_5 hxz2_6 (by omega) (by omega) rfl hP hD hS (lv_sub hl [0] rfl)
  by_cases g_78 : xt2_3 = 278
  · refine lv_tableIn (off := 102) (tgt := 131) hx hb dX5_read_29 (by rw [g_78]; decide) (by rw [g_78]; decide) (by rw [g_78]; rfl) (by decide) ?_
    refine lv_aload_n hx hb dX5_read_131 rfl (lv_at hl 0 rfl) ?_
    refine sk_get (v := .ref (q 2)) (C := RX5) (T := TX5) (N := 4) hx hb hts inlX5 hown hK hP 0 rfl rfl 0 (Nat.le_of_ble_eq_true rfl) w_1_154 rfl dX5_read_132 ?_
    refine sk_Vv (q0 := 0) (n := 0) (rest := []) (wr := fmR om_7_10 _) ⟨hx, hb, hml, hown, hts⟩ hl.1 (c_erd_failHere l D cI cJ cC cZ cS q xa2_1 xv2_2 0 xt2_3 xz2_4 0 (-1) tl tb (.ok (sk tb tl 0, false)) hxz2_6 hO2_7) w_5_94 w_3_55 w_3_56 w_1_4 w_3_57 hd_X6_failHere_0 ⟨⟨(Nat.le_of_ble_eq_true rfl), (Nat.le_of_ble_eq_true rfl)⟩, (Nat.le_of_ble_eq_true rfl), (Nat.le_of_ble_eq_true rfl)⟩ hK hP hD hS hA (fmT om_7_10 0) (fmF om_7_10 0) (fm_C1 rfl rfl) (fm_R rfl rfl) (fm_nT om_7_10 0) (fm_nF om_7_10 0) (fm_di om_7_10 0) rfl rfl rfl rfl (Nat.le_of_ble_eq_true rfl) dX5_read_135 (fun u H locs hw hP hD hS => ?_)
    refine exE hw (fun xf2_79 hw1 => exE hw1 (fun xp2_80 hw2 => anE hw2 (fun hO2_81 eu_82 => ?_)))
    clear hw hw1 hw2
    refine o_mgE (ws' := [(q 4, .inr (5, [.ref (q 2), .ref (q 55), .ref (q 56), .int xt2_3])), (q 55, .inr (8, [.ref (q 2), .int 2])), (q 2, .inr (6, [.ref (q 0), .int (nI xa2_1), .int xv2_2, .int 0, .int (-2), .int (nI xz2_4), .int xf2_79, .int xp2_80])), (q 0, .inr (10, [.ref (q 20), .int (nI tl)])), (q 20, .inl (cI, 1600, .inl (fun j => nI (tb j)))), (q 56, .inr (0, [.ref (q 57), .ref (q 58), .ref (q 59), .ref (q 60), .int 0, .int 0])), (q 57, .inl (cI, 1600, .inl f1))]) eu_82 hP hD rfl (fun hP hD => ?_)
    have hO_83 := hO2_81
    rw [q_n htb hO2_7 (by rw [g_78]; decide) (by rw [g_78]; decide) (by rw [g_78]; decide) (by rw [g_78]; decide) (by rw [g_78]; decide) (by rw [g_78]; decide)] at hO_83
    exact jn_9 xa2_1 xv2_2 (-2) xz2_4 xf2_79 xp2_80 0 0 f1 (quF tb tl (sk tb tl 0, false)) _ _ _ hO_83 hxa2_5 hxz2_6 (by omega) (by omega) rfl hP hD hS (lv_sub hl [0] rfl)
  by_cases g_84 : xt2_3 = 279
  · refine lv_tableIn (off := 67) (tgt := 96) hx hb dX5_read_29 (by rw [g_84]; decide) (by rw [g_84]; decide) (by rw [g_84]; rfl) (by decide) ?_
    refine lv_aload_n hx hb dX5_read_96 rfl (lv_at hl 0 rfl) ?_
    refine sk_get (v := .ref (q 2)) (C := RX5) (T := TX5) (N := 4) hx hb hts inlX5 hown hK hP 0 rfl rfl 0 (Nat.le_of_ble_eq_true rfl) w_1_154 rfl dX5_read_97 ?_
    refine sk_VvZ (q0 := 0) (n := 0) (rest := []) (wr := fmR om_7_1c _) ⟨hx, hb, hml, hown, hts⟩ hl.1 (c_erd_step l D cI cJ cC cZ cS zk zv zf q xa2_1 xv2_2 0 xt2_3 xz2_4 0 (-1) tl tb (bindR (.ok (sk tb tl 0, false)) (beF tb tl)) hxa2_5 hxz2_6 htl htb (rd_st htb hO2_7 ⟨by rw [g_84]; decide, by rw [g_84]; decide⟩)) w_5_69 w_2_226 w_2_227 w_1_4 w_2_228 hd_X6_step_0 ⟨⟨(Nat.le_of_ble_eq_true rfl), (Nat.le_of_ble_eq_true rfl)⟩, (Nat.le_of_ble_eq_true rfl), (Nat.le_of_ble_eq_true rfl)⟩ hK hP hD hS hZ hA (fmT om_7_1c 0) (fmF om_7_1c 0) (fm_C1 rfl rfl) (fm_R rfl rfl) (fm_nT om_7_1c 0) (fm_nF om_7_1c 0) (fm_di om_7_1c 0) rfl rfl rfl rfl (Nat.le_of_ble_eq_true rfl) dX5_read_100 (fun u H locs hw hP hD hS => ?_)
    refine exE hw (fun xa2_85 hw1 => exE hw1 (fun xv2_86 hw2 => exE hw2 (fun xt2_87 hw3 => exE hw3 (fun xz2_88 hw4 => anE hw4 (fun hxa2_89 hw5 => anE hw5 (fun hxz2_90 hw6 => anE hw6 (fun hO2_91 eu_92 => ?_)))))))
    clear hw hw1 hw2 hw3 hw4 hw5 hw6
    refine o_mgE (ws' := [(q 4, .inr (5, [.ref (q 2), .ref (q 55), .ref (q 56), .int xt2_3])), (q 55, .inr (8, [.ref (q 2), .int 2])), (q 2, .inr (6, [.ref (q 0), .int (nI xa2_85), .int xv2_86, .int 0, .int xt2_87, .int (nI xz2_88), .int 0, .int (-1)])), (q 0, .inr (10, [.ref (q 20), .int (nI tl)])), (q 20, .inl (cI, 1600, .inl (fun j => nI (tb j)))), (q 56, .inr (0, [.ref (q 57), .ref (q 58), .ref (q 59), .ref (q 60), .int 0, .int 0])), (q 57, .inl (cI, 1600, .inl f1))]) eu_92 hP hD rfl (fun hP hD => ?_)
    rw [stF_nx] at hO2_91
    have hO_93 := rs_0 (c := nx tb tl (sk tb tl 0)) (f := f1) hO2_91
    refine lv_aload_n hx hb dX5_read_103 rfl (lv_at hl 0 rfl) ?_
    refine sk_VvZ (q0 := 0) (n := 0) (rest := []) (wr := fmR om_7_7f _) ⟨hx, hb, hml, hown, hts⟩ hl.1 ((c_etests l D cI cJ cC cZ cS zk zv zf 6).1 q xt2_3 xa2_85 xv2_86 0 xt2_87 xz2_88 0 (-1) tl tb 0 0 f1 (.ok (nx tb tl (sk tb tl 0), [])) hxa2_89 hxz2_90 htl htb (by omega) (by omega) (by omega) hO_93 (lenO_0 (nx tb tl (sk tb tl 0)))) w_5_70 w_5_72 w_0_34 w_1_7 w_5_73 hd_X5_readTest_0 ⟨⟨(Nat.le_of_ble_eq_true rfl), (Nat.le_of_ble_eq_true rfl)⟩, (Nat.le_of_ble_eq_true rfl), (Nat.le_of_ble_eq_true rfl)⟩ hK hP hD hS hZ hA (fmT om_7_7f 0) (fmF om_7_7f 0) (fm_C1 rfl rfl) (fm_R rfl rfl) (fm_nT om_7_7f 0) (fm_nF om_7_7f 0) (fm_di om_7_7f 0) rfl rfl rfl rfl (Nat.le_of_ble_eq_true rfl) dX5_read_104 (fun u H locs hw hP hD hS => ?_)
    refine exE hw (fun xa2_94 hw1 => exE hw1 (fun xv2_95 hw2 => exE hw2 (fun xt2_96 hw3 => exE hw3 (fun xz2_97 hw4 => exE hw4 (fun xf2_98 hw5 => exE hw5 (fun xp2_99 hw6 => exE hw6 (fun c2_100 hw7 => exE hw7 (fun w2_101 hw8 => exE hw8 (fun g1_102 hw9 => anE hw9 (fun hxa2_103 hw10 => anE hw10 (fun hxz2_104 hw11 => anE hw11 (fun hc2_105 hw12 => anE hw12 (fun hw2_106 hw13 => anE hw13 (fun hO2_107 eu_108 => ?_))))))))))))))
    clear hw hw1 hw2 hw3 hw4 hw5 hw6 hw7 hw8 hw9 hw10 hw11 hw12 hw13
    refine o_mgE (ws' := [(q 4, .inr (5, [.ref (q 2), .ref (q 55), .ref (q 56), .int xt2_3])), (q 55, .inr (8, [.ref (q 2), .int 2])), (q 2, .inr (6, [.ref (q 0), .int (nI xa2_94), .int xv2_95, .int 0, .int xt2_96, .int (nI xz2_97), .int xf2_98, .int xp2_99])), (q 0, .inr (10, [.ref (q 20), .int (nI tl)])), (q 20, .inl (cI, 1600, .inl (fun j => nI (tb j)))), (q 56, .inr (0, [.ref (q 57), .ref (q 58), .ref (q 59), .ref (q 60), .int (nI c2_100), .int (nI w2_101)])), (q 57, .inl (cI, 1600, .inl g1_102))]) eu_108 hP hD rfl (fun hP hD => ?_)
    have hL_109 := lenO_ap (len_test (tb := tb) (n := tl) (len_fc (tb := tb) (n := tl) 6)) (lenO_0 (nx tb tl (sk tb tl 0)))
    have hO_110 := (hO2_107).1
    rw [q_t (k := 23) htb hO2_7 g_84 (by decide)] at hO_110
    refine lv_goto (tgt := 138) hx hb dX5_read_107 (by decide) ?_
    exact jn_9 xa2_94 xv2_95 xt2_96 xz2_97 xf2_98 xp2_99 c2_100 w2_101 g1_102 (quF tb tl (sk tb tl 0, false)) _ _ _ hO_110 hxa2_103 hxz2_104 hc2_105 hw2_106 rfl hP hD hS (lv_sub hl [0] rfl)
  by_cases g_111 : xt2_3 = 280
  · refine lv_tableIn (off := 67) (tgt := 96) hx hb dX5_read_29 (by rw [g_111]; decide) (by rw [g_111]; decide) (by rw [g_111]; rfl) (by decide) ?_
    refine lv_aload_n hx hb dX5_read_96 rfl (lv_at hl 0 rfl) ?_
    refine sk_get (v := .ref (q 2)) (C := RX5) (T := TX5) (N := 4) hx hb hts inlX5 hown hK hP 0 rfl rfl 0 (Nat.le_of_ble_eq_true rfl) w_1_154 rfl dX5_read_97 ?_
    refine sk_VvZ (q0 := 0) (n := 0) (rest := []) (wr := fmR om_7_1c _) ⟨hx, hb, hml, hown, hts⟩ hl.1 (c_erd_step l D cI cJ cC cZ cS zk zv zf q xa2_1 xv2_2 0 xt2_3 xz2_4 0 (-1) tl tb (bindR (.ok (sk tb tl 0, false)) (beF tb tl)) hxa2_5 hxz2_6 htl htb (rd_st htb hO2_7 ⟨by rw [g_111]; decide, by rw [g_111]; decide⟩)) w_5_69 w_2_226 w_2_227 w_1_4 w_2_228 hd_X6_step_0 ⟨⟨(Nat.le_of_ble_eq_true rfl), (Nat.le_of_ble_eq_true rfl)⟩, (Nat.le_of_ble_eq_true rfl), (Nat.le_of_ble_eq_true rfl)⟩ hK hP hD hS hZ hA (fmT om_7_1c 0) (fmF om_7_1c 0) (fm_C1 rfl rfl) (fm_R rfl rfl) (fm_nT om_7_1c 0) (fm_nF om_7_1c 0) (fm_di om_7_1c 0) rfl rfl rfl rfl (Nat.le_of_ble_eq_true rfl) dX5_read_100 (fun u H locs hw hP hD hS => ?_)
    refine exE hw (fun xa2_112 hw1 => exE hw1 (fun xv2_113 hw2 => exE hw2 (fun xt2_114 hw3 => exE hw3 (fun xz2_115 hw4 => anE hw4 (fun hxa2_116 hw5 => anE hw5 (fun hxz2_117 hw6 => anE hw6 (fun hO2_118 eu_119 => ?_)))))))
    clear hw hw1 hw2 hw3 hw4 hw5 hw6
    refine o_mgE (ws' := [(q 4, .inr (5, [.ref (q 2), .ref (q 55), .ref (q 56), .int xt2_3])), (q 55, .inr (8, [.ref (q 2), .int 2])), (q 2, .inr (6, [.ref (q 0), .int (nI xa2_112), .int xv2_113, .int 0, .int xt2_114, .int (nI xz2_115), .int 0, .int (-1)])), (q 0, .inr (10, [.ref (q 20), .int (nI tl)])), (q 20, .inl (cI, 1600, .inl (fun j => nI (tb j)))), (q 56, .inr (0, [.ref (q 57), .ref (q 58), .ref (q 59), .ref (q 60), .int 0, .int 0])), (q 57, .inl (cI, 1600, .inl f1))]) eu_119 hP hD rfl (fun hP hD => ?_)
    rw [stF_nx] at hO2_118
    have hO_120 := rs_0 (c := nx tb tl (sk tb tl 0)) (f := f1) hO2_118
    refine lv_aload_n hx hb dX5_read_103 rfl (lv_at hl 0 rfl) ?_
    refine sk_VvZ (q0 := 0) (n := 0) (rest := []) (wr := fmR om_7_7f _) ⟨hx, hb, hml, hown, hts⟩ hl.1 ((c_etests l D cI cJ cC cZ cS zk zv zf 6).1 q xt2_3 xa2_112 xv2_113 0 xt2_114 xz2_115 0 (-1) tl tb 0 0 f1 (.ok (nx tb tl (sk tb tl 0), [])) hxa2_116 hxz2_117 htl htb (by omega) (by omega) (by omega) hO_120 (lenO_0 (nx tb tl (sk tb tl 0)))) w_5_70 w_5_72 w_0_34 w_1_7 w_5_73 hd_X5_readTest_0 ⟨⟨(Nat.le_of_ble_eq_true rfl), (Nat.le_of_ble_eq_true rfl)⟩, (Nat.le_of_ble_eq_true rfl), (Nat.le_of_ble_eq_true rfl)⟩ hK hP hD hS hZ hA (fmT om_7_7f 0) (fmF om_7_7f 0) (fm_C1 rfl rfl) (fm_R rfl rfl) (fm_nT om_7_7f 0) (fm_nF om_7_7f 0) (fm_di om_7_7f 0) rfl rfl rfl rfl (Nat.le_of_ble_eq_true rfl) dX5_read_104 (fun u H locs hw hP hD hS => ?_)
    refine exE hw (fun xa2_121 hw1 => exE hw1 (fun xv2_122 hw2 => exE hw2 (fun xt2_123 hw3 => exE hw3 (fun xz2_124 hw4 => exE hw4 (fun xf2_125 hw5 => exE hw5 (fun xp2_126 hw6 => exE hw6 (fun c2_127 hw7 => exE hw7 (fun w2_128 hw8 => exE hw8 (fun g1_129 hw9 => anE hw9 (fun hxa2_130 hw10 => anE hw10 (fun hxz2_131 hw11 => anE hw11 (fun hc2_132 hw12 => anE hw12 (fun hw2_133 hw13 => anE hw13 (fun hO2_134 eu_135 => ?_))))))))))))))
    clear hw hw1 hw2 hw3 hw4 hw5 hw6 hw7 hw8 hw9 hw10 hw11 hw12 hw13
    refine o_mgE (ws' := [(q 4, .inr (5, [.ref (q 2), .ref (q 55), .ref (q 56), .int xt2_3])), (q 55, .inr (8, [.ref (q 2), .int 2])), (q 2, .inr (6, [.ref (q 0), .int (nI xa2_121), .int xv2_122, .int 0, .int xt2_123, .int (nI xz2_124), .int xf2_125, .int xp2_126])), (q 0, .inr (10, [.ref (q 20), .int (nI tl)])), (q 20, .inl (cI, 1600, .inl (fun j => nI (tb j)))), (q 56, .inr (0, [.ref (q 57), .ref (q 58), .ref (q 59), .ref (q 60), .int (nI c2_127), .int (nI w2_128)])), (q 57, .inl (cI, 1600, .inl g1_129))]) eu_135 hP hD rfl (fun hP hD => ?_)
    have hL_136 := lenO_ap (len_test (tb := tb) (n := tl) (len_fc (tb := tb) (n := tl) 6)) (lenO_0 (nx tb tl (sk tb tl 0)))
    have hO_137 := (hO2_134).1
    rw [q_t (k := 24) htb hO2_7 g_111 (by decide)] at hO_137
    refine lv_goto (tgt := 138) hx hb dX5_read_107 (by decide) ?_
    exact jn_9 xa2_121 xv2_122 xt2_123 xz2_124 xf2_125 xp2_126 c2_127 w2_128 g1_129 (quF tb tl (sk tb tl 0, false)) _ _ _ hO_137 hxa2_130 hxz2_131 hc2_132 hw2_133 rfl hP hD hS (lv_sub hl [0] rfl)
  by_cases g_138 : xt2_3 = 281
  · refine lv_tableIn (off := 81) (tgt := 110) hx hb dX5_read_29 (by rw [g_138]; decide) (by rw [g_138]; decide) (by rw [g_138]; rfl) (by decide) ?_
    refine lv_aload_n hx hb dX5_read_110 rfl (lv_at hl 0 rfl) ?_
    refine sk_get (v := .ref (q 2)) (C := RX5) (T := TX5) (N := 4) hx hb hts inlX5 hown hK hP 0 rfl rfl 0 (Nat.le_of_ble_eq_true rfl) w_1_154 rfl dX5_read_111 ?_
    refine sk_VvZ (q0 := 0) (n := 0) (rest := []) (wr := fmR om_7_1c _) ⟨hx, hb, hml, hown, hts⟩ hl.1 (c_erd_step l D cI cJ cC cZ cS zk zv zf q xa2_1 xv2_2 0 xt2_3 xz2_4 0 (-1) tl tb (bindR (.ok (sk tb tl 0, false)) (beF tb tl)) hxa2_5 hxz2_6 htl htb (rd_st htb hO2_7 ⟨by rw [g_138]; decide, by rw [g_138]; decide⟩)) w_5_69 w_2_226 w_2_227 w_1_4 w_2_228 hd_X6_step_0 ⟨⟨(Nat.le_of_ble_eq_true rfl), (Nat.le_of_ble_eq_true rfl)⟩, (Nat.le_of_ble_eq_true rfl), (Nat.le_of_ble_eq_true rfl)⟩ hK hP hD hS hZ hA (fmT om_7_1c 0) (fmF om_7_1c 0) (fm_C1 rfl rfl) (fm_R rfl rfl) (fm_nT om_7_1c 0) (fm_nF om_7_1c 0) (fm_di om_7_1c 0) rfl rfl rfl rfl (Nat.le_of_ble_eq_true rfl) dX5_read_114 (fun u H locs hw hP hD hS => ?_)
    refine exE hw (fun xa2_139 hw1 => exE hw1 (fun xv2_140 hw2 => exE hw2 (fun xt2_141 hw3 => exE hw3 (fun xz2_142 hw4 => anE hw4 (fun hxa2_143 hw5 => anE hw5 (fun hxz2_144 hw6 => anE hw6 (fun hO2_145 eu_146 => ?_)))))))
    clear hw hw1 hw2 hw3 hw4 hw5 hw6
    refine o_mgE (ws' := [(q 4, .inr (5, [.ref (q 2), .ref (q 55), .ref (q 56), .int xt2_3])), (q 55, .inr (8, [.ref (q 2), .int 2])), (q 2, .inr (6, [.ref (q 0), .int (nI xa2_139), .int xv2_140, .int 0, .int xt2_141, .int (nI xz2_142), .int 0, .int (-1)])), (q 0, .inr (10, [.ref (q 20), .int (nI tl)])), (q 20, .inl (cI, 1600, .inl (fun j => nI (tb j)))), (q 56, .inr (0, [.ref (q 57), .ref (q 58), .ref (q 59), .ref (q 60), .int 0, .int 0])), (q 57, .inl (cI, 1600, .inl f1))]) eu_146 hP hD rfl (fun hP hD => ?_)
    rw [stF_nx] at hO2_145
    have hO_147 := rs_0 (c := nx tb tl (sk tb tl 0)) (f := f1) hO2_145
    refine lv_aload_n hx hb dX5_read_117 rfl (lv_at hl 0 rfl) ?_
    refine sk_get (v := .ref (q 55)) (C := RX5) (T := TX5) (N := 4) hx hb hts inlX5 hown hK hP 0 rfl rfl 1 (Nat.le_of_ble_eq_true rfl) w_1_155 rfl dX5_read_118 ?_
    refine lv_aload_n hx hb dX5_read_121 rfl (lv_at hl 0 rfl) ?_
    refine sk_get (v := .ref (q 56)) (C := RX5) (T := TX5) (N := 4) hx hb hts inlX5 hown hK hP 0 rfl rfl 2 (Nat.le_of_ble_eq_true rfl) w_1_156 rfl dX5_read_122 ?_
    refine sk_VvZ (q0 := 0) (n := 1) (rest := []) (wr := fmR om_7_3f _) ⟨hx, hb, hml, hown, hts⟩ hl.1 (c_esread l D cI cJ cC cZ cS zk zv zf 6 q (q 55) 2 xa2_139 xv2_140 0 xt2_141 xz2_142 0 (-1) tl tb (q 56) (q 57) (q 58) (q 59) (q 60) 0 0 f1 (.ok (nx tb tl (sk tb tl 0), [])) hxa2_143 hxz2_144 htl htb (by omega) (by omega) (by omega) (by omega) hO_147 (lenO_0 (nx tb tl (sk tb tl 0)))) w_5_90 w_3_81 w_3_82 w_1_6 w_3_83 hd_X8_read_1 ⟨⟨(Nat.le_of_ble_eq_true rfl), (Nat.le_of_ble_eq_true rfl)⟩, (Nat.le_of_ble_eq_true rfl), (Nat.le_of_ble_eq_true rfl)⟩ hK hP hD hS hZ hA (fmT om_7_3f 0) (fmF om_7_3f 0) (fm_C1 rfl rfl) (fm_R rfl rfl) (fm_nT om_7_3f 0) (fm_nF om_7_3f 0) (fm_di om_7_3f 0) rfl rfl rfl rfl (Nat.le_of_ble_eq_true rfl) dX5_read_125 (fun u H locs hw hP hD hS => ?_)
    refine exE hw (fun xa2_148 hw1 => exE hw1 (fun xv2_149 hw2 => exE hw2 (fun xt2_150 hw3 => exE hw3 (fun xz2_151 hw4 => exE hw4 (fun xf2_152 hw5 => exE hw5 (fun xp2_153 hw6 => exE hw6 (fun c2_154 hw7 => exE hw7 (fun w2_155 hw8 => exE hw8 (fun g1_156 hw9 => anE hw9 (fun hxa2_157 hw10 => anE hw10 (fun hxz2_158 hw11 => anE hw11 (fun hc2_159 hw12 => anE hw12 (fun hw2_160 hw13 => anE hw13 (fun hO2_161 eu_162 => ?_))))))))))))))
    clear hw hw1 hw2 hw3 hw4 hw5 hw6 hw7 hw8 hw9 hw10 hw11 hw12 hw13
    refine o_mgE (ws' := [(q 4, .inr (5, [.ref (q 2), .ref (q 55), .ref (q 56), .int xt2_3])), (q 55, .inr (8, [.ref (q 2), .int 2])), (q 2, .inr (6, [.ref (q 0), .int (nI xa2_148), .int xv2_149, .int 0, .int xt2_150, .int (nI xz2_151), .int xf2_152, .int xp2_153])), (q 0, .inr (10, [.ref (q 20), .int (nI tl)])), (q 20, .inl (cI, 1600, .inl (fun j => nI (tb j)))), (q 56, .inr (0, [.ref (q 57), .ref (q 58), .ref (q 59), .ref (q 60), .int (nI c2_154), .int (nI w2_155)])), (q 57, .inl (cI, 1600, .inl g1_156))]) eu_162 hP hD rfl (fun hP hD => ?_)
    have hL_163 := lenO_ap (len_sum (tb := tb) (n := tl) (len_part (tb := tb) (n := tl) (kind := 2) 6)) (lenO_0 (nx tb tl (sk tb tl 0)))
    have hO_164 := (hO2_161).1
    rw [q_s (k := 25) htb hO2_7 g_138 (by decide)] at hO_164
    refine lv_goto (tgt := 138) hx hb dX5_read_128 (by decide) ?_
    exact jn_9 xa2_148 xv2_149 xt2_150 xz2_151 xf2_152 xp2_153 c2_154 w2_155 g1_156 (quF tb tl (sk tb tl 0, false)) _ _ _ hO_164 hxa2_157 hxz2_158 hc2_159 hw2_160 rfl hP hD hS (lv_sub hl [0] rfl)
  by_cases g_165 : xt2_3 = 282
  · refine lv_tableIn (off := 81) (tgt := 110) hx hb dX5_read_29 (by rw [g_165]; decide) (by rw [g_165]; decide) (by rw [g_165]; rfl) (by decide) ?_
    refine lv_aload_n hx hb dX5_read_110 rfl (lv_at hl 0 rfl) ?_
    refine sk_get (v := .ref (q 2)) (C := RX5) (T := TX5) (N := 4) hx hb hts inlX5 hown hK hP 0 rfl rfl 0 (Nat.le_of_ble_eq_true rfl) w_1_154 rfl dX5_read_111 ?_
    refine sk_VvZ (q0 := 0) (n := 0) (rest := []) (wr := fmR om_7_1c _) ⟨hx, hb, hml, hown, hts⟩ hl.1 (c_erd_step l D cI cJ cC cZ cS zk zv zf q xa2_1 xv2_2 0 xt2_3 xz2_4 0 (-1) tl tb (bindR (.ok (sk tb tl 0, false)) (beF tb tl)) hxa2_5 hxz2_6 htl htb (rd_st htb hO2_7 ⟨by rw [g_165]; decide, by rw [g_165]; decide⟩)) w_5_69 w_2_226 w_2_227 w_1_4 w_2_228 hd_X6_step_0 ⟨⟨(Nat.le_of_ble_eq_true rfl), (Nat.le_of_ble_eq_true rfl)⟩, (Nat.le_of_ble_eq_true rfl), (Nat.le_of_ble_eq_true rfl)⟩ hK hP hD hS hZ hA (fmT om_7_1c 0) (fmF om_7_1c 0) (fm_C1 rfl rfl) (fm_R rfl rfl) (fm_nT om_7_1c 0) (fm_nF om_7_1c 0) (fm_di om_7_1c 0) rfl rfl rfl rfl (Nat.le_of_ble_eq_true rfl) dX5_read_114 (fun u H locs hw hP hD hS => ?_)
    refine exE hw (fun xa2_166 hw1 => exE hw1 (fun xv2_167 hw2 => exE hw2 (fun xt2_168 hw3 => exE hw3 (fun xz2_169 hw4 => anE hw4 (fun hxa2_170 hw5 => anE hw5 (fun hxz2_171 hw6 => anE hw6 (fun hO2_172 eu_173 => ?_)))))))
    clear hw hw1 hw2 hw3 hw4 hw5 hw6
    refine o_mgE (ws' := [(q 4, .inr (5, [.ref (q 2), .ref (q 55), .ref (q 56), .int xt2_3])), (q 55, .inr (8, [.ref (q 2), .int 2])), (q 2, .inr (6, [.ref (q 0), .int (nI xa2_166), .int xv2_167, .int 0, .int xt2_168, .int (nI xz2_169), .int 0, .int (-1)])), (q 0, .inr (10, [.ref (q 20), .int (nI tl)])), (q 20, .inl (cI, 1600, .inl (fun j => nI (tb j)))), (q 56, .inr (0, [.ref (q 57), .ref (q 58), .ref (q 59), .ref (q 60), .int 0, .int 0])), (q 57, .inl (cI, 1600, .inl f1))]) eu_173 hP hD rfl (fun hP hD => ?_)
    rw [stF_nx] at hO2_172
    have hO_174 := rs_0 (c := nx tb tl (sk tb tl 0)) (f := f1) hO2_172
    refine lv_aload_n hx hb dX5_read_117 rfl (lv_at hl 0 rfl) ?_
    refine sk_get (v := .ref (q 55)) (C := RX5) (T := TX5) (N := 4) hx hb hts inlX5 hown hK hP 0 rfl rfl 1 (Nat.le_of_ble_eq_true rfl) w_1_155 rfl dX5_read_118 ?_
    refine lv_aload_n hx hb dX5_read_121 rfl (lv_at hl 0 rfl) ?_
    refine sk_get (v := .ref (q 56)) (C := RX5) (T := TX5) (N := 4) hx hb hts inlX5 hown hK hP 0 rfl rfl 2 (Nat.le_of_ble_eq_true rfl) w_1_156 rfl dX5_read_122 ?_
    refine sk_VvZ (q0 := 0) (n := 1) (rest := []) (wr := fmR om_7_3f _) ⟨hx, hb, hml, hown, hts⟩ hl.1 (c_esread l D cI cJ cC cZ cS zk zv zf 6 q (q 55) 2 xa2_166 xv2_167 0 xt2_168 xz2_169 0 (-1) tl tb (q 56) (q 57) (q 58) (q 59) (q 60) 0 0 f1 (.ok (nx tb tl (sk tb tl 0), [])) hxa2_170 hxz2_171 htl htb (by omega) (by omega) (by omega) (by omega) hO_174 (lenO_0 (nx tb tl (sk tb tl 0)))) w_5_90 w_3_81 w_3_82 w_1_6 w_3_83 hd_X8_read_1 ⟨⟨(Nat.le_of_ble_eq_true rfl), (Nat.le_of_ble_eq_true rfl)⟩, (Nat.le_of_ble_eq_true rfl), (Nat.le_of_ble_eq_true rfl)⟩ hK hP hD hS hZ hA (fmT om_7_3f 0) (fmF om_7_3f 0) (fm_C1 rfl rfl) (fm_R rfl rfl) (fm_nT om_7_3f 0) (fm_nF om_7_3f 0) (fm_di om_7_3f 0) rfl rfl rfl rfl (Nat.le_of_ble_eq_true rfl) dX5_read_125 (fun u H locs hw hP hD hS => ?_)
    refine exE hw (fun xa2_175 hw1 => exE hw1 (fun xv2_176 hw2 => exE hw2 (fun xt2_177 hw3 => exE hw3 (fun xz2_178 hw4 => exE hw4 (fun xf2_179 hw5 => exE hw5 (fun xp2_180 hw6 => exE hw6 (fun c2_181 hw7 => exE hw7 (fun w2_182 hw8 => exE hw8 (fun g1_183 hw9 => anE hw9 (fun hxa2_184 hw10 => anE hw10 (fun hxz2_185 hw11 => anE hw11 (fun hc2_186 hw12 => anE hw12 (fun hw2_187 hw13 => anE hw13 (fun hO2_188 eu_189 => ?_))))))))))))))
    clear hw hw1 hw2 hw3 hw4 hw5 hw6 hw7 hw8 hw9 hw10 hw11 hw12 hw13
    refine o_mgE (ws' := [(q 4, .inr (5, [.ref (q 2), .ref (q 55), .ref (q 56), .int xt2_3])), (q 55, .inr (8, [.ref (q 2), .int 2])), (q 2, .inr (6, [.ref (q 0), .int (nI xa2_175), .int xv2_176, .int 0, .int xt2_177, .int (nI xz2_178), .int xf2_179, .int xp2_180])), (q 0, .inr (10, [.ref (q 20), .int (nI tl)])), (q 20, .inl (cI, 1600, .inl (fun j => nI (tb j)))), (q 56, .inr (0, [.ref (q 57), .ref (q 58), .ref (q 59), .ref (q 60), .int (nI c2_181), .int (nI w2_182)])), (q 57, .inl (cI, 1600, .inl g1_183))]) eu_189 hP hD rfl (fun hP hD => ?_)
    have hL_190 := lenO_ap (len_sum (tb := tb) (n := tl) (len_part (tb := tb) (n := tl) (kind := 2) 6)) (lenO_0 (nx tb tl (sk tb tl 0)))
    have hO_191 := (hO2_188).1
    rw [q_s (k := 26) htb hO2_7 g_165 (by decide)] at hO_191
    refine lv_goto (tgt := 138) hx hb dX5_read_128 (by decide) ?_
    exact jn_9 xa2_175 xv2_176 xt2_177 xz2_178 xf2_179 xp2_180 c2_181 w2_182 g1_183 (quF tb tl (sk tb tl 0, false)) _ _ _ hO_191 hxa2_184 hxz2_185 hc2_186 hw2_187 rfl hP hD hS (lv_sub hl [0] rfl)
  by_cases g_192 : xt2_3 = 283
  · refine lv_tableIn (off := 81) (tgt := 110) hx hb dX5_read_29 (by rw [g_192]; decide) (by rw [g_192]; decide) (by rw [g_192]; rfl) (by decide) ?_
    refine lv_aload_n hx hb dX5_read_110 rfl (lv_at hl 0 rfl) ?_
    refine sk_get (v := .ref (q 2)) (C := RX5) (T := TX5) (N := 4) hx hb hts inlX5 hown hK hP 0 rfl rfl 0 (Nat.le_of_ble_eq_true rfl) w_1_154 rfl dX5_read_111 ?_
    refine sk_VvZ (q0 := 0) (n := 0) (rest := []) (wr := fmR om_7_1c _) ⟨hx, hb, hml, hown, hts⟩ hl.1 (c_erd_step l D cI cJ cC cZ cS zk zv zf q xa2_1 xv2_2 0 xt2_3 xz2_4 0 (-1) tl tb (bindR (.ok (sk tb tl 0, false)) (beF tb tl)) hxa2_5 hxz2_6 htl htb (rd_st htb hO2_7 ⟨by rw [g_192]; decide, by rw [g_192]; decide⟩)) w_5_69 w_2_226 w_2_227 w_1_4 w_2_228 hd_X6_step_0 ⟨⟨(Nat.le_of_ble_eq_true rfl), (Nat.le_of_ble_eq_true rfl)⟩, (Nat.le_of_ble_eq_true rfl), (Nat.le_of_ble_eq_true rfl)⟩ hK hP hD hS hZ hA (fmT om_7_1c 0) (fmF om_7_1c 0) (fm_C1 rfl rfl) (fm_R rfl rfl) (fm_nT om_7_1c 0) (fm_nF om_7_1c 0) (fm_di om_7_1c 0) rfl rfl rfl rfl (Nat.le_of_ble_eq_true rfl) dX5_read_114 (fun u H locs hw hP hD hS => ?_)
    refine exE hw (fun xa2_193 hw1 => exE hw1 (fun xv2_194 hw2 => exE hw2 (fun xt2_195 hw3 => exE hw3 (fun xz2_196 hw4 => anE hw4 (fun hxa2_197 hw5 => anE hw5 (fun hxz2_198 hw6 => anE hw6 (fun hO2_199 eu_200 => ?_)))))))
    clear hw hw1 hw2 hw3 hw4 hw5 hw6
    refine o_mgE (ws' := [(q 4, .inr (5, [.ref (q 2), .ref (q 55), .ref (q 56), .int xt2_3])), (q 55, .inr (8, [.ref (q 2), .int 2])), (q 2, .inr (6, [.ref (q 0), .int (nI xa2_193), .int xv2_194, .int 0, .int xt2_195, .int (nI xz2_196), .int 0, .int (-1)])), (q 0, .inr (10, [.ref (q 20), .int (nI tl)])), (q 20, .inl (cI, 1600, .inl (fun j => nI (tb j)))), (q 56, .inr (0, [.ref (q 57), .ref (q 58), .ref (q 59), .ref (q 60), .int 0, .int 0])), (q 57, .inl (cI, 1600, .inl f1))]) eu_200 hP hD rfl (fun hP hD => ?_)
    rw [stF_nx] at hO2_199
    have hO_201 := rs_0 (c := nx tb tl (sk tb tl 0)) (f := f1) hO2_199
    refine lv_aload_n hx hb dX5_read_117 rfl (lv_at hl 0 rfl) ?_
    refine sk_get (v := .ref (q 55)) (C := RX5) (T := TX5) (N := 4) hx hb hts inlX5 hown hK hP 0 rfl rfl 1 (Nat.le_of_ble_eq_true rfl) w_1_155 rfl dX5_read_118 ?_
    refine lv_aload_n hx hb dX5_read_121 rfl (lv_at hl 0 rfl) ?_
    refine sk_get (v := .ref (q 56)) (C := RX5) (T := TX5) (N := 4) hx hb hts inlX5 hown hK hP 0 rfl rfl 2 (Nat.le_of_ble_eq_true rfl) w_1_156 rfl dX5_read_122 ?_
    refine sk_VvZ (q0 := 0) (n := 1) (rest := []) (wr := fmR om_7_3f _) ⟨hx, hb, hml, hown, hts⟩ hl.1 (c_esread l D cI cJ cC cZ cS zk zv zf 6 q (q 55) 2 xa2_193 xv2_194 0 xt2_195 xz2_196 0 (-1) tl tb (q 56) (q 57) (q 58) (q 59) (q 60) 0 0 f1 (.ok (nx tb tl (sk tb tl 0), [])) hxa2_197 hxz2_198 htl htb (by omega) (by omega) (by omega) (by omega) hO_201 (lenO_0 (nx tb tl (sk tb tl 0)))) w_5_90 w_3_81 w_3_82 w_1_6 w_3_83 hd_X8_read_1 ⟨⟨(Nat.le_of_ble_eq_true rfl), (Nat.le_of_ble_eq_true rfl)⟩, (Nat.le_of_ble_eq_true rfl), (Nat.le_of_ble_eq_true rfl)⟩ hK hP hD hS hZ hA (fmT om_7_3f 0) (fmF om_7_3f 0) (fm_C1 rfl rfl) (fm_R rfl rfl) (fm_nT om_7_3f 0) (fm_nF om_7_3f 0) (fm_di om_7_3f 0) rfl rfl rfl rfl (Nat.le_of_ble_eq_true rfl) dX5_read_125 (fun u H locs hw hP hD hS => ?_)
    refine exE hw (fun xa2_202 hw1 => exE hw1 (fun xv2_203 hw2 => exE hw2 (fun xt2_204 hw3 => exE hw3 (fun xz2_205 hw4 => exE hw4 (fun xf2_206 hw5 => exE hw5 (fun xp2_207 hw6 => exE hw6 (fun c2_208 hw7 => exE hw7 (fun w2_209 hw8 => exE hw8 (fun g1_210 hw9 => anE hw9 (fun hxa2_211 hw10 => anE hw10 (fun hxz2_212 hw11 => anE hw11 (fun hc2_213 hw12 => anE hw12 (fun hw2_214 hw13 => anE hw13 (fun hO2_215 eu_216 => ?_))))))))))))))
    clear hw hw1 hw2 hw3 hw4 hw5 hw6 hw7 hw8 hw9 hw10 hw11 hw12 hw13
    refine o_mgE (ws' := [(q 4, .inr (5, [.ref (q 2), .ref (q 55), .ref (q 56), .int xt2_3])), (q 55, .inr (8, [.ref (q 2), .int 2])), (q 2, .inr (6, [.ref (q 0), .int (nI xa2_202), .int xv2_203, .int 0, .int xt2_204, .int (nI xz2_205), .int xf2_206, .int xp2_207])), (q 0, .inr (10, [.ref (q 20), .int (nI tl)])), (q 20, .inl (cI, 1600, .inl (fun j => nI (tb j)))), (q 56, .inr (0, [.ref (q 57), .ref (q 58), .ref (q 59), .ref (q 60), .int (nI c2_208), .int (nI w2_209)])), (q 57, .inl (cI, 1600, .inl g1_210))]) eu_216 hP hD rfl (fun hP hD => ?_)
    have hL_217 := lenO_ap (len_sum (tb := tb) (n := tl) (len_part (tb := tb) (n := tl) (kind := 2) 6)) (lenO_0 (nx tb tl (sk tb tl 0)))
    have hO_218 := (hO2_215).1
    rw [q_s (k := 27) htb hO2_7 g_192 (by decide)] at hO_218
    refine lv_goto (tgt := 138) hx hb dX5_read_128 (by decide) ?_
    exact jn_9 xa2_202 xv2_203 xt2_204 xz2_205 xf2_206 xp2_207 c2_208 w2_209 g1_210 (quF tb tl (sk tb tl 0, false)) _ _ _ hO_218 hxa2_211 hxz2_212 hc2_213 hw2_214 rfl hP hD hS (lv_sub hl [0] rfl)
  refine lv_tableOut (tgt := 131) hx hb dX5_read_29 (sk_out2 271 283 (by intro k hk1 hk2; rcases (show k = 271 ∨ k = 272 ∨ k = 273 ∨ k = 274 ∨ k = 275 ∨ k = 276 ∨ k = 277 ∨ k = 278 ∨ k = 279 ∨ k = 280 ∨ k = 281 ∨ k = 282 ∨ k = 283 by omega) with rfl | rfl | rfl | rfl | rfl | rfl | rfl | rfl | rfl | rfl | rfl | rfl | rfl <;> assumption)) (by decide) ?_
  refine lv_aload_n hx hb dX5_read_131 rfl (lv_at hl 0 rfl) ?_
  refine sk_get (v := .ref (q 2)) (C := RX5) (T := TX5) (N := 4) hx hb hts inlX5 hown hK hP 0 rfl rfl 0 (Nat.le_of_ble_eq_true rfl) w_1_154 rfl dX5_read_132 ?_
  refine sk_Vv (q0 := 0) (n := 0) (rest := []) (wr := fmR om_7_10 _) ⟨hx, hb, hml, hown, hts⟩ hl.1 (c_erd_failHere l D cI cJ cC cZ cS q xa2_1 xv2_2 0 xt2_3 xz2_4 0 (-1) tl tb (.ok (sk tb tl 0, false)) hxz2_6 hO2_7) w_5_94 w_3_55 w_3_56 w_1_4 w_3_57 hd_X6_failHere_0 ⟨⟨(Nat.le_of_ble_eq_true rfl), (Nat.le_of_ble_eq_true rfl)⟩, (Nat.le_of_ble_eq_true rfl), (Nat.le_of_ble_eq_true rfl)⟩ hK hP hD hS hA (fmT om_7_10 0) (fmF om_7_10 0) (fm_C1 rfl rfl) (fm_R rfl rfl) (fm_nT om_7_10 0) (fm_nF om_7_10 0) (fm_di om_7_10 0) rfl rfl rfl rfl (Nat.le_of_ble_eq_true rfl) dX5_read_135 (fun u H locs hw hP hD hS => ?_)
  refine exE hw (fun xf2_219 hw1 => exE hw1 (fun xp2_220 hw2 => anE hw2 (fun hO2_221 eu_222 => ?_)))
  clear hw hw1 hw2
  refine o_mgE (ws' := [(q 4, .inr (5, [.ref (q 2), .ref (q 55), .ref (q 56), .int xt2_3])), (q 55, .inr (8, [.ref (q 2), .int 2])), (q 2, .inr (6, [.ref (q 0), .int (nI xa2_1), .int xv2_2, .int 0, .int (-2), .int (nI xz2_4), .int xf2_219, .int xp2_220])), (q 0, .inr (10, [.ref (q 20), .int (nI tl)])), (q 20, .inl (cI, 1600, .inl (fun j => nI (tb j)))), (q 56, .inr (0, [.ref (q 57), .ref (q 58), .ref (q 59), .ref (q 60), .int 0, .int 0])), (q 57, .inl (cI, 1600, .inl f1))]) eu_222 hP hD rfl (fun hP hD => ?_)
  have hO_223 := hO2_221
  rw [q_n htb hO2_7 (by assumption) (by assumption) (by assumption) (by assumption) (by assumption) (by assumption)] at hO_223
  exact jn_9 xa2_1 xv2_2 (-2) xz2_4 xf2_219 xp2_220 0 0 f1 (quF tb tl (sk tb tl 0, false)) _ _ _ hO_223 hxa2_5 hxz2_6 (by omega) (by omega) rfl hP hD hS (lv_sub hl [0] rfl)
