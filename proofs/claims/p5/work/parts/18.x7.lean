set_option maxHeartbeats 4000000 in
set_option maxRecDepth 100000 in
theorem c_elt_sumOf (l : Launch) (D : va_G) (cI cJ cC cZ cS : ClassId) (zk zv : Nat) (zf : Value) (q : Nat → Nat) (xa : Nat) (xv : Int32) (xt : Int32) (xz : Nat) (xf : Int32) (xp : Int32) (tl : Nat) (tb : Nat → Nat) (jd : Nat) (jm : Nat) (ju : Int32) (jr : Int32) (jn : Nat) (jc : Nat) (jx : Nat) (j1 : Nat → Int32) (jf : Nat → Int32) (jt : Nat → Int32) (u0 : Nat) (kn : Nat) (w : Nat) (og : Res) (hxa : xa ≤ 1600) (hxz : xz ≤ 1600) (htl : tl ≤ 1600) (htb : ∀ j, tb j ≤ 255) (hjc : jc ≤ 1600) (hjx : jx ≤ 1) (hw : w < 3) (hkn : kn ≤ 2) (hre : ¬ xt = -1 ∧ ¬ xt = -2) (hO : rsO tb tl og xa xv xt xz xf xp jc jx j1) (hlen : lenO og) : skMZ zk zv zf l yX3_readSumOf cX3_readSumOf 4 none 55 1321 0 0 D (skT cI cJ cC cZ cS) [.ref (q 3), .ref (q 6), .int (nI w), .ref u0] [(q 3, .inr (3, [.ref (q 2), .ref (q 22), .ref (q 23)])), (q 2, .inr (6, [.ref (q 0), .int (nI xa), .int xv, .int 0, .int xt, .int (nI xz), .int xf, .int xp])), (q 0, .inr (10, [.ref (q 20), .int (nI tl)])), (q 20, .inl (cI, 1600, .inl (fun j => nI (tb j)))), (u0, .inr (8, [.ref (q 2), .int (nI kn)])), (q 6, .inr (2, [.ref (q 24), .ref (q 25), .ref (q 26), .ref (q 27), .ref (q 28), .int (nI jd), .int (nI jm), .int ju, .int jr, .int (nI jn)])), (q 24, .inr (0, [.ref (q 29), .ref (q 30), .ref (q 31), .ref (q 32), .int (nI jc), .int (nI jx)])), (q 29, .inl (cI, 1600, .inl j1)), (q 27, .inl (cI, 3, .inl jf)), (q 28, .inl (cI, 3, .inl jt))] (skV D (skT cI cJ cC cZ cS) (fun (u : va_W) => ∃ (xa2 : Nat), ∃ (xv2 : Int32), ∃ (xt2 : Int32), ∃ (xz2 : Nat), ∃ (xf2 : Int32), ∃ (xp2 : Int32), ∃ (jc2 : Nat), ∃ (jx2 : Nat), ∃ (k1_ : Nat → Int32), ∃ (kf_ : Nat → Int32), ∃ (kt_ : Nat → Int32), xa2 ≤ 1600 ∧ xz2 ≤ 1600 ∧ jc2 ≤ 1600 ∧ jx2 ≤ 1 ∧ smO tb tl kn w og xa2 xv2 xt2 xz2 xf2 xp2 jc jc2 jx2 k1_ jf kf_ jt kt_ ∧ u = [(q 3, .inr (3, [.ref (q 2), .ref (q 22), .ref (q 23)])), (q 2, .inr (6, [.ref (q 0), .int (nI xa2), .int xv2, .int 0, .int xt2, .int (nI xz2), .int xf2, .int xp2])), (q 0, .inr (10, [.ref (q 20), .int (nI tl)])), (q 20, .inl (cI, 1600, .inl (fun j => nI (tb j)))), (u0, .inr (8, [.ref (q 2), .int (nI kn)])), (q 6, .inr (2, [.ref (q 24), .ref (q 25), .ref (q 26), .ref (q 27), .ref (q 28), .int (nI jd), .int (nI jm), .int ju, .int jr, .int (nI jn)])), (q 24, .inr (0, [.ref (q 29), .ref (q 30), .ref (q 31), .ref (q 32), .int (nI jc2), .int (nI jx2)])), (q 29, .inl (cI, 1600, .inl k1_)), (q 27, .inl (cI, 3, .inl kf_)), (q 28, .inl (cI, 3, .inl kt_))])) := by
  refine skMZ_of (by decide +kernel) (Nat.le_of_ble_eq_true rfl) ?_
  intro p e s m below meth c A ls E hP hD hZ hl
  obtain ⟨hx, hb, hr, hml, hlocks, hin, hown, hts, hK, hA⟩ := E
  have hown : s.vm.findClass RX3 = some m.cls := hown
  have hS : va_S A s.heap s.heap [] := va_S.rf
  have hl : lv_has ls 4 [(0, .ref (q 3)), (1, .ref (q 6)), (2, .int (nI w)), (3, .ref u0)] := hl
  refine lv_aload_n hx hb dX3_readSumOf_0 rfl (lv_at hl 1 rfl) ?_
  refine lv_iload_n hx hb dX3_readSumOf_1 rfl (lv_at hl 2 rfl) ?_
  refine sk_Vi (q0 := 0) (n := 1) (rest := []) (wr := [(q 3, .inr (3, [.ref (q 2), .ref (q 22), .ref (q 23)])), (q 2, .inr (6, [.ref (q 0), .int (nI xa), .int xv, .int 0, .int xt, .int (nI xz), .int xf, .int xp])), (q 0, .inr (10, [.ref (q 20), .int (nI tl)])), (q 20, .inl (cI, 1600, .inl (fun j => nI (tb j)))), (u0, .inr (8, [.ref (q 2), .int (nI kn)])), (q 24, .inr (0, [.ref (q 29), .ref (q 30), .ref (q 31), .ref (q 32), .int (nI jc), .int (nI jx)])), (q 29, .inl (cI, 1600, .inl j1))]) ⟨hx, hb, hml, hown, hts⟩ hl.1 (c_elk_hasSum l D cI cJ cC cZ cS q jd jm ju jr jn jf jt w (by omega)) w_3_70 w_3_71 w_3_72 w_1_9 w_3_73 (by decide +kernel) ⟨⟨(Nat.le_of_ble_eq_true rfl), (Nat.le_of_ble_eq_true rfl)⟩, (Nat.le_of_ble_eq_true rfl), (Nat.le_of_ble_eq_true rfl)⟩ hK hP hD hS hA [5, 8, 9] [0, 1, 2, 3, 4, 6, 7] rfl rfl (by decide +kernel) (by decide +kernel) (by decide +kernel) rfl rfl rfl rfl (Nat.le_of_ble_eq_true rfl) dX3_readSumOf_2 (fun r_2 u H locs hw hP hD hS => ?_)
  obtain ⟨b_1, hb1_3, hhs_4, rfl, rfl⟩ := hw
  have hP : va_P D vwCl [(q 3, .inr (3, [.ref (q 2), .ref (q 22), .ref (q 23)])), (q 2, .inr (6, [.ref (q 0), .int (nI xa), .int xv, .int 0, .int xt, .int (nI xz), .int xf, .int xp])), (q 0, .inr (10, [.ref (q 20), .int (nI tl)])), (q 20, .inl (cI, 1600, .inl (fun j => nI (tb j)))), (u0, .inr (8, [.ref (q 2), .int (nI kn)])), (q 24, .inr (0, [.ref (q 29), .ref (q 30), .ref (q 31), .ref (q 32), .int (nI jc), .int (nI jx)])), (q 29, .inl (cI, 1600, .inl j1)), (q 6, .inr (2, [.ref (q 24), .ref (q 25), .ref (q 26), .ref (q 27), .ref (q 28), .int (nI jd), .int (nI jm), .int ju, .int jr, .int (nI jn)])), (q 27, .inl (cI, 3, .inl jf)), (q 28, .inl (cI, 3, .inl jt))] H := hP
  have hD : va_D A [(q 3, .inr (3, [.ref (q 2), .ref (q 22), .ref (q 23)])), (q 2, .inr (6, [.ref (q 0), .int (nI xa), .int xv, .int 0, .int xt, .int (nI xz), .int xf, .int xp])), (q 0, .inr (10, [.ref (q 20), .int (nI tl)])), (q 20, .inl (cI, 1600, .inl (fun j => nI (tb j)))), (u0, .inr (8, [.ref (q 2), .int (nI kn)])), (q 24, .inr (0, [.ref (q 29), .ref (q 30), .ref (q 31), .ref (q 32), .int (nI jc), .int (nI jx)])), (q 29, .inl (cI, 1600, .inl j1)), (q 6, .inr (2, [.ref (q 24), .ref (q 25), .ref (q 26), .ref (q 27), .ref (q 28), .int (nI jd), .int (nI jm), .int ju, .int jr, .int (nI jn)])), (q 27, .inl (cI, 3, .inl jf)), (q 28, .inl (cI, 3, .inl jt))] := hD
  refine lv_if_eq (tgt := 24) hx hb dX3_readSumOf_5 (by decide) (fun c_5 => ?_) (fun c_5 => ?_)
  · have c_5 : b_1 = 0 := (neq b_1 0 (by omega) (by omega)).mp c_5
    refine lv_aload_n hx hb dX3_readSumOf_24 rfl (lv_at hl 0 rfl) ?_
    refine sk_get (v := .ref (q 2)) (C := RX3) (T := TX3) (N := 3) hx hb hts inlX3 hown hK hP 0 rfl rfl 0 (by decide) w_1_107 rfl dX3_readSumOf_25 ?_
    refine sk_VvZ (q0 := 0) (n := 0) (rest := []) (wr := [(q 3, .inr (3, [.ref (q 2), .ref (q 22), .ref (q 23)])), (u0, .inr (8, [.ref (q 2), .int (nI kn)])), (q 24, .inr (0, [.ref (q 29), .ref (q 30), .ref (q 31), .ref (q 32), .int (nI jc), .int (nI jx)])), (q 29, .inl (cI, 1600, .inl j1)), (q 6, .inr (2, [.ref (q 24), .ref (q 25), .ref (q 26), .ref (q 27), .ref (q 28), .int (nI jd), .int (nI jm), .int ju, .int jr, .int (nI jn)])), (q 27, .inl (cI, 3, .inl jf)), (q 28, .inl (cI, 3, .inl jt))]) ⟨hx, hb, hml, hown, hts⟩ hl.1 (c_erd_step l D cI cJ cC cZ cS zk zv zf q xa xv 0 xt xz xf xp tl tb (bindR (rc og) (beF tb tl)) (by omega) (by omega) (by omega) htb (rd_st htb (hO).1 hre)) w_3_75 w_2_226 w_2_227 w_1_4 w_2_228 (by decide +kernel) ⟨⟨(Nat.le_of_ble_eq_true rfl), (Nat.le_of_ble_eq_true rfl)⟩, (Nat.le_of_ble_eq_true rfl), (Nat.le_of_ble_eq_true rfl)⟩ hK hP hD hS hZ hA [1, 2, 3] [0, 4, 5, 6, 7, 8, 9] rfl rfl (by decide +kernel) (by decide +kernel) (by decide +kernel) rfl rfl rfl rfl (Nat.le_of_ble_eq_true rfl) dX3_readSumOf_28 (fun u H locs hw hP hD hS => ?_)
    obtain ⟨xa2_6, xv2_7, xt2_8, xz2_9, hxa2_10, hxz2_11, hO2_12, rfl⟩ := hw
    have hP : va_P D vwCl [(q 3, .inr (3, [.ref (q 2), .ref (q 22), .ref (q 23)])), (u0, .inr (8, [.ref (q 2), .int (nI kn)])), (q 24, .inr (0, [.ref (q 29), .ref (q 30), .ref (q 31), .ref (q 32), .int (nI jc), .int (nI jx)])), (q 29, .inl (cI, 1600, .inl j1)), (q 6, .inr (2, [.ref (q 24), .ref (q 25), .ref (q 26), .ref (q 27), .ref (q 28), .int (nI jd), .int (nI jm), .int ju, .int jr, .int (nI jn)])), (q 27, .inl (cI, 3, .inl jf)), (q 28, .inl (cI, 3, .inl jt)), (q 2, .inr (6, [.ref (q 0), .int (nI xa2_6), .int xv2_7, .int 0, .int xt2_8, .int (nI xz2_9), .int xf, .int xp])), (q 0, .inr (10, [.ref (q 20), .int (nI tl)])), (q 20, .inl (cI, 1600, .inl (fun j => nI (tb j))))] H := hP
    have hD : va_D A [(q 3, .inr (3, [.ref (q 2), .ref (q 22), .ref (q 23)])), (u0, .inr (8, [.ref (q 2), .int (nI kn)])), (q 24, .inr (0, [.ref (q 29), .ref (q 30), .ref (q 31), .ref (q 32), .int (nI jc), .int (nI jx)])), (q 29, .inl (cI, 1600, .inl j1)), (q 6, .inr (2, [.ref (q 24), .ref (q 25), .ref (q 26), .ref (q 27), .ref (q 28), .int (nI jd), .int (nI jm), .int ju, .int jr, .int (nI jn)])), (q 27, .inl (cI, 3, .inl jf)), (q 28, .inl (cI, 3, .inl jt)), (q 2, .inr (6, [.ref (q 0), .int (nI xa2_6), .int xv2_7, .int 0, .int xt2_8, .int (nI xz2_9), .int xf, .int xp])), (q 0, .inr (10, [.ref (q 20), .int (nI tl)])), (q 20, .inl (cI, 1600, .inl (fun j => nI (tb j))))] := hD
    rw [stF_nx] at hO2_12
    have hO_13 := rs_bd hO hO2_12
    have hL_14 := lenS_nx htb hO hre hlen
    refine lv_aload_n hx hb dX3_readSumOf_31 rfl (lv_at hl 1 rfl) ?_
    refine lv_iload_n hx hb dX3_readSumOf_32 rfl (lv_at hl 2 rfl) ?_
    refine sk_Vv (q0 := 0) (n := 1) (rest := []) (wr := [(q 3, .inr (3, [.ref (q 2), .ref (q 22), .ref (q 23)])), (u0, .inr (8, [.ref (q 2), .int (nI kn)])), (q 29, .inl (cI, 1600, .inl j1)), (q 28, .inl (cI, 3, .inl jt)), (q 2, .inr (6, [.ref (q 0), .int (nI xa2_6), .int xv2_7, .int 0, .int xt2_8, .int (nI xz2_9), .int xf, .int xp])), (q 0, .inr (10, [.ref (q 20), .int (nI tl)])), (q 20, .inl (cI, 1600, .inl (fun j => nI (tb j))))]) ⟨hx, hb, hml, hown, hts⟩ hl.1 (c_elk_beginSum l D cI cJ cC cZ cS q jd jm ju jr jn jc jx jf w (by omega)) w_3_76 w_3_77 w_3_78 w_1_9 w_3_79 (by decide +kernel) ⟨⟨(Nat.le_of_ble_eq_true rfl), (Nat.le_of_ble_eq_true rfl)⟩, (Nat.le_of_ble_eq_true rfl), (Nat.le_of_ble_eq_true rfl)⟩ hK hP hD hS hA [4, 2, 5] [0, 1, 3, 6, 7, 8, 9] rfl rfl (by decide +kernel) (by decide +kernel) (by decide +kernel) rfl rfl rfl rfl (Nat.le_of_ble_eq_true rfl) dX3_readSumOf_33 (fun u H locs hw hP hD hS => ?_)
    obtain ⟨gf_15, hgf_16, rfl⟩ := hw
    have hP : va_P D vwCl [(q 3, .inr (3, [.ref (q 2), .ref (q 22), .ref (q 23)])), (u0, .inr (8, [.ref (q 2), .int (nI kn)])), (q 29, .inl (cI, 1600, .inl j1)), (q 28, .inl (cI, 3, .inl jt)), (q 2, .inr (6, [.ref (q 0), .int (nI xa2_6), .int xv2_7, .int 0, .int xt2_8, .int (nI xz2_9), .int xf, .int xp])), (q 0, .inr (10, [.ref (q 20), .int (nI tl)])), (q 20, .inl (cI, 1600, .inl (fun j => nI (tb j)))), (q 6, .inr (2, [.ref (q 24), .ref (q 25), .ref (q 26), .ref (q 27), .ref (q 28), .int (nI jd), .int (nI jm), .int ju, .int jr, .int (nI jn)])), (q 24, .inr (0, [.ref (q 29), .ref (q 30), .ref (q 31), .ref (q 32), .int (nI jc), .int (nI jx)])), (q 27, .inl (cI, 3, .inl gf_15))] H := hP
    have hD : va_D A [(q 3, .inr (3, [.ref (q 2), .ref (q 22), .ref (q 23)])), (u0, .inr (8, [.ref (q 2), .int (nI kn)])), (q 29, .inl (cI, 1600, .inl j1)), (q 28, .inl (cI, 3, .inl jt)), (q 2, .inr (6, [.ref (q 0), .int (nI xa2_6), .int xv2_7, .int 0, .int xt2_8, .int (nI xz2_9), .int xf, .int xp])), (q 0, .inr (10, [.ref (q 20), .int (nI tl)])), (q 20, .inl (cI, 1600, .inl (fun j => nI (tb j)))), (q 6, .inr (2, [.ref (q 24), .ref (q 25), .ref (q 26), .ref (q 27), .ref (q 28), .int (nI jd), .int (nI jm), .int ju, .int jr, .int (nI jn)])), (q 24, .inr (0, [.ref (q 29), .ref (q 30), .ref (q 31), .ref (q 32), .int (nI jc), .int (nI jx)])), (q 27, .inl (cI, 3, .inl gf_15))] := hD
    refine lv_aload_n hx hb dX3_readSumOf_36 rfl (lv_at hl 3 rfl) ?_
    refine lv_aload_n hx hb dX3_readSumOf_37 rfl (lv_at hl 1 rfl) ?_
    refine sk_get (v := .ref (q 24)) (C := RX2) (T := TX2) (N := 10) hx hb hts inlX2 hown hK hP 7 rfl rfl 0 (by decide) w_1_177 rfl dX3_readSumOf_38 ?_
    refine sk_VvZ (q0 := 0) (n := 1) (rest := []) (wr := [(q 3, .inr (3, [.ref (q 2), .ref (q 22), .ref (q 23)])), (q 28, .inl (cI, 3, .inl jt)), (q 6, .inr (2, [.ref (q 24), .ref (q 25), .ref (q 26), .ref (q 27), .ref (q 28), .int (nI jd), .int (nI jm), .int ju, .int jr, .int (nI jn)])), (q 27, .inl (cI, 3, .inl gf_15))]) ⟨hx, hb, hml, hown, hts⟩ hl.1 (c_esread l D cI cJ cC cZ cS zk zv zf 6 q u0 kn xa2_6 xv2_7 0 xt2_8 xz2_9 xf xp tl tb (q 24) (q 29) (q 30) (q 31) (q 32) jc jx j1 (bd og (nxF tb tl)) (by omega) (by omega) (by omega) htb (by omega) (by omega) (by omega) (by omega) hO_13 (lenO_S hL_14)) w_3_80 w_3_81 w_3_82 w_1_6 w_3_83 (by decide +kernel) ⟨⟨(Nat.le_of_ble_eq_true rfl), (Nat.le_of_ble_eq_true rfl)⟩, (Nat.le_of_ble_eq_true rfl), (Nat.le_of_ble_eq_true rfl)⟩ hK hP hD hS hZ hA [1, 4, 5, 6, 8, 2] [0, 3, 7, 9] rfl rfl (by decide +kernel) (by decide +kernel) (by decide +kernel) rfl rfl rfl rfl (Nat.le_of_ble_eq_true rfl) dX3_readSumOf_41 (fun u H locs hw hP hD hS => ?_)
    obtain ⟨xa2_17, xv2_18, xt2_19, xz2_20, xf2_21, xp2_22, c2_23, w2_24, g1_25, hxa2_26, hxz2_27, hc2_28, hw2_29, hO2_30, rfl⟩ := hw
    have hP : va_P D vwCl [(q 3, .inr (3, [.ref (q 2), .ref (q 22), .ref (q 23)])), (q 28, .inl (cI, 3, .inl jt)), (q 6, .inr (2, [.ref (q 24), .ref (q 25), .ref (q 26), .ref (q 27), .ref (q 28), .int (nI jd), .int (nI jm), .int ju, .int jr, .int (nI jn)])), (q 27, .inl (cI, 3, .inl gf_15)), (u0, .inr (8, [.ref (q 2), .int (nI kn)])), (q 2, .inr (6, [.ref (q 0), .int (nI xa2_17), .int xv2_18, .int 0, .int xt2_19, .int (nI xz2_20), .int xf2_21, .int xp2_22])), (q 0, .inr (10, [.ref (q 20), .int (nI tl)])), (q 20, .inl (cI, 1600, .inl (fun j => nI (tb j)))), (q 24, .inr (0, [.ref (q 29), .ref (q 30), .ref (q 31), .ref (q 32), .int (nI c2_23), .int (nI w2_24)])), (q 29, .inl (cI, 1600, .inl g1_25))] H := hP
    have hD : va_D A [(q 3, .inr (3, [.ref (q 2), .ref (q 22), .ref (q 23)])), (q 28, .inl (cI, 3, .inl jt)), (q 6, .inr (2, [.ref (q 24), .ref (q 25), .ref (q 26), .ref (q 27), .ref (q 28), .int (nI jd), .int (nI jm), .int ju, .int jr, .int (nI jn)])), (q 27, .inl (cI, 3, .inl gf_15)), (u0, .inr (8, [.ref (q 2), .int (nI kn)])), (q 2, .inr (6, [.ref (q 0), .int (nI xa2_17), .int xv2_18, .int 0, .int xt2_19, .int (nI xz2_20), .int xf2_21, .int xp2_22])), (q 0, .inr (10, [.ref (q 20), .int (nI tl)])), (q 20, .inl (cI, 1600, .inl (fun j => nI (tb j)))), (q 24, .inr (0, [.ref (q 29), .ref (q 30), .ref (q 31), .ref (q 32), .int (nI c2_23), .int (nI w2_24)])), (q 29, .inl (cI, 1600, .inl g1_25))] := hD
    have hL_31 := lenS_ap (len_sum (tb := tb) (n := tl) (len_part (tb := tb) (n := tl) (kind := kn) 6)) hL_14
    refine lv_aload_n hx hb dX3_readSumOf_44 rfl (lv_at hl 1 rfl) ?_
    refine lv_iload_n hx hb dX3_readSumOf_45 rfl (lv_at hl 2 rfl) ?_
    refine sk_Vv (q0 := 0) (n := 1) (rest := []) (wr := [(q 3, .inr (3, [.ref (q 2), .ref (q 22), .ref (q 23)])), (q 27, .inl (cI, 3, .inl gf_15)), (u0, .inr (8, [.ref (q 2), .int (nI kn)])), (q 2, .inr (6, [.ref (q 0), .int (nI xa2_17), .int xv2_18, .int 0, .int xt2_19, .int (nI xz2_20), .int xf2_21, .int xp2_22])), (q 0, .inr (10, [.ref (q 20), .int (nI tl)])), (q 20, .inl (cI, 1600, .inl (fun j => nI (tb j)))), (q 29, .inl (cI, 1600, .inl g1_25))]) ⟨hx, hb, hml, hown, hts⟩ hl.1 (c_elk_endSum l D cI cJ cC cZ cS q jd jm ju jr jn c2_23 w2_24 jt w (by omega)) w_3_123 w_3_124 w_3_125 w_1_9 w_3_126 (by decide +kernel) ⟨⟨(Nat.le_of_ble_eq_true rfl), (Nat.le_of_ble_eq_true rfl)⟩, (Nat.le_of_ble_eq_true rfl), (Nat.le_of_ble_eq_true rfl)⟩ hK hP hD hS hA [2, 8, 1] [0, 3, 4, 5, 6, 7, 9] rfl rfl (by decide +kernel) (by decide +kernel) (by decide +kernel) rfl rfl rfl rfl (Nat.le_of_ble_eq_true rfl) dX3_readSumOf_46 (fun u H locs hw hP hD hS => ?_)
    obtain ⟨gt_32, hgt_33, rfl⟩ := hw
    have hP : va_P D vwCl [(q 3, .inr (3, [.ref (q 2), .ref (q 22), .ref (q 23)])), (q 27, .inl (cI, 3, .inl gf_15)), (u0, .inr (8, [.ref (q 2), .int (nI kn)])), (q 2, .inr (6, [.ref (q 0), .int (nI xa2_17), .int xv2_18, .int 0, .int xt2_19, .int (nI xz2_20), .int xf2_21, .int xp2_22])), (q 0, .inr (10, [.ref (q 20), .int (nI tl)])), (q 20, .inl (cI, 1600, .inl (fun j => nI (tb j)))), (q 29, .inl (cI, 1600, .inl g1_25)), (q 6, .inr (2, [.ref (q 24), .ref (q 25), .ref (q 26), .ref (q 27), .ref (q 28), .int (nI jd), .int (nI jm), .int ju, .int jr, .int (nI jn)])), (q 24, .inr (0, [.ref (q 29), .ref (q 30), .ref (q 31), .ref (q 32), .int (nI c2_23), .int (nI w2_24)])), (q 28, .inl (cI, 3, .inl gt_32))] H := hP
    have hD : va_D A [(q 3, .inr (3, [.ref (q 2), .ref (q 22), .ref (q 23)])), (q 27, .inl (cI, 3, .inl gf_15)), (u0, .inr (8, [.ref (q 2), .int (nI kn)])), (q 2, .inr (6, [.ref (q 0), .int (nI xa2_17), .int xv2_18, .int 0, .int xt2_19, .int (nI xz2_20), .int xf2_21, .int xp2_22])), (q 0, .inr (10, [.ref (q 20), .int (nI tl)])), (q 20, .inl (cI, 1600, .inl (fun j => nI (tb j)))), (q 29, .inl (cI, 1600, .inl g1_25)), (q 6, .inr (2, [.ref (q 24), .ref (q 25), .ref (q 26), .ref (q 27), .ref (q 28), .int (nI jd), .int (nI jm), .int ju, .int jr, .int (nI jn)])), (q 24, .inr (0, [.ref (q 29), .ref (q 30), .ref (q 31), .ref (q 32), .int (nI c2_23), .int (nI w2_24)])), (q 28, .inl (cI, 3, .inl gt_32))] := hD
    have hP := hP.sub (ws' := [(q 3, .inr (3, [.ref (q 2), .ref (q 22), .ref (q 23)])), (q 2, .inr (6, [.ref (q 0), .int (nI xa2_17), .int xv2_18, .int 0, .int xt2_19, .int (nI xz2_20), .int xf2_21, .int xp2_22])), (q 0, .inr (10, [.ref (q 20), .int (nI tl)])), (q 20, .inl (cI, 1600, .inl (fun j => nI (tb j)))), (u0, .inr (8, [.ref (q 2), .int (nI kn)])), (q 6, .inr (2, [.ref (q 24), .ref (q 25), .ref (q 26), .ref (q 27), .ref (q 28), .int (nI jd), .int (nI jm), .int ju, .int jr, .int (nI jn)])), (q 24, .inr (0, [.ref (q 29), .ref (q 30), .ref (q 31), .ref (q 32), .int (nI c2_23), .int (nI w2_24)])), (q 29, .inl (cI, 1600, .inl g1_25)), (q 27, .inl (cI, 3, .inl gf_15)), (q 28, .inl (cI, 3, .inl gt_32))]) [0, 3, 4, 5, 2, 7, 8, 6, 1, 9] rfl
    have hD := hD.sub (ws' := [(q 3, .inr (3, [.ref (q 2), .ref (q 22), .ref (q 23)])), (q 2, .inr (6, [.ref (q 0), .int (nI xa2_17), .int xv2_18, .int 0, .int xt2_19, .int (nI xz2_20), .int xf2_21, .int xp2_22])), (q 0, .inr (10, [.ref (q 20), .int (nI tl)])), (q 20, .inl (cI, 1600, .inl (fun j => nI (tb j)))), (u0, .inr (8, [.ref (q 2), .int (nI kn)])), (q 6, .inr (2, [.ref (q 24), .ref (q 25), .ref (q 26), .ref (q 27), .ref (q 28), .int (nI jd), .int (nI jm), .int ju, .int jr, .int (nI jn)])), (q 24, .inr (0, [.ref (q 29), .ref (q 30), .ref (q 31), .ref (q 32), .int (nI c2_23), .int (nI w2_24)])), (q 29, .inl (cI, 1600, .inl g1_25)), (q 27, .inl (cI, 3, .inl gf_15)), (q 28, .inl (cI, 3, .inl gt_32))]) [0, 3, 4, 5, 2, 7, 8, 6, 1, 9] (by decide +kernel) rfl
    exact sk_vret hx hb hr hlocks hK hP hD hS (⟨xa2_17, xv2_18, xt2_19, xz2_20, xf2_21, xp2_22, c2_23, w2_24, g1_25, gf_15, gt_32, by omega, by omega, by omega, by omega, Or.inr ⟨rr_0 hhs_4 (by omega), hO2_30, hgf_16, hgt_33⟩, rfl⟩) (Nat.le_of_ble_eq_true rfl) (Nat.le_of_ble_eq_true rfl) dX3_readSumOf_49
  · have c_5 : ¬ (b_1 = 0) := fun h => c_5 ((neq b_1 0 (by omega) (by omega)).mpr h)
    refine lv_aload_n hx hb dX3_readSumOf_8 rfl (lv_at hl 0 rfl) ?_
    refine sk_get (v := .ref (q 2)) (C := RX3) (T := TX3) (N := 3) hx hb hts inlX3 hown hK hP 0 rfl rfl 0 (by decide) w_1_107 rfl dX3_readSumOf_9 ?_
    refine lv_iconst (v := 5) hx hb dX3_readSumOf_12 (by decide) ?_
    refine lv_aload_n hx hb dX3_readSumOf_13 rfl (lv_at hl 0 rfl) ?_
    refine sk_get (v := .ref (q 2)) (C := RX3) (T := TX3) (N := 3) hx hb hts inlX3 hown hK hP 0 rfl rfl 0 (by decide) w_1_107 rfl dX3_readSumOf_14 ?_
    refine sk_get (v := .int (nI xz)) (C := RX6) (T := TX6) (N := 8) hx hb hts inlX6 hown hK hP 1 rfl rfl 5 (by decide) w_1_65 rfl dX3_readSumOf_17 ?_
    refine sk_Vv (q0 := 0) (n := 2) (rest := []) (wr := [(q 3, .inr (3, [.ref (q 2), .ref (q 22), .ref (q 23)])), (q 0, .inr (10, [.ref (q 20), .int (nI tl)])), (q 20, .inl (cI, 1600, .inl (fun j => nI (tb j)))), (u0, .inr (8, [.ref (q 2), .int (nI kn)])), (q 24, .inr (0, [.ref (q 29), .ref (q 30), .ref (q 31), .ref (q 32), .int (nI jc), .int (nI jx)])), (q 29, .inl (cI, 1600, .inl j1)), (q 6, .inr (2, [.ref (q 24), .ref (q 25), .ref (q 26), .ref (q 27), .ref (q 28), .int (nI jd), .int (nI jm), .int ju, .int jr, .int (nI jn)])), (q 27, .inl (cI, 3, .inl jf)), (q 28, .inl (cI, 3, .inl jt))]) ⟨hx, hb, hml, hown, hts⟩ hl.1 (c_erd_fail l D cI cJ cC cZ cS q xa xv 0 xt xz xf xp tl tb 5 xz (rc og) (by omega) (by omega) (by omega) (hO).1) w_3_74 w_3_59 w_3_60 w_1_4 w_3_61 (by decide +kernel) ⟨⟨(Nat.le_of_ble_eq_true rfl), (Nat.le_of_ble_eq_true rfl)⟩, (Nat.le_of_ble_eq_true rfl), (Nat.le_of_ble_eq_true rfl)⟩ hK hP hD hS hA [1] [0, 2, 3, 4, 5, 6, 7, 8, 9] rfl rfl (by decide +kernel) (by decide +kernel) (by decide +kernel) rfl rfl rfl rfl (Nat.le_of_ble_eq_true rfl) dX3_readSumOf_20 (fun u H locs hw hP hD hS => ?_)
    obtain ⟨xf2_34, xp2_35, hO2_36, rfl⟩ := hw
    have hP : va_P D vwCl [(q 3, .inr (3, [.ref (q 2), .ref (q 22), .ref (q 23)])), (q 0, .inr (10, [.ref (q 20), .int (nI tl)])), (q 20, .inl (cI, 1600, .inl (fun j => nI (tb j)))), (u0, .inr (8, [.ref (q 2), .int (nI kn)])), (q 24, .inr (0, [.ref (q 29), .ref (q 30), .ref (q 31), .ref (q 32), .int (nI jc), .int (nI jx)])), (q 29, .inl (cI, 1600, .inl j1)), (q 6, .inr (2, [.ref (q 24), .ref (q 25), .ref (q 26), .ref (q 27), .ref (q 28), .int (nI jd), .int (nI jm), .int ju, .int jr, .int (nI jn)])), (q 27, .inl (cI, 3, .inl jf)), (q 28, .inl (cI, 3, .inl jt)), (q 2, .inr (6, [.ref (q 0), .int (nI xa), .int xv, .int 0, .int (-2), .int (nI xz), .int xf2_34, .int xp2_35]))] H := hP
    have hD : va_D A [(q 3, .inr (3, [.ref (q 2), .ref (q 22), .ref (q 23)])), (q 0, .inr (10, [.ref (q 20), .int (nI tl)])), (q 20, .inl (cI, 1600, .inl (fun j => nI (tb j)))), (u0, .inr (8, [.ref (q 2), .int (nI kn)])), (q 24, .inr (0, [.ref (q 29), .ref (q 30), .ref (q 31), .ref (q 32), .int (nI jc), .int (nI jx)])), (q 29, .inl (cI, 1600, .inl j1)), (q 6, .inr (2, [.ref (q 24), .ref (q 25), .ref (q 26), .ref (q 27), .ref (q 28), .int (nI jd), .int (nI jm), .int ju, .int jr, .int (nI jn)])), (q 27, .inl (cI, 3, .inl jf)), (q 28, .inl (cI, 3, .inl jt)), (q 2, .inr (6, [.ref (q 0), .int (nI xa), .int xv, .int 0, .int (-2), .int (nI xz), .int xf2_34, .int xp2_35]))] := hD
    have hO_37 := rs_bd hO hO2_36
    have hP := hP.sub (ws' := [(q 3, .inr (3, [.ref (q 2), .ref (q 22), .ref (q 23)])), (q 2, .inr (6, [.ref (q 0), .int (nI xa), .int xv, .int 0, .int (-2), .int (nI xz), .int xf2_34, .int xp2_35])), (q 0, .inr (10, [.ref (q 20), .int (nI tl)])), (q 20, .inl (cI, 1600, .inl (fun j => nI (tb j)))), (u0, .inr (8, [.ref (q 2), .int (nI kn)])), (q 6, .inr (2, [.ref (q 24), .ref (q 25), .ref (q 26), .ref (q 27), .ref (q 28), .int (nI jd), .int (nI jm), .int ju, .int jr, .int (nI jn)])), (q 24, .inr (0, [.ref (q 29), .ref (q 30), .ref (q 31), .ref (q 32), .int (nI jc), .int (nI jx)])), (q 29, .inl (cI, 1600, .inl j1)), (q 27, .inl (cI, 3, .inl jf)), (q 28, .inl (cI, 3, .inl jt))]) [0, 9, 1, 2, 3, 6, 4, 5, 7, 8] rfl
    have hD := hD.sub (ws' := [(q 3, .inr (3, [.ref (q 2), .ref (q 22), .ref (q 23)])), (q 2, .inr (6, [.ref (q 0), .int (nI xa), .int xv, .int 0, .int (-2), .int (nI xz), .int xf2_34, .int xp2_35])), (q 0, .inr (10, [.ref (q 20), .int (nI tl)])), (q 20, .inl (cI, 1600, .inl (fun j => nI (tb j)))), (u0, .inr (8, [.ref (q 2), .int (nI kn)])), (q 6, .inr (2, [.ref (q 24), .ref (q 25), .ref (q 26), .ref (q 27), .ref (q 28), .int (nI jd), .int (nI jm), .int ju, .int jr, .int (nI jn)])), (q 24, .inr (0, [.ref (q 29), .ref (q 30), .ref (q 31), .ref (q 32), .int (nI jc), .int (nI jx)])), (q 29, .inl (cI, 1600, .inl j1)), (q 27, .inl (cI, 3, .inl jf)), (q 28, .inl (cI, 3, .inl jt))]) [0, 9, 1, 2, 3, 6, 4, 5, 7, 8] (by decide +kernel) rfl
    exact sk_vret hx hb hr hlocks hK hP hD hS (⟨xa, xv, (-2), xz, xf2_34, xp2_35, jc, jx, j1, jf, jt, by omega, by omega, by omega, by omega, Or.inl ⟨rr_1 hhs_4 (by omega), rs_fh hO hO_37, rfl, rfl⟩, rfl⟩) (Nat.le_of_ble_eq_true rfl) (Nat.le_of_ble_eq_true rfl) dX3_readSumOf_23
set_option maxHeartbeats 4000000 in
set_option maxRecDepth 100000 in
theorem c_elk_addUntold (l : Launch) (D : va_G) (cI cJ cC cZ cS : ClassId) (q : Nat → Nat) (jd : Nat) (jm : Nat) (ju : Int32) (jr : Int32) (jn : Nat) (jc : Nat) (jx : Nat) (j1 : Nat → Int32) (jf : Nat → Int32) (jt : Nat → Int32) (jb : Nat → Int32) (jw : Nat → Int32) (tl : Nat) (tb : Nat → Nat) (hjc : jc ≤ 1600) (hjx : jx ≤ 1) (hun0 : unO (lockP tb tl) 0 jd jm ju jr jc jx j1 jf jt jb jw) : skM l yX2_addUntold cX2_addUntold 2 none 1 21 0 0 D (skT cI cJ cC cZ cS) [.ref (q 6)] [(q 6, .inr (2, [.ref (q 24), .ref (q 25), .ref (q 26), .ref (q 27), .ref (q 28), .int (nI jd), .int (nI jm), .int ju, .int jr, .int (nI jn)])), (q 24, .inr (0, [.ref (q 29), .ref (q 30), .ref (q 31), .ref (q 32), .int (nI jc), .int (nI jx)])), (q 29, .inl (cI, 1600, .inl j1)), (q 27, .inl (cI, 3, .inl jf)), (q 28, .inl (cI, 3, .inl jt))] (skV D (skT cI cJ cC cZ cS) (fun (u : va_W) => ∃ (jc2 : Nat), ∃ (jx2 : Nat), ∃ (k1_ : Nat → Int32), ∃ (kf_ : Nat → Int32), ∃ (kt_ : Nat → Int32), jc2 ≤ 1600 ∧ jx2 ≤ 1 ∧ unO (lockP tb tl) 3 jd jm ju jr jc2 jx2 k1_ kf_ kt_ jb jw ∧ u = [(q 6, .inr (2, [.ref (q 24), .ref (q 25), .ref (q 26), .ref (q 27), .ref (q 28), .int (nI jd), .int (nI jm), .int ju, .int jr, .int (nI jn)])), (q 24, .inr (0, [.ref (q 29), .ref (q 30), .ref (q 31), .ref (q 32), .int (nI jc2), .int (nI jx2)])), (q 29, .inl (cI, 1600, .inl k1_)), (q 27, .inl (cI, 3, .inl kf_)), (q 28, .inl (cI, 3, .inl kt_))])) := by
  refine skM_of (by decide +kernel) (Nat.le_of_ble_eq_true rfl) ?_
  intro p e s m below meth c A ls E hP hD hl
  obtain ⟨hx, hb, hr, hml, hlocks, hin, hown, hts, hK, hA⟩ := E
  have hown : s.vm.findClass RX2 = some m.cls := hown
  have hS : va_S A s.heap s.heap [] := va_S.rf
  have hl : lv_has ls 2 [(0, .ref (q 6))] := hl
  refine lv_iconst (v := 0) hx hb dX2_addUntold_0 (by decide) ?_
  refine lv_istore_n (lv' := [(1, .int 0), (0, .ref (q 6))]) hx hb dX2_addUntold_1 rfl hl (by decide) rfl (fun ls hl => ?_)
  have lp_1 : ∀ (n_2 : Nat) (i : Nat) (yc : Nat) (yx : Nat) (y1 : Nat → Int32) (yf : Nat → Int32) (yt : Nat → Int32) (H : Heap) (locs : List Loc) (ls : Array Slot), 3 - i < n_2 → (i ≤ 3) → (yc ≤ 1600) → (yx ≤ 1) → (unO (lockP tb tl) i jd jm ju jr yc yx y1 yf yt jb jw) → va_P D vwCl [(q 6, .inr (2, [.ref (q 24), .ref (q 25), .ref (q 26), .ref (q 27), .ref (q 28), .int (nI jd), .int (nI jm), .int ju, .int jr, .int (nI jn)])), (q 24, .inr (0, [.ref (q 29), .ref (q 30), .ref (q 31), .ref (q 32), .int (nI yc), .int (nI yx)])), (q 29, .inl (cI, 1600, .inl y1)), (q 27, .inl (cI, 3, .inl yf)), (q 28, .inl (cI, 3, .inl yt))] H → va_D A [(q 6, .inr (2, [.ref (q 24), .ref (q 25), .ref (q 26), .ref (q 27), .ref (q 28), .int (nI jd), .int (nI jm), .int ju, .int jr, .int (nI jn)])), (q 24, .inr (0, [.ref (q 29), .ref (q 30), .ref (q 31), .ref (q 32), .int (nI yc), .int (nI yx)])), (q 29, .inl (cI, 1600, .inl y1)), (q 27, .inl (cI, 3, .inl yf)), (q 28, .inl (cI, 3, .inl yt))] → va_S A s.heap H locs → lv_has ls 2 [(1, .int (nI i)), (0, .ref (q 6))] → W p l e { frames := 1, cells := 0, slots := 0, locals := 21 } s m ([.ref (q 6)] : List Value).toArray below meth c H locs 0 0 (MQ below (skV D (skT cI cJ cC cZ cS) (fun (u : va_W) => ∃ (jc2 : Nat), ∃ (jx2 : Nat), ∃ (k1_ : Nat → Int32), ∃ (kf_ : Nat → Int32), ∃ (kt_ : Nat → Int32), jc2 ≤ 1600 ∧ jx2 ≤ 1 ∧ unO (lockP tb tl) 3 jd jm ju jr jc2 jx2 k1_ kf_ kt_ jb jw ∧ u = [(q 6, .inr (2, [.ref (q 24), .ref (q 25), .ref (q 26), .ref (q 27), .ref (q 28), .int (nI jd), .int (nI jm), .int ju, .int jr, .int (nI jn)])), (q 24, .inr (0, [.ref (q 29), .ref (q 30), .ref (q 31), .ref (q 32), .int (nI jc2), .int (nI jx2)])), (q 29, .inl (cI, 1600, .inl k1_)), (q 27, .inl (cI, 3, .inl kf_)), (q 28, .inl (cI, 3, .inl kt_))]) A) ([.ref (q 6)] : List Value).toArray s 0 0 A) (F0 m 2 ls []) := by
    intro n_2
    induction n_2 with
    | zero => intro i yc yx y1 yf yt H locs ls hm; exact absurd hm (Nat.not_lt_zero _)
    | succ n_2 ih_lp_1 =>
      intro i yc yx y1 yf yt H locs ls hm hi hyc hyx hun hP hD hS hl
      refine lv_iload_n hx hb dX2_addUntold_2 rfl (lv_at hl 0 rfl) ?_
      refine lv_iconst (v := 2) hx hb dX2_addUntold_3 (by decide) ?_
      refine lv_icmp_gt (tgt := 52) hx hb dX2_addUntold_4 (by decide) (fun c_3 => ?_) (fun c_3 => ?_)
      · have c_3 : 2 < i := (nlt 2 i (by omega) (by omega)).mp c_3
        exact sk_vret hx hb hr hlocks hK hP hD hS (⟨yc, yx, y1, yf, yt, by omega, by omega, (show unO (lockP tb tl) 3 jd jm ju jr yc yx y1 yf yt jb jw by rw [show 3 = i by omega]; exact hun), rfl⟩) (Nat.le_of_ble_eq_true rfl) (Nat.le_of_ble_eq_true rfl) dX2_addUntold_52
      · have c_3 : ¬ (2 < i) := fun h => c_3 ((nlt 2 i (by omega) (by omega)).mpr h)
        refine lv_aload_n hx hb dX2_addUntold_7 rfl (lv_at hl 1 rfl) ?_
        refine lv_iload_n hx hb dX2_addUntold_8 rfl (lv_at hl 0 rfl) ?_
        refine sk_Vi (q0 := 0) (n := 1) (rest := []) (wr := [(q 24, .inr (0, [.ref (q 29), .ref (q 30), .ref (q 31), .ref (q 32), .int (nI yc), .int (nI yx)])), (q 29, .inl (cI, 1600, .inl y1))]) ⟨hx, hb, hml, hown, hts⟩ hl.1 (c_elk_hasSum l D cI cJ cC cZ cS q jd jm ju jr jn yf yt i (by omega)) w_3_144 w_3_71 w_3_72 w_1_9 w_3_73 (by decide +kernel) ⟨⟨(Nat.le_of_ble_eq_true rfl), (Nat.le_of_ble_eq_true rfl)⟩, (Nat.le_of_ble_eq_true rfl), (Nat.le_of_ble_eq_true rfl)⟩ hK hP hD hS hA [0, 3, 4] [1, 2] rfl rfl (by decide +kernel) (by decide +kernel) (by decide +kernel) rfl rfl rfl rfl (Nat.le_of_ble_eq_true rfl) dX2_addUntold_9 (fun r_5 u H locs hw hP hD hS => ?_)
        obtain ⟨b_4, hb1_6, hhs_7, rfl, rfl⟩ := hw
        have hP : va_P D vwCl [(q 24, .inr (0, [.ref (q 29), .ref (q 30), .ref (q 31), .ref (q 32), .int (nI yc), .int (nI yx)])), (q 29, .inl (cI, 1600, .inl y1)), (q 6, .inr (2, [.ref (q 24), .ref (q 25), .ref (q 26), .ref (q 27), .ref (q 28), .int (nI jd), .int (nI jm), .int ju, .int jr, .int (nI jn)])), (q 27, .inl (cI, 3, .inl yf)), (q 28, .inl (cI, 3, .inl yt))] H := hP
        have hD : va_D A [(q 24, .inr (0, [.ref (q 29), .ref (q 30), .ref (q 31), .ref (q 32), .int (nI yc), .int (nI yx)])), (q 29, .inl (cI, 1600, .inl y1)), (q 6, .inr (2, [.ref (q 24), .ref (q 25), .ref (q 26), .ref (q 27), .ref (q 28), .int (nI jd), .int (nI jm), .int ju, .int jr, .int (nI jn)])), (q 27, .inl (cI, 3, .inl yf)), (q 28, .inl (cI, 3, .inl yt))] := hD
        refine lv_if_ne (tgt := 46) hx hb dX2_addUntold_12 (by decide) (fun c_8 => ?_) (fun c_8 => ?_)
        · have c_8 : ¬ (b_4 = 0) := fun h => c_8 ((neq b_4 0 (by omega) (by omega)).mpr h)
          refine lv_iinc (v := nI (i + 1)) (lv' := [(1, .int (nI (i + 1))), (0, .ref (q 6))]) hx hb dX2_addUntold_46 hl (k := 0) rfl (ninc i 1 (by decide)) (by decide) rfl (fun ls hl => ?_)
          refine lv_goto (tgt := 2) hx hb dX2_addUntold_49 (by decide) ?_
          have hP := hP.sub (ws' := [(q 6, .inr (2, [.ref (q 24), .ref (q 25), .ref (q 26), .ref (q 27), .ref (q 28), .int (nI jd), .int (nI jm), .int ju, .int jr, .int (nI jn)])), (q 24, .inr (0, [.ref (q 29), .ref (q 30), .ref (q 31), .ref (q 32), .int (nI yc), .int (nI yx)])), (q 29, .inl (cI, 1600, .inl y1)), (q 27, .inl (cI, 3, .inl yf)), (q 28, .inl (cI, 3, .inl yt))]) [2, 0, 1, 3, 4] rfl
          have hD := hD.sub (ws' := [(q 6, .inr (2, [.ref (q 24), .ref (q 25), .ref (q 26), .ref (q 27), .ref (q 28), .int (nI jd), .int (nI jm), .int ju, .int jr, .int (nI jn)])), (q 24, .inr (0, [.ref (q 29), .ref (q 30), .ref (q 31), .ref (q 32), .int (nI yc), .int (nI yx)])), (q 29, .inl (cI, 1600, .inl y1)), (q 27, .inl (cI, 3, .inl yf)), (q 28, .inl (cI, 3, .inl yt))]) [2, 0, 1, 3, 4] (by decide +kernel) rfl
          exact ih_lp_1 (i + 1) yc yx y1 yf yt _ _ _ (by omega) (by omega) (by omega) (by omega) (un_has hun (by omega) (rr_1 hhs_7 (by omega))) hP hD hS (lv_sub hl [0, 1] rfl)
        · have c_8 : b_4 = 0 := (neq b_4 0 (by omega) (by omega)).mp c_8
          refine lv_aload_n hx hb dX2_addUntold_15 rfl (lv_at hl 1 rfl) ?_
          refine lv_iload_n hx hb dX2_addUntold_16 rfl (lv_at hl 0 rfl) ?_
          refine sk_Vv (q0 := 0) (n := 1) (rest := []) (wr := [(q 29, .inl (cI, 1600, .inl y1)), (q 28, .inl (cI, 3, .inl yt))]) ⟨hx, hb, hml, hown, hts⟩ hl.1 (c_elk_beginSum l D cI cJ cC cZ cS q jd jm ju jr jn yc yx yf i (by omega)) w_3_145 w_3_77 w_3_78 w_1_9 w_3_79 (by decide +kernel) ⟨⟨(Nat.le_of_ble_eq_true rfl), (Nat.le_of_ble_eq_true rfl)⟩, (Nat.le_of_ble_eq_true rfl), (Nat.le_of_ble_eq_true rfl)⟩ hK hP hD hS hA [2, 0, 3] [1, 4] rfl rfl (by decide +kernel) (by decide +kernel) (by decide +kernel) rfl rfl rfl rfl (Nat.le_of_ble_eq_true rfl) dX2_addUntold_17 (fun u H locs hw hP hD hS => ?_)
          obtain ⟨gf_9, hgf_10, rfl⟩ := hw
          have hP : va_P D vwCl [(q 29, .inl (cI, 1600, .inl y1)), (q 28, .inl (cI, 3, .inl yt)), (q 6, .inr (2, [.ref (q 24), .ref (q 25), .ref (q 26), .ref (q 27), .ref (q 28), .int (nI jd), .int (nI jm), .int ju, .int jr, .int (nI jn)])), (q 24, .inr (0, [.ref (q 29), .ref (q 30), .ref (q 31), .ref (q 32), .int (nI yc), .int (nI yx)])), (q 27, .inl (cI, 3, .inl gf_9))] H := hP
          have hD : va_D A [(q 29, .inl (cI, 1600, .inl y1)), (q 28, .inl (cI, 3, .inl yt)), (q 6, .inr (2, [.ref (q 24), .ref (q 25), .ref (q 26), .ref (q 27), .ref (q 28), .int (nI jd), .int (nI jm), .int ju, .int jr, .int (nI jn)])), (q 24, .inr (0, [.ref (q 29), .ref (q 30), .ref (q 31), .ref (q 32), .int (nI yc), .int (nI yx)])), (q 27, .inl (cI, 3, .inl gf_9))] := hD
          refine lv_aload_n hx hb dX2_addUntold_20 rfl (lv_at hl 1 rfl) ?_
          refine sk_get (v := .ref (q 24)) (C := RX2) (T := TX2) (N := 10) hx hb hts inlX2 hown hK hP 2 rfl rfl 0 (by decide) w_1_175 rfl dX2_addUntold_21 ?_
          refine lv_iload_n hx hb dX2_addUntold_24 rfl (lv_at hl 0 rfl) ?_
          refine lv_iconst (v := 1) hx hb dX2_addUntold_25 (by decide) ?_
          refine lv_icmp_ne (tgt := 35) hx hb dX2_addUntold_26 (by decide) (fun c_11 => ?_) (fun c_11 => ?_)
          · have c_11 : ¬ (i = 1) := fun h => c_11 ((neq i 1 (by omega) (by omega)).mpr h)
            refine lv_sipush (v := 10000) hx hb dX2_addUntold_35 (by decide) ?_
            refine sk_Vv (q0 := 0) (n := 1) (rest := []) (wr := [(q 28, .inl (cI, 3, .inl yt)), (q 6, .inr (2, [.ref (q 24), .ref (q 25), .ref (q 26), .ref (q 27), .ref (q 28), .int (nI jd), .int (nI jm), .int ju, .int jr, .int (nI jn)])), (q 27, .inl (cI, 3, .inl gf_9))]) ⟨hx, hb, hml, hown, hts⟩ hl.1 (c_eCode_addX l D cI cJ cC cZ cS (q 24) (q 29) (q 30) (q 31) (q 32) yc yx y1 10000 (unR (lockP tb tl) i) 40 (by omega) (by omega) (by decide) (by omega) (un_co hun) (un_rm hun (by omega))) w_3_146 w_3_98 w_3_99 w_1_8 w_3_100 (by decide +kernel) ⟨⟨(Nat.le_of_ble_eq_true rfl), (Nat.le_of_ble_eq_true rfl)⟩, (Nat.le_of_ble_eq_true rfl), (Nat.le_of_ble_eq_true rfl)⟩ hK hP hD hS hA [3, 0] [1, 2, 4] rfl rfl (by decide +kernel) (by decide +kernel) (by decide +kernel) rfl rfl rfl rfl (Nat.le_of_ble_eq_true rfl) dX2_addUntold_38 (fun u H locs hw hP hD hS => ?_)
            obtain ⟨c2_12, w2_13, g1_14, hc2_15, hw2_16, hO2_17, rfl⟩ := hw
            have hP : va_P D vwCl [(q 28, .inl (cI, 3, .inl yt)), (q 6, .inr (2, [.ref (q 24), .ref (q 25), .ref (q 26), .ref (q 27), .ref (q 28), .int (nI jd), .int (nI jm), .int ju, .int jr, .int (nI jn)])), (q 27, .inl (cI, 3, .inl gf_9)), (q 24, .inr (0, [.ref (q 29), .ref (q 30), .ref (q 31), .ref (q 32), .int (nI c2_12), .int (nI w2_13)])), (q 29, .inl (cI, 1600, .inl g1_14))] H := hP
            have hD : va_D A [(q 28, .inl (cI, 3, .inl yt)), (q 6, .inr (2, [.ref (q 24), .ref (q 25), .ref (q 26), .ref (q 27), .ref (q 28), .int (nI jd), .int (nI jm), .int ju, .int jr, .int (nI jn)])), (q 27, .inl (cI, 3, .inl gf_9)), (q 24, .inr (0, [.ref (q 29), .ref (q 30), .ref (q 31), .ref (q 32), .int (nI c2_12), .int (nI w2_13)])), (q 29, .inl (cI, 1600, .inl g1_14))] := hD
            refine lv_aload_n hx hb dX2_addUntold_41 rfl (lv_at hl 1 rfl) ?_
            refine lv_iload_n hx hb dX2_addUntold_42 rfl (lv_at hl 0 rfl) ?_
            refine sk_Vv (q0 := 0) (n := 1) (rest := []) (wr := [(q 27, .inl (cI, 3, .inl gf_9)), (q 29, .inl (cI, 1600, .inl g1_14))]) ⟨hx, hb, hml, hown, hts⟩ hl.1 (c_elk_endSum l D cI cJ cC cZ cS q jd jm ju jr jn c2_12 w2_13 yt i (by omega)) w_3_147 w_3_124 w_3_125 w_1_9 w_3_126 (by decide +kernel) ⟨⟨(Nat.le_of_ble_eq_true rfl), (Nat.le_of_ble_eq_true rfl)⟩, (Nat.le_of_ble_eq_true rfl), (Nat.le_of_ble_eq_true rfl)⟩ hK hP hD hS hA [1, 3, 0] [2, 4] rfl rfl (by decide +kernel) (by decide +kernel) (by decide +kernel) rfl rfl rfl rfl (Nat.le_of_ble_eq_true rfl) dX2_addUntold_43 (fun u H locs hw hP hD hS => ?_)
            obtain ⟨gt_18, hgt_19, rfl⟩ := hw
            have hP : va_P D vwCl [(q 27, .inl (cI, 3, .inl gf_9)), (q 29, .inl (cI, 1600, .inl g1_14)), (q 6, .inr (2, [.ref (q 24), .ref (q 25), .ref (q 26), .ref (q 27), .ref (q 28), .int (nI jd), .int (nI jm), .int ju, .int jr, .int (nI jn)])), (q 24, .inr (0, [.ref (q 29), .ref (q 30), .ref (q 31), .ref (q 32), .int (nI c2_12), .int (nI w2_13)])), (q 28, .inl (cI, 3, .inl gt_18))] H := hP
            have hD : va_D A [(q 27, .inl (cI, 3, .inl gf_9)), (q 29, .inl (cI, 1600, .inl g1_14)), (q 6, .inr (2, [.ref (q 24), .ref (q 25), .ref (q 26), .ref (q 27), .ref (q 28), .int (nI jd), .int (nI jm), .int ju, .int jr, .int (nI jn)])), (q 24, .inr (0, [.ref (q 29), .ref (q 30), .ref (q 31), .ref (q 32), .int (nI c2_12), .int (nI w2_13)])), (q 28, .inl (cI, 3, .inl gt_18))] := hD
            refine lv_iinc (v := nI (i + 1)) (lv' := [(1, .int (nI (i + 1))), (0, .ref (q 6))]) hx hb dX2_addUntold_46 hl (k := 0) rfl (ninc i 1 (by decide)) (by decide) rfl (fun ls hl => ?_)
            refine lv_goto (tgt := 2) hx hb dX2_addUntold_49 (by decide) ?_
            have hP := hP.sub (ws' := [(q 6, .inr (2, [.ref (q 24), .ref (q 25), .ref (q 26), .ref (q 27), .ref (q 28), .int (nI jd), .int (nI jm), .int ju, .int jr, .int (nI jn)])), (q 24, .inr (0, [.ref (q 29), .ref (q 30), .ref (q 31), .ref (q 32), .int (nI c2_12), .int (nI w2_13)])), (q 29, .inl (cI, 1600, .inl g1_14)), (q 27, .inl (cI, 3, .inl gf_9)), (q 28, .inl (cI, 3, .inl gt_18))]) [2, 3, 1, 0, 4] rfl
            have hD := hD.sub (ws' := [(q 6, .inr (2, [.ref (q 24), .ref (q 25), .ref (q 26), .ref (q 27), .ref (q 28), .int (nI jd), .int (nI jm), .int ju, .int jr, .int (nI jn)])), (q 24, .inr (0, [.ref (q 29), .ref (q 30), .ref (q 31), .ref (q 32), .int (nI c2_12), .int (nI w2_13)])), (q 29, .inl (cI, 1600, .inl g1_14)), (q 27, .inl (cI, 3, .inl gf_9)), (q 28, .inl (cI, 3, .inl gt_18))]) [2, 3, 1, 0, 4] (by decide +kernel) rfl
            exact ih_lp_1 (i + 1) c2_12 w2_13 g1_14 gf_9 gt_18 _ _ _ (by omega) (by omega) (by omega) (by omega) (by rw [hgf_10, hgt_19]; exact un_add hun (by omega) (rr_0 hhs_7 (by omega)) (by rw [(if_neg c_11)]; exact hO2_17)) hP hD hS (lv_sub hl [0, 1] rfl)
          · have c_11 : i = 1 := (neq i 1 (by omega) (by omega)).mp c_11
            refine lv_sipush (v := 10005) hx hb dX2_addUntold_29 (by decide) ?_
            refine lv_goto (tgt := 38) hx hb dX2_addUntold_32 (by decide) ?_
            refine sk_Vv (q0 := 0) (n := 1) (rest := []) (wr := [(q 28, .inl (cI, 3, .inl yt)), (q 6, .inr (2, [.ref (q 24), .ref (q 25), .ref (q 26), .ref (q 27), .ref (q 28), .int (nI jd), .int (nI jm), .int ju, .int jr, .int (nI jn)])), (q 27, .inl (cI, 3, .inl gf_9))]) ⟨hx, hb, hml, hown, hts⟩ hl.1 (c_eCode_addX l D cI cJ cC cZ cS (q 24) (q 29) (q 30) (q 31) (q 32) yc yx y1 10005 (unR (lockP tb tl) i) 45 (by omega) (by omega) (by decide) (by omega) (un_co hun) (un_rm hun (by omega))) w_3_146 w_3_98 w_3_99 w_1_8 w_3_100 (by decide +kernel) ⟨⟨(Nat.le_of_ble_eq_true rfl), (Nat.le_of_ble_eq_true rfl)⟩, (Nat.le_of_ble_eq_true rfl), (Nat.le_of_ble_eq_true rfl)⟩ hK hP hD hS hA [3, 0] [1, 2, 4] rfl rfl (by decide +kernel) (by decide +kernel) (by decide +kernel) rfl rfl rfl rfl (Nat.le_of_ble_eq_true rfl) dX2_addUntold_38 (fun u H locs hw hP hD hS => ?_)
            obtain ⟨c2_20, w2_21, g1_22, hc2_23, hw2_24, hO2_25, rfl⟩ := hw
            have hP : va_P D vwCl [(q 28, .inl (cI, 3, .inl yt)), (q 6, .inr (2, [.ref (q 24), .ref (q 25), .ref (q 26), .ref (q 27), .ref (q 28), .int (nI jd), .int (nI jm), .int ju, .int jr, .int (nI jn)])), (q 27, .inl (cI, 3, .inl gf_9)), (q 24, .inr (0, [.ref (q 29), .ref (q 30), .ref (q 31), .ref (q 32), .int (nI c2_20), .int (nI w2_21)])), (q 29, .inl (cI, 1600, .inl g1_22))] H := hP
            have hD : va_D A [(q 28, .inl (cI, 3, .inl yt)), (q 6, .inr (2, [.ref (q 24), .ref (q 25), .ref (q 26), .ref (q 27), .ref (q 28), .int (nI jd), .int (nI jm), .int ju, .int jr, .int (nI jn)])), (q 27, .inl (cI, 3, .inl gf_9)), (q 24, .inr (0, [.ref (q 29), .ref (q 30), .ref (q 31), .ref (q 32), .int (nI c2_20), .int (nI w2_21)])), (q 29, .inl (cI, 1600, .inl g1_22))] := hD
            refine lv_aload_n hx hb dX2_addUntold_41 rfl (lv_at hl 1 rfl) ?_
            refine lv_iload_n hx hb dX2_addUntold_42 rfl (lv_at hl 0 rfl) ?_
            refine sk_Vv (q0 := 0) (n := 1) (rest := []) (wr := [(q 27, .inl (cI, 3, .inl gf_9)), (q 29, .inl (cI, 1600, .inl g1_22))]) ⟨hx, hb, hml, hown, hts⟩ hl.1 (c_elk_endSum l D cI cJ cC cZ cS q jd jm ju jr jn c2_20 w2_21 yt i (by omega)) w_3_147 w_3_124 w_3_125 w_1_9 w_3_126 (by decide +kernel) ⟨⟨(Nat.le_of_ble_eq_true rfl), (Nat.le_of_ble_eq_true rfl)⟩, (Nat.le_of_ble_eq_true rfl), (Nat.le_of_ble_eq_true rfl)⟩ hK hP hD hS hA [1, 3, 0] [2, 4] rfl rfl (by decide +kernel) (by decide +kernel) (by decide +kernel) rfl rfl rfl rfl (Nat.le_of_ble_eq_true rfl) dX2_addUntold_43 (fun u H locs hw hP hD hS => ?_)
            obtain ⟨gt_26, hgt_27, rfl⟩ := hw
            have hP : va_P D vwCl [(q 27, .inl (cI, 3, .inl gf_9)), (q 29, .inl (cI, 1600, .inl g1_22)), (q 6, .inr (2, [.ref (q 24), .ref (q 25), .ref (q 26), .ref (q 27), .ref (q 28), .int (nI jd), .int (nI jm), .int ju, .int jr, .int (nI jn)])), (q 24, .inr (0, [.ref (q 29), .ref (q 30), .ref (q 31), .ref (q 32), .int (nI c2_20), .int (nI w2_21)])), (q 28, .inl (cI, 3, .inl gt_26))] H := hP
            have hD : va_D A [(q 27, .inl (cI, 3, .inl gf_9)), (q 29, .inl (cI, 1600, .inl g1_22)), (q 6, .inr (2, [.ref (q 24), .ref (q 25), .ref (q 26), .ref (q 27), .ref (q 28), .int (nI jd), .int (nI jm), .int ju, .int jr, .int (nI jn)])), (q 24, .inr (0, [.ref (q 29), .ref (q 30), .ref (q 31), .ref (q 32), .int (nI c2_20), .int (nI w2_21)])), (q 28, .inl (cI, 3, .inl gt_26))] := hD
            refine lv_iinc (v := nI (i + 1)) (lv' := [(1, .int (nI (i + 1))), (0, .ref (q 6))]) hx hb dX2_addUntold_46 hl (k := 0) rfl (ninc i 1 (by decide)) (by decide) rfl (fun ls hl => ?_)
            refine lv_goto (tgt := 2) hx hb dX2_addUntold_49 (by decide) ?_
            have hP := hP.sub (ws' := [(q 6, .inr (2, [.ref (q 24), .ref (q 25), .ref (q 26), .ref (q 27), .ref (q 28), .int (nI jd), .int (nI jm), .int ju, .int jr, .int (nI jn)])), (q 24, .inr (0, [.ref (q 29), .ref (q 30), .ref (q 31), .ref (q 32), .int (nI c2_20), .int (nI w2_21)])), (q 29, .inl (cI, 1600, .inl g1_22)), (q 27, .inl (cI, 3, .inl gf_9)), (q 28, .inl (cI, 3, .inl gt_26))]) [2, 3, 1, 0, 4] rfl
            have hD := hD.sub (ws' := [(q 6, .inr (2, [.ref (q 24), .ref (q 25), .ref (q 26), .ref (q 27), .ref (q 28), .int (nI jd), .int (nI jm), .int ju, .int jr, .int (nI jn)])), (q 24, .inr (0, [.ref (q 29), .ref (q 30), .ref (q 31), .ref (q 32), .int (nI c2_20), .int (nI w2_21)])), (q 29, .inl (cI, 1600, .inl g1_22)), (q 27, .inl (cI, 3, .inl gf_9)), (q 28, .inl (cI, 3, .inl gt_26))]) [2, 3, 1, 0, 4] (by decide +kernel) rfl
            exact ih_lp_1 (i + 1) c2_20 w2_21 g1_22 gf_9 gt_26 _ _ _ (by omega) (by omega) (by omega) (by omega) (by rw [hgf_10, hgt_27]; exact un_add hun (by omega) (rr_0 hhs_7 (by omega)) (by rw [(if_pos c_11)]; exact hO2_25)) hP hD hS (lv_sub hl [0, 1] rfl)
  exact lp_1 (3 - 0 + 1) 0 jc jx j1 jf jt _ _ _ (Nat.lt_succ_self _) (by omega) (by omega) (by omega) hun0 hP hD hS (lv_sub hl [0, 1] rfl)
set_option maxHeartbeats 4000000 in
set_option maxRecDepth 100000 in
theorem c_elt_read (l : Launch) (D : va_G) (cI cJ cC cZ cS : ClassId) (zk zv : Nat) (zf : Value) (q : Nat → Nat) (xa : Nat) (xv : Int32) (xo : Nat) (xt : Int32) (xz : Nat) (xf : Int32) (xp : Int32) (tl : Nat) (tb : Nat → Nat) (jd : Nat) (jm : Nat) (ju : Int32) (jr : Int32) (jn : Nat) (jc : Nat) (jx : Nat) (j1 : Nat → Int32) (jf : Nat → Int32) (jt : Nat → Int32) (jb : Nat → Int32) (jw : Nat → Int32) (hxa : xa ≤ 1600) (hxz : xz ≤ 1600) (htl : tl ≤ 1600) (htb : ∀ j, tb j ≤ 255) (hjc : jc ≤ 1600) (hjx : jx ≤ 1) : skMZ zk zv zf l yX3_read cX3_read 2 none 56 1344 0 0 D (skT cI cJ cC cZ cS) [.ref (q 3), .ref (q 6)] [(q 3, .inr (3, [.ref (q 2), .ref (q 22), .ref (q 23)])), (q 2, .inr (6, [.ref (q 0), .int (nI xa), .int xv, .int (nI xo), .int xt, .int (nI xz), .int xf, .int xp])), (q 0, .inr (10, [.ref (q 20), .int (nI tl)])), (q 20, .inl (cI, 1600, .inl (fun j => nI (tb j)))), (q 22, .inr (8, [.ref (q 2), .int 0])), (q 23, .inr (8, [.ref (q 2), .int 1])), (q 6, .inr (2, [.ref (q 24), .ref (q 25), .ref (q 26), .ref (q 27), .ref (q 28), .int (nI jd), .int (nI jm), .int ju, .int jr, .int (nI jn)])), (q 24, .inr (0, [.ref (q 29), .ref (q 30), .ref (q 31), .ref (q 32), .int (nI jc), .int (nI jx)])), (q 29, .inl (cI, 1600, .inl j1)), (q 27, .inl (cI, 3, .inl jf)), (q 28, .inl (cI, 3, .inl jt)), (q 25, .inl (cI, 9, .inl jb)), (q 26, .inl (cI, 9, .inl jw))] (skV D (skT cI cJ cC cZ cS) (fun (u : va_W) => ∃ (xa2 : Nat), ∃ (xv2 : Int32), ∃ (xt2 : Int32), ∃ (xz2 : Nat), ∃ (xf2 : Int32), ∃ (xp2 : Int32), ∃ (jc2 : Nat), ∃ (jx2 : Nat), ∃ (k1_ : Nat → Int32), ∃ (kf_ : Nat → Int32), ∃ (kt_ : Nat → Int32), ∃ (jd2 : Nat), ∃ (jm2 : Nat), ∃ (jn2 : Nat), ∃ (ju2 : Int32), ∃ (jr2 : Int32), ∃ (jb2 : Nat → Int32), ∃ (jw2 : Nat → Int32), xa2 ≤ 1600 ∧ xz2 ≤ 1600 ∧ jc2 ≤ 1600 ∧ jx2 ≤ 1 ∧ 2 ≤ jd2 ∧ jd2 ≤ 9 ∧ jm2 ≤ 9 ∧ jn2 ≤ 60 ∧ finO tb tl xf2 xp2 jn2 jd2 jm2 ju2 jr2 jc2 jx2 k1_ kf_ kt_ jb2 jw2 ∧ u = [(q 3, .inr (3, [.ref (q 2), .ref (q 22), .ref (q 23)])), (q 2, .inr (6, [.ref (q 0), .int (nI xa2), .int xv2, .int 0, .int xt2, .int (nI xz2), .int xf2, .int xp2])), (q 0, .inr (10, [.ref (q 20), .int (nI tl)])), (q 20, .inl (cI, 1600, .inl (fun j => nI (tb j)))), (q 22, .inr (8, [.ref (q 2), .int 0])), (q 23, .inr (8, [.ref (q 2), .int 1])), (q 6, .inr (2, [.ref (q 24), .ref (q 25), .ref (q 26), .ref (q 27), .ref (q 28), .int (nI jd2), .int (nI jm2), .int ju2, .int jr2, .int (nI jn2)])), (q 24, .inr (0, [.ref (q 29), .ref (q 30), .ref (q 31), .ref (q 32), .int (nI jc2), .int (nI jx2)])), (q 29, .inl (cI, 1600, .inl k1_)), (q 27, .inl (cI, 3, .inl kf_)), (q 28, .inl (cI, 3, .inl kt_)), (q 25, .inl (cI, 9, .inl jb2)), (q 26, .inl (cI, 9, .inl jw2))])) := by
  refine skMZ_of (by decide +kernel) (Nat.le_of_ble_eq_true rfl) ?_
  intro p e s m below meth c A ls E hP hD hZ hl
  obtain ⟨hx, hb, hr, hml, hlocks, hin, hown, hts, hK, hA⟩ := E
  have hown : s.vm.findClass RX3 = some m.cls := hown
  have hS : va_S A s.heap s.heap [] := va_S.rf
  have hl : lv_has ls 2 [(0, .ref (q 3)), (1, .ref (q 6))] := hl
  refine lv_aload_n hx hb dX3_read_0 rfl (lv_at hl 1 rfl) ?_
  refine sk_Vv (q0 := 0) (n := 0) (rest := []) (wr := [(q 3, .inr (3, [.ref (q 2), .ref (q 22), .ref (q 23)])), (q 2, .inr (6, [.ref (q 0), .int (nI xa), .int xv, .int (nI xo), .int xt, .int (nI xz), .int xf, .int xp])), (q 0, .inr (10, [.ref (q 20), .int (nI tl)])), (q 20, .inl (cI, 1600, .inl (fun j => nI (tb j)))), (q 22, .inr (8, [.ref (q 2), .int 0])), (q 23, .inr (8, [.ref (q 2), .int 1])), (q 29, .inl (cI, 1600, .inl j1))]) ⟨hx, hb, hml, hown, hts⟩ hl.1 (c_elk_clear l D cI cJ cC cZ cS q jd jm ju jr jn jc jx jf jt jb jw) w_2_210 w_2_211 w_2_212 w_1_9 w_2_213 (by decide +kernel) ⟨⟨(Nat.le_of_ble_eq_true rfl), (Nat.le_of_ble_eq_true rfl)⟩, (Nat.le_of_ble_eq_true rfl), (Nat.le_of_ble_eq_true rfl)⟩ hK hP hD hS hA [6, 7, 9, 10, 11, 12] [0, 1, 2, 3, 4, 5, 8] rfl rfl (by decide +kernel) (by decide +kernel) (by decide +kernel) rfl rfl rfl rfl (Nat.le_of_ble_eq_true rfl) dX3_read_1 (fun u H locs hw hP hD hS => ?_)
  obtain ⟨gf_1, gt_2, gb_3, gw_4, hgf_5, hgt_6, hgb_7, hgw_8, rfl⟩ := hw
  have hP : va_P D vwCl [(q 3, .inr (3, [.ref (q 2), .ref (q 22), .ref (q 23)])), (q 2, .inr (6, [.ref (q 0), .int (nI xa), .int xv, .int (nI xo), .int xt, .int (nI xz), .int xf, .int xp])), (q 0, .inr (10, [.ref (q 20), .int (nI tl)])), (q 20, .inl (cI, 1600, .inl (fun j => nI (tb j)))), (q 22, .inr (8, [.ref (q 2), .int 0])), (q 23, .inr (8, [.ref (q 2), .int 1])), (q 29, .inl (cI, 1600, .inl j1)), (q 6, .inr (2, [.ref (q 24), .ref (q 25), .ref (q 26), .ref (q 27), .ref (q 28), .int (nI jd), .int (nI jm), .int 0, .int 0, .int 0])), (q 24, .inr (0, [.ref (q 29), .ref (q 30), .ref (q 31), .ref (q 32), .int 0, .int 0])), (q 27, .inl (cI, 3, .inl gf_1)), (q 28, .inl (cI, 3, .inl gt_2)), (q 25, .inl (cI, 9, .inl gb_3)), (q 26, .inl (cI, 9, .inl gw_4))] H := hP
  have hD : va_D A [(q 3, .inr (3, [.ref (q 2), .ref (q 22), .ref (q 23)])), (q 2, .inr (6, [.ref (q 0), .int (nI xa), .int xv, .int (nI xo), .int xt, .int (nI xz), .int xf, .int xp])), (q 0, .inr (10, [.ref (q 20), .int (nI tl)])), (q 20, .inl (cI, 1600, .inl (fun j => nI (tb j)))), (q 22, .inr (8, [.ref (q 2), .int 0])), (q 23, .inr (8, [.ref (q 2), .int 1])), (q 29, .inl (cI, 1600, .inl j1)), (q 6, .inr (2, [.ref (q 24), .ref (q 25), .ref (q 26), .ref (q 27), .ref (q 28), .int (nI jd), .int (nI jm), .int 0, .int 0, .int 0])), (q 24, .inr (0, [.ref (q 29), .ref (q 30), .ref (q 31), .ref (q 32), .int 0, .int 0])), (q 27, .inl (cI, 3, .inl gf_1)), (q 28, .inl (cI, 3, .inl gt_2)), (q 25, .inl (cI, 9, .inl gb_3)), (q 26, .inl (cI, 9, .inl gw_4))] := hD
  refine lv_aload_n hx hb dX3_read_4 rfl (lv_at hl 0 rfl) ?_
  refine sk_get (v := .ref (q 2)) (C := RX3) (T := TX3) (N := 3) hx hb hts inlX3 hown hK hP 0 rfl rfl 0 (by decide) w_1_107 rfl dX3_read_5 ?_
  refine sk_VvZ (q0 := 0) (n := 0) (rest := []) (wr := [(q 3, .inr (3, [.ref (q 2), .ref (q 22), .ref (q 23)])), (q 22, .inr (8, [.ref (q 2), .int 0])), (q 23, .inr (8, [.ref (q 2), .int 1])), (q 29, .inl (cI, 1600, .inl j1)), (q 6, .inr (2, [.ref (q 24), .ref (q 25), .ref (q 26), .ref (q 27), .ref (q 28), .int (nI jd), .int (nI jm), .int 0, .int 0, .int 0])), (q 24, .inr (0, [.ref (q 29), .ref (q 30), .ref (q 31), .ref (q 32), .int 0, .int 0])), (q 27, .inl (cI, 3, .inl gf_1)), (q 28, .inl (cI, 3, .inl gt_2)), (q 25, .inl (cI, 9, .inl gb_3)), (q 26, .inl (cI, 9, .inl gw_4))]) ⟨hx, hb, hml, hown, hts⟩ hl.1 (c_erd_begin l D cI cJ cC cZ cS zk zv zf q xa xv xo xt xz xf xp tl tb (by omega) (by omega) (by omega) htb) w_2_221 w_2_222 w_2_223 w_1_4 w_2_224 (by decide +kernel) ⟨⟨(Nat.le_of_ble_eq_true rfl), (Nat.le_of_ble_eq_true rfl)⟩, (Nat.le_of_ble_eq_true rfl), (Nat.le_of_ble_eq_true rfl)⟩ hK hP hD hS hZ hA [1, 2, 3] [0, 4, 5, 6, 7, 8, 9, 10, 11, 12] rfl rfl (by decide +kernel) (by decide +kernel) (by decide +kernel) rfl rfl rfl rfl (Nat.le_of_ble_eq_true rfl) dX3_read_8 (fun u H locs hw hP hD hS => ?_)
  obtain ⟨xa2_9, xv2_10, xt2_11, xz2_12, hxa2_13, hxz2_14, hO2_15, rfl⟩ := hw
  have hP : va_P D vwCl [(q 3, .inr (3, [.ref (q 2), .ref (q 22), .ref (q 23)])), (q 22, .inr (8, [.ref (q 2), .int 0])), (q 23, .inr (8, [.ref (q 2), .int 1])), (q 29, .inl (cI, 1600, .inl j1)), (q 6, .inr (2, [.ref (q 24), .ref (q 25), .ref (q 26), .ref (q 27), .ref (q 28), .int (nI jd), .int (nI jm), .int 0, .int 0, .int 0])), (q 24, .inr (0, [.ref (q 29), .ref (q 30), .ref (q 31), .ref (q 32), .int 0, .int 0])), (q 27, .inl (cI, 3, .inl gf_1)), (q 28, .inl (cI, 3, .inl gt_2)), (q 25, .inl (cI, 9, .inl gb_3)), (q 26, .inl (cI, 9, .inl gw_4)), (q 2, .inr (6, [.ref (q 0), .int (nI xa2_9), .int xv2_10, .int 0, .int xt2_11, .int (nI xz2_12), .int 0, .int (-1)])), (q 0, .inr (10, [.ref (q 20), .int (nI tl)])), (q 20, .inl (cI, 1600, .inl (fun j => nI (tb j))))] H := hP
  have hD : va_D A [(q 3, .inr (3, [.ref (q 2), .ref (q 22), .ref (q 23)])), (q 22, .inr (8, [.ref (q 2), .int 0])), (q 23, .inr (8, [.ref (q 2), .int 1])), (q 29, .inl (cI, 1600, .inl j1)), (q 6, .inr (2, [.ref (q 24), .ref (q 25), .ref (q 26), .ref (q 27), .ref (q 28), .int (nI jd), .int (nI jm), .int 0, .int 0, .int 0])), (q 24, .inr (0, [.ref (q 29), .ref (q 30), .ref (q 31), .ref (q 32), .int 0, .int 0])), (q 27, .inl (cI, 3, .inl gf_1)), (q 28, .inl (cI, 3, .inl gt_2)), (q 25, .inl (cI, 9, .inl gb_3)), (q 26, .inl (cI, 9, .inl gw_4)), (q 2, .inr (6, [.ref (q 0), .int (nI xa2_9), .int xv2_10, .int 0, .int xt2_11, .int (nI xz2_12), .int 0, .int (-1)])), (q 0, .inr (10, [.ref (q 20), .int (nI tl)])), (q 20, .inl (cI, 1600, .inl (fun j => nI (tb j))))] := hD
  refine lv_aload_n hx hb dX3_read_11 rfl (lv_at hl 0 rfl) ?_
  refine lv_aload_n hx hb dX3_read_12 rfl (lv_at hl 1 rfl) ?_
  refine sk_VvZ (q0 := 0) (n := 1) (rest := []) (wr := [(q 22, .inr (8, [.ref (q 2), .int 0])), (q 23, .inr (8, [.ref (q 2), .int 1])), (q 29, .inl (cI, 1600, .inl j1)), (q 24, .inr (0, [.ref (q 29), .ref (q 30), .ref (q 31), .ref (q 32), .int 0, .int 0])), (q 27, .inl (cI, 3, .inl gf_1)), (q 28, .inl (cI, 3, .inl gt_2)), (q 25, .inl (cI, 9, .inl gb_3)), (q 26, .inl (cI, 9, .inl gw_4))]) ⟨hx, hb, hml, hown, hts⟩ hl.1 (c_elt_opening l D cI cJ cC cZ cS zk zv zf q xa2_9 xv2_10 0 xt2_11 xz2_12 0 (-1) tl tb jd jm 0 0 0 (.ok (sk tb tl 0, false)) (by omega) (by omega) (by omega) htb hO2_15) w_3_46 w_3_48 w_0_4 w_1_5 w_3_49 (by decide +kernel) ⟨⟨(Nat.le_of_ble_eq_true rfl), (Nat.le_of_ble_eq_true rfl)⟩, (Nat.le_of_ble_eq_true rfl), (Nat.le_of_ble_eq_true rfl)⟩ hK hP hD hS hZ hA [0, 10, 11, 12, 4] [1, 2, 3, 5, 6, 7, 8, 9] rfl rfl (by decide +kernel) (by decide +kernel) (by decide +kernel) rfl rfl rfl rfl (Nat.le_of_ble_eq_true rfl) dX3_read_13 (fun u H locs hw hP hD hS => ?_)
  obtain ⟨xa2_16, xv2_17, xt2_18, xz2_19, xf2_20, xp2_21, jd2_22, jm2_23, hxa2_24, hxz2_25, hjd2_26, hjd3_27, hjm2_28, hnd_29, hnm_30, hO2_31, rfl⟩ := hw
  have hP : va_P D vwCl [(q 22, .inr (8, [.ref (q 2), .int 0])), (q 23, .inr (8, [.ref (q 2), .int 1])), (q 29, .inl (cI, 1600, .inl j1)), (q 24, .inr (0, [.ref (q 29), .ref (q 30), .ref (q 31), .ref (q 32), .int 0, .int 0])), (q 27, .inl (cI, 3, .inl gf_1)), (q 28, .inl (cI, 3, .inl gt_2)), (q 25, .inl (cI, 9, .inl gb_3)), (q 26, .inl (cI, 9, .inl gw_4)), (q 3, .inr (3, [.ref (q 2), .ref (q 22), .ref (q 23)])), (q 2, .inr (6, [.ref (q 0), .int (nI xa2_16), .int xv2_17, .int 0, .int xt2_18, .int (nI xz2_19), .int xf2_20, .int xp2_21])), (q 0, .inr (10, [.ref (q 20), .int (nI tl)])), (q 20, .inl (cI, 1600, .inl (fun j => nI (tb j)))), (q 6, .inr (2, [.ref (q 24), .ref (q 25), .ref (q 26), .ref (q 27), .ref (q 28), .int (nI jd2_22), .int (nI jm2_23), .int 0, .int 0, .int 1]))] H := hP
  have hD : va_D A [(q 22, .inr (8, [.ref (q 2), .int 0])), (q 23, .inr (8, [.ref (q 2), .int 1])), (q 29, .inl (cI, 1600, .inl j1)), (q 24, .inr (0, [.ref (q 29), .ref (q 30), .ref (q 31), .ref (q 32), .int 0, .int 0])), (q 27, .inl (cI, 3, .inl gf_1)), (q 28, .inl (cI, 3, .inl gt_2)), (q 25, .inl (cI, 9, .inl gb_3)), (q 26, .inl (cI, 9, .inl gw_4)), (q 3, .inr (3, [.ref (q 2), .ref (q 22), .ref (q 23)])), (q 2, .inr (6, [.ref (q 0), .int (nI xa2_16), .int xv2_17, .int 0, .int xt2_18, .int (nI xz2_19), .int xf2_20, .int xp2_21])), (q 0, .inr (10, [.ref (q 20), .int (nI tl)])), (q 20, .inl (cI, 1600, .inl (fun j => nI (tb j)))), (q 6, .inr (2, [.ref (q 24), .ref (q 25), .ref (q 26), .ref (q 27), .ref (q 28), .int (nI jd2_22), .int (nI jm2_23), .int 0, .int 0, .int 1]))] := hD
  have hO_32 := ll_open (j1 := j1) htb hO2_31 hnd_29 hnm_30 hgf_5 hgt_6 hgb_7 hgw_8
  have lp_33 : ∀ (n_34 : Nat) (y1 : Nat → Int32) (yc : Nat) (yx : Nat) (yf : Nat → Int32) (yt : Nat → Int32) (yb : Nat → Int32) (yw : Nat → Int32) (za : Nat) (zw : Int32) (zt : Int32) (zz : Nat) (zg : Int32) (zp : Int32) (yu : Int32) (yr : Int32) (yn : Nat) (zmu : Nat → Bool) (zo : LkR) (H : Heap) (locs : List Loc) (ls : Array Slot), 60 - yn < n_34 → (llO tb tl zo za zw zt zz zg zp jd2_22 jm2_23 yu yr yc yx y1 yf yt yb yw) → (yn ≤ 60) → (za ≤ 1600) → (zz ≤ 1600) → (yc ≤ 1600) → (yx ≤ 1) → (muO zmu yu) → (len5 zo) → (bindR zo (stP tb tl (60 - yn)) = lockP tb tl) → va_P D vwCl [(q 22, .inr (8, [.ref (q 2), .int 0])), (q 23, .inr (8, [.ref (q 2), .int 1])), (q 29, .inl (cI, 1600, .inl y1)), (q 24, .inr (0, [.ref (q 29), .ref (q 30), .ref (q 31), .ref (q 32), .int (nI yc), .int (nI yx)])), (q 27, .inl (cI, 3, .inl yf)), (q 28, .inl (cI, 3, .inl yt)), (q 25, .inl (cI, 9, .inl yb)), (q 26, .inl (cI, 9, .inl yw)), (q 3, .inr (3, [.ref (q 2), .ref (q 22), .ref (q 23)])), (q 2, .inr (6, [.ref (q 0), .int (nI za), .int zw, .int 0, .int zt, .int (nI zz), .int zg, .int zp])), (q 0, .inr (10, [.ref (q 20), .int (nI tl)])), (q 20, .inl (cI, 1600, .inl (fun j => nI (tb j)))), (q 6, .inr (2, [.ref (q 24), .ref (q 25), .ref (q 26), .ref (q 27), .ref (q 28), .int (nI jd2_22), .int (nI jm2_23), .int yu, .int yr, .int (nI yn)]))] H → va_D A [(q 22, .inr (8, [.ref (q 2), .int 0])), (q 23, .inr (8, [.ref (q 2), .int 1])), (q 29, .inl (cI, 1600, .inl y1)), (q 24, .inr (0, [.ref (q 29), .ref (q 30), .ref (q 31), .ref (q 32), .int (nI yc), .int (nI yx)])), (q 27, .inl (cI, 3, .inl yf)), (q 28, .inl (cI, 3, .inl yt)), (q 25, .inl (cI, 9, .inl yb)), (q 26, .inl (cI, 9, .inl yw)), (q 3, .inr (3, [.ref (q 2), .ref (q 22), .ref (q 23)])), (q 2, .inr (6, [.ref (q 0), .int (nI za), .int zw, .int 0, .int zt, .int (nI zz), .int zg, .int zp])), (q 0, .inr (10, [.ref (q 20), .int (nI tl)])), (q 20, .inl (cI, 1600, .inl (fun j => nI (tb j)))), (q 6, .inr (2, [.ref (q 24), .ref (q 25), .ref (q 26), .ref (q 27), .ref (q 28), .int (nI jd2_22), .int (nI jm2_23), .int yu, .int yr, .int (nI yn)]))] → va_S A s.heap H locs → lv_has ls 2 [(0, .ref (q 3)), (1, .ref (q 6))] → W p l e { frames := 56, cells := 0, slots := 0, locals := 1344 } s m ([.ref (q 3), .ref (q 6)] : List Value).toArray below meth c H locs 0 0 (MQ below (skV D (skT cI cJ cC cZ cS) (fun (u : va_W) => ∃ (xa2 : Nat), ∃ (xv2 : Int32), ∃ (xt2 : Int32), ∃ (xz2 : Nat), ∃ (xf2 : Int32), ∃ (xp2 : Int32), ∃ (jc2 : Nat), ∃ (jx2 : Nat), ∃ (k1_ : Nat → Int32), ∃ (kf_ : Nat → Int32), ∃ (kt_ : Nat → Int32), ∃ (jd2 : Nat), ∃ (jm2 : Nat), ∃ (jn2 : Nat), ∃ (ju2 : Int32), ∃ (jr2 : Int32), ∃ (jb2 : Nat → Int32), ∃ (jw2 : Nat → Int32), xa2 ≤ 1600 ∧ xz2 ≤ 1600 ∧ jc2 ≤ 1600 ∧ jx2 ≤ 1 ∧ 2 ≤ jd2 ∧ jd2 ≤ 9 ∧ jm2 ≤ 9 ∧ jn2 ≤ 60 ∧ finO tb tl xf2 xp2 jn2 jd2 jm2 ju2 jr2 jc2 jx2 k1_ kf_ kt_ jb2 jw2 ∧ u = [(q 3, .inr (3, [.ref (q 2), .ref (q 22), .ref (q 23)])), (q 2, .inr (6, [.ref (q 0), .int (nI xa2), .int xv2, .int 0, .int xt2, .int (nI xz2), .int xf2, .int xp2])), (q 0, .inr (10, [.ref (q 20), .int (nI tl)])), (q 20, .inl (cI, 1600, .inl (fun j => nI (tb j)))), (q 22, .inr (8, [.ref (q 2), .int 0])), (q 23, .inr (8, [.ref (q 2), .int 1])), (q 6, .inr (2, [.ref (q 24), .ref (q 25), .ref (q 26), .ref (q 27), .ref (q 28), .int (nI jd2), .int (nI jm2), .int ju2, .int jr2, .int (nI jn2)])), (q 24, .inr (0, [.ref (q 29), .ref (q 30), .ref (q 31), .ref (q 32), .int (nI jc2), .int (nI jx2)])), (q 29, .inl (cI, 1600, .inl k1_)), (q 27, .inl (cI, 3, .inl kf_)), (q 28, .inl (cI, 3, .inl kt_)), (q 25, .inl (cI, 9, .inl jb2)), (q 26, .inl (cI, 9, .inl jw2))]) A) ([.ref (q 3), .ref (q 6)] : List Value).toArray s 0 0 A) (F0 m 16 ls []) := by
    intro n_34
    induction n_34 with
    | zero => intro y1 yc yx yf yt yb yw za zw zt zz zg zp yu yr yn zmu zo H locs ls hm; exact absurd hm (Nat.not_lt_zero _)
    | succ n_34 ih_lp_33 =>
      intro y1 yc yx yf yt yb yw za zw zt zz zg zp yu yr yn zmu zo H locs ls hm hzO hyn hza hzz hyc hyx hzm hz5 hrem hP hD hS hl
      refine lv_aload_n hx hb dX3_read_16 rfl (lv_at hl 1 rfl) ?_
      refine sk_get (v := .int (nI yn)) (C := RX2) (T := TX2) (N := 10) hx hb hts inlX2 hown hK hP 12 rfl rfl 9 (by decide) w_1_201 rfl dX3_read_17 ?_
      refine lv_bipush (v := 60) hx hb dX3_read_20 (by decide) ?_
      refine lv_icmp_ge (tgt := 146) hx hb dX3_read_22 (by decide) (fun c_35 => ?_) (fun c_35 => ?_)
      · have c_35 : 60 ≤ yn := (nle 60 yn (by omega) (by omega)).mp c_35
        have jn_36 : ∀ (et : Int32) (eg : Int32) (ep : Int32) (H : Heap) (locs : List Loc) (ls : Array Slot), (fnO (lockP tb tl) eg ep yn jd2_22 jm2_23 yu yr yc yx y1 yf yt yb yw) → va_P D vwCl [(q 22, .inr (8, [.ref (q 2), .int 0])), (q 23, .inr (8, [.ref (q 2), .int 1])), (q 29, .inl (cI, 1600, .inl y1)), (q 24, .inr (0, [.ref (q 29), .ref (q 30), .ref (q 31), .ref (q 32), .int (nI yc), .int (nI yx)])), (q 27, .inl (cI, 3, .inl yf)), (q 28, .inl (cI, 3, .inl yt)), (q 25, .inl (cI, 9, .inl yb)), (q 26, .inl (cI, 9, .inl yw)), (q 3, .inr (3, [.ref (q 2), .ref (q 22), .ref (q 23)])), (q 2, .inr (6, [.ref (q 0), .int (nI za), .int zw, .int 0, .int et, .int (nI zz), .int eg, .int ep])), (q 0, .inr (10, [.ref (q 20), .int (nI tl)])), (q 20, .inl (cI, 1600, .inl (fun j => nI (tb j)))), (q 6, .inr (2, [.ref (q 24), .ref (q 25), .ref (q 26), .ref (q 27), .ref (q 28), .int (nI jd2_22), .int (nI jm2_23), .int yu, .int yr, .int (nI yn)]))] H → va_D A [(q 22, .inr (8, [.ref (q 2), .int 0])), (q 23, .inr (8, [.ref (q 2), .int 1])), (q 29, .inl (cI, 1600, .inl y1)), (q 24, .inr (0, [.ref (q 29), .ref (q 30), .ref (q 31), .ref (q 32), .int (nI yc), .int (nI yx)])), (q 27, .inl (cI, 3, .inl yf)), (q 28, .inl (cI, 3, .inl yt)), (q 25, .inl (cI, 9, .inl yb)), (q 26, .inl (cI, 9, .inl yw)), (q 3, .inr (3, [.ref (q 2), .ref (q 22), .ref (q 23)])), (q 2, .inr (6, [.ref (q 0), .int (nI za), .int zw, .int 0, .int et, .int (nI zz), .int eg, .int ep])), (q 0, .inr (10, [.ref (q 20), .int (nI tl)])), (q 20, .inl (cI, 1600, .inl (fun j => nI (tb j)))), (q 6, .inr (2, [.ref (q 24), .ref (q 25), .ref (q 26), .ref (q 27), .ref (q 28), .int (nI jd2_22), .int (nI jm2_23), .int yu, .int yr, .int (nI yn)]))] → va_S A s.heap H locs → lv_has ls 2 [(0, .ref (q 3)), (1, .ref (q 6))] → W p l e { frames := 56, cells := 0, slots := 0, locals := 1344 } s m ([.ref (q 3), .ref (q 6)] : List Value).toArray below meth c H locs 0 0 (MQ below (skV D (skT cI cJ cC cZ cS) (fun (u : va_W) => ∃ (xa2 : Nat), ∃ (xv2 : Int32), ∃ (xt2 : Int32), ∃ (xz2 : Nat), ∃ (xf2 : Int32), ∃ (xp2 : Int32), ∃ (jc2 : Nat), ∃ (jx2 : Nat), ∃ (k1_ : Nat → Int32), ∃ (kf_ : Nat → Int32), ∃ (kt_ : Nat → Int32), ∃ (jd2 : Nat), ∃ (jm2 : Nat), ∃ (jn2 : Nat), ∃ (ju2 : Int32), ∃ (jr2 : Int32), ∃ (jb2 : Nat → Int32), ∃ (jw2 : Nat → Int32), xa2 ≤ 1600 ∧ xz2 ≤ 1600 ∧ jc2 ≤ 1600 ∧ jx2 ≤ 1 ∧ 2 ≤ jd2 ∧ jd2 ≤ 9 ∧ jm2 ≤ 9 ∧ jn2 ≤ 60 ∧ finO tb tl xf2 xp2 jn2 jd2 jm2 ju2 jr2 jc2 jx2 k1_ kf_ kt_ jb2 jw2 ∧ u = [(q 3, .inr (3, [.ref (q 2), .ref (q 22), .ref (q 23)])), (q 2, .inr (6, [.ref (q 0), .int (nI xa2), .int xv2, .int 0, .int xt2, .int (nI xz2), .int xf2, .int xp2])), (q 0, .inr (10, [.ref (q 20), .int (nI tl)])), (q 20, .inl (cI, 1600, .inl (fun j => nI (tb j)))), (q 22, .inr (8, [.ref (q 2), .int 0])), (q 23, .inr (8, [.ref (q 2), .int 1])), (q 6, .inr (2, [.ref (q 24), .ref (q 25), .ref (q 26), .ref (q 27), .ref (q 28), .int (nI jd2), .int (nI jm2), .int ju2, .int jr2, .int (nI jn2)])), (q 24, .inr (0, [.ref (q 29), .ref (q 30), .ref (q 31), .ref (q 32), .int (nI jc2), .int (nI jx2)])), (q 29, .inl (cI, 1600, .inl k1_)), (q 27, .inl (cI, 3, .inl kf_)), (q 28, .inl (cI, 3, .inl kt_)), (q 25, .inl (cI, 9, .inl jb2)), (q 26, .inl (cI, 9, .inl jw2))]) A) ([.ref (q 3), .ref (q 6)] : List Value).toArray s 0 0 A) (F0 m 182 ls []) := by
          intro et eg ep H locs ls hfn hP hD hS hl
          refine lv_aload_n hx hb dX3_read_182 rfl (lv_at hl 1 rfl) ?_
          refine sk_Vv (q0 := 0) (n := 0) (rest := []) (wr := [(q 22, .inr (8, [.ref (q 2), .int 0])), (q 23, .inr (8, [.ref (q 2), .int 1])), (q 25, .inl (cI, 9, .inl yb)), (q 26, .inl (cI, 9, .inl yw)), (q 3, .inr (3, [.ref (q 2), .ref (q 22), .ref (q 23)])), (q 2, .inr (6, [.ref (q 0), .int (nI za), .int zw, .int 0, .int et, .int (nI zz), .int eg, .int ep])), (q 0, .inr (10, [.ref (q 20), .int (nI tl)])), (q 20, .inl (cI, 1600, .inl (fun j => nI (tb j))))]) ⟨hx, hb, hml, hown, hts⟩ hl.1 (c_elk_addUntold l D cI cJ cC cZ cS q jd2_22 jm2_23 yu yr yn yc yx y1 yf yt yb yw tl tb (by omega) (by omega) (un_0 hfn)) w_3_140 w_3_141 w_3_142 w_1_9 w_3_143 (by decide +kernel) ⟨⟨(Nat.le_of_ble_eq_true rfl), (Nat.le_of_ble_eq_true rfl)⟩, (Nat.le_of_ble_eq_true rfl), (Nat.le_of_ble_eq_true rfl)⟩ hK hP hD hS hA [12, 3, 2, 4, 5] [0, 1, 6, 7, 8, 9, 10, 11] rfl rfl (by decide +kernel) (by decide +kernel) (by decide +kernel) rfl rfl rfl rfl (Nat.le_of_ble_eq_true rfl) dX3_read_183 (fun u H locs hw hP hD hS => ?_)
          obtain ⟨jc2_37, jx2_38, k1__39, kf__40, kt__41, hjc2_42, hjx2_43, hun2_44, rfl⟩ := hw
          have hP : va_P D vwCl [(q 22, .inr (8, [.ref (q 2), .int 0])), (q 23, .inr (8, [.ref (q 2), .int 1])), (q 25, .inl (cI, 9, .inl yb)), (q 26, .inl (cI, 9, .inl yw)), (q 3, .inr (3, [.ref (q 2), .ref (q 22), .ref (q 23)])), (q 2, .inr (6, [.ref (q 0), .int (nI za), .int zw, .int 0, .int et, .int (nI zz), .int eg, .int ep])), (q 0, .inr (10, [.ref (q 20), .int (nI tl)])), (q 20, .inl (cI, 1600, .inl (fun j => nI (tb j)))), (q 6, .inr (2, [.ref (q 24), .ref (q 25), .ref (q 26), .ref (q 27), .ref (q 28), .int (nI jd2_22), .int (nI jm2_23), .int yu, .int yr, .int (nI yn)])), (q 24, .inr (0, [.ref (q 29), .ref (q 30), .ref (q 31), .ref (q 32), .int (nI jc2_37), .int (nI jx2_38)])), (q 29, .inl (cI, 1600, .inl k1__39)), (q 27, .inl (cI, 3, .inl kf__40)), (q 28, .inl (cI, 3, .inl kt__41))] H := hP
          have hD : va_D A [(q 22, .inr (8, [.ref (q 2), .int 0])), (q 23, .inr (8, [.ref (q 2), .int 1])), (q 25, .inl (cI, 9, .inl yb)), (q 26, .inl (cI, 9, .inl yw)), (q 3, .inr (3, [.ref (q 2), .ref (q 22), .ref (q 23)])), (q 2, .inr (6, [.ref (q 0), .int (nI za), .int zw, .int 0, .int et, .int (nI zz), .int eg, .int ep])), (q 0, .inr (10, [.ref (q 20), .int (nI tl)])), (q 20, .inl (cI, 1600, .inl (fun j => nI (tb j)))), (q 6, .inr (2, [.ref (q 24), .ref (q 25), .ref (q 26), .ref (q 27), .ref (q 28), .int (nI jd2_22), .int (nI jm2_23), .int yu, .int yr, .int (nI yn)])), (q 24, .inr (0, [.ref (q 29), .ref (q 30), .ref (q 31), .ref (q 32), .int (nI jc2_37), .int (nI jx2_38)])), (q 29, .inl (cI, 1600, .inl k1__39)), (q 27, .inl (cI, 3, .inl kf__40)), (q 28, .inl (cI, 3, .inl kt__41))] := hD
          have hP := hP.sub (ws' := [(q 3, .inr (3, [.ref (q 2), .ref (q 22), .ref (q 23)])), (q 2, .inr (6, [.ref (q 0), .int (nI za), .int zw, .int 0, .int et, .int (nI zz), .int eg, .int ep])), (q 0, .inr (10, [.ref (q 20), .int (nI tl)])), (q 20, .inl (cI, 1600, .inl (fun j => nI (tb j)))), (q 22, .inr (8, [.ref (q 2), .int 0])), (q 23, .inr (8, [.ref (q 2), .int 1])), (q 6, .inr (2, [.ref (q 24), .ref (q 25), .ref (q 26), .ref (q 27), .ref (q 28), .int (nI jd2_22), .int (nI jm2_23), .int yu, .int yr, .int (nI yn)])), (q 24, .inr (0, [.ref (q 29), .ref (q 30), .ref (q 31), .ref (q 32), .int (nI jc2_37), .int (nI jx2_38)])), (q 29, .inl (cI, 1600, .inl k1__39)), (q 27, .inl (cI, 3, .inl kf__40)), (q 28, .inl (cI, 3, .inl kt__41)), (q 25, .inl (cI, 9, .inl yb)), (q 26, .inl (cI, 9, .inl yw))]) [4, 5, 6, 7, 0, 1, 8, 9, 10, 11, 12, 2, 3] rfl
          have hD := hD.sub (ws' := [(q 3, .inr (3, [.ref (q 2), .ref (q 22), .ref (q 23)])), (q 2, .inr (6, [.ref (q 0), .int (nI za), .int zw, .int 0, .int et, .int (nI zz), .int eg, .int ep])), (q 0, .inr (10, [.ref (q 20), .int (nI tl)])), (q 20, .inl (cI, 1600, .inl (fun j => nI (tb j)))), (q 22, .inr (8, [.ref (q 2), .int 0])), (q 23, .inr (8, [.ref (q 2), .int 1])), (q 6, .inr (2, [.ref (q 24), .ref (q 25), .ref (q 26), .ref (q 27), .ref (q 28), .int (nI jd2_22), .int (nI jm2_23), .int yu, .int yr, .int (nI yn)])), (q 24, .inr (0, [.ref (q 29), .ref (q 30), .ref (q 31), .ref (q 32), .int (nI jc2_37), .int (nI jx2_38)])), (q 29, .inl (cI, 1600, .inl k1__39)), (q 27, .inl (cI, 3, .inl kf__40)), (q 28, .inl (cI, 3, .inl kt__41)), (q 25, .inl (cI, 9, .inl yb)), (q 26, .inl (cI, 9, .inl yw))]) [4, 5, 6, 7, 0, 1, 8, 9, 10, 11, 12, 2, 3] (by decide +kernel) rfl
          exact sk_vret hx hb hr hlocks hK hP hD hS (⟨za, zw, et, zz, eg, ep, jc2_37, jx2_38, k1__39, kf__40, kt__41, jd2_22, jm2_23, yn, yu, yr, yb, yw, by omega, by omega, by omega, by omega, by omega, by omega, by omega, by omega, fin_un hfn hun2_44, rfl⟩) (Nat.le_of_ble_eq_true rfl) (Nat.le_of_ble_eq_true rfl) dX3_read_186
        refine lv_aload_n hx hb dX3_read_146 rfl (lv_at hl 0 rfl) ?_
        refine sk_get (v := .ref (q 2)) (C := RX3) (T := TX3) (N := 3) hx hb hts inlX3 hown hK hP 8 rfl rfl 0 (by decide) w_1_107 rfl dX3_read_147 ?_
        refine sk_get (v := .int zg) (C := RX6) (T := TX6) (N := 8) hx hb hts inlX6 hown hK hP 9 rfl rfl 6 (by decide) w_1_67 rfl dX3_read_150 ?_
        refine lv_if_ne (tgt := 182) hx hb dX3_read_153 (by decide) (fun c_45 => ?_) (fun c_45 => ?_)
        · skip
          exact jn_36 zt zg zp _ _ _ (fin_er hzO c_45 hrem) hP hD hS (lv_sub hl [0, 1] rfl)
        · skip
          refine lv_aload_n hx hb dX3_read_156 rfl (lv_at hl 0 rfl) ?_
          refine sk_get (v := .ref (q 2)) (C := RX3) (T := TX3) (N := 3) hx hb hts inlX3 hown hK hP 8 rfl rfl 0 (by decide) w_1_107 rfl dX3_read_157 ?_
          refine sk_get (v := .int zt) (C := RX6) (T := TX6) (N := 8) hx hb hts inlX6 hown hK hP 9 rfl rfl 4 (by decide) w_1_62 rfl dX3_read_160 ?_
          refine lv_iconst (v := (-1)) hx hb dX3_read_163 (by decide) ?_
          refine lv_icmp_eq (tgt := 182) hx hb dX3_read_164 (by decide) (fun c_46 => ?_) (fun c_46 => ?_)
          · skip
            exact jn_36 zt zg zp _ _ _ (fin_end htb htl hzO c_45 c_46 (by omega) hz5 hrem) hP hD hS (lv_sub hl [0, 1] rfl)
          · skip
            refine lv_aload_n hx hb dX3_read_167 rfl (lv_at hl 0 rfl) ?_
            refine sk_get (v := .ref (q 2)) (C := RX3) (T := TX3) (N := 3) hx hb hts inlX3 hown hK hP 8 rfl rfl 0 (by decide) w_1_107 rfl dX3_read_168 ?_
            refine lv_iconst (v := 5) hx hb dX3_read_171 (by decide) ?_
            refine lv_aload_n hx hb dX3_read_172 rfl (lv_at hl 0 rfl) ?_
            refine sk_get (v := .ref (q 2)) (C := RX3) (T := TX3) (N := 3) hx hb hts inlX3 hown hK hP 8 rfl rfl 0 (by decide) w_1_107 rfl dX3_read_173 ?_
            refine sk_get (v := .int (nI zz)) (C := RX6) (T := TX6) (N := 8) hx hb hts inlX6 hown hK hP 9 rfl rfl 5 (by decide) w_1_65 rfl dX3_read_176 ?_
            refine sk_Vv (q0 := 0) (n := 2) (rest := []) (wr := [(q 22, .inr (8, [.ref (q 2), .int 0])), (q 23, .inr (8, [.ref (q 2), .int 1])), (q 29, .inl (cI, 1600, .inl y1)), (q 24, .inr (0, [.ref (q 29), .ref (q 30), .ref (q 31), .ref (q 32), .int (nI yc), .int (nI yx)])), (q 27, .inl (cI, 3, .inl yf)), (q 28, .inl (cI, 3, .inl yt)), (q 25, .inl (cI, 9, .inl yb)), (q 26, .inl (cI, 9, .inl yw)), (q 3, .inr (3, [.ref (q 2), .ref (q 22), .ref (q 23)])), (q 0, .inr (10, [.ref (q 20), .int (nI tl)])), (q 20, .inl (cI, 1600, .inl (fun j => nI (tb j)))), (q 6, .inr (2, [.ref (q 24), .ref (q 25), .ref (q 26), .ref (q 27), .ref (q 28), .int (nI jd2_22), .int (nI jm2_23), .int yu, .int yr, .int (nI yn)]))]) ⟨hx, hb, hml, hown, hts⟩ hl.1 (c_erd_fail l D cI cJ cC cZ cS q za zw 0 zt zz zg zp tl tb 5 zz (lc zo) (by omega) (by omega) (by omega) (hzO).1) w_3_74 w_3_59 w_3_60 w_1_4 w_3_61 (by decide +kernel) ⟨⟨(Nat.le_of_ble_eq_true rfl), (Nat.le_of_ble_eq_true rfl)⟩, (Nat.le_of_ble_eq_true rfl), (Nat.le_of_ble_eq_true rfl)⟩ hK hP hD hS hA [9] [0, 1, 2, 3, 4, 5, 6, 7, 8, 10, 11, 12] rfl rfl (by decide +kernel) (by decide +kernel) (by decide +kernel) rfl rfl rfl rfl (Nat.le_of_ble_eq_true rfl) dX3_read_179 (fun u H locs hw hP hD hS => ?_)
            obtain ⟨xf2_47, xp2_48, hO2_49, rfl⟩ := hw
            have hP : va_P D vwCl [(q 22, .inr (8, [.ref (q 2), .int 0])), (q 23, .inr (8, [.ref (q 2), .int 1])), (q 29, .inl (cI, 1600, .inl y1)), (q 24, .inr (0, [.ref (q 29), .ref (q 30), .ref (q 31), .ref (q 32), .int (nI yc), .int (nI yx)])), (q 27, .inl (cI, 3, .inl yf)), (q 28, .inl (cI, 3, .inl yt)), (q 25, .inl (cI, 9, .inl yb)), (q 26, .inl (cI, 9, .inl yw)), (q 3, .inr (3, [.ref (q 2), .ref (q 22), .ref (q 23)])), (q 0, .inr (10, [.ref (q 20), .int (nI tl)])), (q 20, .inl (cI, 1600, .inl (fun j => nI (tb j)))), (q 6, .inr (2, [.ref (q 24), .ref (q 25), .ref (q 26), .ref (q 27), .ref (q 28), .int (nI jd2_22), .int (nI jm2_23), .int yu, .int yr, .int (nI yn)])), (q 2, .inr (6, [.ref (q 0), .int (nI za), .int zw, .int 0, .int (-2), .int (nI zz), .int xf2_47, .int xp2_48]))] H := hP
            have hD : va_D A [(q 22, .inr (8, [.ref (q 2), .int 0])), (q 23, .inr (8, [.ref (q 2), .int 1])), (q 29, .inl (cI, 1600, .inl y1)), (q 24, .inr (0, [.ref (q 29), .ref (q 30), .ref (q 31), .ref (q 32), .int (nI yc), .int (nI yx)])), (q 27, .inl (cI, 3, .inl yf)), (q 28, .inl (cI, 3, .inl yt)), (q 25, .inl (cI, 9, .inl yb)), (q 26, .inl (cI, 9, .inl yw)), (q 3, .inr (3, [.ref (q 2), .ref (q 22), .ref (q 23)])), (q 0, .inr (10, [.ref (q 20), .int (nI tl)])), (q 20, .inl (cI, 1600, .inl (fun j => nI (tb j)))), (q 6, .inr (2, [.ref (q 24), .ref (q 25), .ref (q 26), .ref (q 27), .ref (q 28), .int (nI jd2_22), .int (nI jm2_23), .int yu, .int yr, .int (nI yn)])), (q 2, .inr (6, [.ref (q 0), .int (nI za), .int zw, .int 0, .int (-2), .int (nI zz), .int xf2_47, .int xp2_48]))] := hD
            have hO_50 := ll_ld hzO hO2_49
            have hP := hP.sub (ws' := [(q 22, .inr (8, [.ref (q 2), .int 0])), (q 23, .inr (8, [.ref (q 2), .int 1])), (q 29, .inl (cI, 1600, .inl y1)), (q 24, .inr (0, [.ref (q 29), .ref (q 30), .ref (q 31), .ref (q 32), .int (nI yc), .int (nI yx)])), (q 27, .inl (cI, 3, .inl yf)), (q 28, .inl (cI, 3, .inl yt)), (q 25, .inl (cI, 9, .inl yb)), (q 26, .inl (cI, 9, .inl yw)), (q 3, .inr (3, [.ref (q 2), .ref (q 22), .ref (q 23)])), (q 2, .inr (6, [.ref (q 0), .int (nI za), .int zw, .int 0, .int (-2), .int (nI zz), .int xf2_47, .int xp2_48])), (q 0, .inr (10, [.ref (q 20), .int (nI tl)])), (q 20, .inl (cI, 1600, .inl (fun j => nI (tb j)))), (q 6, .inr (2, [.ref (q 24), .ref (q 25), .ref (q 26), .ref (q 27), .ref (q 28), .int (nI jd2_22), .int (nI jm2_23), .int yu, .int yr, .int (nI yn)]))]) [0, 1, 2, 3, 4, 5, 6, 7, 8, 12, 9, 10, 11] rfl
            have hD := hD.sub (ws' := [(q 22, .inr (8, [.ref (q 2), .int 0])), (q 23, .inr (8, [.ref (q 2), .int 1])), (q 29, .inl (cI, 1600, .inl y1)), (q 24, .inr (0, [.ref (q 29), .ref (q 30), .ref (q 31), .ref (q 32), .int (nI yc), .int (nI yx)])), (q 27, .inl (cI, 3, .inl yf)), (q 28, .inl (cI, 3, .inl yt)), (q 25, .inl (cI, 9, .inl yb)), (q 26, .inl (cI, 9, .inl yw)), (q 3, .inr (3, [.ref (q 2), .ref (q 22), .ref (q 23)])), (q 2, .inr (6, [.ref (q 0), .int (nI za), .int zw, .int 0, .int (-2), .int (nI zz), .int xf2_47, .int xp2_48])), (q 0, .inr (10, [.ref (q 20), .int (nI tl)])), (q 20, .inl (cI, 1600, .inl (fun j => nI (tb j)))), (q 6, .inr (2, [.ref (q 24), .ref (q 25), .ref (q 26), .ref (q 27), .ref (q 28), .int (nI jd2_22), .int (nI jm2_23), .int yu, .int yr, .int (nI yn)]))]) [0, 1, 2, 3, 4, 5, 6, 7, 8, 12, 9, 10, 11] (by decide +kernel) rfl
            exact jn_36 (-2) xf2_47 xp2_48 _ _ _ (fin_many htb hzO c_45 c_46 (by omega) hO2_49 hrem) hP hD hS (lv_sub hl [0, 1] rfl)
      · have c_35 : ¬ (60 ≤ yn) := fun h => c_35 ((nle 60 yn (by omega) (by omega)).mpr h)
        refine lv_aload_n hx hb dX3_read_25 rfl (lv_at hl 0 rfl) ?_
        refine sk_get (v := .ref (q 2)) (C := RX3) (T := TX3) (N := 3) hx hb hts inlX3 hown hK hP 8 rfl rfl 0 (by decide) w_1_107 rfl dX3_read_26 ?_
        refine sk_get (v := .int zg) (C := RX6) (T := TX6) (N := 8) hx hb hts inlX6 hown hK hP 9 rfl rfl 6 (by decide) w_1_67 rfl dX3_read_29 ?_
        refine lv_if_ne (tgt := 146) hx hb dX3_read_32 (by decide) (fun c_51 => ?_) (fun c_51 => ?_)
        · skip
          have jn_52 : ∀ (et : Int32) (eg : Int32) (ep : Int32) (H : Heap) (locs : List Loc) (ls : Array Slot), (fnO (lockP tb tl) eg ep yn jd2_22 jm2_23 yu yr yc yx y1 yf yt yb yw) → va_P D vwCl [(q 22, .inr (8, [.ref (q 2), .int 0])), (q 23, .inr (8, [.ref (q 2), .int 1])), (q 29, .inl (cI, 1600, .inl y1)), (q 24, .inr (0, [.ref (q 29), .ref (q 30), .ref (q 31), .ref (q 32), .int (nI yc), .int (nI yx)])), (q 27, .inl (cI, 3, .inl yf)), (q 28, .inl (cI, 3, .inl yt)), (q 25, .inl (cI, 9, .inl yb)), (q 26, .inl (cI, 9, .inl yw)), (q 3, .inr (3, [.ref (q 2), .ref (q 22), .ref (q 23)])), (q 2, .inr (6, [.ref (q 0), .int (nI za), .int zw, .int 0, .int et, .int (nI zz), .int eg, .int ep])), (q 0, .inr (10, [.ref (q 20), .int (nI tl)])), (q 20, .inl (cI, 1600, .inl (fun j => nI (tb j)))), (q 6, .inr (2, [.ref (q 24), .ref (q 25), .ref (q 26), .ref (q 27), .ref (q 28), .int (nI jd2_22), .int (nI jm2_23), .int yu, .int yr, .int (nI yn)]))] H → va_D A [(q 22, .inr (8, [.ref (q 2), .int 0])), (q 23, .inr (8, [.ref (q 2), .int 1])), (q 29, .inl (cI, 1600, .inl y1)), (q 24, .inr (0, [.ref (q 29), .ref (q 30), .ref (q 31), .ref (q 32), .int (nI yc), .int (nI yx)])), (q 27, .inl (cI, 3, .inl yf)), (q 28, .inl (cI, 3, .inl yt)), (q 25, .inl (cI, 9, .inl yb)), (q 26, .inl (cI, 9, .inl yw)), (q 3, .inr (3, [.ref (q 2), .ref (q 22), .ref (q 23)])), (q 2, .inr (6, [.ref (q 0), .int (nI za), .int zw, .int 0, .int et, .int (nI zz), .int eg, .int ep])), (q 0, .inr (10, [.ref (q 20), .int (nI tl)])), (q 20, .inl (cI, 1600, .inl (fun j => nI (tb j)))), (q 6, .inr (2, [.ref (q 24), .ref (q 25), .ref (q 26), .ref (q 27), .ref (q 28), .int (nI jd2_22), .int (nI jm2_23), .int yu, .int yr, .int (nI yn)]))] → va_S A s.heap H locs → lv_has ls 2 [(0, .ref (q 3)), (1, .ref (q 6))] → W p l e { frames := 56, cells := 0, slots := 0, locals := 1344 } s m ([.ref (q 3), .ref (q 6)] : List Value).toArray below meth c H locs 0 0 (MQ below (skV D (skT cI cJ cC cZ cS) (fun (u : va_W) => ∃ (xa2 : Nat), ∃ (xv2 : Int32), ∃ (xt2 : Int32), ∃ (xz2 : Nat), ∃ (xf2 : Int32), ∃ (xp2 : Int32), ∃ (jc2 : Nat), ∃ (jx2 : Nat), ∃ (k1_ : Nat → Int32), ∃ (kf_ : Nat → Int32), ∃ (kt_ : Nat → Int32), ∃ (jd2 : Nat), ∃ (jm2 : Nat), ∃ (jn2 : Nat), ∃ (ju2 : Int32), ∃ (jr2 : Int32), ∃ (jb2 : Nat → Int32), ∃ (jw2 : Nat → Int32), xa2 ≤ 1600 ∧ xz2 ≤ 1600 ∧ jc2 ≤ 1600 ∧ jx2 ≤ 1 ∧ 2 ≤ jd2 ∧ jd2 ≤ 9 ∧ jm2 ≤ 9 ∧ jn2 ≤ 60 ∧ finO tb tl xf2 xp2 jn2 jd2 jm2 ju2 jr2 jc2 jx2 k1_ kf_ kt_ jb2 jw2 ∧ u = [(q 3, .inr (3, [.ref (q 2), .ref (q 22), .ref (q 23)])), (q 2, .inr (6, [.ref (q 0), .int (nI xa2), .int xv2, .int 0, .int xt2, .int (nI xz2), .int xf2, .int xp2])), (q 0, .inr (10, [.ref (q 20), .int (nI tl)])), (q 20, .inl (cI, 1600, .inl (fun j => nI (tb j)))), (q 22, .inr (8, [.ref (q 2), .int 0])), (q 23, .inr (8, [.ref (q 2), .int 1])), (q 6, .inr (2, [.ref (q 24), .ref (q 25), .ref (q 26), .ref (q 27), .ref (q 28), .int (nI jd2), .int (nI jm2), .int ju2, .int jr2, .int (nI jn2)])), (q 24, .inr (0, [.ref (q 29), .ref (q 30), .ref (q 31), .ref (q 32), .int (nI jc2), .int (nI jx2)])), (q 29, .inl (cI, 1600, .inl k1_)), (q 27, .inl (cI, 3, .inl kf_)), (q 28, .inl (cI, 3, .inl kt_)), (q 25, .inl (cI, 9, .inl jb2)), (q 26, .inl (cI, 9, .inl jw2))]) A) ([.ref (q 3), .ref (q 6)] : List Value).toArray s 0 0 A) (F0 m 182 ls []) := by
            intro et eg ep H locs ls hfn hP hD hS hl
            refine lv_aload_n hx hb dX3_read_182 rfl (lv_at hl 1 rfl) ?_
            refine sk_Vv (q0 := 0) (n := 0) (rest := []) (wr := [(q 22, .inr (8, [.ref (q 2), .int 0])), (q 23, .inr (8, [.ref (q 2), .int 1])), (q 25, .inl (cI, 9, .inl yb)), (q 26, .inl (cI, 9, .inl yw)), (q 3, .inr (3, [.ref (q 2), .ref (q 22), .ref (q 23)])), (q 2, .inr (6, [.ref (q 0), .int (nI za), .int zw, .int 0, .int et, .int (nI zz), .int eg, .int ep])), (q 0, .inr (10, [.ref (q 20), .int (nI tl)])), (q 20, .inl (cI, 1600, .inl (fun j => nI (tb j))))]) ⟨hx, hb, hml, hown, hts⟩ hl.1 (c_elk_addUntold l D cI cJ cC cZ cS q jd2_22 jm2_23 yu yr yn yc yx y1 yf yt yb yw tl tb (by omega) (by omega) (un_0 hfn)) w_3_140 w_3_141 w_3_142 w_1_9 w_3_143 (by decide +kernel) ⟨⟨(Nat.le_of_ble_eq_true rfl), (Nat.le_of_ble_eq_true rfl)⟩, (Nat.le_of_ble_eq_true rfl), (Nat.le_of_ble_eq_true rfl)⟩ hK hP hD hS hA [12, 3, 2, 4, 5] [0, 1, 6, 7, 8, 9, 10, 11] rfl rfl (by decide +kernel) (by decide +kernel) (by decide +kernel) rfl rfl rfl rfl (Nat.le_of_ble_eq_true rfl) dX3_read_183 (fun u H locs hw hP hD hS => ?_)
            obtain ⟨jc2_53, jx2_54, k1__55, kf__56, kt__57, hjc2_58, hjx2_59, hun2_60, rfl⟩ := hw
            have hP : va_P D vwCl [(q 22, .inr (8, [.ref (q 2), .int 0])), (q 23, .inr (8, [.ref (q 2), .int 1])), (q 25, .inl (cI, 9, .inl yb)), (q 26, .inl (cI, 9, .inl yw)), (q 3, .inr (3, [.ref (q 2), .ref (q 22), .ref (q 23)])), (q 2, .inr (6, [.ref (q 0), .int (nI za), .int zw, .int 0, .int et, .int (nI zz), .int eg, .int ep])), (q 0, .inr (10, [.ref (q 20), .int (nI tl)])), (q 20, .inl (cI, 1600, .inl (fun j => nI (tb j)))), (q 6, .inr (2, [.ref (q 24), .ref (q 25), .ref (q 26), .ref (q 27), .ref (q 28), .int (nI jd2_22), .int (nI jm2_23), .int yu, .int yr, .int (nI yn)])), (q 24, .inr (0, [.ref (q 29), .ref (q 30), .ref (q 31), .ref (q 32), .int (nI jc2_53), .int (nI jx2_54)])), (q 29, .inl (cI, 1600, .inl k1__55)), (q 27, .inl (cI, 3, .inl kf__56)), (q 28, .inl (cI, 3, .inl kt__57))] H := hP
            have hD : va_D A [(q 22, .inr (8, [.ref (q 2), .int 0])), (q 23, .inr (8, [.ref (q 2), .int 1])), (q 25, .inl (cI, 9, .inl yb)), (q 26, .inl (cI, 9, .inl yw)), (q 3, .inr (3, [.ref (q 2), .ref (q 22), .ref (q 23)])), (q 2, .inr (6, [.ref (q 0), .int (nI za), .int zw, .int 0, .int et, .int (nI zz), .int eg, .int ep])), (q 0, .inr (10, [.ref (q 20), .int (nI tl)])), (q 20, .inl (cI, 1600, .inl (fun j => nI (tb j)))), (q 6, .inr (2, [.ref (q 24), .ref (q 25), .ref (q 26), .ref (q 27), .ref (q 28), .int (nI jd2_22), .int (nI jm2_23), .int yu, .int yr, .int (nI yn)])), (q 24, .inr (0, [.ref (q 29), .ref (q 30), .ref (q 31), .ref (q 32), .int (nI jc2_53), .int (nI jx2_54)])), (q 29, .inl (cI, 1600, .inl k1__55)), (q 27, .inl (cI, 3, .inl kf__56)), (q 28, .inl (cI, 3, .inl kt__57))] := hD
            have hP := hP.sub (ws' := [(q 3, .inr (3, [.ref (q 2), .ref (q 22), .ref (q 23)])), (q 2, .inr (6, [.ref (q 0), .int (nI za), .int zw, .int 0, .int et, .int (nI zz), .int eg, .int ep])), (q 0, .inr (10, [.ref (q 20), .int (nI tl)])), (q 20, .inl (cI, 1600, .inl (fun j => nI (tb j)))), (q 22, .inr (8, [.ref (q 2), .int 0])), (q 23, .inr (8, [.ref (q 2), .int 1])), (q 6, .inr (2, [.ref (q 24), .ref (q 25), .ref (q 26), .ref (q 27), .ref (q 28), .int (nI jd2_22), .int (nI jm2_23), .int yu, .int yr, .int (nI yn)])), (q 24, .inr (0, [.ref (q 29), .ref (q 30), .ref (q 31), .ref (q 32), .int (nI jc2_53), .int (nI jx2_54)])), (q 29, .inl (cI, 1600, .inl k1__55)), (q 27, .inl (cI, 3, .inl kf__56)), (q 28, .inl (cI, 3, .inl kt__57)), (q 25, .inl (cI, 9, .inl yb)), (q 26, .inl (cI, 9, .inl yw))]) [4, 5, 6, 7, 0, 1, 8, 9, 10, 11, 12, 2, 3] rfl
            have hD := hD.sub (ws' := [(q 3, .inr (3, [.ref (q 2), .ref (q 22), .ref (q 23)])), (q 2, .inr (6, [.ref (q 0), .int (nI za), .int zw, .int 0, .int et, .int (nI zz), .int eg, .int ep])), (q 0, .inr (10, [.ref (q 20), .int (nI tl)])), (q 20, .inl (cI, 1600, .inl (fun j => nI (tb j)))), (q 22, .inr (8, [.ref (q 2), .int 0])), (q 23, .inr (8, [.ref (q 2), .int 1])), (q 6, .inr (2, [.ref (q 24), .ref (q 25), .ref (q 26), .ref (q 27), .ref (q 28), .int (nI jd2_22), .int (nI jm2_23), .int yu, .int yr, .int (nI yn)])), (q 24, .inr (0, [.ref (q 29), .ref (q 30), .ref (q 31), .ref (q 32), .int (nI jc2_53), .int (nI jx2_54)])), (q 29, .inl (cI, 1600, .inl k1__55)), (q 27, .inl (cI, 3, .inl kf__56)), (q 28, .inl (cI, 3, .inl kt__57)), (q 25, .inl (cI, 9, .inl yb)), (q 26, .inl (cI, 9, .inl yw))]) [4, 5, 6, 7, 0, 1, 8, 9, 10, 11, 12, 2, 3] (by decide +kernel) rfl
            exact sk_vret hx hb hr hlocks hK hP hD hS (⟨za, zw, et, zz, eg, ep, jc2_53, jx2_54, k1__55, kf__56, kt__57, jd2_22, jm2_23, yn, yu, yr, yb, yw, by omega, by omega, by omega, by omega, by omega, by omega, by omega, by omega, fin_un hfn hun2_60, rfl⟩) (Nat.le_of_ble_eq_true rfl) (Nat.le_of_ble_eq_true rfl) dX3_read_186
          refine lv_aload_n hx hb dX3_read_146 rfl (lv_at hl 0 rfl) ?_
          refine sk_get (v := .ref (q 2)) (C := RX3) (T := TX3) (N := 3) hx hb hts inlX3 hown hK hP 8 rfl rfl 0 (by decide) w_1_107 rfl dX3_read_147 ?_
          refine sk_get (v := .int zg) (C := RX6) (T := TX6) (N := 8) hx hb hts inlX6 hown hK hP 9 rfl rfl 6 (by decide) w_1_67 rfl dX3_read_150 ?_
          refine lv_if_ne (tgt := 182) hx hb dX3_read_153 (by decide) (fun c_61 => ?_) (fun c => absurd c c_51)
          exact jn_52 zt zg zp _ _ _ (fin_er hzO c_51 hrem) hP hD hS (lv_sub hl [0, 1] rfl)
        · skip
          refine lv_aload_n hx hb dX3_read_35 rfl (lv_at hl 0 rfl) ?_
          refine sk_get (v := .ref (q 2)) (C := RX3) (T := TX3) (N := 3) hx hb hts inlX3 hown hK hP 8 rfl rfl 0 (by decide) w_1_107 rfl dX3_read_36 ?_
          refine sk_get (v := .int zt) (C := RX6) (T := TX6) (N := 8) hx hb hts inlX6 hown hK hP 9 rfl rfl 4 (by decide) w_1_62 rfl dX3_read_39 ?_
          refine lv_iconst (v := (-1)) hx hb dX3_read_42 (by decide) ?_
          refine lv_icmp_eq (tgt := 146) hx hb dX3_read_43 (by decide) (fun c_62 => ?_) (fun c_62 => ?_)
          · skip
            have jn_63 : ∀ (et : Int32) (eg : Int32) (ep : Int32) (H : Heap) (locs : List Loc) (ls : Array Slot), (fnO (lockP tb tl) eg ep yn jd2_22 jm2_23 yu yr yc yx y1 yf yt yb yw) → va_P D vwCl [(q 22, .inr (8, [.ref (q 2), .int 0])), (q 23, .inr (8, [.ref (q 2), .int 1])), (q 29, .inl (cI, 1600, .inl y1)), (q 24, .inr (0, [.ref (q 29), .ref (q 30), .ref (q 31), .ref (q 32), .int (nI yc), .int (nI yx)])), (q 27, .inl (cI, 3, .inl yf)), (q 28, .inl (cI, 3, .inl yt)), (q 25, .inl (cI, 9, .inl yb)), (q 26, .inl (cI, 9, .inl yw)), (q 3, .inr (3, [.ref (q 2), .ref (q 22), .ref (q 23)])), (q 2, .inr (6, [.ref (q 0), .int (nI za), .int zw, .int 0, .int et, .int (nI zz), .int eg, .int ep])), (q 0, .inr (10, [.ref (q 20), .int (nI tl)])), (q 20, .inl (cI, 1600, .inl (fun j => nI (tb j)))), (q 6, .inr (2, [.ref (q 24), .ref (q 25), .ref (q 26), .ref (q 27), .ref (q 28), .int (nI jd2_22), .int (nI jm2_23), .int yu, .int yr, .int (nI yn)]))] H → va_D A [(q 22, .inr (8, [.ref (q 2), .int 0])), (q 23, .inr (8, [.ref (q 2), .int 1])), (q 29, .inl (cI, 1600, .inl y1)), (q 24, .inr (0, [.ref (q 29), .ref (q 30), .ref (q 31), .ref (q 32), .int (nI yc), .int (nI yx)])), (q 27, .inl (cI, 3, .inl yf)), (q 28, .inl (cI, 3, .inl yt)), (q 25, .inl (cI, 9, .inl yb)), (q 26, .inl (cI, 9, .inl yw)), (q 3, .inr (3, [.ref (q 2), .ref (q 22), .ref (q 23)])), (q 2, .inr (6, [.ref (q 0), .int (nI za), .int zw, .int 0, .int et, .int (nI zz), .int eg, .int ep])), (q 0, .inr (10, [.ref (q 20), .int (nI tl)])), (q 20, .inl (cI, 1600, .inl (fun j => nI (tb j)))), (q 6, .inr (2, [.ref (q 24), .ref (q 25), .ref (q 26), .ref (q 27), .ref (q 28), .int (nI jd2_22), .int (nI jm2_23), .int yu, .int yr, .int (nI yn)]))] → va_S A s.heap H locs → lv_has ls 2 [(0, .ref (q 3)), (1, .ref (q 6))] → W p l e { frames := 56, cells := 0, slots := 0, locals := 1344 } s m ([.ref (q 3), .ref (q 6)] : List Value).toArray below meth c H locs 0 0 (MQ below (skV D (skT cI cJ cC cZ cS) (fun (u : va_W) => ∃ (xa2 : Nat), ∃ (xv2 : Int32), ∃ (xt2 : Int32), ∃ (xz2 : Nat), ∃ (xf2 : Int32), ∃ (xp2 : Int32), ∃ (jc2 : Nat), ∃ (jx2 : Nat), ∃ (k1_ : Nat → Int32), ∃ (kf_ : Nat → Int32), ∃ (kt_ : Nat → Int32), ∃ (jd2 : Nat), ∃ (jm2 : Nat), ∃ (jn2 : Nat), ∃ (ju2 : Int32), ∃ (jr2 : Int32), ∃ (jb2 : Nat → Int32), ∃ (jw2 : Nat → Int32), xa2 ≤ 1600 ∧ xz2 ≤ 1600 ∧ jc2 ≤ 1600 ∧ jx2 ≤ 1 ∧ 2 ≤ jd2 ∧ jd2 ≤ 9 ∧ jm2 ≤ 9 ∧ jn2 ≤ 60 ∧ finO tb tl xf2 xp2 jn2 jd2 jm2 ju2 jr2 jc2 jx2 k1_ kf_ kt_ jb2 jw2 ∧ u = [(q 3, .inr (3, [.ref (q 2), .ref (q 22), .ref (q 23)])), (q 2, .inr (6, [.ref (q 0), .int (nI xa2), .int xv2, .int 0, .int xt2, .int (nI xz2), .int xf2, .int xp2])), (q 0, .inr (10, [.ref (q 20), .int (nI tl)])), (q 20, .inl (cI, 1600, .inl (fun j => nI (tb j)))), (q 22, .inr (8, [.ref (q 2), .int 0])), (q 23, .inr (8, [.ref (q 2), .int 1])), (q 6, .inr (2, [.ref (q 24), .ref (q 25), .ref (q 26), .ref (q 27), .ref (q 28), .int (nI jd2), .int (nI jm2), .int ju2, .int jr2, .int (nI jn2)])), (q 24, .inr (0, [.ref (q 29), .ref (q 30), .ref (q 31), .ref (q 32), .int (nI jc2), .int (nI jx2)])), (q 29, .inl (cI, 1600, .inl k1_)), (q 27, .inl (cI, 3, .inl kf_)), (q 28, .inl (cI, 3, .inl kt_)), (q 25, .inl (cI, 9, .inl jb2)), (q 26, .inl (cI, 9, .inl jw2))]) A) ([.ref (q 3), .ref (q 6)] : List Value).toArray s 0 0 A) (F0 m 182 ls []) := by
              intro et eg ep H locs ls hfn hP hD hS hl
              refine lv_aload_n hx hb dX3_read_182 rfl (lv_at hl 1 rfl) ?_
              refine sk_Vv (q0 := 0) (n := 0) (rest := []) (wr := [(q 22, .inr (8, [.ref (q 2), .int 0])), (q 23, .inr (8, [.ref (q 2), .int 1])), (q 25, .inl (cI, 9, .inl yb)), (q 26, .inl (cI, 9, .inl yw)), (q 3, .inr (3, [.ref (q 2), .ref (q 22), .ref (q 23)])), (q 2, .inr (6, [.ref (q 0), .int (nI za), .int zw, .int 0, .int et, .int (nI zz), .int eg, .int ep])), (q 0, .inr (10, [.ref (q 20), .int (nI tl)])), (q 20, .inl (cI, 1600, .inl (fun j => nI (tb j))))]) ⟨hx, hb, hml, hown, hts⟩ hl.1 (c_elk_addUntold l D cI cJ cC cZ cS q jd2_22 jm2_23 yu yr yn yc yx y1 yf yt yb yw tl tb (by omega) (by omega) (un_0 hfn)) w_3_140 w_3_141 w_3_142 w_1_9 w_3_143 (by decide +kernel) ⟨⟨(Nat.le_of_ble_eq_true rfl), (Nat.le_of_ble_eq_true rfl)⟩, (Nat.le_of_ble_eq_true rfl), (Nat.le_of_ble_eq_true rfl)⟩ hK hP hD hS hA [12, 3, 2, 4, 5] [0, 1, 6, 7, 8, 9, 10, 11] rfl rfl (by decide +kernel) (by decide +kernel) (by decide +kernel) rfl rfl rfl rfl (Nat.le_of_ble_eq_true rfl) dX3_read_183 (fun u H locs hw hP hD hS => ?_)
              obtain ⟨jc2_64, jx2_65, k1__66, kf__67, kt__68, hjc2_69, hjx2_70, hun2_71, rfl⟩ := hw
              have hP : va_P D vwCl [(q 22, .inr (8, [.ref (q 2), .int 0])), (q 23, .inr (8, [.ref (q 2), .int 1])), (q 25, .inl (cI, 9, .inl yb)), (q 26, .inl (cI, 9, .inl yw)), (q 3, .inr (3, [.ref (q 2), .ref (q 22), .ref (q 23)])), (q 2, .inr (6, [.ref (q 0), .int (nI za), .int zw, .int 0, .int et, .int (nI zz), .int eg, .int ep])), (q 0, .inr (10, [.ref (q 20), .int (nI tl)])), (q 20, .inl (cI, 1600, .inl (fun j => nI (tb j)))), (q 6, .inr (2, [.ref (q 24), .ref (q 25), .ref (q 26), .ref (q 27), .ref (q 28), .int (nI jd2_22), .int (nI jm2_23), .int yu, .int yr, .int (nI yn)])), (q 24, .inr (0, [.ref (q 29), .ref (q 30), .ref (q 31), .ref (q 32), .int (nI jc2_64), .int (nI jx2_65)])), (q 29, .inl (cI, 1600, .inl k1__66)), (q 27, .inl (cI, 3, .inl kf__67)), (q 28, .inl (cI, 3, .inl kt__68))] H := hP
              have hD : va_D A [(q 22, .inr (8, [.ref (q 2), .int 0])), (q 23, .inr (8, [.ref (q 2), .int 1])), (q 25, .inl (cI, 9, .inl yb)), (q 26, .inl (cI, 9, .inl yw)), (q 3, .inr (3, [.ref (q 2), .ref (q 22), .ref (q 23)])), (q 2, .inr (6, [.ref (q 0), .int (nI za), .int zw, .int 0, .int et, .int (nI zz), .int eg, .int ep])), (q 0, .inr (10, [.ref (q 20), .int (nI tl)])), (q 20, .inl (cI, 1600, .inl (fun j => nI (tb j)))), (q 6, .inr (2, [.ref (q 24), .ref (q 25), .ref (q 26), .ref (q 27), .ref (q 28), .int (nI jd2_22), .int (nI jm2_23), .int yu, .int yr, .int (nI yn)])), (q 24, .inr (0, [.ref (q 29), .ref (q 30), .ref (q 31), .ref (q 32), .int (nI jc2_64), .int (nI jx2_65)])), (q 29, .inl (cI, 1600, .inl k1__66)), (q 27, .inl (cI, 3, .inl kf__67)), (q 28, .inl (cI, 3, .inl kt__68))] := hD
              have hP := hP.sub (ws' := [(q 3, .inr (3, [.ref (q 2), .ref (q 22), .ref (q 23)])), (q 2, .inr (6, [.ref (q 0), .int (nI za), .int zw, .int 0, .int et, .int (nI zz), .int eg, .int ep])), (q 0, .inr (10, [.ref (q 20), .int (nI tl)])), (q 20, .inl (cI, 1600, .inl (fun j => nI (tb j)))), (q 22, .inr (8, [.ref (q 2), .int 0])), (q 23, .inr (8, [.ref (q 2), .int 1])), (q 6, .inr (2, [.ref (q 24), .ref (q 25), .ref (q 26), .ref (q 27), .ref (q 28), .int (nI jd2_22), .int (nI jm2_23), .int yu, .int yr, .int (nI yn)])), (q 24, .inr (0, [.ref (q 29), .ref (q 30), .ref (q 31), .ref (q 32), .int (nI jc2_64), .int (nI jx2_65)])), (q 29, .inl (cI, 1600, .inl k1__66)), (q 27, .inl (cI, 3, .inl kf__67)), (q 28, .inl (cI, 3, .inl kt__68)), (q 25, .inl (cI, 9, .inl yb)), (q 26, .inl (cI, 9, .inl yw))]) [4, 5, 6, 7, 0, 1, 8, 9, 10, 11, 12, 2, 3] rfl
              have hD := hD.sub (ws' := [(q 3, .inr (3, [.ref (q 2), .ref (q 22), .ref (q 23)])), (q 2, .inr (6, [.ref (q 0), .int (nI za), .int zw, .int 0, .int et, .int (nI zz), .int eg, .int ep])), (q 0, .inr (10, [.ref (q 20), .int (nI tl)])), (q 20, .inl (cI, 1600, .inl (fun j => nI (tb j)))), (q 22, .inr (8, [.ref (q 2), .int 0])), (q 23, .inr (8, [.ref (q 2), .int 1])), (q 6, .inr (2, [.ref (q 24), .ref (q 25), .ref (q 26), .ref (q 27), .ref (q 28), .int (nI jd2_22), .int (nI jm2_23), .int yu, .int yr, .int (nI yn)])), (q 24, .inr (0, [.ref (q 29), .ref (q 30), .ref (q 31), .ref (q 32), .int (nI jc2_64), .int (nI jx2_65)])), (q 29, .inl (cI, 1600, .inl k1__66)), (q 27, .inl (cI, 3, .inl kf__67)), (q 28, .inl (cI, 3, .inl kt__68)), (q 25, .inl (cI, 9, .inl yb)), (q 26, .inl (cI, 9, .inl yw))]) [4, 5, 6, 7, 0, 1, 8, 9, 10, 11, 12, 2, 3] (by decide +kernel) rfl
              exact sk_vret hx hb hr hlocks hK hP hD hS (⟨za, zw, et, zz, eg, ep, jc2_64, jx2_65, k1__66, kf__67, kt__68, jd2_22, jm2_23, yn, yu, yr, yb, yw, by omega, by omega, by omega, by omega, by omega, by omega, by omega, by omega, fin_un hfn hun2_71, rfl⟩) (Nat.le_of_ble_eq_true rfl) (Nat.le_of_ble_eq_true rfl) dX3_read_186
            refine lv_aload_n hx hb dX3_read_146 rfl (lv_at hl 0 rfl) ?_
            refine sk_get (v := .ref (q 2)) (C := RX3) (T := TX3) (N := 3) hx hb hts inlX3 hown hK hP 8 rfl rfl 0 (by decide) w_1_107 rfl dX3_read_147 ?_
            refine sk_get (v := .int zg) (C := RX6) (T := TX6) (N := 8) hx hb hts inlX6 hown hK hP 9 rfl rfl 6 (by decide) w_1_67 rfl dX3_read_150 ?_
            refine lv_if_ne (tgt := 182) hx hb dX3_read_153 (by decide) (fun c => absurd c_51 c) (fun c_72 => ?_)
            refine lv_aload_n hx hb dX3_read_156 rfl (lv_at hl 0 rfl) ?_
            refine sk_get (v := .ref (q 2)) (C := RX3) (T := TX3) (N := 3) hx hb hts inlX3 hown hK hP 8 rfl rfl 0 (by decide) w_1_107 rfl dX3_read_157 ?_
            refine sk_get (v := .int zt) (C := RX6) (T := TX6) (N := 8) hx hb hts inlX6 hown hK hP 9 rfl rfl 4 (by decide) w_1_62 rfl dX3_read_160 ?_
            refine lv_iconst (v := (-1)) hx hb dX3_read_163 (by decide) ?_
            refine lv_icmp_eq (tgt := 182) hx hb dX3_read_164 (by decide) (fun c_73 => ?_) (fun c => absurd c_62 c)
            exact jn_63 zt zg zp _ _ _ (fin_end htb htl hzO c_51 c_62 (by omega) hz5 hrem) hP hD hS (lv_sub hl [0, 1] rfl)
          · skip
            have jn_74 : ∀ (o1_ : Nat → Int32) (oc : Nat) (ox : Nat) (of_ : Nat → Int32) (ot_ : Nat → Int32) (ob_ : Nat → Int32) (ow_ : Nat → Int32) (oa : Nat) (ow : Int32) (ot : Int32) (oz : Nat) (of0 : Int32) (op0 : Int32) (ou : Int32) (or_ : Int32) (omu : Nat → Bool) (wo : LkR) (H : Heap) (locs : List Loc) (ls : Array Slot), (llO tb tl wo oa ow ot oz of0 op0 jd2_22 jm2_23 ou or_ oc ox o1_ of_ ot_ ob_ ow_) → (oa ≤ 1600) → (oz ≤ 1600) → (oc ≤ 1600) → (ox ≤ 1) → (muO omu ou) → (wo = bindR zo (bodyR tb tl)) → va_P D vwCl [(q 22, .inr (8, [.ref (q 2), .int 0])), (q 23, .inr (8, [.ref (q 2), .int 1])), (q 29, .inl (cI, 1600, .inl o1_)), (q 24, .inr (0, [.ref (q 29), .ref (q 30), .ref (q 31), .ref (q 32), .int (nI oc), .int (nI ox)])), (q 27, .inl (cI, 3, .inl of_)), (q 28, .inl (cI, 3, .inl ot_)), (q 25, .inl (cI, 9, .inl ob_)), (q 26, .inl (cI, 9, .inl ow_)), (q 3, .inr (3, [.ref (q 2), .ref (q 22), .ref (q 23)])), (q 2, .inr (6, [.ref (q 0), .int (nI oa), .int ow, .int 0, .int ot, .int (nI oz), .int of0, .int op0])), (q 0, .inr (10, [.ref (q 20), .int (nI tl)])), (q 20, .inl (cI, 1600, .inl (fun j => nI (tb j)))), (q 6, .inr (2, [.ref (q 24), .ref (q 25), .ref (q 26), .ref (q 27), .ref (q 28), .int (nI jd2_22), .int (nI jm2_23), .int ou, .int or_, .int (nI yn)]))] H → va_D A [(q 22, .inr (8, [.ref (q 2), .int 0])), (q 23, .inr (8, [.ref (q 2), .int 1])), (q 29, .inl (cI, 1600, .inl o1_)), (q 24, .inr (0, [.ref (q 29), .ref (q 30), .ref (q 31), .ref (q 32), .int (nI oc), .int (nI ox)])), (q 27, .inl (cI, 3, .inl of_)), (q 28, .inl (cI, 3, .inl ot_)), (q 25, .inl (cI, 9, .inl ob_)), (q 26, .inl (cI, 9, .inl ow_)), (q 3, .inr (3, [.ref (q 2), .ref (q 22), .ref (q 23)])), (q 2, .inr (6, [.ref (q 0), .int (nI oa), .int ow, .int 0, .int ot, .int (nI oz), .int of0, .int op0])), (q 0, .inr (10, [.ref (q 20), .int (nI tl)])), (q 20, .inl (cI, 1600, .inl (fun j => nI (tb j)))), (q 6, .inr (2, [.ref (q 24), .ref (q 25), .ref (q 26), .ref (q 27), .ref (q 28), .int (nI jd2_22), .int (nI jm2_23), .int ou, .int or_, .int (nI yn)]))] → va_S A s.heap H locs → lv_has ls 2 [(0, .ref (q 3)), (1, .ref (q 6))] → W p l e { frames := 56, cells := 0, slots := 0, locals := 1344 } s m ([.ref (q 3), .ref (q 6)] : List Value).toArray below meth c H locs 0 0 (MQ below (skV D (skT cI cJ cC cZ cS) (fun (u : va_W) => ∃ (xa2 : Nat), ∃ (xv2 : Int32), ∃ (xt2 : Int32), ∃ (xz2 : Nat), ∃ (xf2 : Int32), ∃ (xp2 : Int32), ∃ (jc2 : Nat), ∃ (jx2 : Nat), ∃ (k1_ : Nat → Int32), ∃ (kf_ : Nat → Int32), ∃ (kt_ : Nat → Int32), ∃ (jd2 : Nat), ∃ (jm2 : Nat), ∃ (jn2 : Nat), ∃ (ju2 : Int32), ∃ (jr2 : Int32), ∃ (jb2 : Nat → Int32), ∃ (jw2 : Nat → Int32), xa2 ≤ 1600 ∧ xz2 ≤ 1600 ∧ jc2 ≤ 1600 ∧ jx2 ≤ 1 ∧ 2 ≤ jd2 ∧ jd2 ≤ 9 ∧ jm2 ≤ 9 ∧ jn2 ≤ 60 ∧ finO tb tl xf2 xp2 jn2 jd2 jm2 ju2 jr2 jc2 jx2 k1_ kf_ kt_ jb2 jw2 ∧ u = [(q 3, .inr (3, [.ref (q 2), .ref (q 22), .ref (q 23)])), (q 2, .inr (6, [.ref (q 0), .int (nI xa2), .int xv2, .int 0, .int xt2, .int (nI xz2), .int xf2, .int xp2])), (q 0, .inr (10, [.ref (q 20), .int (nI tl)])), (q 20, .inl (cI, 1600, .inl (fun j => nI (tb j)))), (q 22, .inr (8, [.ref (q 2), .int 0])), (q 23, .inr (8, [.ref (q 2), .int 1])), (q 6, .inr (2, [.ref (q 24), .ref (q 25), .ref (q 26), .ref (q 27), .ref (q 28), .int (nI jd2), .int (nI jm2), .int ju2, .int jr2, .int (nI jn2)])), (q 24, .inr (0, [.ref (q 29), .ref (q 30), .ref (q 31), .ref (q 32), .int (nI jc2), .int (nI jx2)])), (q 29, .inl (cI, 1600, .inl k1_)), (q 27, .inl (cI, 3, .inl kf_)), (q 28, .inl (cI, 3, .inl kt_)), (q 25, .inl (cI, 9, .inl jb2)), (q 26, .inl (cI, 9, .inl jw2))]) A) ([.ref (q 3), .ref (q 6)] : List Value).toArray s 0 0 A) (F0 m 124 ls []) := by
              intro o1_ oc ox of_ ot_ ob_ ow_ oa ow ot oz of0 op0 ou or_ omu wo H locs ls hwO hoa hoz hoc hox hom hwb hP hD hS hl
              refine lv_aload_n hx hb dX3_read_124 rfl (lv_at hl 0 rfl) ?_
              refine sk_get (v := .ref (q 2)) (C := RX3) (T := TX3) (N := 3) hx hb hts inlX3 hown hK hP 8 rfl rfl 0 (by decide) w_1_107 rfl dX3_read_125 ?_
              refine lv_bipush (v := 59) hx hb dX3_read_128 (by decide) ?_
              refine sk_VvZ (q0 := 0) (n := 1) (rest := []) (wr := [(q 22, .inr (8, [.ref (q 2), .int 0])), (q 23, .inr (8, [.ref (q 2), .int 1])), (q 29, .inl (cI, 1600, .inl o1_)), (q 24, .inr (0, [.ref (q 29), .ref (q 30), .ref (q 31), .ref (q 32), .int (nI oc), .int (nI ox)])), (q 27, .inl (cI, 3, .inl of_)), (q 28, .inl (cI, 3, .inl ot_)), (q 25, .inl (cI, 9, .inl ob_)), (q 26, .inl (cI, 9, .inl ow_)), (q 3, .inr (3, [.ref (q 2), .ref (q 22), .ref (q 23)])), (q 6, .inr (2, [.ref (q 24), .ref (q 25), .ref (q 26), .ref (q 27), .ref (q 28), .int (nI jd2_22), .int (nI jm2_23), .int ou, .int or_, .int (nI yn)]))]) ⟨hx, hb, hml, hown, hts⟩ hl.1 (c_erd_needs l D cI cJ cC cZ cS zk zv zf q oa ow 0 ot oz of0 op0 tl tb 59 (lc wo) (by omega) (by omega) (by omega) htb (by decide) (hwO).1) w_3_50 w_3_51 w_3_52 w_1_4 w_3_53 (by decide +kernel) ⟨⟨(Nat.le_of_ble_eq_true rfl), (Nat.le_of_ble_eq_true rfl)⟩, (Nat.le_of_ble_eq_true rfl), (Nat.le_of_ble_eq_true rfl)⟩ hK hP hD hS hZ hA [9, 10, 11] [0, 1, 2, 3, 4, 5, 6, 7, 8, 12] rfl rfl (by decide +kernel) (by decide +kernel) (by decide +kernel) rfl rfl rfl rfl (Nat.le_of_ble_eq_true rfl) dX3_read_130 (fun u H locs hw hP hD hS => ?_)
              obtain ⟨xa2_75, xv2_76, xt2_77, xz2_78, xf2_79, xp2_80, hxa2_81, hxz2_82, hO2_83, rfl⟩ := hw
              have hP : va_P D vwCl [(q 22, .inr (8, [.ref (q 2), .int 0])), (q 23, .inr (8, [.ref (q 2), .int 1])), (q 29, .inl (cI, 1600, .inl o1_)), (q 24, .inr (0, [.ref (q 29), .ref (q 30), .ref (q 31), .ref (q 32), .int (nI oc), .int (nI ox)])), (q 27, .inl (cI, 3, .inl of_)), (q 28, .inl (cI, 3, .inl ot_)), (q 25, .inl (cI, 9, .inl ob_)), (q 26, .inl (cI, 9, .inl ow_)), (q 3, .inr (3, [.ref (q 2), .ref (q 22), .ref (q 23)])), (q 6, .inr (2, [.ref (q 24), .ref (q 25), .ref (q 26), .ref (q 27), .ref (q 28), .int (nI jd2_22), .int (nI jm2_23), .int ou, .int or_, .int (nI yn)])), (q 2, .inr (6, [.ref (q 0), .int (nI xa2_75), .int xv2_76, .int 0, .int xt2_77, .int (nI xz2_78), .int xf2_79, .int xp2_80])), (q 0, .inr (10, [.ref (q 20), .int (nI tl)])), (q 20, .inl (cI, 1600, .inl (fun j => nI (tb j))))] H := hP
              have hD : va_D A [(q 22, .inr (8, [.ref (q 2), .int 0])), (q 23, .inr (8, [.ref (q 2), .int 1])), (q 29, .inl (cI, 1600, .inl o1_)), (q 24, .inr (0, [.ref (q 29), .ref (q 30), .ref (q 31), .ref (q 32), .int (nI oc), .int (nI ox)])), (q 27, .inl (cI, 3, .inl of_)), (q 28, .inl (cI, 3, .inl ot_)), (q 25, .inl (cI, 9, .inl ob_)), (q 26, .inl (cI, 9, .inl ow_)), (q 3, .inr (3, [.ref (q 2), .ref (q 22), .ref (q 23)])), (q 6, .inr (2, [.ref (q 24), .ref (q 25), .ref (q 26), .ref (q 27), .ref (q 28), .int (nI jd2_22), .int (nI jm2_23), .int ou, .int or_, .int (nI yn)])), (q 2, .inr (6, [.ref (q 0), .int (nI xa2_75), .int xv2_76, .int 0, .int xt2_77, .int (nI xz2_78), .int xf2_79, .int xp2_80])), (q 0, .inr (10, [.ref (q 20), .int (nI tl)])), (q 20, .inl (cI, 1600, .inl (fun j => nI (tb j))))] := hD
              have hO_84 := ll_ld hwO hO2_83
              refine lv_aload_n hx hb dX3_read_133 rfl (lv_at hl 1 rfl) ?_
              refine lv_dup hx hb dX3_read_134 rfl ?_
              refine sk_get (v := .int (nI yn)) (C := RX2) (T := TX2) (N := 10) hx hb hts inlX2 hown hK hP 9 rfl rfl 9 (by decide) w_1_201 rfl dX3_read_135 ?_
              refine lv_iconst (v := 1) hx hb dX3_read_138 (by decide) ?_
              refine lv_iadd hx hb dX3_read_139 ?_
              refine sk_top (nI (yn + 1)) (nI_add yn 1) ?_
              refine sk_put (ws' := [(q 22, .inr (8, [.ref (q 2), .int 0])), (q 23, .inr (8, [.ref (q 2), .int 1])), (q 29, .inl (cI, 1600, .inl o1_)), (q 24, .inr (0, [.ref (q 29), .ref (q 30), .ref (q 31), .ref (q 32), .int (nI oc), .int (nI ox)])), (q 27, .inl (cI, 3, .inl of_)), (q 28, .inl (cI, 3, .inl ot_)), (q 25, .inl (cI, 9, .inl ob_)), (q 26, .inl (cI, 9, .inl ow_)), (q 3, .inr (3, [.ref (q 2), .ref (q 22), .ref (q 23)])), (q 6, .inr (2, [.ref (q 24), .ref (q 25), .ref (q 26), .ref (q 27), .ref (q 28), .int (nI jd2_22), .int (nI jm2_23), .int ou, .int or_, .int (nI (yn + 1))])), (q 2, .inr (6, [.ref (q 0), .int (nI xa2_75), .int xv2_76, .int 0, .int xt2_77, .int (nI xz2_78), .int xf2_79, .int xp2_80])), (q 0, .inr (10, [.ref (q 20), .int (nI tl)])), (q 20, .inl (cI, 1600, .inl (fun j => nI (tb j))))]) (C := RX2) (T := TX2) (N := 10) (v := .int (nI (yn + 1))) hx hb hts inlX2 tyX2 tyX2_ok nmX2 hown hK hP hD hS 9 rfl rfl 9 (by decide) w_1_201 rfl rfl rfl (Nat.le_of_ble_eq_true rfl) rfl dX3_read_140 (fun H locs hP hD hS => ?_)
              refine lv_goto (tgt := 16) hx hb dX3_read_143 (by decide) ?_
              have hP := hP.sub (ws' := [(q 22, .inr (8, [.ref (q 2), .int 0])), (q 23, .inr (8, [.ref (q 2), .int 1])), (q 29, .inl (cI, 1600, .inl o1_)), (q 24, .inr (0, [.ref (q 29), .ref (q 30), .ref (q 31), .ref (q 32), .int (nI oc), .int (nI ox)])), (q 27, .inl (cI, 3, .inl of_)), (q 28, .inl (cI, 3, .inl ot_)), (q 25, .inl (cI, 9, .inl ob_)), (q 26, .inl (cI, 9, .inl ow_)), (q 3, .inr (3, [.ref (q 2), .ref (q 22), .ref (q 23)])), (q 2, .inr (6, [.ref (q 0), .int (nI xa2_75), .int xv2_76, .int 0, .int xt2_77, .int (nI xz2_78), .int xf2_79, .int xp2_80])), (q 0, .inr (10, [.ref (q 20), .int (nI tl)])), (q 20, .inl (cI, 1600, .inl (fun j => nI (tb j)))), (q 6, .inr (2, [.ref (q 24), .ref (q 25), .ref (q 26), .ref (q 27), .ref (q 28), .int (nI jd2_22), .int (nI jm2_23), .int ou, .int or_, .int (nI (yn + 1))]))]) [0, 1, 2, 3, 4, 5, 6, 7, 8, 10, 11, 12, 9] rfl
              have hD := hD.sub (ws' := [(q 22, .inr (8, [.ref (q 2), .int 0])), (q 23, .inr (8, [.ref (q 2), .int 1])), (q 29, .inl (cI, 1600, .inl o1_)), (q 24, .inr (0, [.ref (q 29), .ref (q 30), .ref (q 31), .ref (q 32), .int (nI oc), .int (nI ox)])), (q 27, .inl (cI, 3, .inl of_)), (q 28, .inl (cI, 3, .inl ot_)), (q 25, .inl (cI, 9, .inl ob_)), (q 26, .inl (cI, 9, .inl ow_)), (q 3, .inr (3, [.ref (q 2), .ref (q 22), .ref (q 23)])), (q 2, .inr (6, [.ref (q 0), .int (nI xa2_75), .int xv2_76, .int 0, .int xt2_77, .int (nI xz2_78), .int xf2_79, .int xp2_80])), (q 0, .inr (10, [.ref (q 20), .int (nI tl)])), (q 20, .inl (cI, 1600, .inl (fun j => nI (tb j)))), (q 6, .inr (2, [.ref (q 24), .ref (q 25), .ref (q 26), .ref (q 27), .ref (q 28), .int (nI jd2_22), .int (nI jm2_23), .int ou, .int or_, .int (nI (yn + 1))]))]) [0, 1, 2, 3, 4, 5, 6, 7, 8, 10, 11, 12, 9] (by decide +kernel) rfl
              exact ih_lp_33 o1_ oc ox of_ ot_ ob_ ow_ xa2_75 xv2_76 xt2_77 xz2_78 xf2_79 xp2_80 ou or_ (yn + 1) omu (ld wo (tkF tb tl 59)) _ _ _ (by omega) hO_84 (by omega) (by omega) (by omega) (by omega) (by omega) hom (len5_ld (fwd_tk (tb := tb) (n := tl) (w := 59)) (by rw [hwb]; exact len5_b hz5)) (lk_s htb hzO c_62 (by omega) hwb hrem) hP hD hS (lv_sub hl [0, 1] rfl)
            refine lv_aload_n hx hb dX3_read_46 rfl (lv_at hl 0 rfl) ?_
            refine sk_get (v := .ref (q 2)) (C := RX3) (T := TX3) (N := 3) hx hb hts inlX3 hown hK hP 8 rfl rfl 0 (by decide) w_1_107 rfl dX3_read_47 ?_
            refine sk_get (v := .int zt) (C := RX6) (T := TX6) (N := 8) hx hb hts inlX6 hown hK hP 9 rfl rfl 4 (by decide) w_1_62 rfl dX3_read_50 ?_
            by_cases g_85 : zt = 261
            · refine lv_tableIn (off := 27) (tgt := 80) hx hb dX3_read_53 (by rw [g_85]; decide) (by rw [g_85]; decide) (by rw [g_85]; rfl) (by decide) ?_
              refine lv_aload_n hx hb dX3_read_80 rfl (lv_at hl 0 rfl) ?_
              refine lv_aload_n hx hb dX3_read_81 rfl (lv_at hl 1 rfl) ?_
              refine lv_iconst (v := 0) hx hb dX3_read_82 (by decide) ?_
              refine lv_aload_n hx hb dX3_read_83 rfl (lv_at hl 0 rfl) ?_
              refine sk_get (v := .ref (q 22)) (C := RX3) (T := TX3) (N := 3) hx hb hts inlX3 hown hK hP 8 rfl rfl 1 (by decide) w_1_108 rfl dX3_read_84 ?_
              refine sk_VvZ (q0 := 0) (n := 3) (rest := []) (wr := [(q 23, .inr (8, [.ref (q 2), .int 1])), (q 25, .inl (cI, 9, .inl yb)), (q 26, .inl (cI, 9, .inl yw))]) ⟨hx, hb, hml, hown, hts⟩ hl.1 (c_elt_sumOf l D cI cJ cC cZ cS zk zv zf q za zw zt zz zg zp tl tb jd2_22 jm2_23 yu yr yn yc yx y1 yf yt (q 22) 0 0 (lr zo) (by omega) (by omega) (by omega) htb (by omega) (by omega) (by omega) (by omega) ⟨by rw [g_85]; decide, by rw [g_85]; decide⟩ (lr_rs hzO) (lr_len hz5)) w_3_66 w_3_68 w_0_5 w_1_5 w_3_69 (by decide +kernel) ⟨⟨(Nat.le_of_ble_eq_true rfl), (Nat.le_of_ble_eq_true rfl)⟩, (Nat.le_of_ble_eq_true rfl), (Nat.le_of_ble_eq_true rfl)⟩ hK hP hD hS hZ hA [8, 9, 10, 11, 0, 12, 3, 2, 4, 5] [1, 6, 7] rfl rfl (by decide +kernel) (by decide +kernel) (by decide +kernel) rfl rfl rfl rfl (Nat.le_of_ble_eq_true rfl) dX3_read_87 (fun u H locs hw hP hD hS => ?_)
              obtain ⟨xa2_86, xv2_87, xt2_88, xz2_89, xf2_90, xp2_91, jc2_92, jx2_93, k1__94, kf__95, kt__96, hxa2_97, hxz2_98, hjc2_99, hjx2_100, hsm_101, rfl⟩ := hw
              have hP : va_P D vwCl [(q 23, .inr (8, [.ref (q 2), .int 1])), (q 25, .inl (cI, 9, .inl yb)), (q 26, .inl (cI, 9, .inl yw)), (q 3, .inr (3, [.ref (q 2), .ref (q 22), .ref (q 23)])), (q 2, .inr (6, [.ref (q 0), .int (nI xa2_86), .int xv2_87, .int 0, .int xt2_88, .int (nI xz2_89), .int xf2_90, .int xp2_91])), (q 0, .inr (10, [.ref (q 20), .int (nI tl)])), (q 20, .inl (cI, 1600, .inl (fun j => nI (tb j)))), (q 22, .inr (8, [.ref (q 2), .int 0])), (q 6, .inr (2, [.ref (q 24), .ref (q 25), .ref (q 26), .ref (q 27), .ref (q 28), .int (nI jd2_22), .int (nI jm2_23), .int yu, .int yr, .int (nI yn)])), (q 24, .inr (0, [.ref (q 29), .ref (q 30), .ref (q 31), .ref (q 32), .int (nI jc2_92), .int (nI jx2_93)])), (q 29, .inl (cI, 1600, .inl k1__94)), (q 27, .inl (cI, 3, .inl kf__95)), (q 28, .inl (cI, 3, .inl kt__96))] H := hP
              have hD : va_D A [(q 23, .inr (8, [.ref (q 2), .int 1])), (q 25, .inl (cI, 9, .inl yb)), (q 26, .inl (cI, 9, .inl yw)), (q 3, .inr (3, [.ref (q 2), .ref (q 22), .ref (q 23)])), (q 2, .inr (6, [.ref (q 0), .int (nI xa2_86), .int xv2_87, .int 0, .int xt2_88, .int (nI xz2_89), .int xf2_90, .int xp2_91])), (q 0, .inr (10, [.ref (q 20), .int (nI tl)])), (q 20, .inl (cI, 1600, .inl (fun j => nI (tb j)))), (q 22, .inr (8, [.ref (q 2), .int 0])), (q 6, .inr (2, [.ref (q 24), .ref (q 25), .ref (q 26), .ref (q 27), .ref (q 28), .int (nI jd2_22), .int (nI jm2_23), .int yu, .int yr, .int (nI yn)])), (q 24, .inr (0, [.ref (q 29), .ref (q 30), .ref (q 31), .ref (q 32), .int (nI jc2_92), .int (nI jx2_93)])), (q 29, .inl (cI, 1600, .inl k1__94)), (q 27, .inl (cI, 3, .inl kf__95)), (q 28, .inl (cI, 3, .inl kt__96))] := hD
              have hO_102 := ll_sum htb htl hzO (by decide) (Or.inl ⟨g_85, rfl, rfl⟩) hz5 hsm_101
              refine lv_goto (tgt := 124) hx hb dX3_read_90 (by decide) ?_
              have hP := hP.sub (ws' := [(q 22, .inr (8, [.ref (q 2), .int 0])), (q 23, .inr (8, [.ref (q 2), .int 1])), (q 29, .inl (cI, 1600, .inl k1__94)), (q 24, .inr (0, [.ref (q 29), .ref (q 30), .ref (q 31), .ref (q 32), .int (nI jc2_92), .int (nI jx2_93)])), (q 27, .inl (cI, 3, .inl kf__95)), (q 28, .inl (cI, 3, .inl kt__96)), (q 25, .inl (cI, 9, .inl yb)), (q 26, .inl (cI, 9, .inl yw)), (q 3, .inr (3, [.ref (q 2), .ref (q 22), .ref (q 23)])), (q 2, .inr (6, [.ref (q 0), .int (nI xa2_86), .int xv2_87, .int 0, .int xt2_88, .int (nI xz2_89), .int xf2_90, .int xp2_91])), (q 0, .inr (10, [.ref (q 20), .int (nI tl)])), (q 20, .inl (cI, 1600, .inl (fun j => nI (tb j)))), (q 6, .inr (2, [.ref (q 24), .ref (q 25), .ref (q 26), .ref (q 27), .ref (q 28), .int (nI jd2_22), .int (nI jm2_23), .int yu, .int yr, .int (nI yn)]))]) [7, 0, 10, 9, 11, 12, 1, 2, 3, 4, 5, 6, 8] rfl
              have hD := hD.sub (ws' := [(q 22, .inr (8, [.ref (q 2), .int 0])), (q 23, .inr (8, [.ref (q 2), .int 1])), (q 29, .inl (cI, 1600, .inl k1__94)), (q 24, .inr (0, [.ref (q 29), .ref (q 30), .ref (q 31), .ref (q 32), .int (nI jc2_92), .int (nI jx2_93)])), (q 27, .inl (cI, 3, .inl kf__95)), (q 28, .inl (cI, 3, .inl kt__96)), (q 25, .inl (cI, 9, .inl yb)), (q 26, .inl (cI, 9, .inl yw)), (q 3, .inr (3, [.ref (q 2), .ref (q 22), .ref (q 23)])), (q 2, .inr (6, [.ref (q 0), .int (nI xa2_86), .int xv2_87, .int 0, .int xt2_88, .int (nI xz2_89), .int xf2_90, .int xp2_91])), (q 0, .inr (10, [.ref (q 20), .int (nI tl)])), (q 20, .inl (cI, 1600, .inl (fun j => nI (tb j)))), (q 6, .inr (2, [.ref (q 24), .ref (q 25), .ref (q 26), .ref (q 27), .ref (q 28), .int (nI jd2_22), .int (nI jm2_23), .int yu, .int yr, .int (nI yn)]))]) [7, 0, 10, 9, 11, 12, 1, 2, 3, 4, 5, 6, 8] (by decide +kernel) rfl
              exact jn_74 k1__94 jc2_92 jx2_93 kf__95 kt__96 yb yw xa2_86 xv2_87 xt2_88 xz2_89 xf2_90 xp2_91 yu yr zmu (bindR zo (bodyR tb tl)) _ _ _ hO_102 (by omega) (by omega) (by omega) (by omega) hzm rfl hP hD hS (lv_sub hl [0, 1] rfl)
            by_cases g_103 : zt = 262
            · refine lv_tableIn (off := 40) (tgt := 93) hx hb dX3_read_53 (by rw [g_103]; decide) (by rw [g_103]; decide) (by rw [g_103]; rfl) (by decide) ?_
              refine lv_aload_n hx hb dX3_read_93 rfl (lv_at hl 0 rfl) ?_
              refine lv_aload_n hx hb dX3_read_94 rfl (lv_at hl 1 rfl) ?_
              refine lv_iconst (v := 1) hx hb dX3_read_95 (by decide) ?_
              refine lv_aload_n hx hb dX3_read_96 rfl (lv_at hl 0 rfl) ?_
              refine sk_get (v := .ref (q 23)) (C := RX3) (T := TX3) (N := 3) hx hb hts inlX3 hown hK hP 8 rfl rfl 2 (by decide) w_1_109 rfl dX3_read_97 ?_
              refine sk_VvZ (q0 := 0) (n := 3) (rest := []) (wr := [(q 22, .inr (8, [.ref (q 2), .int 0])), (q 25, .inl (cI, 9, .inl yb)), (q 26, .inl (cI, 9, .inl yw))]) ⟨hx, hb, hml, hown, hts⟩ hl.1 (c_elt_sumOf l D cI cJ cC cZ cS zk zv zf q za zw zt zz zg zp tl tb jd2_22 jm2_23 yu yr yn yc yx y1 yf yt (q 23) 1 1 (lr zo) (by omega) (by omega) (by omega) htb (by omega) (by omega) (by omega) (by omega) ⟨by rw [g_103]; decide, by rw [g_103]; decide⟩ (lr_rs hzO) (lr_len hz5)) w_3_66 w_3_68 w_0_5 w_1_5 w_3_69 (by decide +kernel) ⟨⟨(Nat.le_of_ble_eq_true rfl), (Nat.le_of_ble_eq_true rfl)⟩, (Nat.le_of_ble_eq_true rfl), (Nat.le_of_ble_eq_true rfl)⟩ hK hP hD hS hZ hA [8, 9, 10, 11, 1, 12, 3, 2, 4, 5] [0, 6, 7] rfl rfl (by decide +kernel) (by decide +kernel) (by decide +kernel) rfl rfl rfl rfl (Nat.le_of_ble_eq_true rfl) dX3_read_100 (fun u H locs hw hP hD hS => ?_)
              obtain ⟨xa2_104, xv2_105, xt2_106, xz2_107, xf2_108, xp2_109, jc2_110, jx2_111, k1__112, kf__113, kt__114, hxa2_115, hxz2_116, hjc2_117, hjx2_118, hsm_119, rfl⟩ := hw
              have hP : va_P D vwCl [(q 22, .inr (8, [.ref (q 2), .int 0])), (q 25, .inl (cI, 9, .inl yb)), (q 26, .inl (cI, 9, .inl yw)), (q 3, .inr (3, [.ref (q 2), .ref (q 22), .ref (q 23)])), (q 2, .inr (6, [.ref (q 0), .int (nI xa2_104), .int xv2_105, .int 0, .int xt2_106, .int (nI xz2_107), .int xf2_108, .int xp2_109])), (q 0, .inr (10, [.ref (q 20), .int (nI tl)])), (q 20, .inl (cI, 1600, .inl (fun j => nI (tb j)))), (q 23, .inr (8, [.ref (q 2), .int 1])), (q 6, .inr (2, [.ref (q 24), .ref (q 25), .ref (q 26), .ref (q 27), .ref (q 28), .int (nI jd2_22), .int (nI jm2_23), .int yu, .int yr, .int (nI yn)])), (q 24, .inr (0, [.ref (q 29), .ref (q 30), .ref (q 31), .ref (q 32), .int (nI jc2_110), .int (nI jx2_111)])), (q 29, .inl (cI, 1600, .inl k1__112)), (q 27, .inl (cI, 3, .inl kf__113)), (q 28, .inl (cI, 3, .inl kt__114))] H := hP
              have hD : va_D A [(q 22, .inr (8, [.ref (q 2), .int 0])), (q 25, .inl (cI, 9, .inl yb)), (q 26, .inl (cI, 9, .inl yw)), (q 3, .inr (3, [.ref (q 2), .ref (q 22), .ref (q 23)])), (q 2, .inr (6, [.ref (q 0), .int (nI xa2_104), .int xv2_105, .int 0, .int xt2_106, .int (nI xz2_107), .int xf2_108, .int xp2_109])), (q 0, .inr (10, [.ref (q 20), .int (nI tl)])), (q 20, .inl (cI, 1600, .inl (fun j => nI (tb j)))), (q 23, .inr (8, [.ref (q 2), .int 1])), (q 6, .inr (2, [.ref (q 24), .ref (q 25), .ref (q 26), .ref (q 27), .ref (q 28), .int (nI jd2_22), .int (nI jm2_23), .int yu, .int yr, .int (nI yn)])), (q 24, .inr (0, [.ref (q 29), .ref (q 30), .ref (q 31), .ref (q 32), .int (nI jc2_110), .int (nI jx2_111)])), (q 29, .inl (cI, 1600, .inl k1__112)), (q 27, .inl (cI, 3, .inl kf__113)), (q 28, .inl (cI, 3, .inl kt__114))] := hD
              have hO_120 := ll_sum htb htl hzO (by decide) (Or.inr (Or.inl ⟨g_103, rfl, rfl⟩)) hz5 hsm_119
              refine lv_goto (tgt := 124) hx hb dX3_read_103 (by decide) ?_
              have hP := hP.sub (ws' := [(q 22, .inr (8, [.ref (q 2), .int 0])), (q 23, .inr (8, [.ref (q 2), .int 1])), (q 29, .inl (cI, 1600, .inl k1__112)), (q 24, .inr (0, [.ref (q 29), .ref (q 30), .ref (q 31), .ref (q 32), .int (nI jc2_110), .int (nI jx2_111)])), (q 27, .inl (cI, 3, .inl kf__113)), (q 28, .inl (cI, 3, .inl kt__114)), (q 25, .inl (cI, 9, .inl yb)), (q 26, .inl (cI, 9, .inl yw)), (q 3, .inr (3, [.ref (q 2), .ref (q 22), .ref (q 23)])), (q 2, .inr (6, [.ref (q 0), .int (nI xa2_104), .int xv2_105, .int 0, .int xt2_106, .int (nI xz2_107), .int xf2_108, .int xp2_109])), (q 0, .inr (10, [.ref (q 20), .int (nI tl)])), (q 20, .inl (cI, 1600, .inl (fun j => nI (tb j)))), (q 6, .inr (2, [.ref (q 24), .ref (q 25), .ref (q 26), .ref (q 27), .ref (q 28), .int (nI jd2_22), .int (nI jm2_23), .int yu, .int yr, .int (nI yn)]))]) [0, 7, 10, 9, 11, 12, 1, 2, 3, 4, 5, 6, 8] rfl
              have hD := hD.sub (ws' := [(q 22, .inr (8, [.ref (q 2), .int 0])), (q 23, .inr (8, [.ref (q 2), .int 1])), (q 29, .inl (cI, 1600, .inl k1__112)), (q 24, .inr (0, [.ref (q 29), .ref (q 30), .ref (q 31), .ref (q 32), .int (nI jc2_110), .int (nI jx2_111)])), (q 27, .inl (cI, 3, .inl kf__113)), (q 28, .inl (cI, 3, .inl kt__114)), (q 25, .inl (cI, 9, .inl yb)), (q 26, .inl (cI, 9, .inl yw)), (q 3, .inr (3, [.ref (q 2), .ref (q 22), .ref (q 23)])), (q 2, .inr (6, [.ref (q 0), .int (nI xa2_104), .int xv2_105, .int 0, .int xt2_106, .int (nI xz2_107), .int xf2_108, .int xp2_109])), (q 0, .inr (10, [.ref (q 20), .int (nI tl)])), (q 20, .inl (cI, 1600, .inl (fun j => nI (tb j)))), (q 6, .inr (2, [.ref (q 24), .ref (q 25), .ref (q 26), .ref (q 27), .ref (q 28), .int (nI jd2_22), .int (nI jm2_23), .int yu, .int yr, .int (nI yn)]))]) [0, 7, 10, 9, 11, 12, 1, 2, 3, 4, 5, 6, 8] (by decide +kernel) rfl
              exact jn_74 k1__112 jc2_110 jx2_111 kf__113 kt__114 yb yw xa2_104 xv2_105 xt2_106 xz2_107 xf2_108 xp2_109 yu yr zmu (bindR zo (bodyR tb tl)) _ _ _ hO_120 (by omega) (by omega) (by omega) (by omega) hzm rfl hP hD hS (lv_sub hl [0, 1] rfl)
            by_cases g_121 : zt = 263
            · refine lv_tableIn (off := 53) (tgt := 106) hx hb dX3_read_53 (by rw [g_121]; decide) (by rw [g_121]; decide) (by rw [g_121]; rfl) (by decide) ?_
              refine lv_aload_n hx hb dX3_read_106 rfl (lv_at hl 0 rfl) ?_
              refine lv_aload_n hx hb dX3_read_107 rfl (lv_at hl 1 rfl) ?_
              refine lv_iconst (v := 2) hx hb dX3_read_108 (by decide) ?_
              refine lv_aload_n hx hb dX3_read_109 rfl (lv_at hl 0 rfl) ?_
              refine sk_get (v := .ref (q 22)) (C := RX3) (T := TX3) (N := 3) hx hb hts inlX3 hown hK hP 8 rfl rfl 1 (by decide) w_1_108 rfl dX3_read_110 ?_
              refine sk_VvZ (q0 := 0) (n := 3) (rest := []) (wr := [(q 23, .inr (8, [.ref (q 2), .int 1])), (q 25, .inl (cI, 9, .inl yb)), (q 26, .inl (cI, 9, .inl yw))]) ⟨hx, hb, hml, hown, hts⟩ hl.1 (c_elt_sumOf l D cI cJ cC cZ cS zk zv zf q za zw zt zz zg zp tl tb jd2_22 jm2_23 yu yr yn yc yx y1 yf yt (q 22) 0 2 (lr zo) (by omega) (by omega) (by omega) htb (by omega) (by omega) (by omega) (by omega) ⟨by rw [g_121]; decide, by rw [g_121]; decide⟩ (lr_rs hzO) (lr_len hz5)) w_3_66 w_3_68 w_0_5 w_1_5 w_3_69 (by decide +kernel) ⟨⟨(Nat.le_of_ble_eq_true rfl), (Nat.le_of_ble_eq_true rfl)⟩, (Nat.le_of_ble_eq_true rfl), (Nat.le_of_ble_eq_true rfl)⟩ hK hP hD hS hZ hA [8, 9, 10, 11, 0, 12, 3, 2, 4, 5] [1, 6, 7] rfl rfl (by decide +kernel) (by decide +kernel) (by decide +kernel) rfl rfl rfl rfl (Nat.le_of_ble_eq_true rfl) dX3_read_113 (fun u H locs hw hP hD hS => ?_)
              obtain ⟨xa2_122, xv2_123, xt2_124, xz2_125, xf2_126, xp2_127, jc2_128, jx2_129, k1__130, kf__131, kt__132, hxa2_133, hxz2_134, hjc2_135, hjx2_136, hsm_137, rfl⟩ := hw
              have hP : va_P D vwCl [(q 23, .inr (8, [.ref (q 2), .int 1])), (q 25, .inl (cI, 9, .inl yb)), (q 26, .inl (cI, 9, .inl yw)), (q 3, .inr (3, [.ref (q 2), .ref (q 22), .ref (q 23)])), (q 2, .inr (6, [.ref (q 0), .int (nI xa2_122), .int xv2_123, .int 0, .int xt2_124, .int (nI xz2_125), .int xf2_126, .int xp2_127])), (q 0, .inr (10, [.ref (q 20), .int (nI tl)])), (q 20, .inl (cI, 1600, .inl (fun j => nI (tb j)))), (q 22, .inr (8, [.ref (q 2), .int 0])), (q 6, .inr (2, [.ref (q 24), .ref (q 25), .ref (q 26), .ref (q 27), .ref (q 28), .int (nI jd2_22), .int (nI jm2_23), .int yu, .int yr, .int (nI yn)])), (q 24, .inr (0, [.ref (q 29), .ref (q 30), .ref (q 31), .ref (q 32), .int (nI jc2_128), .int (nI jx2_129)])), (q 29, .inl (cI, 1600, .inl k1__130)), (q 27, .inl (cI, 3, .inl kf__131)), (q 28, .inl (cI, 3, .inl kt__132))] H := hP
              have hD : va_D A [(q 23, .inr (8, [.ref (q 2), .int 1])), (q 25, .inl (cI, 9, .inl yb)), (q 26, .inl (cI, 9, .inl yw)), (q 3, .inr (3, [.ref (q 2), .ref (q 22), .ref (q 23)])), (q 2, .inr (6, [.ref (q 0), .int (nI xa2_122), .int xv2_123, .int 0, .int xt2_124, .int (nI xz2_125), .int xf2_126, .int xp2_127])), (q 0, .inr (10, [.ref (q 20), .int (nI tl)])), (q 20, .inl (cI, 1600, .inl (fun j => nI (tb j)))), (q 22, .inr (8, [.ref (q 2), .int 0])), (q 6, .inr (2, [.ref (q 24), .ref (q 25), .ref (q 26), .ref (q 27), .ref (q 28), .int (nI jd2_22), .int (nI jm2_23), .int yu, .int yr, .int (nI yn)])), (q 24, .inr (0, [.ref (q 29), .ref (q 30), .ref (q 31), .ref (q 32), .int (nI jc2_128), .int (nI jx2_129)])), (q 29, .inl (cI, 1600, .inl k1__130)), (q 27, .inl (cI, 3, .inl kf__131)), (q 28, .inl (cI, 3, .inl kt__132))] := hD
              have hO_138 := ll_sum htb htl hzO (by decide) (Or.inr (Or.inr ⟨g_121, rfl, rfl⟩)) hz5 hsm_137
              refine lv_goto (tgt := 124) hx hb dX3_read_116 (by decide) ?_
              have hP := hP.sub (ws' := [(q 22, .inr (8, [.ref (q 2), .int 0])), (q 23, .inr (8, [.ref (q 2), .int 1])), (q 29, .inl (cI, 1600, .inl k1__130)), (q 24, .inr (0, [.ref (q 29), .ref (q 30), .ref (q 31), .ref (q 32), .int (nI jc2_128), .int (nI jx2_129)])), (q 27, .inl (cI, 3, .inl kf__131)), (q 28, .inl (cI, 3, .inl kt__132)), (q 25, .inl (cI, 9, .inl yb)), (q 26, .inl (cI, 9, .inl yw)), (q 3, .inr (3, [.ref (q 2), .ref (q 22), .ref (q 23)])), (q 2, .inr (6, [.ref (q 0), .int (nI xa2_122), .int xv2_123, .int 0, .int xt2_124, .int (nI xz2_125), .int xf2_126, .int xp2_127])), (q 0, .inr (10, [.ref (q 20), .int (nI tl)])), (q 20, .inl (cI, 1600, .inl (fun j => nI (tb j)))), (q 6, .inr (2, [.ref (q 24), .ref (q 25), .ref (q 26), .ref (q 27), .ref (q 28), .int (nI jd2_22), .int (nI jm2_23), .int yu, .int yr, .int (nI yn)]))]) [7, 0, 10, 9, 11, 12, 1, 2, 3, 4, 5, 6, 8] rfl
              have hD := hD.sub (ws' := [(q 22, .inr (8, [.ref (q 2), .int 0])), (q 23, .inr (8, [.ref (q 2), .int 1])), (q 29, .inl (cI, 1600, .inl k1__130)), (q 24, .inr (0, [.ref (q 29), .ref (q 30), .ref (q 31), .ref (q 32), .int (nI jc2_128), .int (nI jx2_129)])), (q 27, .inl (cI, 3, .inl kf__131)), (q 28, .inl (cI, 3, .inl kt__132)), (q 25, .inl (cI, 9, .inl yb)), (q 26, .inl (cI, 9, .inl yw)), (q 3, .inr (3, [.ref (q 2), .ref (q 22), .ref (q 23)])), (q 2, .inr (6, [.ref (q 0), .int (nI xa2_122), .int xv2_123, .int 0, .int xt2_124, .int (nI xz2_125), .int xf2_126, .int xp2_127])), (q 0, .inr (10, [.ref (q 20), .int (nI tl)])), (q 20, .inl (cI, 1600, .inl (fun j => nI (tb j)))), (q 6, .inr (2, [.ref (q 24), .ref (q 25), .ref (q 26), .ref (q 27), .ref (q 28), .int (nI jd2_22), .int (nI jm2_23), .int yu, .int yr, .int (nI yn)]))]) [7, 0, 10, 9, 11, 12, 1, 2, 3, 4, 5, 6, 8] (by decide +kernel) rfl
              exact jn_74 k1__130 jc2_128 jx2_129 kf__131 kt__132 yb yw xa2_122 xv2_123 xt2_124 xz2_125 xf2_126 xp2_127 yu yr zmu (bindR zo (bodyR tb tl)) _ _ _ hO_138 (by omega) (by omega) (by omega) (by omega) hzm rfl hP hD hS (lv_sub hl [0, 1] rfl)
            refine lv_tableOut (tgt := 119) hx hb dX3_read_53 (sk_out2 261 263 (by intro k hk1 hk2; rcases (show k = 261 ∨ k = 262 ∨ k = 263 by omega) with rfl | rfl | rfl <;> assumption)) (by decide) ?_
            refine lv_aload_n hx hb dX3_read_119 rfl (lv_at hl 0 rfl) ?_
            refine lv_aload_n hx hb dX3_read_120 rfl (lv_at hl 1 rfl) ?_
            refine sk_VvZ (q0 := 0) (n := 1) (rest := []) (wr := [(q 22, .inr (8, [.ref (q 2), .int 0])), (q 23, .inr (8, [.ref (q 2), .int 1])), (q 29, .inl (cI, 1600, .inl y1)), (q 24, .inr (0, [.ref (q 29), .ref (q 30), .ref (q 31), .ref (q 32), .int (nI yc), .int (nI yx)])), (q 27, .inl (cI, 3, .inl yf)), (q 28, .inl (cI, 3, .inl yt))]) ⟨hx, hb, hml, hown, hts⟩ hl.1 (c_elt_numbers l D cI cJ cC cZ cS zk zv zf q za zw 0 zt zz zg zp tl tb jd2_22 jm2_23 yu yr yn yb yw zmu (lc zo) (by omega) (by omega) (by omega) htb (by omega) (by omega) hzm hzO.1) w_3_127 w_3_129 w_0_11 w_1_5 w_3_130 (by decide +kernel) ⟨⟨(Nat.le_of_ble_eq_true rfl), (Nat.le_of_ble_eq_true rfl)⟩, (Nat.le_of_ble_eq_true rfl), (Nat.le_of_ble_eq_true rfl)⟩ hK hP hD hS hZ hA [8, 9, 10, 11, 12, 6, 7] [0, 1, 2, 3, 4, 5] rfl rfl (by decide +kernel) (by decide +kernel) (by decide +kernel) rfl rfl rfl rfl (Nat.le_of_ble_eq_true rfl) dX3_read_121 (fun u H locs hw hP hD hS => ?_)
            obtain ⟨xa2_139, xv2_140, xt2_141, xz2_142, xf2_143, xp2_144, ju2_145, jr2_146, jb2_147, jw2_148, hxa2_149, hxz2_150, hnb_151, rfl⟩ := hw
            have hP : va_P D vwCl [(q 22, .inr (8, [.ref (q 2), .int 0])), (q 23, .inr (8, [.ref (q 2), .int 1])), (q 29, .inl (cI, 1600, .inl y1)), (q 24, .inr (0, [.ref (q 29), .ref (q 30), .ref (q 31), .ref (q 32), .int (nI yc), .int (nI yx)])), (q 27, .inl (cI, 3, .inl yf)), (q 28, .inl (cI, 3, .inl yt)), (q 3, .inr (3, [.ref (q 2), .ref (q 22), .ref (q 23)])), (q 2, .inr (6, [.ref (q 0), .int (nI xa2_139), .int xv2_140, .int 0, .int xt2_141, .int (nI xz2_142), .int xf2_143, .int xp2_144])), (q 0, .inr (10, [.ref (q 20), .int (nI tl)])), (q 20, .inl (cI, 1600, .inl (fun j => nI (tb j)))), (q 6, .inr (2, [.ref (q 24), .ref (q 25), .ref (q 26), .ref (q 27), .ref (q 28), .int (nI jd2_22), .int (nI jm2_23), .int ju2_145, .int jr2_146, .int (nI yn)])), (q 25, .inl (cI, 9, .inl jb2_147)), (q 26, .inl (cI, 9, .inl jw2_148))] H := hP
            have hD : va_D A [(q 22, .inr (8, [.ref (q 2), .int 0])), (q 23, .inr (8, [.ref (q 2), .int 1])), (q 29, .inl (cI, 1600, .inl y1)), (q 24, .inr (0, [.ref (q 29), .ref (q 30), .ref (q 31), .ref (q 32), .int (nI yc), .int (nI yx)])), (q 27, .inl (cI, 3, .inl yf)), (q 28, .inl (cI, 3, .inl yt)), (q 3, .inr (3, [.ref (q 2), .ref (q 22), .ref (q 23)])), (q 2, .inr (6, [.ref (q 0), .int (nI xa2_139), .int xv2_140, .int 0, .int xt2_141, .int (nI xz2_142), .int xf2_143, .int xp2_144])), (q 0, .inr (10, [.ref (q 20), .int (nI tl)])), (q 20, .inl (cI, 1600, .inl (fun j => nI (tb j)))), (q 6, .inr (2, [.ref (q 24), .ref (q 25), .ref (q 26), .ref (q 27), .ref (q 28), .int (nI jd2_22), .int (nI jm2_23), .int ju2_145, .int jr2_146, .int (nI yn)])), (q 25, .inl (cI, 9, .inl jb2_147)), (q 26, .inl (cI, 9, .inl jw2_148))] := hD
            have hO_152 := ll_nb htb hzO hzm (by assumption) (by assumption) (by assumption) hnb_151
            obtain ⟨mu_153, hmu_153⟩ := nb_mu hnb_151 hzm
            have hP := hP.sub (ws' := [(q 22, .inr (8, [.ref (q 2), .int 0])), (q 23, .inr (8, [.ref (q 2), .int 1])), (q 29, .inl (cI, 1600, .inl y1)), (q 24, .inr (0, [.ref (q 29), .ref (q 30), .ref (q 31), .ref (q 32), .int (nI yc), .int (nI yx)])), (q 27, .inl (cI, 3, .inl yf)), (q 28, .inl (cI, 3, .inl yt)), (q 25, .inl (cI, 9, .inl jb2_147)), (q 26, .inl (cI, 9, .inl jw2_148)), (q 3, .inr (3, [.ref (q 2), .ref (q 22), .ref (q 23)])), (q 2, .inr (6, [.ref (q 0), .int (nI xa2_139), .int xv2_140, .int 0, .int xt2_141, .int (nI xz2_142), .int xf2_143, .int xp2_144])), (q 0, .inr (10, [.ref (q 20), .int (nI tl)])), (q 20, .inl (cI, 1600, .inl (fun j => nI (tb j)))), (q 6, .inr (2, [.ref (q 24), .ref (q 25), .ref (q 26), .ref (q 27), .ref (q 28), .int (nI jd2_22), .int (nI jm2_23), .int ju2_145, .int jr2_146, .int (nI yn)]))]) [0, 1, 2, 3, 4, 5, 11, 12, 6, 7, 8, 9, 10] rfl
            have hD := hD.sub (ws' := [(q 22, .inr (8, [.ref (q 2), .int 0])), (q 23, .inr (8, [.ref (q 2), .int 1])), (q 29, .inl (cI, 1600, .inl y1)), (q 24, .inr (0, [.ref (q 29), .ref (q 30), .ref (q 31), .ref (q 32), .int (nI yc), .int (nI yx)])), (q 27, .inl (cI, 3, .inl yf)), (q 28, .inl (cI, 3, .inl yt)), (q 25, .inl (cI, 9, .inl jb2_147)), (q 26, .inl (cI, 9, .inl jw2_148)), (q 3, .inr (3, [.ref (q 2), .ref (q 22), .ref (q 23)])), (q 2, .inr (6, [.ref (q 0), .int (nI xa2_139), .int xv2_140, .int 0, .int xt2_141, .int (nI xz2_142), .int xf2_143, .int xp2_144])), (q 0, .inr (10, [.ref (q 20), .int (nI tl)])), (q 20, .inl (cI, 1600, .inl (fun j => nI (tb j)))), (q 6, .inr (2, [.ref (q 24), .ref (q 25), .ref (q 26), .ref (q 27), .ref (q 28), .int (nI jd2_22), .int (nI jm2_23), .int ju2_145, .int jr2_146, .int (nI yn)]))]) [0, 1, 2, 3, 4, 5, 11, 12, 6, 7, 8, 9, 10] (by decide +kernel) rfl
            exact jn_74 y1 yc yx yf yt jb2_147 jw2_148 xa2_139 xv2_140 xt2_141 xz2_142 xf2_143 xp2_144 ju2_145 jr2_146 mu_153 (bindR zo (bodyR tb tl)) _ _ _ hO_152 (by omega) (by omega) (by omega) (by omega) hmu_153 rfl hP hD hS (lv_sub hl [0, 1] rfl)
  exact lp_33 (60 - 1 + 1) j1 0 0 gf_1 gt_2 gb_3 gw_4 xa2_16 xv2_17 xt2_18 xz2_19 xf2_20 xp2_21 0 0 1 (fun _ => false) (openP tb tl (sk tb tl 0, false)) _ _ _ (Nat.lt_succ_self _) hO_32 (by omega) (by omega) (by omega) (by omega) (by omega) muO_0 (len5_open) (show bindR _ (stP tb tl 59) = _ from rfl) hP hD hS (lv_sub hl [0, 1] rfl)
/-! bytes -/
def lo8 (x : Int32) : Nat := (x &&& 255).toBitVec.toNat
theorem lo8_le (x : Int32) : lo8 x ≤ 255 := by
  unfold lo8
  rw [Int32.toBitVec_and, BitVec.toNat_and]
  exact Nat.and_le_right
theorem lo8_eq (x : Int32) : x &&& 255 = nI (lo8 x) := by
  refine Int32.toBitVec_inj.mp ?_
  show _ = BitVec.ofNat 32 _
  unfold lo8
  rw [BitVec.ofNat_toNat, BitVec.setWidth_eq]
theorem lo8_nI {k : Nat} (h : k ≤ 255) : lo8 (nI k) = k := by
  have h1 : ∀ k, k < 256 → lo8 (nI k) = k := by decide +kernel
  exact h1 k (by omega)
/-- the k-th of the twenty bytes -/
def wByte (a b c d e : Int32) (k : Nat) : Nat := lo8 ((if k < 4 then a else if k < 8 then b else if k < 12 then c else if k < 16 then d else e) >>> (nI (8 * (3 - k % 4)) &&& 31))
def feedN (tb : Nat → Nat) (t : Nat) (f : Nat → Nat) : Nat → Nat → Nat
  | 0 => tb
  | k + 1 => updN (feedN tb t f k) (t + k) (f k)
def feedT (tb : Nat → Nat) (t : Nat) (a b c d e : Int32) : Nat → Nat := feedN tb t (wByte a b c d e) 20
theorem ush_lo (x : BitVec 32) (s : Nat) (hs : s ≤ 24) : (x >>> s) &&& 255#32 = (x.sshiftRight s) &&& 255#32 := by
  apply BitVec.eq_of_getLsbD_eq
  intro i hi
  rw [BitVec.getLsbD_and, BitVec.getLsbD_and]
  by_cases h : i < 8
  · rw [BitVec.getLsbD_ushiftRight, BitVec.getLsbD_sshiftRight]
    rw [if_pos (by omega)]
    simp [show ¬ 32 ≤ i by omega]
  · have h0 : ∀ i, i < 32 → 8 ≤ i → (255#32).getLsbD i = false := by decide
    rw [h0 i hi (by omega), Bool.and_false, Bool.and_false]
theorem by_s (x S : Int32) (k : Nat) (hk : k ≤ 24) (h1 : ((S.toUInt32 &&& Int32.toUInt32 31).toBitVec % 32).toNat = k) (h2 : ((nI k &&& 31).toBitVec.smod 32).toNat = k) : lo8 ((x.toUInt32 >>> (S.toUInt32 &&& Int32.toUInt32 31)).toInt32) = lo8 (x >>> (nI k &&& 31)) := by
  have e1 : (x.toUInt32 >>> (S.toUInt32 &&& Int32.toUInt32 31)).toInt32.toBitVec = x.toBitVec >>> k := by
    rw [← h1]
    exact UInt32.toBitVec_shiftRight _ _
  have e2 : (x >>> (nI k &&& 31)).toBitVec = x.toBitVec.sshiftRight k := by
    show x.toBitVec.sshiftRight _ = _
    rw [h2]
  have e3 : ((255 : Int32)).toBitVec = 255#32 := by decide
  unfold lo8
  rw [Int32.toBitVec_and, Int32.toBitVec_and, e1, e2, e3, ush_lo _ _ hk]
theorem by_0 (x : Int32) : lo8 x = lo8 (x >>> (nI 0 &&& 31)) := by
  have e2 : (x >>> (nI 0 &&& 31)).toBitVec = x.toBitVec.sshiftRight 0 := by
    show x.toBitVec.sshiftRight _ = _
    rw [show ((nI 0 &&& 31).toBitVec.smod 32).toNat = 0 by decide]
  unfold lo8
  rw [Int32.toBitVec_and, Int32.toBitVec_and, e2, BitVec.sshiftRight_zero]
theorem by_24 (x : Int32) : lo8 ((x.toUInt32 >>> ((24 : Int32).toUInt32 &&& Int32.toUInt32 31)).toInt32) = lo8 (x >>> (nI 24 &&& 31)) := by_s x 24 24 (by decide) (by decide) (by decide)
theorem by_16 (x : Int32) : lo8 ((x.toUInt32 >>> ((16 : Int32).toUInt32 &&& Int32.toUInt32 31)).toInt32) = lo8 (x >>> (nI 16 &&& 31)) := by_s x 16 16 (by decide) (by decide) (by decide)
theorem by_8 (x : Int32) : lo8 ((x.toUInt32 >>> ((8 : Int32).toUInt32 &&& Int32.toUInt32 31)).toInt32) = lo8 (x >>> (nI 8 &&& 31)) := by_s x 8 8 (by decide) (by decide) (by decide)
def add4 (tb : Nat → Nat) (t : Nat) (x : Int32) : Nat → Nat := updN (updN (updN (updN tb t (lo8 (x >>> (nI 24 &&& 31)))) (t + 1) (lo8 (x >>> (nI 16 &&& 31)))) (t + 2) (lo8 (x >>> (nI 8 &&& 31)))) (t + 3) (lo8 (x >>> (nI 0 &&& 31)))
theorem add_5 (tb : Nat → Nat) (t : Nat) (a b c d e : Int32) : add4 (add4 (add4 (add4 (add4 tb t a) (t + 4) b) (t + 4 + 4) c) (t + 4 + 4 + 4) d) (t + 4 + 4 + 4 + 4) e = feedT tb t a b c d e := rfl
theorem sk_iastX {p : Program} {l : Launch} {e : Env} {R : Room} {s : State} {m : MethodId} {args : Array Value} {below : List Frame} {meth : Method} {c : Code} {H : Heap} {locs : List Loc} {cells slots : Nat} {Q : State → Prop} {cc : ByteArray} {pc : Nat} {ls : Array Slot} {rest : List Value} {D : va_G} {tys : List (ClassId × FieldType)} {ws : va_W} {A : Nat → Prop} {H0 : Heap} {a : Nat} (hexec : p.tables.exec = Jvm.exec) (hb : c.code = cc) (hK : skK D tys s) (hP : va_P D vwCl ws H) (hD : va_D A ws) (hS : va_S A H0 H locs) (q0 t0 : Nat) {cA : ClassId} {n B : Nat} {f : Nat → Nat} {ws' : (Nat → Nat) → va_W} (ha : ws[q0]? = some (a, .inl (cA, n, .inl (fun j => nI (f j))))) (ht : tys[t0]? = some (cA, .int)) {k v : Nat} (hk : k < n) (hn : n < 2147483648) (hf : ∀ j, f j ≤ B) (hv : v ≤ B) (hw' : ∀ f', ws.set q0 (a, .inl (cA, n, .inl (fun j => nI (f' j)))) = ws' f') (hdg : decode cc pc = .ok (.iastore, 1))
    (kk : ∀ (f' : Nat → Nat) (H1 : Heap) (locs1 : List Loc), (∀ j, f' j ≤ B) → f' = updN f k v → va_P D vwCl (ws' f') H1 → va_D A (ws' f') → va_S A H0 H1 locs1 → W p l e R s m args below meth c H1 locs1 cells slots Q (F0 m (pc + 1) ls rest)) : W p l e R s m args below meth c H locs cells slots Q (F0 m pc ls (.int (nI v) :: .int (nI k) :: .ref a :: rest)) := by
  refine va_iast hexec hb hK.1 hP hD hS q0 t0 ha ht (vin k n hk hn) hdg (fun H1 locs1 h1 h2 h3 => ?_)
  rw [updN_fun f k v (by omega)] at h1 h2
  exact kk _ H1 locs1 (updN_le hf hv) rfl ((hw' _) ▸ h1) ((hw' _) ▸ h2) h3
def chkN (tb : Nat → Nat) : Nat → Nat
  | 0 => 139
  | k + 1 => (3 * chkN tb k + tb k) % 251
set_option maxHeartbeats 4000000 in
set_option maxRecDepth 100000 in
theorem c_eTape_add_1600 (l : Launch) (D : va_G) (cI cJ cC cZ cS : ClassId) (h0 : Nat) (k1 : Nat) (tl : Nat) (tb : Nat → Nat) (o : Int32) (htl : tl ≤ 1600) (htb : ∀ j, tb j ≤ 255) : skM l yX10_add cX10_add 2 none 0 0 0 0 D (skT cI cJ cC cZ cS) [.ref h0, .int o] [(h0, .inr (10, [.ref k1, .int (nI tl)])), (k1, .inl (cI, 1600, .inl (fun j => nI (tb j))))] (skV D (skT cI cJ cC cZ cS) (fun (u : va_W) => ∃ (t2 : Nat), ∃ (tb2 : Nat → Nat), ((tl < 1600 ∧ t2 = tl + 1) ∨ (1600 ≤ tl ∧ t2 = tl)) ∧ (∀ j, tb2 j ≤ 255) ∧ (tl < 1600 → tb2 = updN tb tl (lo8 o)) ∧ u = [(h0, .inr (10, [.ref k1, .int (nI t2)])), (k1, .inl (cI, 1600, .inl (fun j => nI (tb2 j))))])) := by
  refine skM_of (by decide +kernel) (Nat.le_of_ble_eq_true rfl) ?_
  intro p e s m below meth c A ls E hP hD hl
  obtain ⟨hx, hb, hr, hml, hlocks, hin, hown, hts, hK, hA⟩ := E
  have hown : s.vm.findClass RX10 = some m.cls := hown
  have hS : va_S A s.heap s.heap [] := va_S.rf
  have hl : lv_has ls 2 [(0, .ref h0), (1, .int o)] := hl
  refine lv_aload_n hx hb dX10_add_0 rfl (lv_at hl 0 rfl) ?_
  refine sk_get (v := .int (nI tl)) (C := RX10) (T := TX10) (N := 2) hx hb hts inlX10 hown hK hP 0 rfl rfl 1 (by decide) w_1_41 rfl dX10_add_1 ?_
  refine lv_aload_n hx hb dX10_add_4 rfl (lv_at hl 0 rfl) ?_
  refine sk_get (v := .ref k1) (C := RX10) (T := TX10) (N := 2) hx hb hts inlX10 hown hK hP 0 rfl rfl 0 (by decide) w_1_39 rfl dX10_add_5 ?_
  refine va_alen (v := 1600) hx hb hK.1 hP 1 0 rfl rfl rfl dX10_add_8 ?_
  refine lv_icmp_ge (tgt := 36) hx hb dX10_add_9 (by decide) (fun c_1 => ?_) (fun c_1 => ?_)
  · have c_1 : 1600 ≤ tl := (nle 1600 tl (by omega) (by omega)).mp c_1
    exact sk_vret hx hb hr hlocks hK hP hD hS (⟨tl, tb, by omega, htb, (fun hq => absurd hq (by omega)), rfl⟩) (Nat.le_of_ble_eq_true rfl) (Nat.le_of_ble_eq_true rfl) dX10_add_36
  · have c_1 : ¬ (1600 ≤ tl) := fun h => c_1 ((nle 1600 tl (by omega) (by omega)).mpr h)
    refine lv_aload_n hx hb dX10_add_12 rfl (lv_at hl 0 rfl) ?_
    refine sk_get (v := .ref k1) (C := RX10) (T := TX10) (N := 2) hx hb hts inlX10 hown hK hP 0 rfl rfl 0 (by decide) w_1_39 rfl dX10_add_13 ?_
    refine lv_aload_n hx hb dX10_add_16 rfl (lv_at hl 0 rfl) ?_
    refine sk_get (v := .int (nI tl)) (C := RX10) (T := TX10) (N := 2) hx hb hts inlX10 hown hK hP 0 rfl rfl 1 (by decide) w_1_41 rfl dX10_add_17 ?_
    refine lv_iload_n hx hb dX10_add_20 rfl (lv_at hl 1 rfl) ?_
    refine lv_sipush (v := 255) hx hb dX10_add_21 (by decide) ?_
    refine lv_iand hx hb dX10_add_24 ?_
    have hlo_2 := lo8_le o
    refine sk_top (nI (lo8 o)) (lo8_eq o) ?_
    refine sk_iastX (k := tl) (v := (lo8 o)) (B := 255) (ws' := fun f_3 => [(h0, .inr (10, [.ref k1, .int (nI tl)])), (k1, .inl (cI, 1600, .inl (fun j => nI (f_3 j))))]) hx hb hK hP hD hS 1 0 rfl rfl (by omega) (by omega) htb (by omega) (fun _ => rfl) dX10_add_25 (fun f_3 H locs hf_4 ef_5 hP hD hS => ?_)
    refine lv_aload_n hx hb dX10_add_26 rfl (lv_at hl 0 rfl) ?_
    refine lv_dup hx hb dX10_add_27 rfl ?_
    refine sk_get (v := .int (nI tl)) (C := RX10) (T := TX10) (N := 2) hx hb hts inlX10 hown hK hP 0 rfl rfl 1 (by decide) w_1_41 rfl dX10_add_28 ?_
    refine lv_iconst (v := 1) hx hb dX10_add_31 (by decide) ?_
    refine lv_iadd hx hb dX10_add_32 ?_
    refine sk_top (nI (tl + 1)) (nI_add tl 1) ?_
    refine sk_put (ws' := [(h0, .inr (10, [.ref k1, .int (nI (tl + 1))])), (k1, .inl (cI, 1600, .inl (fun j => nI (f_3 j))))]) (C := RX10) (T := TX10) (N := 2) (v := .int (nI (tl + 1))) hx hb hts inlX10 tyX10 tyX10_ok nmX10 hown hK hP hD hS 0 rfl rfl 1 (by decide) w_1_41 rfl rfl rfl (Nat.le_of_ble_eq_true rfl) rfl dX10_add_33 (fun H locs hP hD hS => ?_)
    exact sk_vret hx hb hr hlocks hK hP hD hS (⟨tl + 1, f_3, by omega, hf_4, (fun _ => ef_5), rfl⟩) (Nat.le_of_ble_eq_true rfl) (Nat.le_of_ble_eq_true rfl) dX10_add_36
set_option maxHeartbeats 4000000 in
set_option maxRecDepth 100000 in
theorem c_eTape_left_1600 (l : Launch) (D : va_G) (cI cJ cC cZ cS : ClassId) (h0 : Nat) (k1 : Nat) (tl : Nat) (tb : Nat → Nat) (k : Nat) (htl : tl ≤ 1600) (htb : ∀ j, tb j ≤ 255) (hk : k < 1600) : skM l yX10_left cX10_left 2 (some .int) 0 0 0 0 D (skT cI cJ cC cZ cS) [.ref h0, .int (nI k)] [(h0, .inr (10, [.ref k1, .int (nI tl)])), (k1, .inl (cI, 1600, .inl (fun j => nI (tb j))))] (skI D (skT cI cJ cC cZ cS) (fun (r : Int32) (u : va_W) => tb k ≤ 255 ∧ r = nI (tb k) ∧ u = [(h0, .inr (10, [.ref k1, .int (nI tl)])), (k1, .inl (cI, 1600, .inl (fun j => nI (tb j))))])) := by
  refine skM_of (by decide +kernel) (Nat.le_of_ble_eq_true rfl) ?_
  intro p e s m below meth c A ls E hP hD hl
  obtain ⟨hx, hb, hr, hml, hlocks, hin, hown, hts, hK, hA⟩ := E
  have hown : s.vm.findClass RX10 = some m.cls := hown
  have hS : va_S A s.heap s.heap [] := va_S.rf
  have hl : lv_has ls 2 [(0, .ref h0), (1, .int (nI k))] := hl
  refine lv_iload_n hx hb dX10_left_0 rfl (lv_at hl 1 rfl) ?_
  refine lv_if_lt (tgt := 22) hx hb dX10_left_1 (by decide) (fun c => absurd c (nI_pos (by omega))) (fun c_1 => ?_)
  refine lv_iload_n hx hb dX10_left_4 rfl (lv_at hl 1 rfl) ?_
  refine lv_aload_n hx hb dX10_left_5 rfl (lv_at hl 0 rfl) ?_
  refine sk_get (v := .ref k1) (C := RX10) (T := TX10) (N := 2) hx hb hts inlX10 hown hK hP 0 rfl rfl 0 (by decide) w_1_39 rfl dX10_left_6 ?_
  refine va_alen (v := 1600) hx hb hK.1 hP 1 0 rfl rfl rfl dX10_left_9 ?_
  refine lv_icmp_ge (tgt := 22) hx hb dX10_left_10 (by decide) (fun c => absurd c (fun h9 => absurd ((nle 1600 k (by omega) (by omega)).mp h9) (by omega))) (fun c_2 => ?_)
  refine lv_aload_n hx hb dX10_left_13 rfl (lv_at hl 0 rfl) ?_
  refine sk_get (v := .ref k1) (C := RX10) (T := TX10) (N := 2) hx hb hts inlX10 hown hK hP 0 rfl rfl 0 (by decide) w_1_39 rfl dX10_left_14 ?_
  refine lv_iload_n hx hb dX10_left_17 rfl (lv_at hl 1 rfl) ?_
  refine va_iald hx hb hK.1 hP 1 0 rfl rfl (vin k 1600 (by omega) (by omega)) dX10_left_18 ?_
  refine sk_top (nI (tb k)) (nrd tb k (by omega)) ?_
  have hb_3 := htb k
  refine lv_goto (tgt := 23) hx hb dX10_left_19 (by decide) ?_
  exact sk_iret hx hb hr rfl hlocks hK hP hD hS (⟨htb k, rfl, rfl⟩) (Nat.le_of_ble_eq_true rfl) (Nat.le_of_ble_eq_true rfl) dX10_left_23
set_option maxHeartbeats 4000000 in
set_option maxRecDepth 100000 in
theorem c_eTape_checkOf_1600 (l : Launch) (D : va_G) (cI cJ cC cZ cS : ClassId) (h0 : Nat) (k1 : Nat) (tl : Nat) (tb : Nat → Nat) (cn : Nat) (htl : tl ≤ 1600) (htb : ∀ j, tb j ≤ 255) (hcn : cn ≤ 1600) : skM l yX10_checkOf cX10_checkOf 4 (some .int) 1 21 0 0 D (skT cI cJ cC cZ cS) [.ref h0, .int (nI cn)] [(h0, .inr (10, [.ref k1, .int (nI tl)])), (k1, .inl (cI, 1600, .inl (fun j => nI (tb j))))] (skI D (skT cI cJ cC cZ cS) (fun (r : Int32) (u : va_W) => ∃ (ck2 : Nat), ck2 = chkN tb cn ∧ ck2 < 251 ∧ r = nI ck2 ∧ u = [(h0, .inr (10, [.ref k1, .int (nI tl)])), (k1, .inl (cI, 1600, .inl (fun j => nI (tb j))))])) := by
  refine skM_of (by decide +kernel) (Nat.le_of_ble_eq_true rfl) ?_
  intro p e s m below meth c A ls E hP hD hl
  obtain ⟨hx, hb, hr, hml, hlocks, hin, hown, hts, hK, hA⟩ := E
  have hown : s.vm.findClass RX10 = some m.cls := hown
  have hS : va_S A s.heap s.heap [] := va_S.rf
  have hl : lv_has ls 4 [(0, .ref h0), (1, .int (nI cn))] := hl
  refine lv_sipush (v := 139) hx hb dX10_checkOf_0 (by decide) ?_
  refine lv_istore_n (lv' := [(2, .int 139), (0, .ref h0), (1, .int (nI cn))]) hx hb dX10_checkOf_3 rfl hl (by decide) rfl (fun ls hl => ?_)
  refine lv_iconst (v := 0) hx hb dX10_checkOf_4 (by decide) ?_
  refine lv_istore_n (lv' := [(3, .int 0), (2, .int 139), (0, .ref h0), (1, .int (nI cn))]) hx hb dX10_checkOf_5 rfl hl (by decide) rfl (fun ls hl => ?_)
  have lp_1 : ∀ (n_2 : Nat) (i : Nat) (ck : Nat) (H : Heap) (locs : List Loc) (ls : Array Slot), cn - i < n_2 → (i ≤ cn) → (ck < 251) → (ck = chkN tb i) → va_P D vwCl [(h0, .inr (10, [.ref k1, .int (nI tl)])), (k1, .inl (cI, 1600, .inl (fun j => nI (tb j))))] H → va_D A [(h0, .inr (10, [.ref k1, .int (nI tl)])), (k1, .inl (cI, 1600, .inl (fun j => nI (tb j))))] → va_S A s.heap H locs → lv_has ls 4 [(3, .int (nI i)), (2, .int (nI ck)), (0, .ref h0), (1, .int (nI cn))] → W p l e { frames := 1, cells := 0, slots := 0, locals := 21 } s m ([.ref h0, .int (nI cn)] : List Value).toArray below meth c H locs 0 0 (MQ below (skI D (skT cI cJ cC cZ cS) (fun (r : Int32) (u : va_W) => ∃ (ck2 : Nat), ck2 = chkN tb cn ∧ ck2 < 251 ∧ r = nI ck2 ∧ u = [(h0, .inr (10, [.ref k1, .int (nI tl)])), (k1, .inl (cI, 1600, .inl (fun j => nI (tb j))))]) A) ([.ref h0, .int (nI cn)] : List Value).toArray s 0 0 A) (F0 m 6 ls []) := by
    intro n_2
    induction n_2 with
    | zero => intro i ck H locs ls hm; exact absurd hm (Nat.not_lt_zero _)
    | succ n_2 ih_lp_1 =>
      intro i ck H locs ls hm hi hc9 hci hP hD hS hl
      refine lv_iload_n hx hb dX10_checkOf_6 rfl (lv_at hl 0 rfl) ?_
      refine lv_iload_n hx hb dX10_checkOf_7 rfl (lv_at hl 3 rfl) ?_
      refine lv_icmp_ge (tgt := 31) hx hb dX10_checkOf_8 (by decide) (fun c_3 => ?_) (fun c_3 => ?_)
      · have c_3 : cn ≤ i := (nle cn i (by omega) (by omega)).mp c_3
        refine lv_iload_n hx hb dX10_checkOf_31 rfl (lv_at hl 1 rfl) ?_
        exact sk_iret hx hb hr rfl hlocks hK hP hD hS (⟨ck, (by rw [show cn = i by omega]; exact hci), by omega, rfl, rfl⟩) (Nat.le_of_ble_eq_true rfl) (Nat.le_of_ble_eq_true rfl) dX10_checkOf_32
      · have c_3 : ¬ (cn ≤ i) := fun h => c_3 ((nle cn i (by omega) (by omega)).mpr h)
        refine lv_iconst (v := 3) hx hb dX10_checkOf_11 (by decide) ?_
        refine lv_iload_n hx hb dX10_checkOf_12 rfl (lv_at hl 1 rfl) ?_
        refine lv_imul hx hb dX10_checkOf_13 ?_
        refine sk_top (nI (3 * ck)) (nmul 3 ck) ?_
        refine lv_aload_n hx hb dX10_checkOf_14 rfl (lv_at hl 2 rfl) ?_
        refine lv_iload_n hx hb dX10_checkOf_15 rfl (lv_at hl 0 rfl) ?_
        refine sk_Vi (q0 := 0) (n := 1) (rest := [.int (nI (3 * ck))]) (wr := []) ⟨hx, hb, hml, hown, hts⟩ hl.1 (c_eTape_left_1600 l D cI cJ cC cZ cS h0 k1 tl tb i (by omega) htb (by omega)) w_5_132 w_4_215 w_4_216 w_1_2 w_4_217 (by decide +kernel) ⟨⟨(Nat.le_of_ble_eq_true rfl), (Nat.le_of_ble_eq_true rfl)⟩, (Nat.le_of_ble_eq_true rfl), (Nat.le_of_ble_eq_true rfl)⟩ hK hP hD hS hA [0, 1] [] rfl rfl (by decide +kernel) (by decide +kernel) (by decide +kernel) rfl rfl rfl rfl (Nat.le_of_ble_eq_true rfl) dX10_checkOf_16 (fun r_4 u H locs hw hP hD hS => ?_)
        obtain ⟨hv_5, rfl, rfl⟩ := hw
        have hP : va_P D vwCl [(h0, .inr (10, [.ref k1, .int (nI tl)])), (k1, .inl (cI, 1600, .inl (fun j => nI (tb j))))] H := hP
        have hD : va_D A [(h0, .inr (10, [.ref k1, .int (nI tl)])), (k1, .inl (cI, 1600, .inl (fun j => nI (tb j))))] := hD
        refine lv_iadd hx hb dX10_checkOf_19 ?_
        refine sk_top (nI (3 * ck + (tb i))) (nI_add (3 * ck) (tb i)) ?_
        refine lv_sipush (v := 251) hx hb dX10_checkOf_20 (by decide) ?_
        refine lv_irem hx hb dX10_checkOf_23 (by decide) ?_
        refine sk_top (nI ((3 * ck + (tb i)) % 251)) (nrem (3 * ck + (tb i)) 251 (by omega) (by omega) (by omega)) ?_
        refine lv_istore_n (lv' := [(2, .int (nI ((3 * ck + (tb i)) % 251))), (3, .int (nI i)), (0, .ref h0), (1, .int (nI cn))]) hx hb dX10_checkOf_24 rfl hl (by decide) rfl (fun ls hl => ?_)
        refine lv_iinc (v := nI (i + 1)) (lv' := [(3, .int (nI (i + 1))), (2, .int (nI ((3 * ck + (tb i)) % 251))), (0, .ref h0), (1, .int (nI cn))]) hx hb dX10_checkOf_25 hl (k := 1) rfl (ninc i 1 (by decide)) (by decide) rfl (fun ls hl => ?_)
        refine lv_goto (tgt := 6) hx hb dX10_checkOf_28 (by decide) ?_
        exact ih_lp_1 (i + 1) ((3 * ck + (tb i)) % 251) _ _ _ (by omega) (by omega) (by omega) (by rw [chkN, ← hci]) hP hD hS (lv_sub hl [0, 1, 2, 3] rfl)
  exact lp_1 (cn - 0 + 1) 0 139 _ _ _ (Nat.lt_succ_self _) (by omega) (by omega) rfl hP hD hS (lv_sub hl [0, 1, 2, 3] rfl)
set_option maxHeartbeats 4000000 in
set_option maxRecDepth 100000 in
theorem c_eTape_add_31 (l : Launch) (D : va_G) (cI cJ cC cZ cS : ClassId) (h0 : Nat) (k1 : Nat) (tl : Nat) (tb : Nat → Nat) (o : Int32) (htl : tl ≤ 31) (htb : ∀ j, tb j ≤ 255) : skM l yX10_add cX10_add 2 none 0 0 0 0 D (skT cI cJ cC cZ cS) [.ref h0, .int o] [(h0, .inr (10, [.ref k1, .int (nI tl)])), (k1, .inl (cI, 31, .inl (fun j => nI (tb j))))] (skV D (skT cI cJ cC cZ cS) (fun (u : va_W) => ∃ (t2 : Nat), ∃ (tb2 : Nat → Nat), ((tl < 31 ∧ t2 = tl + 1) ∨ (31 ≤ tl ∧ t2 = tl)) ∧ (∀ j, tb2 j ≤ 255) ∧ (tl < 31 → tb2 = updN tb tl (lo8 o)) ∧ u = [(h0, .inr (10, [.ref k1, .int (nI t2)])), (k1, .inl (cI, 31, .inl (fun j => nI (tb2 j))))])) := by
  refine skM_of (by decide +kernel) (Nat.le_of_ble_eq_true rfl) ?_
  intro p e s m below meth c A ls E hP hD hl
  obtain ⟨hx, hb, hr, hml, hlocks, hin, hown, hts, hK, hA⟩ := E
  have hown : s.vm.findClass RX10 = some m.cls := hown
  have hS : va_S A s.heap s.heap [] := va_S.rf
  have hl : lv_has ls 2 [(0, .ref h0), (1, .int o)] := hl
  refine lv_aload_n hx hb dX10_add_0 rfl (lv_at hl 0 rfl) ?_
  refine sk_get (v := .int (nI tl)) (C := RX10) (T := TX10) (N := 2) hx hb hts inlX10 hown hK hP 0 rfl rfl 1 (by decide) w_1_41 rfl dX10_add_1 ?_
  refine lv_aload_n hx hb dX10_add_4 rfl (lv_at hl 0 rfl) ?_
  refine sk_get (v := .ref k1) (C := RX10) (T := TX10) (N := 2) hx hb hts inlX10 hown hK hP 0 rfl rfl 0 (by decide) w_1_39 rfl dX10_add_5 ?_
  refine va_alen (v := 31) hx hb hK.1 hP 1 0 rfl rfl rfl dX10_add_8 ?_
  refine lv_icmp_ge (tgt := 36) hx hb dX10_add_9 (by decide) (fun c_1 => ?_) (fun c_1 => ?_)
  · have c_1 : 31 ≤ tl := (nle 31 tl (by omega) (by omega)).mp c_1
    exact sk_vret hx hb hr hlocks hK hP hD hS (⟨tl, tb, by omega, htb, (fun hq => absurd hq (by omega)), rfl⟩) (Nat.le_of_ble_eq_true rfl) (Nat.le_of_ble_eq_true rfl) dX10_add_36
  · have c_1 : ¬ (31 ≤ tl) := fun h => c_1 ((nle 31 tl (by omega) (by omega)).mpr h)
    refine lv_aload_n hx hb dX10_add_12 rfl (lv_at hl 0 rfl) ?_
    refine sk_get (v := .ref k1) (C := RX10) (T := TX10) (N := 2) hx hb hts inlX10 hown hK hP 0 rfl rfl 0 (by decide) w_1_39 rfl dX10_add_13 ?_
    refine lv_aload_n hx hb dX10_add_16 rfl (lv_at hl 0 rfl) ?_
    refine sk_get (v := .int (nI tl)) (C := RX10) (T := TX10) (N := 2) hx hb hts inlX10 hown hK hP 0 rfl rfl 1 (by decide) w_1_41 rfl dX10_add_17 ?_
    refine lv_iload_n hx hb dX10_add_20 rfl (lv_at hl 1 rfl) ?_
    refine lv_sipush (v := 255) hx hb dX10_add_21 (by decide) ?_
    refine lv_iand hx hb dX10_add_24 ?_
    have hlo_2 := lo8_le o
    refine sk_top (nI (lo8 o)) (lo8_eq o) ?_
    refine sk_iastX (k := tl) (v := (lo8 o)) (B := 255) (ws' := fun f_3 => [(h0, .inr (10, [.ref k1, .int (nI tl)])), (k1, .inl (cI, 31, .inl (fun j => nI (f_3 j))))]) hx hb hK hP hD hS 1 0 rfl rfl (by omega) (by omega) htb (by omega) (fun _ => rfl) dX10_add_25 (fun f_3 H locs hf_4 ef_5 hP hD hS => ?_)
    refine lv_aload_n hx hb dX10_add_26 rfl (lv_at hl 0 rfl) ?_
    refine lv_dup hx hb dX10_add_27 rfl ?_
    refine sk_get (v := .int (nI tl)) (C := RX10) (T := TX10) (N := 2) hx hb hts inlX10 hown hK hP 0 rfl rfl 1 (by decide) w_1_41 rfl dX10_add_28 ?_
    refine lv_iconst (v := 1) hx hb dX10_add_31 (by decide) ?_
    refine lv_iadd hx hb dX10_add_32 ?_
    refine sk_top (nI (tl + 1)) (nI_add tl 1) ?_
    refine sk_put (ws' := [(h0, .inr (10, [.ref k1, .int (nI (tl + 1))])), (k1, .inl (cI, 31, .inl (fun j => nI (f_3 j))))]) (C := RX10) (T := TX10) (N := 2) (v := .int (nI (tl + 1))) hx hb hts inlX10 tyX10 tyX10_ok nmX10 hown hK hP hD hS 0 rfl rfl 1 (by decide) w_1_41 rfl rfl rfl (Nat.le_of_ble_eq_true rfl) rfl dX10_add_33 (fun H locs hP hD hS => ?_)
    exact sk_vret hx hb hr hlocks hK hP hD hS (⟨tl + 1, f_3, by omega, hf_4, (fun _ => ef_5), rfl⟩) (Nat.le_of_ble_eq_true rfl) (Nat.le_of_ble_eq_true rfl) dX10_add_36
set_option maxHeartbeats 4000000 in
set_option maxRecDepth 100000 in
theorem c_eTape_left_31 (l : Launch) (D : va_G) (cI cJ cC cZ cS : ClassId) (h0 : Nat) (k1 : Nat) (tl : Nat) (tb : Nat → Nat) (k : Nat) (htl : tl ≤ 31) (htb : ∀ j, tb j ≤ 255) (hk : k < 31) : skM l yX10_left cX10_left 2 (some .int) 0 0 0 0 D (skT cI cJ cC cZ cS) [.ref h0, .int (nI k)] [(h0, .inr (10, [.ref k1, .int (nI tl)])), (k1, .inl (cI, 31, .inl (fun j => nI (tb j))))] (skI D (skT cI cJ cC cZ cS) (fun (r : Int32) (u : va_W) => tb k ≤ 255 ∧ r = nI (tb k) ∧ u = [(h0, .inr (10, [.ref k1, .int (nI tl)])), (k1, .inl (cI, 31, .inl (fun j => nI (tb j))))])) := by
  refine skM_of (by decide +kernel) (Nat.le_of_ble_eq_true rfl) ?_
  intro p e s m below meth c A ls E hP hD hl
  obtain ⟨hx, hb, hr, hml, hlocks, hin, hown, hts, hK, hA⟩ := E
  have hown : s.vm.findClass RX10 = some m.cls := hown
  have hS : va_S A s.heap s.heap [] := va_S.rf
  have hl : lv_has ls 2 [(0, .ref h0), (1, .int (nI k))] := hl
  refine lv_iload_n hx hb dX10_left_0 rfl (lv_at hl 1 rfl) ?_
  refine lv_if_lt (tgt := 22) hx hb dX10_left_1 (by decide) (fun c => absurd c (nI_pos (by omega))) (fun c_1 => ?_)
  refine lv_iload_n hx hb dX10_left_4 rfl (lv_at hl 1 rfl) ?_
  refine lv_aload_n hx hb dX10_left_5 rfl (lv_at hl 0 rfl) ?_
  refine sk_get (v := .ref k1) (C := RX10) (T := TX10) (N := 2) hx hb hts inlX10 hown hK hP 0 rfl rfl 0 (by decide) w_1_39 rfl dX10_left_6 ?_
  refine va_alen (v := 31) hx hb hK.1 hP 1 0 rfl rfl rfl dX10_left_9 ?_
  refine lv_icmp_ge (tgt := 22) hx hb dX10_left_10 (by decide) (fun c => absurd c (fun h9 => absurd ((nle 31 k (by omega) (by omega)).mp h9) (by omega))) (fun c_2 => ?_)
  refine lv_aload_n hx hb dX10_left_13 rfl (lv_at hl 0 rfl) ?_
  refine sk_get (v := .ref k1) (C := RX10) (T := TX10) (N := 2) hx hb hts inlX10 hown hK hP 0 rfl rfl 0 (by decide) w_1_39 rfl dX10_left_14 ?_
  refine lv_iload_n hx hb dX10_left_17 rfl (lv_at hl 1 rfl) ?_
  refine va_iald hx hb hK.1 hP 1 0 rfl rfl (vin k 31 (by omega) (by omega)) dX10_left_18 ?_
  refine sk_top (nI (tb k)) (nrd tb k (by omega)) ?_
  have hb_3 := htb k
  refine lv_goto (tgt := 23) hx hb dX10_left_19 (by decide) ?_
  exact sk_iret hx hb hr rfl hlocks hK hP hD hS (⟨htb k, rfl, rfl⟩) (Nat.le_of_ble_eq_true rfl) (Nat.le_of_ble_eq_true rfl) dX10_left_23
set_option maxHeartbeats 4000000 in
set_option maxRecDepth 100000 in
theorem c_eTape_checkOf_31 (l : Launch) (D : va_G) (cI cJ cC cZ cS : ClassId) (h0 : Nat) (k1 : Nat) (tl : Nat) (tb : Nat → Nat) (cn : Nat) (htl : tl ≤ 31) (htb : ∀ j, tb j ≤ 255) (hcn : cn ≤ 31) : skM l yX10_checkOf cX10_checkOf 4 (some .int) 1 21 0 0 D (skT cI cJ cC cZ cS) [.ref h0, .int (nI cn)] [(h0, .inr (10, [.ref k1, .int (nI tl)])), (k1, .inl (cI, 31, .inl (fun j => nI (tb j))))] (skI D (skT cI cJ cC cZ cS) (fun (r : Int32) (u : va_W) => ∃ (ck2 : Nat), ck2 = chkN tb cn ∧ ck2 < 251 ∧ r = nI ck2 ∧ u = [(h0, .inr (10, [.ref k1, .int (nI tl)])), (k1, .inl (cI, 31, .inl (fun j => nI (tb j))))])) := by
  refine skM_of (by decide +kernel) (Nat.le_of_ble_eq_true rfl) ?_
  intro p e s m below meth c A ls E hP hD hl
  obtain ⟨hx, hb, hr, hml, hlocks, hin, hown, hts, hK, hA⟩ := E
  have hown : s.vm.findClass RX10 = some m.cls := hown
  have hS : va_S A s.heap s.heap [] := va_S.rf
  have hl : lv_has ls 4 [(0, .ref h0), (1, .int (nI cn))] := hl
  refine lv_sipush (v := 139) hx hb dX10_checkOf_0 (by decide) ?_
  refine lv_istore_n (lv' := [(2, .int 139), (0, .ref h0), (1, .int (nI cn))]) hx hb dX10_checkOf_3 rfl hl (by decide) rfl (fun ls hl => ?_)
  refine lv_iconst (v := 0) hx hb dX10_checkOf_4 (by decide) ?_
  refine lv_istore_n (lv' := [(3, .int 0), (2, .int 139), (0, .ref h0), (1, .int (nI cn))]) hx hb dX10_checkOf_5 rfl hl (by decide) rfl (fun ls hl => ?_)
  have lp_1 : ∀ (n_2 : Nat) (i : Nat) (ck : Nat) (H : Heap) (locs : List Loc) (ls : Array Slot), cn - i < n_2 → (i ≤ cn) → (ck < 251) → (ck = chkN tb i) → va_P D vwCl [(h0, .inr (10, [.ref k1, .int (nI tl)])), (k1, .inl (cI, 31, .inl (fun j => nI (tb j))))] H → va_D A [(h0, .inr (10, [.ref k1, .int (nI tl)])), (k1, .inl (cI, 31, .inl (fun j => nI (tb j))))] → va_S A s.heap H locs → lv_has ls 4 [(3, .int (nI i)), (2, .int (nI ck)), (0, .ref h0), (1, .int (nI cn))] → W p l e { frames := 1, cells := 0, slots := 0, locals := 21 } s m ([.ref h0, .int (nI cn)] : List Value).toArray below meth c H locs 0 0 (MQ below (skI D (skT cI cJ cC cZ cS) (fun (r : Int32) (u : va_W) => ∃ (ck2 : Nat), ck2 = chkN tb cn ∧ ck2 < 251 ∧ r = nI ck2 ∧ u = [(h0, .inr (10, [.ref k1, .int (nI tl)])), (k1, .inl (cI, 31, .inl (fun j => nI (tb j))))]) A) ([.ref h0, .int (nI cn)] : List Value).toArray s 0 0 A) (F0 m 6 ls []) := by
    intro n_2
    induction n_2 with
    | zero => intro i ck H locs ls hm; exact absurd hm (Nat.not_lt_zero _)
    | succ n_2 ih_lp_1 =>
      intro i ck H locs ls hm hi hc9 hci hP hD hS hl
      refine lv_iload_n hx hb dX10_checkOf_6 rfl (lv_at hl 0 rfl) ?_
      refine lv_iload_n hx hb dX10_checkOf_7 rfl (lv_at hl 3 rfl) ?_
      refine lv_icmp_ge (tgt := 31) hx hb dX10_checkOf_8 (by decide) (fun c_3 => ?_) (fun c_3 => ?_)
      · have c_3 : cn ≤ i := (nle cn i (by omega) (by omega)).mp c_3
        refine lv_iload_n hx hb dX10_checkOf_31 rfl (lv_at hl 1 rfl) ?_
        exact sk_iret hx hb hr rfl hlocks hK hP hD hS (⟨ck, (by rw [show cn = i by omega]; exact hci), by omega, rfl, rfl⟩) (Nat.le_of_ble_eq_true rfl) (Nat.le_of_ble_eq_true rfl) dX10_checkOf_32
      · have c_3 : ¬ (cn ≤ i) := fun h => c_3 ((nle cn i (by omega) (by omega)).mpr h)
        refine lv_iconst (v := 3) hx hb dX10_checkOf_11 (by decide) ?_
        refine lv_iload_n hx hb dX10_checkOf_12 rfl (lv_at hl 1 rfl) ?_
        refine lv_imul hx hb dX10_checkOf_13 ?_
        refine sk_top (nI (3 * ck)) (nmul 3 ck) ?_
        refine lv_aload_n hx hb dX10_checkOf_14 rfl (lv_at hl 2 rfl) ?_
        refine lv_iload_n hx hb dX10_checkOf_15 rfl (lv_at hl 0 rfl) ?_
        refine sk_Vi (q0 := 0) (n := 1) (rest := [.int (nI (3 * ck))]) (wr := []) ⟨hx, hb, hml, hown, hts⟩ hl.1 (c_eTape_left_31 l D cI cJ cC cZ cS h0 k1 tl tb i (by omega) htb (by omega)) w_5_132 w_4_215 w_4_216 w_1_2 w_4_217 (by decide +kernel) ⟨⟨(Nat.le_of_ble_eq_true rfl), (Nat.le_of_ble_eq_true rfl)⟩, (Nat.le_of_ble_eq_true rfl), (Nat.le_of_ble_eq_true rfl)⟩ hK hP hD hS hA [0, 1] [] rfl rfl (by decide +kernel) (by decide +kernel) (by decide +kernel) rfl rfl rfl rfl (Nat.le_of_ble_eq_true rfl) dX10_checkOf_16 (fun r_4 u H locs hw hP hD hS => ?_)
        obtain ⟨hv_5, rfl, rfl⟩ := hw
        have hP : va_P D vwCl [(h0, .inr (10, [.ref k1, .int (nI tl)])), (k1, .inl (cI, 31, .inl (fun j => nI (tb j))))] H := hP
        have hD : va_D A [(h0, .inr (10, [.ref k1, .int (nI tl)])), (k1, .inl (cI, 31, .inl (fun j => nI (tb j))))] := hD
        refine lv_iadd hx hb dX10_checkOf_19 ?_
        refine sk_top (nI (3 * ck + (tb i))) (nI_add (3 * ck) (tb i)) ?_
        refine lv_sipush (v := 251) hx hb dX10_checkOf_20 (by decide) ?_
        refine lv_irem hx hb dX10_checkOf_23 (by decide) ?_
        refine sk_top (nI ((3 * ck + (tb i)) % 251)) (nrem (3 * ck + (tb i)) 251 (by omega) (by omega) (by omega)) ?_
        refine lv_istore_n (lv' := [(2, .int (nI ((3 * ck + (tb i)) % 251))), (3, .int (nI i)), (0, .ref h0), (1, .int (nI cn))]) hx hb dX10_checkOf_24 rfl hl (by decide) rfl (fun ls hl => ?_)
        refine lv_iinc (v := nI (i + 1)) (lv' := [(3, .int (nI (i + 1))), (2, .int (nI ((3 * ck + (tb i)) % 251))), (0, .ref h0), (1, .int (nI cn))]) hx hb dX10_checkOf_25 hl (k := 1) rfl (ninc i 1 (by decide)) (by decide) rfl (fun ls hl => ?_)
        refine lv_goto (tgt := 6) hx hb dX10_checkOf_28 (by decide) ?_
        exact ih_lp_1 (i + 1) ((3 * ck + (tb i)) % 251) _ _ _ (by omega) (by omega) (by omega) (by rw [chkN, ← hci]) hP hD hS (lv_sub hl [0, 1, 2, 3] rfl)
  exact lp_1 (cn - 0 + 1) 0 139 _ _ _ (Nat.lt_succ_self _) (by omega) (by omega) rfl hP hD hS (lv_sub hl [0, 1, 2, 3] rfl)
set_option maxHeartbeats 4000000 in
set_option maxRecDepth 100000 in
theorem c_eTape_addNumber (l : Launch) (D : va_G) (cI cJ cC cZ cS : ClassId) (h0 : Nat) (k1 : Nat) (tl : Nat) (tb : Nat → Nat) (o : Int32) (htl : tl ≤ 1600) (htb : ∀ j, tb j ≤ 255) : skM l yX10_addNumber cX10_addNumber 2 none 1 21 0 0 D (skT cI cJ cC cZ cS) [.ref h0, .int o] [(h0, .inr (10, [.ref k1, .int (nI tl)])), (k1, .inl (cI, 1600, .inl (fun j => nI (tb j))))] (skV D (skT cI cJ cC cZ cS) (fun (u : va_W) => ∃ (t2 : Nat), ∃ (tb2 : Nat → Nat), ((tl ≤ 1596 → t2 = tl + 4)) ∧ t2 ≤ 1600 ∧ (∀ j, tb2 j ≤ 255) ∧ (tl ≤ 1596 → tb2 = add4 tb tl o) ∧ u = [(h0, .inr (10, [.ref k1, .int (nI t2)])), (k1, .inl (cI, 1600, .inl (fun j => nI (tb2 j))))])) := by
  refine skM_of (by decide +kernel) (Nat.le_of_ble_eq_true rfl) ?_
  intro p e s m below meth c A ls E hP hD hl
  obtain ⟨hx, hb, hr, hml, hlocks, hin, hown, hts, hK, hA⟩ := E
  have hown : s.vm.findClass RX10 = some m.cls := hown
  have hS : va_S A s.heap s.heap [] := va_S.rf
  have hl : lv_has ls 2 [(0, .ref h0), (1, .int o)] := hl
  refine lv_aload_n hx hb dX10_addNumber_0 rfl (lv_at hl 0 rfl) ?_
  refine lv_iload_n hx hb dX10_addNumber_1 rfl (lv_at hl 1 rfl) ?_
  refine lv_bipush (v := 24) hx hb dX10_addNumber_2 (by decide) ?_
  refine lv_iushr hx hb dX10_addNumber_4 rfl ?_
  refine sk_Vv (q0 := 0) (n := 1) (rest := []) (wr := []) ⟨hx, hb, hml, hown, hts⟩ hl.1 (c_eTape_add_1600 l D cI cJ cC cZ cS h0 k1 tl tb (((o).toUInt32 >>> ((24 : Int32).toUInt32 &&& Int32.toUInt32 31)).toInt32) (by omega) htb) w_2_190 w_2_191 w_2_192 w_1_2 w_2_193 (by decide +kernel) ⟨⟨(Nat.le_of_ble_eq_true rfl), (Nat.le_of_ble_eq_true rfl)⟩, (Nat.le_of_ble_eq_true rfl), (Nat.le_of_ble_eq_true rfl)⟩ hK hP hD hS hA [0, 1] [] rfl rfl (by decide +kernel) (by decide +kernel) (by decide +kernel) rfl rfl rfl rfl (Nat.le_of_ble_eq_true rfl) dX10_addNumber_5 (fun u H locs hw hP hD hS => ?_)
  obtain ⟨t2_1, tb2_2, ht2_3, htb2_4, hup_5, rfl⟩ := hw
  have hP : va_P D vwCl [(h0, .inr (10, [.ref k1, .int (nI t2_1)])), (k1, .inl (cI, 1600, .inl (fun j => nI (tb2_2 j))))] H := hP
  have hD : va_D A [(h0, .inr (10, [.ref k1, .int (nI t2_1)])), (k1, .inl (cI, 1600, .inl (fun j => nI (tb2_2 j))))] := hD
  refine lv_aload_n hx hb dX10_addNumber_8 rfl (lv_at hl 0 rfl) ?_
  refine lv_iload_n hx hb dX10_addNumber_9 rfl (lv_at hl 1 rfl) ?_
  refine lv_bipush (v := 16) hx hb dX10_addNumber_10 (by decide) ?_
  refine lv_iushr hx hb dX10_addNumber_12 rfl ?_
  refine sk_Vv (q0 := 0) (n := 1) (rest := []) (wr := []) ⟨hx, hb, hml, hown, hts⟩ hl.1 (c_eTape_add_1600 l D cI cJ cC cZ cS h0 k1 t2_1 tb2_2 (((o).toUInt32 >>> ((16 : Int32).toUInt32 &&& Int32.toUInt32 31)).toInt32) (by omega) htb2_4) w_2_190 w_2_191 w_2_192 w_1_2 w_2_193 (by decide +kernel) ⟨⟨(Nat.le_of_ble_eq_true rfl), (Nat.le_of_ble_eq_true rfl)⟩, (Nat.le_of_ble_eq_true rfl), (Nat.le_of_ble_eq_true rfl)⟩ hK hP hD hS hA [0, 1] [] rfl rfl (by decide +kernel) (by decide +kernel) (by decide +kernel) rfl rfl rfl rfl (Nat.le_of_ble_eq_true rfl) dX10_addNumber_13 (fun u H locs hw hP hD hS => ?_)
  obtain ⟨t2_6, tb2_7, ht2_8, htb2_9, hup_10, rfl⟩ := hw
  have hP : va_P D vwCl [(h0, .inr (10, [.ref k1, .int (nI t2_6)])), (k1, .inl (cI, 1600, .inl (fun j => nI (tb2_7 j))))] H := hP
  have hD : va_D A [(h0, .inr (10, [.ref k1, .int (nI t2_6)])), (k1, .inl (cI, 1600, .inl (fun j => nI (tb2_7 j))))] := hD
  refine lv_aload_n hx hb dX10_addNumber_16 rfl (lv_at hl 0 rfl) ?_
  refine lv_iload_n hx hb dX10_addNumber_17 rfl (lv_at hl 1 rfl) ?_
  refine lv_bipush (v := 8) hx hb dX10_addNumber_18 (by decide) ?_
  refine lv_iushr hx hb dX10_addNumber_20 rfl ?_
  refine sk_Vv (q0 := 0) (n := 1) (rest := []) (wr := []) ⟨hx, hb, hml, hown, hts⟩ hl.1 (c_eTape_add_1600 l D cI cJ cC cZ cS h0 k1 t2_6 tb2_7 (((o).toUInt32 >>> ((8 : Int32).toUInt32 &&& Int32.toUInt32 31)).toInt32) (by omega) htb2_9) w_2_190 w_2_191 w_2_192 w_1_2 w_2_193 (by decide +kernel) ⟨⟨(Nat.le_of_ble_eq_true rfl), (Nat.le_of_ble_eq_true rfl)⟩, (Nat.le_of_ble_eq_true rfl), (Nat.le_of_ble_eq_true rfl)⟩ hK hP hD hS hA [0, 1] [] rfl rfl (by decide +kernel) (by decide +kernel) (by decide +kernel) rfl rfl rfl rfl (Nat.le_of_ble_eq_true rfl) dX10_addNumber_21 (fun u H locs hw hP hD hS => ?_)
  obtain ⟨t2_11, tb2_12, ht2_13, htb2_14, hup_15, rfl⟩ := hw
  have hP : va_P D vwCl [(h0, .inr (10, [.ref k1, .int (nI t2_11)])), (k1, .inl (cI, 1600, .inl (fun j => nI (tb2_12 j))))] H := hP
  have hD : va_D A [(h0, .inr (10, [.ref k1, .int (nI t2_11)])), (k1, .inl (cI, 1600, .inl (fun j => nI (tb2_12 j))))] := hD
  refine lv_aload_n hx hb dX10_addNumber_24 rfl (lv_at hl 0 rfl) ?_
  refine lv_iload_n hx hb dX10_addNumber_25 rfl (lv_at hl 1 rfl) ?_
  refine sk_Vv (q0 := 0) (n := 1) (rest := []) (wr := []) ⟨hx, hb, hml, hown, hts⟩ hl.1 (c_eTape_add_1600 l D cI cJ cC cZ cS h0 k1 t2_11 tb2_12 o (by omega) htb2_14) w_2_190 w_2_191 w_2_192 w_1_2 w_2_193 (by decide +kernel) ⟨⟨(Nat.le_of_ble_eq_true rfl), (Nat.le_of_ble_eq_true rfl)⟩, (Nat.le_of_ble_eq_true rfl), (Nat.le_of_ble_eq_true rfl)⟩ hK hP hD hS hA [0, 1] [] rfl rfl (by decide +kernel) (by decide +kernel) (by decide +kernel) rfl rfl rfl rfl (Nat.le_of_ble_eq_true rfl) dX10_addNumber_26 (fun u H locs hw hP hD hS => ?_)
  obtain ⟨t2_16, tb2_17, ht2_18, htb2_19, hup_20, rfl⟩ := hw
  have hP : va_P D vwCl [(h0, .inr (10, [.ref k1, .int (nI t2_16)])), (k1, .inl (cI, 1600, .inl (fun j => nI (tb2_17 j))))] H := hP
  have hD : va_D A [(h0, .inr (10, [.ref k1, .int (nI t2_16)])), (k1, .inl (cI, 1600, .inl (fun j => nI (tb2_17 j))))] := hD
  exact sk_vret hx hb hr hlocks hK hP hD hS (⟨t2_16, tb2_17, by omega, by omega, htb2_19, (fun hq => by rw [hup_20 (by omega), hup_15 (by omega), hup_10 (by omega), hup_5 (by omega), by_24, by_16, by_8, by_0 o, show t2_1 = tl + 1 by omega, show t2_6 = tl + 2 by omega, show t2_11 = tl + 3 by omega]; rfl), rfl⟩) (Nat.le_of_ble_eq_true rfl) (Nat.le_of_ble_eq_true rfl) dX10_addNumber_29
/-! tests: signs, words, what is read -/
def wNot : List Nat := [110, 111, 116]
def wAnd : List Nat := [97, 110, 100]
def wOr : List Nat := [111, 114]
def wAll : List Nat := [97, 108, 108]
theorem tok275 {tb : Nat → Nat} {n : Nat} {c : Cur} (htb : ∀ j, tb j ≤ 255) : tokOf tb n c = 275 ↔ isW tb n wNot c = true := tok_W (k := 19) htb (by decide)
theorem tok274 {tb : Nat → Nat} {n : Nat} {c : Cur} (htb : ∀ j, tb j ≤ 255) : tokOf tb n c = 274 ↔ isW tb n wAnd c = true := tok_W (k := 18) htb (by decide)
theorem tok273 {tb : Nat → Nat} {n : Nat} {c : Cur} (htb : ∀ j, tb j ≤ 255) : tokOf tb n c = 273 ↔ isW tb n wOr c = true := tok_W (k := 17) htb (by decide)
theorem tok276 {tb : Nat → Nat} {n : Nat} {c : Cur} (htb : ∀ j, tb j ≤ 255) : tokOf tb n c = 276 ↔ isW tb n wAll c = true := tok_W (k := 20) htb (by decide)
theorem tok91 {tb : Nat → Nat} {n : Nat} {c : Cur} (htb : ∀ j, tb j ≤ 255) : tokOf tb n c = 91 ↔ isS tb n 91 c = true := tok_S (b := 91) htb (by decide)
theorem tok60 {tb : Nat → Nat} {n : Nat} {c : Cur} (htb : ∀ j, tb j ≤ 255) : tokOf tb n c = 60 ↔ isS tb n 60 c = true := tok_S (b := 60) htb (by decide)
theorem tok61 {tb : Nat → Nat} {n : Nat} {c : Cur} (htb : ∀ j, tb j ≤ 255) : tokOf tb n c = 61 ↔ isS tb n 61 c = true := tok_S (b := 61) htb (by decide)
theorem tok62 {tb : Nat → Nat} {n : Nat} {c : Cur} (htb : ∀ j, tb j ≤ 255) : tokOf tb n c = 62 ↔ isS tb n 62 c = true := tok_S (b := 62) htb (by decide)
theorem tk93 {tb : Nat → Nat} {n : Nat} (htb : ∀ j, tb j ≤ 255) : tkF tb n 93 = signP tb n 93 := tkF_sign (b := 93) htb (by decide)
def andR (tb : Nat → Nat) (n : Nat) (F : Cur → Res) : Nat → Cur → List Nat → Res
  | 0, _, _ => .error (0, 0)
  | f + 1, c, k => if isW tb n wAnd c = true then bindR (F (nx tb n c.1)) (fun r => andR tb n F f r.1 (k ++ r.2 ++ [10])) else .ok (c, k)
def bothR (tb : Nat → Nat) (n : Nat) (F : Cur → Res) (c : Cur) : Res := bindR (F c) (fun r => andR tb n F (n + 2) r.1 r.2)
def orR (tb : Nat → Nat) (n : Nat) (F : Cur → Res) : Nat → Cur → List Nat → Res
  | 0, _, _ => .error (0, 0)
  | f + 1, c, k => if isW tb n wOr c = true then bindR (bothR tb n F (nx tb n c.1)) (fun r => orR tb n F f r.1 (k ++ r.2 ++ [11])) else .ok (c, k)
def testR (tb : Nat → Nat) (n : Nat) (F : Cur → Res) (c : Cur) : Res := bindR (bothR tb n F c) (fun r => orR tb n F (n + 2) r.1 r.2)
def relV (tb : Nat → Nat) (n : Nat) (c : Cur) : Option Nat := if isS tb n 60 c = true then some 7 else if isS tb n 62 c = true then some 8 else if isS tb n 61 c = true then some 9 else none
def relB (tb : Nat → Nat) (n d : Nat) (r : Cur × List Nat) : Res := match relV tb n r.1 with
  | some v => bindR (sumOf tb n (rdPart tb n 2 d) (nx tb n r.1.1)) (fun q => .ok (q.1, r.2 ++ q.2 ++ [v]))
  | none => .error (1, r.1.1)
def relR (tb : Nat → Nat) (n d : Nat) (c : Cur) : Res := bindR (sumOf tb n (rdPart tb n 2 d) c) (relB tb n d)
def fcB (tb : Nat → Nat) (n d : Nat) (Q : Option (Cur → Res)) (c : Cur) : Res :=
  if isW tb n wNot c = true then
    (match Q with
     | none => .error (4, c.1)
     | some F => bindR (F (nx tb n c.1)) (fun r => .ok (r.1, r.2 ++ [12])))
  else if isS tb n 91 c = true then
    (match Q with
     | none => .error (4, c.1)
     | some F => bindR (testR tb n F (nx tb n c.1)) (fun r => bindR (signP tb n 93 r.1) (fun c1 => .ok (c1, r.2))))
  else if isW tb n wAll c = true then .ok (nx tb n c.1, [13])
  else relR tb n d c
def fcR (tb : Nat → Nat) (n : Nat) : Nat → Cur → Res
  | 0, c => fcB tb n 0 none c
  | d + 1, c => fcB tb n (d + 1) (some (fcR tb n d)) c
/-! they never go back -/
theorem andR_mono {tb : Nat → Nat} {n : Nat} {F : Cur → Res} (hF : mono F) : ∀ f c k r, andR tb n F f c k = .ok r → c.1 ≤ r.1.1
  | 0, c, k, r, h => by cases h
  | f + 1, c, k, r, h => by
    rw [andR] at h
    split at h
    · next hs =>
      have hn := nx_gt (tb := tb) (isW_lt hs)
      obtain ⟨a, h1, h2⟩ := bindR_ok h
      have b1 := hF _ _ h1
      have b2 := andR_mono hF f _ _ _ h2
      omega
    · cases h; exact Nat.le_refl _
theorem bothR_mono {tb : Nat → Nat} {n : Nat} {F : Cur → Res} (hF : mono F) : mono (bothR tb n F) := by
  intro c r h
  obtain ⟨a, h1, h2⟩ := bindR_ok h
  have b1 := hF _ _ h1
  have b2 := andR_mono hF _ _ _ _ h2
  omega
theorem orR_mono {tb : Nat → Nat} {n : Nat} {F : Cur → Res} (hF : mono F) : ∀ f c k r, orR tb n F f c k = .ok r → c.1 ≤ r.1.1
  | 0, c, k, r, h => by cases h
  | f + 1, c, k, r, h => by
    rw [orR] at h
    split at h
    · next hs =>
      have hn := nx_gt (tb := tb) (isW_lt hs)
      obtain ⟨a, h1, h2⟩ := bindR_ok h
      have b1 := bothR_mono hF _ _ h1
      have b2 := orR_mono hF f _ _ _ h2
      omega
    · cases h; exact Nat.le_refl _
theorem testR_mono {tb : Nat → Nat} {n : Nat} {F : Cur → Res} (hF : mono F) : mono (testR tb n F) := by
  intro c r h
  obtain ⟨a, h1, h2⟩ := bindR_ok h
  have b1 := bothR_mono hF _ _ h1
  have b2 := orR_mono hF _ _ _ _ h2
  omega
theorem relR_mono {tb : Nat → Nat} {n d : Nat} : mono (relR tb n d) := by
  intro c r h
  obtain ⟨a, h1, h2⟩ := bindR_ok h
  have b1 := sumOf_mono rdPart_mono _ _ h1
  unfold relB at h2
  split at h2
  · obtain ⟨q, h3, h4⟩ := bindR_ok h2
    cases h4
    have b2 := sumOf_mono rdPart_mono _ _ h3
    have b3 := nx_ge tb n a.1.1
    show c.1 ≤ q.1.1
    omega
  · cases h2
theorem fcB_mono {tb : Nat → Nat} {n d : Nat} {Q : Option (Cur → Res)} (hQ : ∀ F, Q = some F → mono F) : mono (fcB tb n d Q) := by
  intro c r h
  unfold fcB at h
  have hg := nx_ge tb n c.1
  split at h
  · cases Q with
    | none => cases h
    | some F =>
      obtain ⟨a, h1, h2⟩ := bindR_ok h
      cases h2
      have b1 := hQ F rfl _ _ h1
      show c.1 ≤ a.1.1
      omega
  · split at h
    · cases Q with
      | none => cases h
      | some F =>
        obtain ⟨a, h1, h2⟩ := bindR_ok h
        obtain ⟨c1, h3, h4⟩ := bindR_ok h2
        cases h4
        have b1 := testR_mono (hQ F rfl) _ _ h1
        have b2 := (signP_ok h3).2.2
        show c.1 ≤ c1.1
        omega
    · split at h
      · cases h; exact hg
      · exact relR_mono _ _ h
theorem fcR_mono {tb : Nat → Nat} {n : Nat} : ∀ d, mono (fcR tb n d)
  | 0 => fun c r h => fcB_mono (Q := none) (fun F hF => by cases hF) c r h
  | d + 1 => fun c r h => fcB_mono (Q := some (fcR tb n d)) (fun F hF => by cases hF; exact fcR_mono d) c r h
/-! enough rounds are enough -/
theorem andR_fuel {tb : Nat → Nat} {n : Nat} {F : Cur → Res} (hF : mono F) : ∀ f g c k, n < f + c.1 → n < g + c.1 → 1 ≤ f → 1 ≤ g → andR tb n F f c k = andR tb n F g c k
  | 0, g, c, k, _, _, h, _ => absurd h (by omega)
  | f + 1, 0, c, k, _, _, _, h => absurd h (by omega)
  | f + 1, g + 1, c, k, h1, h2, _, _ => by
    rw [andR, andR]
    split
    · next hs =>
      have hl := isW_lt hs
      have hn := nx_gt (tb := tb) hl
      refine bindR_congr _ (fun a ha => ?_)
      have h3 := hF _ _ ha
      exact andR_fuel hF f g _ _ (by omega) (by omega) (by omega) (by omega)
    · rfl
theorem orR_fuel {tb : Nat → Nat} {n : Nat} {F : Cur → Res} (hF : mono F) : ∀ f g c k, n < f + c.1 → n < g + c.1 → 1 ≤ f → 1 ≤ g → orR tb n F f c k = orR tb n F g c k
  | 0, g, c, k, _, _, h, _ => absurd h (by omega)
  | f + 1, 0, c, k, _, _, _, h => absurd h (by omega)
  | f + 1, g + 1, c, k, h1, h2, _, _ => by
    rw [orR, orR]
    split
    · next hs =>
      have hl := isW_lt hs
      have hn := nx_gt (tb := tb) hl
      refine bindR_congr _ (fun a ha => ?_)
      have h3 := bothR_mono hF _ _ ha
      exact orR_fuel hF f g _ _ (by omega) (by omega) (by omega) (by omega)
    · rfl
theorem andR_stop {tb : Nat → Nat} {n : Nat} {F : Cur → Res} {f : Nat} {c : Cur} {k : List Nat} (h : ¬ isW tb n wAnd c = true) : andR tb n F (f + 1) c k = .ok (c, k) := by rw [andR, if_neg h]
theorem orR_stop {tb : Nat → Nat} {n : Nat} {F : Cur → Res} {f : Nat} {c : Cur} {k : List Nat} (h : ¬ isW tb n wOr c = true) : orR tb n F (f + 1) c k = .ok (c, k) := by rw [orR, if_neg h]
theorem andR_pre {tb : Nat → Nat} {n : Nat} {F : Cur → Res} (k : List Nat) : ∀ f c q, andR tb n F f c (k ++ q) = bindR (andR tb n F f c q) (fun r => .ok (r.1, k ++ r.2))
  | 0, c, q => rfl
  | f + 1, c, q => by
    rw [andR, andR]
    split
    · rw [bindR_assoc]
      refine bindR_congr _ (fun a _ => ?_)
      rw [← andR_pre k f, List.append_assoc, List.append_assoc, List.append_assoc]
    · rfl
theorem orR_pre {tb : Nat → Nat} {n : Nat} {F : Cur → Res} (k : List Nat) : ∀ f c q, orR tb n F f c (k ++ q) = bindR (orR tb n F f c q) (fun r => .ok (r.1, k ++ r.2))
  | 0, c, q => rfl
  | f + 1, c, q => by
    rw [orR, orR]
    split
    · rw [bindR_assoc]
      refine bindR_congr _ (fun a _ => ?_)
      rw [← orR_pre k f, List.append_assoc, List.append_assoc, List.append_assoc]
    · rfl
/-! no more steps than bytes -/
theorem andR_len {tb : Nat → Nat} {n : Nat} {F : Cur → Res} (hF : lenP F) : ∀ f c k r, andR tb n F f c k = .ok r → r.2.length + c.1 ≤ r.1.1 + k.length
  | 0, c, k, r, h => by cases h
  | f + 1, c, k, r, h => by
    rw [andR] at h
    split at h
    · next hs =>
      have hn := nx_gt (tb := tb) (isW_lt hs)
      obtain ⟨a, h1, h2⟩ := bindR_ok h
      have b1 := hF _ _ h1
      have b2 := andR_len hF f _ _ _ h2
      rw [List.length_append, List.length_append, List.length_singleton] at b2
      omega
    · cases h; show k.length + c.1 ≤ c.1 + k.length; omega
theorem len_both {tb : Nat → Nat} {n : Nat} {F : Cur → Res} (hF : lenP F) : lenP (bothR tb n F) := fun c q h => by
  obtain ⟨a, h1, h2⟩ := bindR_ok h
  have b1 := hF _ _ h1
  have b2 := andR_len hF _ _ _ _ h2
  omega
theorem orR_len {tb : Nat → Nat} {n : Nat} {F : Cur → Res} (hF : lenP F) : ∀ f c k r, orR tb n F f c k = .ok r → r.2.length + c.1 ≤ r.1.1 + k.length
  | 0, c, k, r, h => by cases h
  | f + 1, c, k, r, h => by
    rw [orR] at h
    split at h
    · next hs =>
      have hn := nx_gt (tb := tb) (isW_lt hs)
      obtain ⟨a, h1, h2⟩ := bindR_ok h
      have b1 := len_both hF _ _ h1
      have b2 := orR_len hF f _ _ _ h2
      rw [List.length_append, List.length_append, List.length_singleton] at b2
      omega
    · cases h; show k.length + c.1 ≤ c.1 + k.length; omega
theorem len_test {tb : Nat → Nat} {n : Nat} {F : Cur → Res} (hF : lenP F) : lenP (testR tb n F) := fun c q h => by
  obtain ⟨a, h1, h2⟩ := bindR_ok h
  have b1 := len_both hF _ _ h1
  have b2 := orR_len hF _ _ _ _ h2
  omega
theorem relV_lt {tb : Nat → Nat} {n v : Nat} {c : Cur} (h : relV tb n c = some v) : c.1 < n := by
  unfold relV at h
  split at h
  · next hs => exact (isS_lt hs).1
  · split at h
    · next hs => exact (isS_lt hs).1
    · split at h
      · next hs => exact (isS_lt hs).1
      · cases h
theorem len_rel {tb : Nat → Nat} {n d : Nat} : lenP (relR tb n d) := fun c q h => by
  obtain ⟨a, h1, h2⟩ := bindR_ok h
  have b1 := len_sum (len_part d) _ _ h1
  unfold relB at h2
  split at h2
  · next v hv =>
    obtain ⟨z, h3, h4⟩ := bindR_ok h2
    cases h4
    have b2 := len_sum (len_part d) _ _ h3
    have b3 := nx_gt (tb := tb) (relV_lt hv)
    show (a.2 ++ z.2 ++ [v]).length + c.1 ≤ z.1.1
    rw [List.length_append, List.length_append, List.length_singleton]
    omega
  · cases h2
theorem len_fcB {tb : Nat → Nat} {n d : Nat} {Q : Option (Cur → Res)} (hQ : ∀ F, Q = some F → lenP F) : lenP (fcB tb n d Q) := fun c r h => by
  unfold fcB at h
  split at h
  · next hw =>
    have hn := nx_gt (tb := tb) (isW_lt hw)
    cases Q with
    | none => cases h
    | some F =>
      obtain ⟨a, h1, h2⟩ := bindR_ok h
      cases h2
      have b1 := hQ F rfl _ _ h1
      show (a.2 ++ [12]).length + c.1 ≤ a.1.1
      rw [List.length_append, List.length_singleton]
      omega
  · split at h
    · next hs =>
      have hn := nx_gt (tb := tb) (isS_lt hs).1
      cases Q with
      | none => cases h
      | some F =>
        obtain ⟨a, h1, h2⟩ := bindR_ok h
        obtain ⟨c1, h3, h4⟩ := bindR_ok h2
        cases h4
        have b1 := len_test (hQ F rfl) _ _ h1
        have b2 := (signP_ok h3).2.2
        show a.2.length + c.1 ≤ c1.1
        omega
    · split at h
      · next hw =>
        have hn := nx_gt (tb := tb) (isW_lt hw)
        cases h
        show 1 + c.1 ≤ (nx tb n c.1).1
        omega
      · exact len_rel _ _ h
theorem len_fc {tb : Nat → Nat} {n : Nat} : ∀ d, lenP (fcR tb n d)
  | 0 => fun c r h => len_fcB (Q := none) (fun F hF => by cases hF) c r h
  | d + 1 => fun c r h => len_fcB (Q := some (fcR tb n d)) (fun F hF => by cases hF; exact len_fc d) c r h
/-! a fact, by its token -/
theorem fB_not {tb : Nat → Nat} {n d : Nat} {c : Cur} (htb : ∀ j, tb j ≤ 255) (h : tokOf tb n c = 275) : fcR tb n (d + 1) c = bindR (fcR tb n d (nx tb n c.1)) (fun r => .ok (r.1, r.2 ++ [12])) := by
  rw [fcR, fcB, if_pos ((tok275 htb).mp h)]
theorem fB_not0 {tb : Nat → Nat} {n : Nat} {c : Cur} (htb : ∀ j, tb j ≤ 255) (h : tokOf tb n c = 275) : fcR tb n 0 c = .error (4, c.1) := by
  rw [fcR, fcB, if_pos ((tok275 htb).mp h)]
theorem t_noN {tb : Nat → Nat} {n : Nat} {c : Cur} (htb : ∀ j, tb j ≤ 255) {w : Int32} (h : tokOf tb n c = w) (hw : ¬ w = 275) : ¬ isW tb n wNot c = true := fun q => hw (h.symm.trans ((tok275 htb).mpr q))
theorem fB_sq {tb : Nat → Nat} {n d : Nat} {c : Cur} (htb : ∀ j, tb j ≤ 255) (h : tokOf tb n c = 91) : fcR tb n (d + 1) c = bindR (testR tb n (fcR tb n d) (nx tb n c.1)) (fun r => bindR (signP tb n 93 r.1) (fun c1 => .ok (c1, r.2))) := by
  rw [fcR, fcB, if_neg (t_noN htb h (by decide)), if_pos ((tok91 htb).mp h)]
theorem fB_sq0 {tb : Nat → Nat} {n : Nat} {c : Cur} (htb : ∀ j, tb j ≤ 255) (h : tokOf tb n c = 91) : fcR tb n 0 c = .error (4, c.1) := by
  rw [fcR, fcB, if_neg (t_noN htb h (by decide)), if_pos ((tok91 htb).mp h)]
theorem fcR_B (tb : Nat → Nat) (n d : Nat) (c : Cur) : ∃ Q, fcR tb n d c = fcB tb n d Q c := by
  cases d with
  | zero => exact ⟨none, rfl⟩
  | succ d => exact ⟨some (fcR tb n d), rfl⟩
theorem fB_all {tb : Nat → Nat} {n d : Nat} {c : Cur} (htb : ∀ j, tb j ≤ 255) (h : tokOf tb n c = 276) : fcR tb n d c = .ok (nx tb n c.1, [13]) := by
  obtain ⟨Q, e⟩ := fcR_B tb n d c
  rw [e]
  unfold fcB
  rw [if_neg (t_noN htb h (by decide)), if_neg (fun q => absurd (h.symm.trans ((tok91 htb).mpr q)) (by decide)), if_pos ((tok276 htb).mp h)]
theorem fB_rel {tb : Nat → Nat} {n d : Nat} {c : Cur} (htb : ∀ j, tb j ≤ 255) (h1 : ¬ tokOf tb n c = 275) (h2 : ¬ tokOf tb n c = 91) (h3 : ¬ tokOf tb n c = 276) : fcR tb n d c = relR tb n d c := by
  obtain ⟨Q, e⟩ := fcR_B tb n d c
  rw [e]
  unfold fcB
  rw [if_neg (fun q => h1 ((tok275 htb).mpr q)), if_neg (fun q => h2 ((tok91 htb).mpr q)), if_neg (fun q => h3 ((tok276 htb).mpr q))]
def relT (t : Int32) (v : Nat) : Prop := (t = 60 ∧ v = 7) ∨ (t = 62 ∧ v = 8) ∨ (t = 61 ∧ v = 9)
theorem relT_real {t : Int32} {v : Nat} (h : relT t v) : ¬ t = -1 ∧ ¬ t = -2 := by
  rcases h with ⟨h, -⟩ | ⟨h, -⟩ | ⟨h, -⟩ <;> (rw [h]; decide)
theorem relV_some {tb : Nat → Nat} {n v : Nat} {c : Cur} (htb : ∀ j, tb j ≤ 255) (h : relT (tokOf tb n c) v) : relV tb n c = some v := by
  unfold relV
  rcases h with ⟨h, e⟩ | ⟨h, e⟩ | ⟨h, e⟩
  · rw [if_pos ((tok60 htb).mp h), e]
  · rw [if_neg (fun q => absurd (h.symm.trans ((tok60 htb).mpr q)) (by decide)), if_pos ((tok62 htb).mp h), e]
  · rw [if_neg (fun q => absurd (h.symm.trans ((tok60 htb).mpr q)) (by decide)), if_neg (fun q => absurd (h.symm.trans ((tok62 htb).mpr q)) (by decide)), if_pos ((tok61 htb).mp h), e]
theorem relV_none {tb : Nat → Nat} {n : Nat} {c : Cur} (htb : ∀ j, tb j ≤ 255) (h1 : ¬ tokOf tb n c = 60) (h2 : ¬ tokOf tb n c = 62) (h3 : ¬ tokOf tb n c = 61) : relV tb n c = none := by
  unfold relV
  rw [if_neg (fun q => h1 ((tok60 htb).mpr q)), if_neg (fun q => h2 ((tok62 htb).mpr q)), if_neg (fun q => h3 ((tok61 htb).mpr q))]
/-! what the class does with a fact is the fact -/
theorem op_ok {tb : Nat → Nat} {n xo : Nat} {w : Int32} {r : Cur × List Nat} (ht : tokOf tb n r.1 = w) (hx : xo < 6) : bd (.ok r) (opF tb n w xo) = .ok (nx tb n r.1.1, r.2) := by
  show bindR (opF tb n w xo r.1) _ = _
  unfold opF; rw [if_pos ht, if_pos hx]; rfl
theorem f_not {tb : Nat → Nat} {n d xo : Nat} {o : Res} {xa : Nat} {xv xt : Int32} {xz : Nat} {xf xp : Int32} {cl mw : Nat} {f : Nat → Int32} (htb : ∀ j, tb j ≤ 255) (h : rsO tb n o xa xv xt xz xf xp cl mw f) (e : xt = 275) (hx : xo < 6) (hd : 1 ≤ d) : ad (bindR (bd o (opF tb n 275 xo)) (apF (fcR tb n (d - 1)))) 12 = bindR o (apF (fcR tb n d)) := by
  obtain ⟨d, rfl⟩ : ∃ m, d = m + 1 := ⟨d - 1, by omega⟩
  rw [Nat.add_sub_cancel]
  cases o with
  | error e => rfl
  | ok r =>
    have ht := (rs_t h rfl).symm.trans e
    rw [op_ok ht hx]
    show bindR (bindR (fcR tb n d (nx tb n r.1.1)) _) _ = bindR (fcR tb n (d + 1) r.1) _
    rw [fB_not htb ht, bindR_assoc, bindR_assoc]
    refine bindR_congr _ (fun a _ => ?_)
    show Except.ok (a.1, (r.2 ++ a.2) ++ [12]) = Except.ok (a.1, r.2 ++ (a.2 ++ [12]))
    rw [List.append_assoc]
theorem f_not0 {tb : Nat → Nat} {n d xo : Nat} {o : Res} {xa : Nat} {xv xt : Int32} {xz : Nat} {xf xp : Int32} {cl mw : Nat} {f : Nat → Int32} (htb : ∀ j, tb j ≤ 255) (h : rsO tb n o xa xv xt xz xf xp cl mw f) (e : xt = 275) (hx : xo = 6) (hd : d = 0) : bd o (opF tb n 275 xo) = bindR o (apF (fcR tb n d)) := by
  subst hd
  cases o with
  | error e => rfl
  | ok r =>
    have ht := (rs_t h rfl).symm.trans e
    show bindR (opF tb n 275 xo r.1) _ = bindR (fcR tb n 0 r.1) _
    unfold opF; rw [if_pos ht, if_neg (by omega), fB_not0 htb ht]; rfl
theorem f_sq {tb : Nat → Nat} {n d xo : Nat} {o : Res} {xa : Nat} {xv xt : Int32} {xz : Nat} {xf xp : Int32} {cl mw : Nat} {f : Nat → Int32} (htb : ∀ j, tb j ≤ 255) (h : rsO tb n o xa xv xt xz xf xp cl mw f) (e : xt = 91) (hx : xo < 6) (hd : 1 ≤ d) : bd (bindR (bd o (opF tb n 91 xo)) (apF (testR tb n (fcR tb n (d - 1))))) (tkF tb n 93) = bindR o (apF (fcR tb n d)) := by
  obtain ⟨d, rfl⟩ : ∃ m, d = m + 1 := ⟨d - 1, by omega⟩
  rw [Nat.add_sub_cancel]
  cases o with
  | error e => rfl
  | ok r =>
    have ht := (rs_t h rfl).symm.trans e
    rw [op_ok ht hx, tk93 htb]
    show bindR (bindR (testR tb n (fcR tb n d) (nx tb n r.1.1)) _) _ = bindR (fcR tb n (d + 1) r.1) _
    rw [fB_sq htb ht, bindR_assoc, bindR_assoc]
    refine bindR_congr _ (fun a _ => ?_)
    show bindR (signP tb n 93 a.1) _ = bindR (bindR (signP tb n 93 a.1) _) _
    rw [bindR_assoc]
    rfl
theorem f_sq0 {tb : Nat → Nat} {n d xo : Nat} {o : Res} {xa : Nat} {xv xt : Int32} {xz : Nat} {xf xp : Int32} {cl mw : Nat} {f : Nat → Int32} (htb : ∀ j, tb j ≤ 255) (h : rsO tb n o xa xv xt xz xf xp cl mw f) (e : xt = 91) (hx : xo = 6) (hd : d = 0) : bd o (opF tb n 91 xo) = bindR o (apF (fcR tb n d)) := by
  subst hd
  cases o with
  | error e => rfl
  | ok r =>
    have ht := (rs_t h rfl).symm.trans e
    show bindR (opF tb n 91 xo r.1) _ = bindR (fcR tb n 0 r.1) _
    unfold opF; rw [if_pos ht, if_neg (by omega), fB_sq0 htb ht]; rfl
theorem f_all {tb : Nat → Nat} {n d : Nat} {o : Res} {xa : Nat} {xv xt : Int32} {xz : Nat} {xf xp : Int32} {cl mw : Nat} {f : Nat → Int32} (htb : ∀ j, tb j ≤ 255) (h : rsO tb n o xa xv xt xz xf xp cl mw f) (e : xt = 276) : ad (bd o (nxF tb n)) 13 = bindR o (apF (fcR tb n d)) := by
  cases o with
  | error e => rfl
  | ok r =>
    have ht := (rs_t h rfl).symm.trans e
    show _ = bindR (fcR tb n d r.1) _
    rw [fB_all htb ht]; rfl
theorem f_rel {tb : Nat → Nat} {n d : Nat} {o : Res} {xa : Nat} {xv xt : Int32} {xz : Nat} {xf xp : Int32} {cl mw : Nat} {f : Nat → Int32} (htb : ∀ j, tb j ≤ 255) (h : rsO tb n o xa xv xt xz xf xp cl mw f) (h1 : ¬ xt = 275) (h2 : ¬ xt = 91) (h3 : ¬ xt = 276) : bindR o (fun r => bindR (sumOf tb n (rdPart tb n 2 d) r.1) (fun q => bindR (relB tb n d q) (fun z => .ok (z.1, r.2 ++ z.2)))) = bindR o (apF (fcR tb n d)) := by
  cases o with
  | error e => rfl
  | ok r =>
    have ht := rs_t h rfl
    rw [ht] at h1 h2 h3
    show _ = bindR (fcR tb n d r.1) _
    rw [fB_rel htb h1 h2 h3]
    unfold relR
    rw [bindR_assoc]
    rfl
theorem f_relN {tb : Nat → Nat} {n d : Nat} {o : Res} {xa : Nat} {xv xt : Int32} {xz : Nat} {xf xp : Int32} {cl mw : Nat} {f : Nat → Int32} {ya : Nat} {yv yt : Int32} {yz : Nat} {yf yp : Int32} {c2 w2 : Nat} {g : Nat → Int32} (htb : ∀ j, tb j ≤ 255) (h : rsO tb n o xa xv xt xz xf xp cl mw f) (h1 : ¬ xt = 275) (h2 : ¬ xt = 91) (h3 : ¬ xt = 276) (hy : rsO tb n (bindR o (apF (sumOf tb n (rdPart tb n 2 d)))) ya yv yt yz yf yp c2 w2 g) (g1 : ¬ yt = 60) (g2 : ¬ yt = 62) (g3 : ¬ yt = 61) : bd (bindR o (apF (sumOf tb n (rdPart tb n 2 d)))) (hereF 1) = bindR o (apF (fcR tb n d)) := by
  rw [← f_rel htb h h1 h2 h3]
  cases o with
  | error e => rfl
  | ok r =>
    show bindR (bindR (sumOf tb n (rdPart tb n 2 d) r.1) _) _ = bindR (sumOf tb n (rdPart tb n 2 d) r.1) _
    cases hq : sumOf tb n (rdPart tb n 2 d) r.1 with
    | error e => rfl
    | ok q =>
      have e2 : bindR (.ok r) (apF (sumOf tb n (rdPart tb n 2 d))) = .ok (q.1, r.2 ++ q.2) := by
        show bindR (sumOf tb n (rdPart tb n 2 d) r.1) _ = _
        rw [hq]; rfl
      have ht := rs_t hy e2
      rw [ht] at g1 g2 g3
      show _ = bindR (relB tb n d q) _
      unfold relB
      rw [relV_none htb g1 g2 g3]
      rfl
theorem f_relY {tb : Nat → Nat} {n d v : Nat} {o : Res} {xa : Nat} {xv xt : Int32} {xz : Nat} {xf xp : Int32} {cl mw : Nat} {f : Nat → Int32} {ya : Nat} {yv yt : Int32} {yz : Nat} {yf yp : Int32} {c2 w2 : Nat} {g : Nat → Int32} (htb : ∀ j, tb j ≤ 255) (h : rsO tb n o xa xv xt xz xf xp cl mw f) (h1 : ¬ xt = 275) (h2 : ¬ xt = 91) (h3 : ¬ xt = 276) (hy : rsO tb n (bindR o (apF (sumOf tb n (rdPart tb n 2 d)))) ya yv yt yz yf yp c2 w2 g) (g1 : relT yt v) : ad (bindR (bd (bindR o (apF (sumOf tb n (rdPart tb n 2 d)))) (nxF tb n)) (apF (sumOf tb n (rdPart tb n 2 d)))) v = bindR o (apF (fcR tb n d)) := by
  rw [← f_rel htb h h1 h2 h3]
  cases o with
  | error e => rfl
  | ok r =>
    show ad (bindR (bd (bindR (sumOf tb n (rdPart tb n 2 d) r.1) _) _) _) v = bindR (sumOf tb n (rdPart tb n 2 d) r.1) _
    cases hq : sumOf tb n (rdPart tb n 2 d) r.1 with
    | error e => rfl
    | ok q =>
      have e2 : bindR (.ok r) (apF (sumOf tb n (rdPart tb n 2 d))) = .ok (q.1, r.2 ++ q.2) := by
        show bindR (sumOf tb n (rdPart tb n 2 d) r.1) _ = _
        rw [hq]; rfl
      have ht := rs_t hy e2
      rw [ht] at g1
      show bindR (bindR (sumOf tb n (rdPart tb n 2 d) (nx tb n q.1.1)) (fun z => .ok (z.1, (r.2 ++ q.2) ++ z.2))) (fun z => .ok (z.1, z.2 ++ [v])) = bindR (relB tb n d q) _
      unfold relB
      rw [relV_some htb g1, bindR_assoc]
      show _ = bindR (bindR (sumOf tb n (rdPart tb n 2 d) (nx tb n q.1.1)) _) _
      rw [bindR_assoc]
      refine bindR_congr _ (fun a _ => ?_)
      show Except.ok (a.1, ((r.2 ++ q.2) ++ a.2) ++ [v]) = Except.ok (a.1, r.2 ++ (q.2 ++ a.2 ++ [v]))
      rw [List.append_assoc, List.append_assoc, List.append_assoc]
/-! the reader's fields changed, not what was read -/
theorem rs_re {tb : Nat → Nat} {n : Nat} {o : Res} {xa : Nat} {xv xt : Int32} {xz : Nat} {xf xp : Int32} {cl mw : Nat} {f : Nat → Int32} {ya : Nat} {yv yt : Int32} {yz : Nat} {yf yp : Int32} (h : rsO tb n o xa xv xt xz xf xp cl mw f) (h2 : rdO tb n (rc o) ya yv yt yz yf yp) : rsO tb n o ya yv yt yz yf yp cl mw f := ⟨h2, h.2⟩
theorem both_0 {tb : Nat → Nat} {n : Nat} {F : Cur → Res} (o : Res) : bindR (bindR o (apF F)) (fun r => andR tb n F (n + 2) r.1 r.2) = bindR o (apF (bothR tb n F)) := by
  cases o with
  | error e => rfl
  | ok r =>
    show bindR (bindR (F r.1) _) _ = bindR (bindR (F r.1) _) _
    rw [bindR_assoc, bindR_assoc]
    refine bindR_congr _ (fun a _ => ?_)
    exact andR_pre r.2 (n + 2) a.1 a.2
theorem both_s {tb : Nat → Nat} {n : Nat} {F : Cur → Res} {T : Res} {o : Res} {xa : Nat} {xv xt : Int32} {xz : Nat} {xf xp : Int32} {cl mw : Nat} {f : Nat → Int32} (htb : ∀ j, tb j ≤ 255) (h : rsO tb n o xa xv xt xz xf xp cl mw f) (hF : mono F) (e : xt = 274) (hT : bindR o (fun r => andR tb n F (n + 2) r.1 r.2) = T) : bindR (ad (bindR (bd o (nxF tb n)) (apF F)) 10) (fun r => andR tb n F (n + 2) r.1 r.2) = T := by
  rw [← hT]
  cases o with
  | error e => rfl
  | ok r =>
    rw [rs_t h rfl] at e
    show bindR (bindR (bindR (F (nx tb n r.1.1)) (fun q => .ok (q.1, r.2 ++ q.2))) (fun q => .ok (q.1, q.2 ++ [10]))) _ = andR tb n F (n + 2) r.1 r.2
    rw [andR, bindR_assoc, bindR_assoc]
    have hs := (tok274 htb).mp e
    have hn := nx_gt (tb := tb) (isW_lt hs)
    rw [if_pos hs]
    refine bindR_congr _ (fun a ha => ?_)
    have hm := hF _ _ ha
    exact andR_fuel hF _ _ _ _ (by omega) (by omega) (by omega) (by omega)
theorem both_e {tb : Nat → Nat} {n i : Nat} {F : Cur → Res} {T : Res} {o : Res} {xa : Nat} {xv xt : Int32} {xz : Nat} {xf xp : Int32} {cl mw : Nat} {f : Nat → Int32} {ya : Nat} {yv yt : Int32} {yz : Nat} {yf yp : Int32} (htb : ∀ j, tb j ≤ 255) (h : rsO tb n o xa xv xt xz xf xp cl mw f) (hn : n ≤ 1600) (hi : iO i o) (e : 1600 ≤ i ∨ ¬ xt = 274) (hT : bindR o (fun r => andR tb n F (n + 2) r.1 r.2) = T) (h2 : rsO tb n o ya yv yt yz yf yp cl mw f) : rsO tb n T ya yv yt yz yf yp cl mw f := by
  have : T = o := by
    rw [← hT]
    cases o with
    | error e => rfl
    | ok r =>
      have hx := hi r rfl
      rw [rs_t h rfl] at e
      have a1 : ¬ isW tb n wAnd r.1 = true := fun q => by
        have q1 := isW_lt q
        have q2 := (tok274 htb).mpr q
        rcases e with e | e
        · omega
        · exact e q2
      show andR tb n F (n + 1 + 1) r.1 r.2 = _
      rw [andR_stop a1]
  rw [this]; exact h2
theorem test_0 {tb : Nat → Nat} {n : Nat} {F : Cur → Res} (o : Res) : bindR (bindR o (apF (bothR tb n F))) (fun r => orR tb n F (n + 2) r.1 r.2) = bindR o (apF (testR tb n F)) := by
  cases o with
  | error e => rfl
  | ok r =>
    show bindR (bindR ((bothR tb n F) r.1) _) _ = bindR (bindR ((bothR tb n F) r.1) _) _
    rw [bindR_assoc, bindR_assoc]
    refine bindR_congr _ (fun a _ => ?_)
    exact orR_pre r.2 (n + 2) a.1 a.2
theorem test_s {tb : Nat → Nat} {n : Nat} {F : Cur → Res} {T : Res} {o : Res} {xa : Nat} {xv xt : Int32} {xz : Nat} {xf xp : Int32} {cl mw : Nat} {f : Nat → Int32} (htb : ∀ j, tb j ≤ 255) (h : rsO tb n o xa xv xt xz xf xp cl mw f) (hF : mono F) (e : xt = 273) (hT : bindR o (fun r => orR tb n F (n + 2) r.1 r.2) = T) : bindR (ad (bindR (bd o (nxF tb n)) (apF (bothR tb n F))) 11) (fun r => orR tb n F (n + 2) r.1 r.2) = T := by
  rw [← hT]
  cases o with
  | error e => rfl
  | ok r =>
    rw [rs_t h rfl] at e
    show bindR (bindR (bindR ((bothR tb n F) (nx tb n r.1.1)) (fun q => .ok (q.1, r.2 ++ q.2))) (fun q => .ok (q.1, q.2 ++ [11]))) _ = orR tb n F (n + 2) r.1 r.2
    rw [orR, bindR_assoc, bindR_assoc]
    have hs := (tok273 htb).mp e
    have hn := nx_gt (tb := tb) (isW_lt hs)
    rw [if_pos hs]
    refine bindR_congr _ (fun a ha => ?_)
    have hm := (bothR_mono hF) _ _ ha
    exact orR_fuel hF _ _ _ _ (by omega) (by omega) (by omega) (by omega)
theorem test_e {tb : Nat → Nat} {n i : Nat} {F : Cur → Res} {T : Res} {o : Res} {xa : Nat} {xv xt : Int32} {xz : Nat} {xf xp : Int32} {cl mw : Nat} {f : Nat → Int32} {ya : Nat} {yv yt : Int32} {yz : Nat} {yf yp : Int32} (htb : ∀ j, tb j ≤ 255) (h : rsO tb n o xa xv xt xz xf xp cl mw f) (hn : n ≤ 1600) (hi : iO i o) (e : 1600 ≤ i ∨ ¬ xt = 273) (hT : bindR o (fun r => orR tb n F (n + 2) r.1 r.2) = T) (h2 : rsO tb n o ya yv yt yz yf yp cl mw f) : rsO tb n T ya yv yt yz yf yp cl mw f := by
  have : T = o := by
    rw [← hT]
    cases o with
    | error e => rfl
    | ok r =>
      have hx := hi r rfl
      rw [rs_t h rfl] at e
      have a1 : ¬ isW tb n wOr r.1 = true := fun q => by
        have q1 := isW_lt q
        have q2 := (tok273 htb).mpr q
        rcases e with e | e
        · omega
        · exact e q2
      show orR tb n F (n + 1 + 1) r.1 r.2 = _
      rw [orR_stop a1]
  rw [this]; exact h2
/-! a question -/
def qsP (tb : Nat → Nat) (n : Nat) (c : Cur) : Except Err Cur := rc (sumOf tb n (rdPart tb n 2 6) c)
def qtP (tb : Nat → Nat) (n : Nat) (c : Cur) : Except Err Cur := rc (testR tb n (fcR tb n 6) c)
def isV (tb : Nat → Nat) (n k : Nat) (c : Cur) : Bool := isW tb n (CWs.getD k []) c
def quF (tb : Nat → Nat) (n : Nat) (c : Cur) : Except Err Cur :=
  if isV tb n 15 c = true ∨ isV tb n 23 c = true ∨ isV tb n 24 c = true then qtP tb n (nx tb n c.1)
  else if isV tb n 25 c = true ∨ isV tb n 26 c = true ∨ isV tb n 27 c = true then qsP tb n (nx tb n c.1)
  else .error (1, c.1)
def fiF (n : Nat) (c : Cur) : Except Err Cur := if n ≤ c.1 then .ok c else .error (1, c.1)
def quP (tb : Nat → Nat) (n : Nat) : Except Err Cur := bindR (quF tb n (sk tb n 0, false)) (fiF n)
def quO (P : Except Err Cur) (xf xp : Int32) : Prop := match P with
  | .ok _ => xf = 0 ∧ xp = -1
  | .error e => xf = nI e.1 ∧ xp = nI e.2
theorem qu_rd {tb : Nat → Nat} {n : Nat} {P : Except Err Cur} {xa : Nat} {xv xt : Int32} {xz : Nat} {xf xp : Int32} (h : rdO tb n P xa xv xt xz xf xp) : quO P xf xp := by
  cases P with
  | ok c => exact ⟨h.1, h.2.1⟩
  | error e => exact ⟨h.1, h.2.1⟩
theorem qu_eq {P : Except Err Cur} {a b c d : Int32} (h1 : quO P a b) (h2 : quO P c d) : c = a ∧ d = b := by
  cases P with
  | ok z => exact ⟨h2.1.trans h1.1.symm, h2.2.trans h1.2.symm⟩
  | error e => exact ⟨h2.1.trans h1.1.symm, h2.2.trans h1.2.symm⟩
def ftO (w a b r : Int32) : Prop := (w = 0 ∧ r = a) ∨ (w = 1 ∧ r = b) ∨ (¬ w = 0 ∧ ¬ w = 1 ∧ r = -1)
theorem ftO_eq {w a b r q : Int32} (h1 : ftO w a b r) (h2 : ftO w a b q) : r = q := by
  rcases h1 with ⟨e, h1⟩ | ⟨e, h1⟩ | ⟨e1, e2, h1⟩
  · rcases h2 with ⟨f, h2⟩ | ⟨f, h2⟩ | ⟨f1, f2, h2⟩
    · rw [h1, h2]
    · exact absurd (e.symm.trans f) (by decide)
    · exact absurd e f1
  · rcases h2 with ⟨f, h2⟩ | ⟨f, h2⟩ | ⟨f1, f2, h2⟩
    · exact absurd (f.symm.trans e) (by decide)
    · rw [h1, h2]
    · exact absurd e f2
  · rcases h2 with ⟨f, h2⟩ | ⟨f, h2⟩ | ⟨f1, f2, h2⟩
    · exact absurd f e1
    · exact absurd f e2
    · rw [h1, h2]
def askR (tb : Nat → Nat) (tl dy : Nat) (xf xp ef ep : Int32) : Prop := (dy = 0 ∧ ef = xf ∧ ep = xp) ∨ (1 ≤ dy ∧ quO (quP tb tl) ef ep)
theorem askR_eq {tb : Nat → Nat} {tl dy : Nat} {xf xp a b c d : Int32} (h1 : askR tb tl dy xf xp a b) (h2 : askR tb tl dy xf xp c d) : c = a ∧ d = b := by
  rcases h1 with ⟨e, h1, h1'⟩ | ⟨e, h1⟩
  · rcases h2 with ⟨f, h2, h2'⟩ | ⟨f, h2⟩
    · exact ⟨h2.trans h1.symm, h2'.trans h1'.symm⟩
    · omega
  · rcases h2 with ⟨f, h2, h2'⟩ | ⟨f, h2⟩
    · omega
    · exact qu_eq h1 h2
theorem askR_il {tb : Nat → Nat} {tl dy il : Nat} {xf xp a b : Int32} (h : (il = 0 ∧ a = xf ∧ b = xp) ∨ (il = 1 ∧ quO (quP tb tl) a b)) (h1 : il = 1 → 1 ≤ dy) (h2 : 1 ≤ dy → il = 1) : askR tb tl dy xf xp a b := by
  rcases h with ⟨e, h⟩ | ⟨e, h⟩
  · refine Or.inl ⟨?_, h⟩
    rcases Nat.eq_zero_or_pos dy with q | q
    · exact q
    · have := h2 q; omega
  · exact Or.inr ⟨h1 e, h⟩
/-- by the word that a question begins with -/
theorem tokV {tb : Nat → Nat} {n k : Nat} {c : Cur} (htb : ∀ j, tb j ≤ 255) (hk : k < 28) : tokOf tb n c = nI (256 + k) ↔ isV tb n k c = true := tok_W htb hk
theorem isV_1 {tb : Nat → Nat} {n j k : Nat} {c : Cur} (htb : ∀ j, tb j ≤ 255) (hj : j < 28) (hk : k < 28) (h : isV tb n j c = true) (hne : ¬ j = k) : ¬ isV tb n k c = true := fun q => by
  have a := ((tokV htb hj).mpr h).symm.trans ((tokV htb hk).mpr q)
  have := (nI_eq (by omega) (by omega)).mp a
  omega
theorem rc_ap {P : Cur → Res} (o : Res) : rc (bindR o (apF P)) = bindR (rc o) (fun c => rc (P c)) := by
  cases o with
  | error e => rfl
  | ok r =>
    show bindR (bindR (P r.1) (fun q => .ok (q.1, r.2 ++ q.2))) _ = bindR (P r.1) _
    rw [bindR_assoc]; rfl
theorem q_t {tb : Nat → Nat} {n k : Nat} {xa : Nat} {xv xt : Int32} {xz : Nat} {xf xp : Int32} (htb : ∀ j, tb j ≤ 255) (h : rdO tb n (.ok (sk tb n 0, false)) xa xv xt xz xf xp) (e : xt = nI (256 + k)) (hk : k = 15 ∨ k = 23 ∨ k = 24) : rc (bindR (.ok (nx tb n (sk tb n 0), [])) (apF (testR tb n (fcR tb n 6)))) = quF tb n (sk tb n 0, false) := by
  have ht : tokOf tb n (sk tb n 0, false) = nI (256 + k) := h.2.2.2.2.1.symm.trans e
  have hv := (tokV htb (by omega)).mp ht
  rw [rc_ap]
  unfold quF
  rw [if_pos (by rcases hk with hk | hk | hk <;> subst hk; exact Or.inl hv; exact Or.inr (Or.inl hv); exact Or.inr (Or.inr hv))]
  rfl
theorem q_s {tb : Nat → Nat} {n k : Nat} {xa : Nat} {xv xt : Int32} {xz : Nat} {xf xp : Int32} (htb : ∀ j, tb j ≤ 255) (h : rdO tb n (.ok (sk tb n 0, false)) xa xv xt xz xf xp) (e : xt = nI (256 + k)) (hk : k = 25 ∨ k = 26 ∨ k = 27) : rc (bindR (.ok (nx tb n (sk tb n 0), [])) (apF (sumOf tb n (rdPart tb n 2 6)))) = quF tb n (sk tb n 0, false) := by
  have ht : tokOf tb n (sk tb n 0, false) = nI (256 + k) := h.2.2.2.2.1.symm.trans e
  have hv := (tokV htb (by omega)).mp ht
  rw [rc_ap]
  unfold quF
  rw [if_neg (fun q => by rcases q with q | q | q <;> exact isV_1 htb (by omega) (by omega) hv (by omega) q), if_pos (by rcases hk with hk | hk | hk <;> subst hk; exact Or.inl hv; exact Or.inr (Or.inl hv); exact Or.inr (Or.inr hv))]
  rfl
theorem q_n {tb : Nat → Nat} {n : Nat} {xa : Nat} {xv xt : Int32} {xz : Nat} {xf xp : Int32} (htb : ∀ j, tb j ≤ 255) (h : rdO tb n (.ok (sk tb n 0, false)) xa xv xt xz xf xp) (h1 : ¬ xt = 271) (h2 : ¬ xt = 279) (h3 : ¬ xt = 280) (h4 : ¬ xt = 281) (h5 : ¬ xt = 282) (h6 : ¬ xt = 283) : bindR (.ok (sk tb n 0, false)) (hereF 1) = quF tb n (sk tb n 0, false) := by
  have ht : xt = tokOf tb n (sk tb n 0, false) := h.2.2.2.2.1
  have g : ∀ k, k < 28 → ¬ xt = nI (256 + k) → ¬ isV tb n k (sk tb n 0, false) = true := fun k hk a q => a (ht.trans ((tokV htb hk).mpr q))
  unfold quF
  rw [if_neg (fun q => by rcases q with q | q | q; exact g 15 (by decide) h1 q; exact g 23 (by decide) h2 q; exact g 24 (by decide) h3 q), if_neg (fun q => by rcases q with q | q | q; exact g 25 (by decide) h4 q; exact g 26 (by decide) h5 q; exact g 27 (by decide) h6 q)]
  rfl
theorem rs_0 {tb : Nat → Nat} {n : Nat} {c : Cur} {xa : Nat} {xv xt : Int32} {xz : Nat} {xf xp : Int32} {f : Nat → Int32} (h : rdO tb n (.ok c) xa xv xt xz xf xp) : rsO tb n (.ok (c, [])) xa xv xt xz xf xp 0 0 f := ⟨h, fun r hr => by
  cases hr
  exact ⟨rfl, ⟨fun q => absurd q (by decide), fun q => by cases q⟩, fun j hj => absurd hj (Nat.not_lt_zero j)⟩⟩
theorem lenO_0 (c : Cur) : lenO (.ok (c, [])) := fun r e => by cases e; exact Nat.zero_le _
theorem cm_9 {v : Nat} (h : v ≤ 9) : ¬ cm v = -1 := by
  match v, h with
  | 0, _ => decide
  | 1, _ => decide
  | 2, _ => decide
  | 3, _ => decide
  | 4, _ => decide
  | 5, _ => decide
  | 6, _ => decide
  | 7, _ => decide
  | 8, _ => decide
  | 9, _ => decide
  | v + 10, h => exact absurd h (by omega)
/-- the end: nothing more, or a fault here -/
theorem q_e1 {tb : Nat → Nat} {n : Nat} {o : Except Err Cur} {xa : Nat} {xv xt : Int32} {xz : Nat} {xf xp : Int32} (htb : ∀ j, tb j ≤ 255) (h : rdO tb n o xa xv xt xz xf xp) (e : xt = -1) : rdO tb n (bindR o (fiF n)) xa xv xt xz xf xp := by
  cases o with
  | error e => exact h
  | ok c =>
    have h0 : rdC tb n c xa xv xt xz xf xp := h
    have hn := (tok_E htb).mp (h0.2.2.2.2.1.symm.trans e)
    have h1 : bindR (.ok c) (fiF n) = .ok c := by show fiF n c = _; unfold fiF; rw [if_pos hn]
    rw [h1]; exact h
theorem q_e2 {tb : Nat → Nat} {n : Nat} {o : Except Err Cur} {xa : Nat} {xv xt : Int32} {xz : Nat} {xf xp : Int32} {ya : Nat} {yv yt : Int32} {yz : Nat} {yf yp : Int32} (htb : ∀ j, tb j ≤ 255) (h : rdO tb n o xa xv xt xz xf xp) (e : ¬ xt = -1) (hp : rdO tb n (bindR o (hereF 1)) ya yv yt yz yf yp) : rdO tb n (bindR o (fiF n)) ya yv yt yz yf yp :=
  rd_swap h (fun c hc => by unfold fiF; rw [if_neg (fun q => e (hc.2.2.2.2.1.trans ((tok_E htb).mpr q)))]; rfl) hp
set_option maxHeartbeats 4000000 in
set_option maxRecDepth 100000 in
theorem c_eq_stepOf (l : Launch) (D : va_G) (cI cJ cC cZ cS : ClassId) (o : Int32)  : skM l yX5_stepOf cX5_stepOf 1 (some .int) 0 0 0 0 D (skT cI cJ cC cZ cS) [.int o] [] (skI D (skT cI cJ cC cZ cS) (fun (r : Int32) (u : va_W) => ((r = -1 ∧ ¬ o = 60 ∧ ¬ o = 62 ∧ ¬ o = 61) ∨ ∃ v : Nat, v ≤ 9 ∧ r = cm v ∧ relT o v) ∧ u = [])) := by
  refine skM_of (by decide +kernel) (Nat.le_of_ble_eq_true rfl) ?_
  intro p e s m below meth c A ls E hP hD hl
  obtain ⟨hx, hb, hr, hml, hlocks, hin, hown, hts, hK, hA⟩ := E
  have hown : s.vm.findClass RX5 = some m.cls := hown
  have hS : va_S A s.heap s.heap [] := va_S.rf
  have hl : lv_has ls 1 [(0, .int o)] := hl
  refine lv_iload_n hx hb dX5_stepOf_0 rfl (lv_at hl 0 rfl) ?_
  by_cases g_1 : o = 60
  · refine lv_tableIn (off := 27) (tgt := 28) hx hb dX5_stepOf_1 (by rw [g_1]; decide) (by rw [g_1]; decide) (by rw [g_1]; rfl) (by decide) ?_
    refine lv_sipush (v := 30006) hx hb dX5_stepOf_28 (by decide) ?_
    exact sk_iret hx hb hr rfl hlocks hK hP hD hS (⟨(Or.inr ⟨7, by omega, by decide, Or.inl ⟨g_1, rfl⟩⟩), rfl⟩) (Nat.le_of_ble_eq_true rfl) (Nat.le_of_ble_eq_true rfl) dX5_stepOf_31
  by_cases g_2 : o = 61
  · refine lv_tableIn (off := 35) (tgt := 36) hx hb dX5_stepOf_1 (by rw [g_2]; decide) (by rw [g_2]; decide) (by rw [g_2]; rfl) (by decide) ?_
    refine lv_sipush (v := 30008) hx hb dX5_stepOf_36 (by decide) ?_
    exact sk_iret hx hb hr rfl hlocks hK hP hD hS (⟨(Or.inr ⟨9, by omega, by decide, Or.inr (Or.inr ⟨g_2, rfl⟩)⟩), rfl⟩) (Nat.le_of_ble_eq_true rfl) (Nat.le_of_ble_eq_true rfl) dX5_stepOf_39
  by_cases g_3 : o = 62
  · refine lv_tableIn (off := 31) (tgt := 32) hx hb dX5_stepOf_1 (by rw [g_3]; decide) (by rw [g_3]; decide) (by rw [g_3]; rfl) (by decide) ?_
    refine lv_sipush (v := 30007) hx hb dX5_stepOf_32 (by decide) ?_
    exact sk_iret hx hb hr rfl hlocks hK hP hD hS (⟨(Or.inr ⟨8, by omega, by decide, Or.inr (Or.inl ⟨g_3, rfl⟩)⟩), rfl⟩) (Nat.le_of_ble_eq_true rfl) (Nat.le_of_ble_eq_true rfl) dX5_stepOf_35
  refine lv_tableOut (tgt := 40) hx hb dX5_stepOf_1 (sk_out2 60 62 (by intro k hk1 hk2; rcases (show k = 60 ∨ k = 61 ∨ k = 62 by omega) with rfl | rfl | rfl <;> assumption)) (by decide) ?_
  refine lv_iconst (v := (-1)) hx hb dX5_stepOf_40 (by decide) ?_
  exact sk_iret hx hb hr rfl hlocks hK hP hD hS (⟨(Or.inl ⟨rfl, by assumption, by assumption, by assumption⟩), rfl⟩) (Nat.le_of_ble_eq_true rfl) (Nat.le_of_ble_eq_true rfl) dX5_stepOf_41
def CT_ereadFact (l : Launch) (D : va_G) (cI cJ cC cZ cS : ClassId) (zk zv : Nat) (zf : Value) (dd : Nat) : Prop := ∀ (q : Nat → Nat) (vb : Int32) (xa : Nat) (xv : Int32) (xo : Nat) (xt : Int32) (xz : Nat) (xf : Int32) (xp : Int32) (tl : Nat) (tb : Nat → Nat) (cl : Nat) (mw : Nat) (f1 : Nat → Int32) (og : Res) (hxa : xa ≤ 1600) (hxz : xz ≤ 1600) (htl : tl ≤ 1600) (htb : ∀ j, tb j ≤ 255) (hcl : cl ≤ 1600) (hmw : mw ≤ 1) (hdd : xo + dd = 6) (hO : rsO tb tl og xa xv xt xz xf xp cl mw f1) (hlen : lenO og), skMZ zk zv zf l yX5_readFact cX5_readFact 2 none (40 + 8 * dd) (900 + 200 * dd) 0 0 D (skT cI cJ cC cZ cS) [.ref (q 4)] [(q 4, .inr (5, [.ref (q 2), .ref (q 55), .ref (q 56), .int vb])), (q 55, .inr (8, [.ref (q 2), .int 2])), (q 2, .inr (6, [.ref (q 0), .int (nI xa), .int xv, .int (nI xo), .int xt, .int (nI xz), .int xf, .int xp])), (q 0, .inr (10, [.ref (q 20), .int (nI tl)])), (q 20, .inl (cI, 1600, .inl (fun j => nI (tb j)))), (q 56, .inr (0, [.ref (q 57), .ref (q 58), .ref (q 59), .ref (q 60), .int (nI cl), .int (nI mw)])), (q 57, .inl (cI, 1600, .inl f1))] (skV D (skT cI cJ cC cZ cS) (fun (u : va_W) => ∃ (xa2 : Nat), ∃ (xv2 : Int32), ∃ (xt2 : Int32), ∃ (xz2 : Nat), ∃ (xf2 : Int32), ∃ (xp2 : Int32), ∃ (c2 : Nat), ∃ (w2 : Nat), ∃ (g1 : Nat → Int32), xa2 ≤ 1600 ∧ xz2 ≤ 1600 ∧ c2 ≤ 1600 ∧ w2 ≤ 1 ∧ rsO tb tl (bindR og (apF (fcR tb tl dd))) xa2 xv2 xt2 xz2 xf2 xp2 c2 w2 g1 ∧ u = [(q 4, .inr (5, [.ref (q 2), .ref (q 55), .ref (q 56), .int vb])), (q 55, .inr (8, [.ref (q 2), .int 2])), (q 2, .inr (6, [.ref (q 0), .int (nI xa2), .int xv2, .int (nI xo), .int xt2, .int (nI xz2), .int xf2, .int xp2])), (q 0, .inr (10, [.ref (q 20), .int (nI tl)])), (q 20, .inl (cI, 1600, .inl (fun j => nI (tb j)))), (q 56, .inr (0, [.ref (q 57), .ref (q 58), .ref (q 59), .ref (q 60), .int (nI c2), .int (nI w2)])), (q 57, .inl (cI, 1600, .inl g1))]))
def CT_ereadBoth (l : Launch) (D : va_G) (cI cJ cC cZ cS : ClassId) (zk zv : Nat) (zf : Value) (dd : Nat) : Prop := ∀ (q : Nat → Nat) (vb : Int32) (xa : Nat) (xv : Int32) (xo : Nat) (xt : Int32) (xz : Nat) (xf : Int32) (xp : Int32) (tl : Nat) (tb : Nat → Nat) (cl : Nat) (mw : Nat) (f1 : Nat → Int32) (og : Res) (hxa : xa ≤ 1600) (hxz : xz ≤ 1600) (htl : tl ≤ 1600) (htb : ∀ j, tb j ≤ 255) (hcl : cl ≤ 1600) (hmw : mw ≤ 1) (hdd : xo + dd = 6) (hO : rsO tb tl og xa xv xt xz xf xp cl mw f1) (hlen : lenO og), skMZ zk zv zf l yX5_readBoth cX5_readBoth 2 none (41 + 8 * dd) (925 + 200 * dd) 0 0 D (skT cI cJ cC cZ cS) [.ref (q 4)] [(q 4, .inr (5, [.ref (q 2), .ref (q 55), .ref (q 56), .int vb])), (q 55, .inr (8, [.ref (q 2), .int 2])), (q 2, .inr (6, [.ref (q 0), .int (nI xa), .int xv, .int (nI xo), .int xt, .int (nI xz), .int xf, .int xp])), (q 0, .inr (10, [.ref (q 20), .int (nI tl)])), (q 20, .inl (cI, 1600, .inl (fun j => nI (tb j)))), (q 56, .inr (0, [.ref (q 57), .ref (q 58), .ref (q 59), .ref (q 60), .int (nI cl), .int (nI mw)])), (q 57, .inl (cI, 1600, .inl f1))] (skV D (skT cI cJ cC cZ cS) (fun (u : va_W) => ∃ (xa2 : Nat), ∃ (xv2 : Int32), ∃ (xt2 : Int32), ∃ (xz2 : Nat), ∃ (xf2 : Int32), ∃ (xp2 : Int32), ∃ (c2 : Nat), ∃ (w2 : Nat), ∃ (g1 : Nat → Int32), xa2 ≤ 1600 ∧ xz2 ≤ 1600 ∧ c2 ≤ 1600 ∧ w2 ≤ 1 ∧ rsO tb tl (bindR og (apF (bothR tb tl (fcR tb tl dd)))) xa2 xv2 xt2 xz2 xf2 xp2 c2 w2 g1 ∧ u = [(q 4, .inr (5, [.ref (q 2), .ref (q 55), .ref (q 56), .int vb])), (q 55, .inr (8, [.ref (q 2), .int 2])), (q 2, .inr (6, [.ref (q 0), .int (nI xa2), .int xv2, .int (nI xo), .int xt2, .int (nI xz2), .int xf2, .int xp2])), (q 0, .inr (10, [.ref (q 20), .int (nI tl)])), (q 20, .inl (cI, 1600, .inl (fun j => nI (tb j)))), (q 56, .inr (0, [.ref (q 57), .ref (q 58), .ref (q 59), .ref (q 60), .int (nI c2), .int (nI w2)])), (q 57, .inl (cI, 1600, .inl g1))]))
def CT_ereadTest (l : Launch) (D : va_G) (cI cJ cC cZ cS : ClassId) (zk zv : Nat) (zf : Value) (dd : Nat) : Prop := ∀ (q : Nat → Nat) (vb : Int32) (xa : Nat) (xv : Int32) (xo : Nat) (xt : Int32) (xz : Nat) (xf : Int32) (xp : Int32) (tl : Nat) (tb : Nat → Nat) (cl : Nat) (mw : Nat) (f1 : Nat → Int32) (og : Res) (hxa : xa ≤ 1600) (hxz : xz ≤ 1600) (htl : tl ≤ 1600) (htb : ∀ j, tb j ≤ 255) (hcl : cl ≤ 1600) (hmw : mw ≤ 1) (hdd : xo + dd = 6) (hO : rsO tb tl og xa xv xt xz xf xp cl mw f1) (hlen : lenO og), skMZ zk zv zf l yX5_readTest cX5_readTest 2 none (42 + 8 * dd) (950 + 200 * dd) 0 0 D (skT cI cJ cC cZ cS) [.ref (q 4)] [(q 4, .inr (5, [.ref (q 2), .ref (q 55), .ref (q 56), .int vb])), (q 55, .inr (8, [.ref (q 2), .int 2])), (q 2, .inr (6, [.ref (q 0), .int (nI xa), .int xv, .int (nI xo), .int xt, .int (nI xz), .int xf, .int xp])), (q 0, .inr (10, [.ref (q 20), .int (nI tl)])), (q 20, .inl (cI, 1600, .inl (fun j => nI (tb j)))), (q 56, .inr (0, [.ref (q 57), .ref (q 58), .ref (q 59), .ref (q 60), .int (nI cl), .int (nI mw)])), (q 57, .inl (cI, 1600, .inl f1))] (skV D (skT cI cJ cC cZ cS) (fun (u : va_W) => ∃ (xa2 : Nat), ∃ (xv2 : Int32), ∃ (xt2 : Int32), ∃ (xz2 : Nat), ∃ (xf2 : Int32), ∃ (xp2 : Int32), ∃ (c2 : Nat), ∃ (w2 : Nat), ∃ (g1 : Nat → Int32), xa2 ≤ 1600 ∧ xz2 ≤ 1600 ∧ c2 ≤ 1600 ∧ w2 ≤ 1 ∧ rsO tb tl (bindR og (apF (testR tb tl (fcR tb tl dd)))) xa2 xv2 xt2 xz2 xf2 xp2 c2 w2 g1 ∧ u = [(q 4, .inr (5, [.ref (q 2), .ref (q 55), .ref (q 56), .int vb])), (q 55, .inr (8, [.ref (q 2), .int 2])), (q 2, .inr (6, [.ref (q 0), .int (nI xa2), .int xv2, .int (nI xo), .int xt2, .int (nI xz2), .int xf2, .int xp2])), (q 0, .inr (10, [.ref (q 20), .int (nI tl)])), (q 20, .inl (cI, 1600, .inl (fun j => nI (tb j)))), (q 56, .inr (0, [.ref (q 57), .ref (q 58), .ref (q 59), .ref (q 60), .int (nI c2), .int (nI w2)])), (q 57, .inl (cI, 1600, .inl g1))]))
set_option maxHeartbeats 4000000 in
set_option maxRecDepth 100000 in
theorem c_ereadFact (l : Launch) (D : va_G) (cI cJ cC cZ cS : ClassId) (zk zv : Nat) (zf : Value) (dd : Nat) (ht : ∀ d, d + 1 = dd → CT_ereadTest l D cI cJ cC cZ cS zk zv zf d) (hf : ∀ d, d + 1 = dd → CT_ereadFact l D cI cJ cC cZ cS zk zv zf d) : CT_ereadFact l D cI cJ cC cZ cS zk zv zf dd := by
  intro q vb xa xv xo xt xz xf xp tl tb cl mw f1 og hxa hxz htl htb hcl hmw hdd hO hlen
  refine skMZ_of (by decide +kernel) (Nat.le_of_ble_eq_true rfl) ?_
  intro p e s m below meth c A ls E hP hD hZ hl
  obtain ⟨hx, hb, hr, hml, hlocks, hin, hown, hts, hK, hA⟩ := E
  have hown : s.vm.findClass RX5 = some m.cls := hown
  have hS : va_S A s.heap s.heap [] := va_S.rf
  have hl : lv_has ls 2 [(0, .ref (q 4))] := hl
  refine lv_aload_n hx hb dX5_readFact_0 rfl (lv_at hl 0 rfl) ?_
  refine sk_get (v := .ref (q 2)) (C := RX5) (T := TX5) (N := 4) hx hb hts inlX5 hown hK hP 0 rfl rfl 0 (by decide) w_1_154 rfl dX5_readFact_1 ?_
  refine sk_get (v := .int xt) (C := RX6) (T := TX6) (N := 8) hx hb hts inlX6 hown hK hP 2 rfl rfl 4 (by decide) w_1_61 rfl dX5_readFact_4 ?_
  refine lv_sipush (v := 275) hx hb dX5_readFact_7 (by decide) ?_
  refine lv_icmp_ne (tgt := 50) hx hb dX5_readFact_10 (by decide) (fun c_1 => ?_) (fun c_1 => ?_)
  · skip
    refine lv_aload_n hx hb dX5_readFact_50 rfl (lv_at hl 0 rfl) ?_
    refine sk_get (v := .ref (q 2)) (C := RX5) (T := TX5) (N := 4) hx hb hts inlX5 hown hK hP 0 rfl rfl 0 (by decide) w_1_154 rfl dX5_readFact_51 ?_
    refine sk_get (v := .int xt) (C := RX6) (T := TX6) (N := 8) hx hb hts inlX6 hown hK hP 2 rfl rfl 4 (by decide) w_1_61 rfl dX5_readFact_54 ?_
    refine lv_bipush (v := 91) hx hb dX5_readFact_57 (by decide) ?_
    refine lv_icmp_ne (tgt := 97) hx hb dX5_readFact_59 (by decide) (fun c_2 => ?_) (fun c_2 => ?_)
    · skip
      refine lv_aload_n hx hb dX5_readFact_97 rfl (lv_at hl 0 rfl) ?_
      refine sk_get (v := .ref (q 2)) (C := RX5) (T := TX5) (N := 4) hx hb hts inlX5 hown hK hP 0 rfl rfl 0 (by decide) w_1_154 rfl dX5_readFact_98 ?_
      refine lv_sipush (v := 276) hx hb dX5_readFact_101 (by decide) ?_
      refine sk_ViZ (q0 := 0) (n := 1) (rest := []) (wr := [(q 4, .inr (5, [.ref (q 2), .ref (q 55), .ref (q 56), .int vb])), (q 55, .inr (8, [.ref (q 2), .int 2])), (q 56, .inr (0, [.ref (q 57), .ref (q 58), .ref (q 59), .ref (q 60), .int (nI cl), .int (nI mw)])), (q 57, .inl (cI, 1600, .inl f1))]) ⟨hx, hb, hml, hown, hts⟩ hl.1 (c_erd_takes l D cI cJ cC cZ cS zk zv zf q xa xv xo xt xz xf xp tl tb 276 (rc og) (by omega) (by omega) (by omega) htb (by decide) (hO).1) w_5_86 w_5_87 w_5_88 w_1_4 w_5_89 (by decide +kernel) ⟨⟨(by dsimp only; omega), (by dsimp only; omega)⟩, (by dsimp only; omega), (by dsimp only; omega)⟩ hK hP hD hS hZ hA [2, 3, 4] [0, 1, 5, 6] rfl rfl (by decide +kernel) (by decide +kernel) (by decide +kernel) rfl rfl rfl rfl (Nat.le_of_ble_eq_true rfl) dX5_readFact_104 (fun r_10 u H locs hw hP hD hS => ?_)
      obtain ⟨xa2_3, xv2_4, xt2_5, xz2_6, xf2_7, xp2_8, b_9, hxa2_11, hxz2_12, hb1_13, hO2_14, rfl, rfl⟩ := hw
      have hP : va_P D vwCl [(q 4, .inr (5, [.ref (q 2), .ref (q 55), .ref (q 56), .int vb])), (q 55, .inr (8, [.ref (q 2), .int 2])), (q 56, .inr (0, [.ref (q 57), .ref (q 58), .ref (q 59), .ref (q 60), .int (nI cl), .int (nI mw)])), (q 57, .inl (cI, 1600, .inl f1)), (q 2, .inr (6, [.ref (q 0), .int (nI xa2_3), .int xv2_4, .int (nI xo), .int xt2_5, .int (nI xz2_6), .int xf2_7, .int xp2_8])), (q 0, .inr (10, [.ref (q 20), .int (nI tl)])), (q 20, .inl (cI, 1600, .inl (fun j => nI (tb j))))] H := hP
      have hD : va_D A [(q 4, .inr (5, [.ref (q 2), .ref (q 55), .ref (q 56), .int vb])), (q 55, .inr (8, [.ref (q 2), .int 2])), (q 56, .inr (0, [.ref (q 57), .ref (q 58), .ref (q 59), .ref (q 60), .int (nI cl), .int (nI mw)])), (q 57, .inl (cI, 1600, .inl f1)), (q 2, .inr (6, [.ref (q 0), .int (nI xa2_3), .int xv2_4, .int (nI xo), .int xt2_5, .int (nI xz2_6), .int xf2_7, .int xp2_8])), (q 0, .inr (10, [.ref (q 20), .int (nI tl)])), (q 20, .inl (cI, 1600, .inl (fun j => nI (tb j))))] := hD
      refine lv_if_eq (tgt := 121) hx hb dX5_readFact_107 (by decide) (fun c_15 => ?_) (fun c_15 => ?_)
      · have c_15 : b_9 = 0 := (neq b_9 0 (by omega) (by omega)).mp c_15
        have hw_17 := (rr_0 hO2_14 (by omega)).1
        have hO_16 := rs_re hO (rr_0 hO2_14 (by omega)).2
        refine lv_aload_n hx hb dX5_readFact_121 rfl (lv_at hl 0 rfl) ?_
        refine sk_get (v := .ref (q 55)) (C := RX5) (T := TX5) (N := 4) hx hb hts inlX5 hown hK hP 0 rfl rfl 1 (by decide) w_1_155 rfl dX5_readFact_122 ?_
        refine lv_aload_n hx hb dX5_readFact_125 rfl (lv_at hl 0 rfl) ?_
        refine sk_get (v := .ref (q 56)) (C := RX5) (T := TX5) (N := 4) hx hb hts inlX5 hown hK hP 0 rfl rfl 2 (by decide) w_1_156 rfl dX5_readFact_126 ?_
        refine sk_VvZ (q0 := 0) (n := 1) (rest := []) (wr := [(q 4, .inr (5, [.ref (q 2), .ref (q 55), .ref (q 56), .int vb]))]) ⟨hx, hb, hml, hown, hts⟩ hl.1 (c_esread l D cI cJ cC cZ cS zk zv zf dd q (q 55) 2 xa2_3 xv2_4 xo xt2_5 xz2_6 xf2_7 xp2_8 tl tb (q 56) (q 57) (q 58) (q 59) (q 60) cl mw f1 og (by omega) (by omega) (by omega) htb (by omega) (by omega) (by omega) (by omega) hO_16 hlen) w_5_90 w_3_81 w_3_82 w_1_6 w_3_83 (by decide +kernel) ⟨⟨(by dsimp only; omega), (by dsimp only; omega)⟩, (by dsimp only; omega), (by dsimp only; omega)⟩ hK hP hD hS hZ hA [1, 4, 5, 6, 2, 3] [0] rfl rfl (by decide +kernel) (by decide +kernel) (by decide +kernel) rfl rfl rfl rfl (Nat.le_of_ble_eq_true rfl) dX5_readFact_129 (fun u H locs hw hP hD hS => ?_)
        obtain ⟨xa2_18, xv2_19, xt2_20, xz2_21, xf2_22, xp2_23, c2_24, w2_25, g1_26, hxa2_27, hxz2_28, hc2_29, hw2_30, hO2_31, rfl⟩ := hw
        have hP : va_P D vwCl [(q 4, .inr (5, [.ref (q 2), .ref (q 55), .ref (q 56), .int vb])), (q 55, .inr (8, [.ref (q 2), .int 2])), (q 2, .inr (6, [.ref (q 0), .int (nI xa2_18), .int xv2_19, .int (nI xo), .int xt2_20, .int (nI xz2_21), .int xf2_22, .int xp2_23])), (q 0, .inr (10, [.ref (q 20), .int (nI tl)])), (q 20, .inl (cI, 1600, .inl (fun j => nI (tb j)))), (q 56, .inr (0, [.ref (q 57), .ref (q 58), .ref (q 59), .ref (q 60), .int (nI c2_24), .int (nI w2_25)])), (q 57, .inl (cI, 1600, .inl g1_26))] H := hP
        have hD : va_D A [(q 4, .inr (5, [.ref (q 2), .ref (q 55), .ref (q 56), .int vb])), (q 55, .inr (8, [.ref (q 2), .int 2])), (q 2, .inr (6, [.ref (q 0), .int (nI xa2_18), .int xv2_19, .int (nI xo), .int xt2_20, .int (nI xz2_21), .int xf2_22, .int xp2_23])), (q 0, .inr (10, [.ref (q 20), .int (nI tl)])), (q 20, .inl (cI, 1600, .inl (fun j => nI (tb j)))), (q 56, .inr (0, [.ref (q 57), .ref (q 58), .ref (q 59), .ref (q 60), .int (nI c2_24), .int (nI w2_25)])), (q 57, .inl (cI, 1600, .inl g1_26))] := hD
        have hL_32 := lenO_ap (len_sum (tb := tb) (n := tl) (len_part (tb := tb) (n := tl) (kind := 2) dd)) hlen
        refine lv_aload_n hx hb dX5_readFact_132 rfl (lv_at hl 0 rfl) ?_
        refine sk_get (v := .ref (q 2)) (C := RX5) (T := TX5) (N := 4) hx hb hts inlX5 hown hK hP 0 rfl rfl 0 (by decide) w_1_154 rfl dX5_readFact_133 ?_
        refine sk_get (v := .int xt2_20) (C := RX6) (T := TX6) (N := 8) hx hb hts inlX6 hown hK hP 2 rfl rfl 4 (by decide) w_1_61 rfl dX5_readFact_136 ?_
        refine sk_Si (n := 1) (rest := []) (wr := [(q 4, .inr (5, [.ref (q 2), .ref (q 55), .ref (q 56), .int vb])), (q 55, .inr (8, [.ref (q 2), .int 2])), (q 2, .inr (6, [.ref (q 0), .int (nI xa2_18), .int xv2_19, .int (nI xo), .int xt2_20, .int (nI xz2_21), .int xf2_22, .int xp2_23])), (q 0, .inr (10, [.ref (q 20), .int (nI tl)])), (q 20, .inl (cI, 1600, .inl (fun j => nI (tb j)))), (q 56, .inr (0, [.ref (q 57), .ref (q 58), .ref (q 59), .ref (q 60), .int (nI c2_24), .int (nI w2_25)])), (q 57, .inl (cI, 1600, .inl g1_26))]) ⟨hx, hb, hml, hown, hts⟩ hl.1 (c_eq_stepOf l D cI cJ cC cZ cS xt2_20) w_5_91 w_5_92 w_1_7 w_5_93 (by decide +kernel) ⟨⟨(by dsimp only; omega), (by dsimp only; omega)⟩, (by dsimp only; omega), (by dsimp only; omega)⟩ hK hP hD hS hA [] [0, 1, 2, 3, 4, 5, 6] rfl rfl (by decide +kernel) (by decide +kernel) (by decide +kernel) rfl rfl (Nat.le_of_ble_eq_true rfl) dX5_readFact_139 (fun r_33 u H locs hw hP hD hS => ?_)
        obtain ⟨hst_34, rfl⟩ := hw
        have hP : va_P D vwCl [(q 4, .inr (5, [.ref (q 2), .ref (q 55), .ref (q 56), .int vb])), (q 55, .inr (8, [.ref (q 2), .int 2])), (q 2, .inr (6, [.ref (q 0), .int (nI xa2_18), .int xv2_19, .int (nI xo), .int xt2_20, .int (nI xz2_21), .int xf2_22, .int xp2_23])), (q 0, .inr (10, [.ref (q 20), .int (nI tl)])), (q 20, .inl (cI, 1600, .inl (fun j => nI (tb j)))), (q 56, .inr (0, [.ref (q 57), .ref (q 58), .ref (q 59), .ref (q 60), .int (nI c2_24), .int (nI w2_25)])), (q 57, .inl (cI, 1600, .inl g1_26))] H := hP
        have hD : va_D A [(q 4, .inr (5, [.ref (q 2), .ref (q 55), .ref (q 56), .int vb])), (q 55, .inr (8, [.ref (q 2), .int 2])), (q 2, .inr (6, [.ref (q 0), .int (nI xa2_18), .int xv2_19, .int (nI xo), .int xt2_20, .int (nI xz2_21), .int xf2_22, .int xp2_23])), (q 0, .inr (10, [.ref (q 20), .int (nI tl)])), (q 20, .inl (cI, 1600, .inl (fun j => nI (tb j)))), (q 56, .inr (0, [.ref (q 57), .ref (q 58), .ref (q 59), .ref (q 60), .int (nI c2_24), .int (nI w2_25)])), (q 57, .inl (cI, 1600, .inl g1_26))] := hD
        refine lv_istore_n (lv' := [(1, .int r_33), (0, .ref (q 4))]) hx hb dX5_readFact_142 rfl hl (by decide) rfl (fun ls hl => ?_)
        refine lv_iload_n hx hb dX5_readFact_143 rfl (lv_at hl 0 rfl) ?_
        refine lv_iconst (v := (-1)) hx hb dX5_readFact_144 (by decide) ?_
        refine lv_icmp_ne (tgt := 158) hx hb dX5_readFact_145 (by decide) (fun c_35 => ?_) (fun c_35 => ?_)
        · obtain ⟨vx, hvx, hvr, hvt⟩ := hst_34.resolve_left (fun hq => c_35 hq.1)
          refine lv_aload_n hx hb dX5_readFact_158 rfl (lv_at hl 1 rfl) ?_
          refine sk_get (v := .ref (q 2)) (C := RX5) (T := TX5) (N := 4) hx hb hts inlX5 hown hK hP 0 rfl rfl 0 (by decide) w_1_154 rfl dX5_readFact_159 ?_
          refine sk_VvZ (q0 := 0) (n := 0) (rest := []) (wr := [(q 4, .inr (5, [.ref (q 2), .ref (q 55), .ref (q 56), .int vb])), (q 55, .inr (8, [.ref (q 2), .int 2])), (q 56, .inr (0, [.ref (q 57), .ref (q 58), .ref (q 59), .ref (q 60), .int (nI c2_24), .int (nI w2_25)])), (q 57, .inl (cI, 1600, .inl g1_26))]) ⟨hx, hb, hml, hown, hts⟩ hl.1 (c_erd_step l D cI cJ cC cZ cS zk zv zf q xa2_18 xv2_19 xo xt2_20 xz2_21 xf2_22 xp2_23 tl tb (bindR (rc (bindR og (apF (sumOf tb tl (rdPart tb tl 2 dd))))) (beF tb tl)) (by omega) (by omega) (by omega) htb (rd_st htb (hO2_31).1 (relT_real hvt))) w_5_69 w_2_226 w_2_227 w_1_4 w_2_228 (by decide +kernel) ⟨⟨(by dsimp only; omega), (by dsimp only; omega)⟩, (by dsimp only; omega), (by dsimp only; omega)⟩ hK hP hD hS hZ hA [2, 3, 4] [0, 1, 5, 6] rfl rfl (by decide +kernel) (by decide +kernel) (by decide +kernel) rfl rfl rfl rfl (Nat.le_of_ble_eq_true rfl) dX5_readFact_162 (fun u H locs hw hP hD hS => ?_)
          obtain ⟨xa2_36, xv2_37, xt2_38, xz2_39, hxa2_40, hxz2_41, hO2_42, rfl⟩ := hw
          have hP : va_P D vwCl [(q 4, .inr (5, [.ref (q 2), .ref (q 55), .ref (q 56), .int vb])), (q 55, .inr (8, [.ref (q 2), .int 2])), (q 56, .inr (0, [.ref (q 57), .ref (q 58), .ref (q 59), .ref (q 60), .int (nI c2_24), .int (nI w2_25)])), (q 57, .inl (cI, 1600, .inl g1_26)), (q 2, .inr (6, [.ref (q 0), .int (nI xa2_36), .int xv2_37, .int (nI xo), .int xt2_38, .int (nI xz2_39), .int xf2_22, .int xp2_23])), (q 0, .inr (10, [.ref (q 20), .int (nI tl)])), (q 20, .inl (cI, 1600, .inl (fun j => nI (tb j))))] H := hP
          have hD : va_D A [(q 4, .inr (5, [.ref (q 2), .ref (q 55), .ref (q 56), .int vb])), (q 55, .inr (8, [.ref (q 2), .int 2])), (q 56, .inr (0, [.ref (q 57), .ref (q 58), .ref (q 59), .ref (q 60), .int (nI c2_24), .int (nI w2_25)])), (q 57, .inl (cI, 1600, .inl g1_26)), (q 2, .inr (6, [.ref (q 0), .int (nI xa2_36), .int xv2_37, .int (nI xo), .int xt2_38, .int (nI xz2_39), .int xf2_22, .int xp2_23])), (q 0, .inr (10, [.ref (q 20), .int (nI tl)])), (q 20, .inl (cI, 1600, .inl (fun j => nI (tb j))))] := hD
          rw [stF_nx] at hO2_42
          have hO_43 := rs_bd hO2_31 hO2_42
          have hL_44 := lenS_nx htb hO2_31 (relT_real hvt) hL_32
          refine lv_aload_n hx hb dX5_readFact_165 rfl (lv_at hl 1 rfl) ?_
          refine sk_get (v := .ref (q 55)) (C := RX5) (T := TX5) (N := 4) hx hb hts inlX5 hown hK hP 0 rfl rfl 1 (by decide) w_1_155 rfl dX5_readFact_166 ?_
          refine lv_aload_n hx hb dX5_readFact_169 rfl (lv_at hl 1 rfl) ?_
          refine sk_get (v := .ref (q 56)) (C := RX5) (T := TX5) (N := 4) hx hb hts inlX5 hown hK hP 0 rfl rfl 2 (by decide) w_1_156 rfl dX5_readFact_170 ?_
          refine sk_VvZ (q0 := 0) (n := 1) (rest := []) (wr := [(q 4, .inr (5, [.ref (q 2), .ref (q 55), .ref (q 56), .int vb]))]) ⟨hx, hb, hml, hown, hts⟩ hl.1 (c_esread l D cI cJ cC cZ cS zk zv zf dd q (q 55) 2 xa2_36 xv2_37 xo xt2_38 xz2_39 xf2_22 xp2_23 tl tb (q 56) (q 57) (q 58) (q 59) (q 60) c2_24 w2_25 g1_26 (bd (bindR og (apF (sumOf tb tl (rdPart tb tl 2 dd)))) (nxF tb tl)) (by omega) (by omega) (by omega) htb (by omega) (by omega) (by omega) (by omega) hO_43 (lenO_S hL_44)) w_5_90 w_3_81 w_3_82 w_1_6 w_3_83 (by decide +kernel) ⟨⟨(by dsimp only; omega), (by dsimp only; omega)⟩, (by dsimp only; omega), (by dsimp only; omega)⟩ hK hP hD hS hZ hA [1, 4, 5, 6, 2, 3] [0] rfl rfl (by decide +kernel) (by decide +kernel) (by decide +kernel) rfl rfl rfl rfl (Nat.le_of_ble_eq_true rfl) dX5_readFact_173 (fun u H locs hw hP hD hS => ?_)
          obtain ⟨xa2_45, xv2_46, xt2_47, xz2_48, xf2_49, xp2_50, c2_51, w2_52, g1_53, hxa2_54, hxz2_55, hc2_56, hw2_57, hO2_58, rfl⟩ := hw
          have hP : va_P D vwCl [(q 4, .inr (5, [.ref (q 2), .ref (q 55), .ref (q 56), .int vb])), (q 55, .inr (8, [.ref (q 2), .int 2])), (q 2, .inr (6, [.ref (q 0), .int (nI xa2_45), .int xv2_46, .int (nI xo), .int xt2_47, .int (nI xz2_48), .int xf2_49, .int xp2_50])), (q 0, .inr (10, [.ref (q 20), .int (nI tl)])), (q 20, .inl (cI, 1600, .inl (fun j => nI (tb j)))), (q 56, .inr (0, [.ref (q 57), .ref (q 58), .ref (q 59), .ref (q 60), .int (nI c2_51), .int (nI w2_52)])), (q 57, .inl (cI, 1600, .inl g1_53))] H := hP
          have hD : va_D A [(q 4, .inr (5, [.ref (q 2), .ref (q 55), .ref (q 56), .int vb])), (q 55, .inr (8, [.ref (q 2), .int 2])), (q 2, .inr (6, [.ref (q 0), .int (nI xa2_45), .int xv2_46, .int (nI xo), .int xt2_47, .int (nI xz2_48), .int xf2_49, .int xp2_50])), (q 0, .inr (10, [.ref (q 20), .int (nI tl)])), (q 20, .inl (cI, 1600, .inl (fun j => nI (tb j)))), (q 56, .inr (0, [.ref (q 57), .ref (q 58), .ref (q 59), .ref (q 60), .int (nI c2_51), .int (nI w2_52)])), (q 57, .inl (cI, 1600, .inl g1_53))] := hD
          have hL_59 := lenS_ap (len_sum (tb := tb) (n := tl) (len_part (tb := tb) (n := tl) (kind := 2) dd)) hL_44
          refine lv_aload_n hx hb dX5_readFact_176 rfl (lv_at hl 1 rfl) ?_
          refine sk_get (v := .ref (q 56)) (C := RX5) (T := TX5) (N := 4) hx hb hts inlX5 hown hK hP 0 rfl rfl 2 (by decide) w_1_156 rfl dX5_readFact_177 ?_
          refine lv_iload_n hx hb dX5_readFact_180 rfl (lv_at hl 0 rfl) ?_
          refine sk_Vv (q0 := 0) (n := 1) (rest := []) (wr := [(q 4, .inr (5, [.ref (q 2), .ref (q 55), .ref (q 56), .int vb])), (q 55, .inr (8, [.ref (q 2), .int 2])), (q 2, .inr (6, [.ref (q 0), .int (nI xa2_45), .int xv2_46, .int (nI xo), .int xt2_47, .int (nI xz2_48), .int xf2_49, .int xp2_50])), (q 0, .inr (10, [.ref (q 20), .int (nI tl)])), (q 20, .inl (cI, 1600, .inl (fun j => nI (tb j))))]) ⟨hx, hb, hml, hown, hts⟩ hl.1 (c_eCode_addX l D cI cJ cC cZ cS (q 56) (q 57) (q 58) (q 59) (q 60) c2_51 w2_52 g1_53 r_33 (bindR (bd (bindR og (apF (sumOf tb tl (rdPart tb tl 2 dd)))) (nxF tb tl)) (apF (sumOf tb tl (rdPart tb tl 2 dd)))) vx (by omega) (by omega) hvr (by omega) (hO2_58).2 (rm_S hO2_58 htl hL_59)) w_5_83 w_3_98 w_3_99 w_1_8 w_3_100 (by decide +kernel) ⟨⟨(by dsimp only; omega), (by dsimp only; omega)⟩, (by dsimp only; omega), (by dsimp only; omega)⟩ hK hP hD hS hA [5, 6] [0, 1, 2, 3, 4] rfl rfl (by decide +kernel) (by decide +kernel) (by decide +kernel) rfl rfl rfl rfl (Nat.le_of_ble_eq_true rfl) dX5_readFact_181 (fun u H locs hw hP hD hS => ?_)
          obtain ⟨c2_60, w2_61, g1_62, hc2_63, hw2_64, hO2_65, rfl⟩ := hw
          have hP : va_P D vwCl [(q 4, .inr (5, [.ref (q 2), .ref (q 55), .ref (q 56), .int vb])), (q 55, .inr (8, [.ref (q 2), .int 2])), (q 2, .inr (6, [.ref (q 0), .int (nI xa2_45), .int xv2_46, .int (nI xo), .int xt2_47, .int (nI xz2_48), .int xf2_49, .int xp2_50])), (q 0, .inr (10, [.ref (q 20), .int (nI tl)])), (q 20, .inl (cI, 1600, .inl (fun j => nI (tb j)))), (q 56, .inr (0, [.ref (q 57), .ref (q 58), .ref (q 59), .ref (q 60), .int (nI c2_60), .int (nI w2_61)])), (q 57, .inl (cI, 1600, .inl g1_62))] H := hP
          have hD : va_D A [(q 4, .inr (5, [.ref (q 2), .ref (q 55), .ref (q 56), .int vb])), (q 55, .inr (8, [.ref (q 2), .int 2])), (q 2, .inr (6, [.ref (q 0), .int (nI xa2_45), .int xv2_46, .int (nI xo), .int xt2_47, .int (nI xz2_48), .int xf2_49, .int xp2_50])), (q 0, .inr (10, [.ref (q 20), .int (nI tl)])), (q 20, .inl (cI, 1600, .inl (fun j => nI (tb j)))), (q 56, .inr (0, [.ref (q 57), .ref (q 58), .ref (q 59), .ref (q 60), .int (nI c2_60), .int (nI w2_61)])), (q 57, .inl (cI, 1600, .inl g1_62))] := hD
          have hO_66 := rs_ad hO2_58 hO2_65
          have hL_67 := lenO_ad (v := vx) hL_59
          exact sk_vret hx hb hr hlocks hK hP hD hS (⟨xa2_45, xv2_46, xt2_47, xz2_48, xf2_49, xp2_50, c2_60, w2_61, g1_62, by omega, by omega, by omega, by omega, by rw [← f_relY htb hO c_1 c_2 hw_17 hO2_31 hvt]; exact hO_66, rfl⟩) (Nat.le_of_ble_eq_true rfl) (Nat.le_of_ble_eq_true rfl) dX5_readFact_184
        · have hno := (hst_34.resolve_right (fun hq => by obtain ⟨v9, hv9, e9, -⟩ := hq; exact cm_9 hv9 (e9.symm.trans c_35))).2
          refine lv_aload_n hx hb dX5_readFact_148 rfl (lv_at hl 1 rfl) ?_
          refine sk_get (v := .ref (q 2)) (C := RX5) (T := TX5) (N := 4) hx hb hts inlX5 hown hK hP 0 rfl rfl 0 (by decide) w_1_154 rfl dX5_readFact_149 ?_
          refine sk_Vv (q0 := 0) (n := 0) (rest := []) (wr := [(q 4, .inr (5, [.ref (q 2), .ref (q 55), .ref (q 56), .int vb])), (q 55, .inr (8, [.ref (q 2), .int 2])), (q 0, .inr (10, [.ref (q 20), .int (nI tl)])), (q 20, .inl (cI, 1600, .inl (fun j => nI (tb j)))), (q 56, .inr (0, [.ref (q 57), .ref (q 58), .ref (q 59), .ref (q 60), .int (nI c2_24), .int (nI w2_25)])), (q 57, .inl (cI, 1600, .inl g1_26))]) ⟨hx, hb, hml, hown, hts⟩ hl.1 (c_erd_failHere l D cI cJ cC cZ cS q xa2_18 xv2_19 xo xt2_20 xz2_21 xf2_22 xp2_23 tl tb (rc (bindR og (apF (sumOf tb tl (rdPart tb tl 2 dd))))) (by omega) (hO2_31).1) w_5_94 w_3_55 w_3_56 w_1_4 w_3_57 (by decide +kernel) ⟨⟨(by dsimp only; omega), (by dsimp only; omega)⟩, (by dsimp only; omega), (by dsimp only; omega)⟩ hK hP hD hS hA [2] [0, 1, 3, 4, 5, 6] rfl rfl (by decide +kernel) (by decide +kernel) (by decide +kernel) rfl rfl rfl rfl (Nat.le_of_ble_eq_true rfl) dX5_readFact_152 (fun u H locs hw hP hD hS => ?_)
          obtain ⟨xf2_68, xp2_69, hO2_70, rfl⟩ := hw
          have hP : va_P D vwCl [(q 4, .inr (5, [.ref (q 2), .ref (q 55), .ref (q 56), .int vb])), (q 55, .inr (8, [.ref (q 2), .int 2])), (q 0, .inr (10, [.ref (q 20), .int (nI tl)])), (q 20, .inl (cI, 1600, .inl (fun j => nI (tb j)))), (q 56, .inr (0, [.ref (q 57), .ref (q 58), .ref (q 59), .ref (q 60), .int (nI c2_24), .int (nI w2_25)])), (q 57, .inl (cI, 1600, .inl g1_26)), (q 2, .inr (6, [.ref (q 0), .int (nI xa2_18), .int xv2_19, .int (nI xo), .int (-2), .int (nI xz2_21), .int xf2_68, .int xp2_69]))] H := hP
          have hD : va_D A [(q 4, .inr (5, [.ref (q 2), .ref (q 55), .ref (q 56), .int vb])), (q 55, .inr (8, [.ref (q 2), .int 2])), (q 0, .inr (10, [.ref (q 20), .int (nI tl)])), (q 20, .inl (cI, 1600, .inl (fun j => nI (tb j)))), (q 56, .inr (0, [.ref (q 57), .ref (q 58), .ref (q 59), .ref (q 60), .int (nI c2_24), .int (nI w2_25)])), (q 57, .inl (cI, 1600, .inl g1_26)), (q 2, .inr (6, [.ref (q 0), .int (nI xa2_18), .int xv2_19, .int (nI xo), .int (-2), .int (nI xz2_21), .int xf2_68, .int xp2_69]))] := hD
          have hO_71 := rs_bd hO2_31 hO2_70
          have hL_72 := lenO_bd (fwd_here (k := 1)) hL_32
          refine lv_goto (tgt := 184) hx hb dX5_readFact_155 (by decide) ?_
          have hP := hP.sub (ws' := [(q 4, .inr (5, [.ref (q 2), .ref (q 55), .ref (q 56), .int vb])), (q 55, .inr (8, [.ref (q 2), .int 2])), (q 2, .inr (6, [.ref (q 0), .int (nI xa2_18), .int xv2_19, .int (nI xo), .int (-2), .int (nI xz2_21), .int xf2_68, .int xp2_69])), (q 0, .inr (10, [.ref (q 20), .int (nI tl)])), (q 20, .inl (cI, 1600, .inl (fun j => nI (tb j)))), (q 56, .inr (0, [.ref (q 57), .ref (q 58), .ref (q 59), .ref (q 60), .int (nI c2_24), .int (nI w2_25)])), (q 57, .inl (cI, 1600, .inl g1_26))]) [0, 1, 6, 2, 3, 4, 5] rfl
          have hD := hD.sub (ws' := [(q 4, .inr (5, [.ref (q 2), .ref (q 55), .ref (q 56), .int vb])), (q 55, .inr (8, [.ref (q 2), .int 2])), (q 2, .inr (6, [.ref (q 0), .int (nI xa2_18), .int xv2_19, .int (nI xo), .int (-2), .int (nI xz2_21), .int xf2_68, .int xp2_69])), (q 0, .inr (10, [.ref (q 20), .int (nI tl)])), (q 20, .inl (cI, 1600, .inl (fun j => nI (tb j)))), (q 56, .inr (0, [.ref (q 57), .ref (q 58), .ref (q 59), .ref (q 60), .int (nI c2_24), .int (nI w2_25)])), (q 57, .inl (cI, 1600, .inl g1_26))]) [0, 1, 6, 2, 3, 4, 5] (by decide +kernel) rfl
          exact sk_vret hx hb hr hlocks hK hP hD hS (⟨xa2_18, xv2_19, (-2), xz2_21, xf2_68, xp2_69, c2_24, w2_25, g1_26, by omega, by omega, by omega, by omega, by rw [← f_relN htb hO c_1 c_2 hw_17 hO2_31 hno.1 hno.2.1 hno.2.2]; exact hO_71, rfl⟩) (Nat.le_of_ble_eq_true rfl) (Nat.le_of_ble_eq_true rfl) dX5_readFact_184
      · have c_15 : ¬ (b_9 = 0) := fun h => c_15 ((neq b_9 0 (by omega) (by omega)).mpr h)
        have hw_74 := (rr_1 hO2_14 (by omega)).1
        have hO_73 := rs_bd hO (rr_1 hO2_14 (by omega)).2
        have hL_75 := lenS_nx htb hO ⟨by rw [hw_74]; decide, by rw [hw_74]; decide⟩ hlen
        refine lv_aload_n hx hb dX5_readFact_110 rfl (lv_at hl 0 rfl) ?_
        refine sk_get (v := .ref (q 56)) (C := RX5) (T := TX5) (N := 4) hx hb hts inlX5 hown hK hP 0 rfl rfl 2 (by decide) w_1_156 rfl dX5_readFact_111 ?_
        refine lv_iconst (v := 1) hx hb dX5_readFact_114 (by decide) ?_
        refine sk_Vv (q0 := 0) (n := 1) (rest := []) (wr := [(q 4, .inr (5, [.ref (q 2), .ref (q 55), .ref (q 56), .int vb])), (q 55, .inr (8, [.ref (q 2), .int 2])), (q 2, .inr (6, [.ref (q 0), .int (nI xa2_3), .int xv2_4, .int (nI xo), .int xt2_5, .int (nI xz2_6), .int xf2_7, .int xp2_8])), (q 0, .inr (10, [.ref (q 20), .int (nI tl)])), (q 20, .inl (cI, 1600, .inl (fun j => nI (tb j))))]) ⟨hx, hb, hml, hown, hts⟩ hl.1 (c_eCode_addX l D cI cJ cC cZ cS (q 56) (q 57) (q 58) (q 59) (q 60) cl mw f1 1 (bd og (nxF tb tl)) 13 (by omega) (by omega) (by decide) (by omega) (hO_73).2 (rm_S hO_73 htl hL_75)) w_5_83 w_3_98 w_3_99 w_1_8 w_3_100 (by decide +kernel) ⟨⟨(by dsimp only; omega), (by dsimp only; omega)⟩, (by dsimp only; omega), (by dsimp only; omega)⟩ hK hP hD hS hA [2, 3] [0, 1, 4, 5, 6] rfl rfl (by decide +kernel) (by decide +kernel) (by decide +kernel) rfl rfl rfl rfl (Nat.le_of_ble_eq_true rfl) dX5_readFact_115 (fun u H locs hw hP hD hS => ?_)
        obtain ⟨c2_76, w2_77, g1_78, hc2_79, hw2_80, hO2_81, rfl⟩ := hw
        have hP : va_P D vwCl [(q 4, .inr (5, [.ref (q 2), .ref (q 55), .ref (q 56), .int vb])), (q 55, .inr (8, [.ref (q 2), .int 2])), (q 2, .inr (6, [.ref (q 0), .int (nI xa2_3), .int xv2_4, .int (nI xo), .int xt2_5, .int (nI xz2_6), .int xf2_7, .int xp2_8])), (q 0, .inr (10, [.ref (q 20), .int (nI tl)])), (q 20, .inl (cI, 1600, .inl (fun j => nI (tb j)))), (q 56, .inr (0, [.ref (q 57), .ref (q 58), .ref (q 59), .ref (q 60), .int (nI c2_76), .int (nI w2_77)])), (q 57, .inl (cI, 1600, .inl g1_78))] H := hP
        have hD : va_D A [(q 4, .inr (5, [.ref (q 2), .ref (q 55), .ref (q 56), .int vb])), (q 55, .inr (8, [.ref (q 2), .int 2])), (q 2, .inr (6, [.ref (q 0), .int (nI xa2_3), .int xv2_4, .int (nI xo), .int xt2_5, .int (nI xz2_6), .int xf2_7, .int xp2_8])), (q 0, .inr (10, [.ref (q 20), .int (nI tl)])), (q 20, .inl (cI, 1600, .inl (fun j => nI (tb j)))), (q 56, .inr (0, [.ref (q 57), .ref (q 58), .ref (q 59), .ref (q 60), .int (nI c2_76), .int (nI w2_77)])), (q 57, .inl (cI, 1600, .inl g1_78))] := hD
        have hO_82 := rs_ad hO_73 hO2_81
        have hL_83 := lenO_ad (v := 13) hL_75
        refine lv_goto (tgt := 184) hx hb dX5_readFact_118 (by decide) ?_
        exact sk_vret hx hb hr hlocks hK hP hD hS (⟨xa2_3, xv2_4, xt2_5, xz2_6, xf2_7, xp2_8, c2_76, w2_77, g1_78, by omega, by omega, by omega, by omega, by rw [← f_all htb hO hw_74]; exact hO_82, rfl⟩) (Nat.le_of_ble_eq_true rfl) (Nat.le_of_ble_eq_true rfl) dX5_readFact_184
    · skip
      refine lv_aload_n hx hb dX5_readFact_62 rfl (lv_at hl 0 rfl) ?_
      refine sk_get (v := .ref (q 2)) (C := RX5) (T := TX5) (N := 4) hx hb hts inlX5 hown hK hP 0 rfl rfl 0 (by decide) w_1_154 rfl dX5_readFact_63 ?_
      refine lv_bipush (v := 91) hx hb dX5_readFact_66 (by decide) ?_
      refine sk_ViZ (q0 := 0) (n := 1) (rest := []) (wr := [(q 4, .inr (5, [.ref (q 2), .ref (q 55), .ref (q 56), .int vb])), (q 55, .inr (8, [.ref (q 2), .int 2])), (q 56, .inr (0, [.ref (q 57), .ref (q 58), .ref (q 59), .ref (q 60), .int (nI cl), .int (nI mw)])), (q 57, .inl (cI, 1600, .inl f1))]) ⟨hx, hb, hml, hown, hts⟩ hl.1 (c_erd_opens l D cI cJ cC cZ cS zk zv zf q xa xv xo xt xz xf xp tl tb 91 (rc og) (by omega) (by omega) (by omega) htb (by decide) (by omega) (hO).1) w_5_82 w_3_102 w_3_103 w_1_4 w_3_104 (by decide +kernel) ⟨⟨(by dsimp only; omega), (by dsimp only; omega)⟩, (by dsimp only; omega), (by dsimp only; omega)⟩ hK hP hD hS hZ hA [2, 3, 4] [0, 1, 5, 6] rfl rfl (by decide +kernel) (by decide +kernel) (by decide +kernel) rfl rfl rfl rfl (Nat.le_of_ble_eq_true rfl) dX5_readFact_68 (fun r_91 u H locs hw hP hD hS => ?_)
      obtain ⟨xa2_84, xv2_85, xt2_86, xz2_87, xf2_88, xp2_89, b_90, hxa2_92, hxz2_93, hb1_94, hO2_95, rfl, rfl⟩ := hw
      have hP : va_P D vwCl [(q 4, .inr (5, [.ref (q 2), .ref (q 55), .ref (q 56), .int vb])), (q 55, .inr (8, [.ref (q 2), .int 2])), (q 56, .inr (0, [.ref (q 57), .ref (q 58), .ref (q 59), .ref (q 60), .int (nI cl), .int (nI mw)])), (q 57, .inl (cI, 1600, .inl f1)), (q 2, .inr (6, [.ref (q 0), .int (nI xa2_84), .int xv2_85, .int (nI (xo + b_90)), .int xt2_86, .int (nI xz2_87), .int xf2_88, .int xp2_89])), (q 0, .inr (10, [.ref (q 20), .int (nI tl)])), (q 20, .inl (cI, 1600, .inl (fun j => nI (tb j))))] H := hP
      have hD : va_D A [(q 4, .inr (5, [.ref (q 2), .ref (q 55), .ref (q 56), .int vb])), (q 55, .inr (8, [.ref (q 2), .int 2])), (q 56, .inr (0, [.ref (q 57), .ref (q 58), .ref (q 59), .ref (q 60), .int (nI cl), .int (nI mw)])), (q 57, .inl (cI, 1600, .inl f1)), (q 2, .inr (6, [.ref (q 0), .int (nI xa2_84), .int xv2_85, .int (nI (xo + b_90)), .int xt2_86, .int (nI xz2_87), .int xf2_88, .int xp2_89])), (q 0, .inr (10, [.ref (q 20), .int (nI tl)])), (q 20, .inl (cI, 1600, .inl (fun j => nI (tb j))))] := hD
      have hO_96 := rs_bd hO hO2_95
      have hL_97 := lenS_op (n := tl) (w := 91) (xo := xo) htb (by decide) hlen
      refine lv_if_eq (tgt := 184) hx hb dX5_readFact_71 (by decide) (fun c_98 => ?_) (fun c_98 => ?_)
      · have c_98 : b_90 = 0 := (neq b_90 0 (by omega) (by omega)).mp c_98
        obtain rfl : b_90 = 0 := by omega
        have hP := hP.sub (ws' := [(q 4, .inr (5, [.ref (q 2), .ref (q 55), .ref (q 56), .int vb])), (q 55, .inr (8, [.ref (q 2), .int 2])), (q 2, .inr (6, [.ref (q 0), .int (nI xa2_84), .int xv2_85, .int (nI (xo + 0)), .int xt2_86, .int (nI xz2_87), .int xf2_88, .int xp2_89])), (q 0, .inr (10, [.ref (q 20), .int (nI tl)])), (q 20, .inl (cI, 1600, .inl (fun j => nI (tb j)))), (q 56, .inr (0, [.ref (q 57), .ref (q 58), .ref (q 59), .ref (q 60), .int (nI cl), .int (nI mw)])), (q 57, .inl (cI, 1600, .inl f1))]) [0, 1, 4, 5, 6, 2, 3] rfl
        have hD := hD.sub (ws' := [(q 4, .inr (5, [.ref (q 2), .ref (q 55), .ref (q 56), .int vb])), (q 55, .inr (8, [.ref (q 2), .int 2])), (q 2, .inr (6, [.ref (q 0), .int (nI xa2_84), .int xv2_85, .int (nI (xo + 0)), .int xt2_86, .int (nI xz2_87), .int xf2_88, .int xp2_89])), (q 0, .inr (10, [.ref (q 20), .int (nI tl)])), (q 20, .inl (cI, 1600, .inl (fun j => nI (tb j)))), (q 56, .inr (0, [.ref (q 57), .ref (q 58), .ref (q 59), .ref (q 60), .int (nI cl), .int (nI mw)])), (q 57, .inl (cI, 1600, .inl f1))]) [0, 1, 4, 5, 6, 2, 3] (by decide +kernel) rfl
        exact sk_vret hx hb hr hlocks hK hP hD hS (⟨xa2_84, xv2_85, xt2_86, xz2_87, xf2_88, xp2_89, cl, mw, f1, by omega, by omega, by omega, by omega, by rw [← f_sq0 (xo := xo) htb hO c_2 (rr_0 hb1_94 (by omega) c_2) (by have := rr_0 hb1_94 (by omega) c_2; omega)]; exact hO_96, rfl⟩) (Nat.le_of_ble_eq_true rfl) (Nat.le_of_ble_eq_true rfl) dX5_readFact_184
      · have c_98 : ¬ (b_90 = 0) := fun h => c_98 ((neq b_90 0 (by omega) (by omega)).mpr h)
        have hxo1 := (rr_1 hb1_94 (by omega)).1
        obtain rfl : b_90 = 1 := by omega
        refine lv_aload_n hx hb dX5_readFact_74 rfl (lv_at hl 0 rfl) ?_
        refine sk_VvZ (q0 := 0) (n := 0) (rest := []) (wr := []) ⟨hx, hb, hml, hown, hts⟩ hl.1 (ht (dd - 1) (by omega) q vb xa2_84 xv2_85 (xo + 1) xt2_86 xz2_87 xf2_88 xp2_89 tl tb cl mw f1 (bd og (opF tb tl 91 xo)) (by omega) (by omega) (by omega) htb (by omega) (by omega) (by omega) hO_96 (lenO_S hL_97)) w_5_70 w_5_72 w_0_34 w_1_7 w_5_73 (by decide +kernel) ⟨⟨(by dsimp only; omega), (by dsimp only; omega)⟩, (by dsimp only; omega), (by dsimp only; omega)⟩ hK hP hD hS hZ hA [0, 1, 4, 5, 6, 2, 3] [] rfl rfl (by decide +kernel) (by decide +kernel) (by decide +kernel) rfl rfl rfl rfl (Nat.le_of_ble_eq_true rfl) dX5_readFact_75 (fun u H locs hw hP hD hS => ?_)
        obtain ⟨xa2_99, xv2_100, xt2_101, xz2_102, xf2_103, xp2_104, c2_105, w2_106, g1_107, hxa2_108, hxz2_109, hc2_110, hw2_111, hO2_112, rfl⟩ := hw
        have hP : va_P D vwCl [(q 4, .inr (5, [.ref (q 2), .ref (q 55), .ref (q 56), .int vb])), (q 55, .inr (8, [.ref (q 2), .int 2])), (q 2, .inr (6, [.ref (q 0), .int (nI xa2_99), .int xv2_100, .int (nI (xo + 1)), .int xt2_101, .int (nI xz2_102), .int xf2_103, .int xp2_104])), (q 0, .inr (10, [.ref (q 20), .int (nI tl)])), (q 20, .inl (cI, 1600, .inl (fun j => nI (tb j)))), (q 56, .inr (0, [.ref (q 57), .ref (q 58), .ref (q 59), .ref (q 60), .int (nI c2_105), .int (nI w2_106)])), (q 57, .inl (cI, 1600, .inl g1_107))] H := hP
        have hD : va_D A [(q 4, .inr (5, [.ref (q 2), .ref (q 55), .ref (q 56), .int vb])), (q 55, .inr (8, [.ref (q 2), .int 2])), (q 2, .inr (6, [.ref (q 0), .int (nI xa2_99), .int xv2_100, .int (nI (xo + 1)), .int xt2_101, .int (nI xz2_102), .int xf2_103, .int xp2_104])), (q 0, .inr (10, [.ref (q 20), .int (nI tl)])), (q 20, .inl (cI, 1600, .inl (fun j => nI (tb j)))), (q 56, .inr (0, [.ref (q 57), .ref (q 58), .ref (q 59), .ref (q 60), .int (nI c2_105), .int (nI w2_106)])), (q 57, .inl (cI, 1600, .inl g1_107))] := hD
        have hL_113 := lenS_ap (len_test (tb := tb) (n := tl) (len_fc (tb := tb) (n := tl) (dd - 1))) hL_97
        refine lv_aload_n hx hb dX5_readFact_78 rfl (lv_at hl 0 rfl) ?_
        refine sk_get (v := .ref (q 2)) (C := RX5) (T := TX5) (N := 4) hx hb hts inlX5 hown hK hP 0 rfl rfl 0 (by decide) w_1_154 rfl dX5_readFact_79 ?_
        refine sk_Vv (q0 := 0) (n := 0) (rest := []) (wr := [(q 4, .inr (5, [.ref (q 2), .ref (q 55), .ref (q 56), .int vb])), (q 55, .inr (8, [.ref (q 2), .int 2])), (q 0, .inr (10, [.ref (q 20), .int (nI tl)])), (q 20, .inl (cI, 1600, .inl (fun j => nI (tb j)))), (q 56, .inr (0, [.ref (q 57), .ref (q 58), .ref (q 59), .ref (q 60), .int (nI c2_105), .int (nI w2_106)])), (q 57, .inl (cI, 1600, .inl g1_107))]) ⟨hx, hb, hml, hown, hts⟩ hl.1 (c_erd_shuts l D cI cJ cC cZ cS q xa2_99 xv2_100 (xo + 1) xt2_101 xz2_102 xf2_103 xp2_104 (by omega) (by omega)) w_5_84 w_3_106 w_3_107 w_1_4 w_3_108 (by decide +kernel) ⟨⟨(by dsimp only; omega), (by dsimp only; omega)⟩, (by dsimp only; omega), (by dsimp only; omega)⟩ hK hP hD hS hA [2] [0, 1, 3, 4, 5, 6] rfl rfl (by decide +kernel) (by decide +kernel) (by decide +kernel) rfl rfl rfl rfl (Nat.le_of_ble_eq_true rfl) dX5_readFact_82 (fun u H locs hw hP hD hS => ?_)
        obtain rfl := hw
        have hP : va_P D vwCl [(q 4, .inr (5, [.ref (q 2), .ref (q 55), .ref (q 56), .int vb])), (q 55, .inr (8, [.ref (q 2), .int 2])), (q 0, .inr (10, [.ref (q 20), .int (nI tl)])), (q 20, .inl (cI, 1600, .inl (fun j => nI (tb j)))), (q 56, .inr (0, [.ref (q 57), .ref (q 58), .ref (q 59), .ref (q 60), .int (nI c2_105), .int (nI w2_106)])), (q 57, .inl (cI, 1600, .inl g1_107)), (q 2, .inr (6, [.ref (q 0), .int (nI xa2_99), .int xv2_100, .int (nI ((xo + 1) - 1)), .int xt2_101, .int (nI xz2_102), .int xf2_103, .int xp2_104]))] H := hP
        have hD : va_D A [(q 4, .inr (5, [.ref (q 2), .ref (q 55), .ref (q 56), .int vb])), (q 55, .inr (8, [.ref (q 2), .int 2])), (q 0, .inr (10, [.ref (q 20), .int (nI tl)])), (q 20, .inl (cI, 1600, .inl (fun j => nI (tb j)))), (q 56, .inr (0, [.ref (q 57), .ref (q 58), .ref (q 59), .ref (q 60), .int (nI c2_105), .int (nI w2_106)])), (q 57, .inl (cI, 1600, .inl g1_107)), (q 2, .inr (6, [.ref (q 0), .int (nI xa2_99), .int xv2_100, .int (nI ((xo + 1) - 1)), .int xt2_101, .int (nI xz2_102), .int xf2_103, .int xp2_104]))] := hD
        refine lv_aload_n hx hb dX5_readFact_85 rfl (lv_at hl 0 rfl) ?_
        refine sk_get (v := .ref (q 2)) (C := RX5) (T := TX5) (N := 4) hx hb hts inlX5 hown hK hP 0 rfl rfl 0 (by decide) w_1_154 rfl dX5_readFact_86 ?_
        refine lv_bipush (v := 93) hx hb dX5_readFact_89 (by decide) ?_
        refine sk_VvZ (q0 := 0) (n := 1) (rest := []) (wr := [(q 4, .inr (5, [.ref (q 2), .ref (q 55), .ref (q 56), .int vb])), (q 55, .inr (8, [.ref (q 2), .int 2])), (q 56, .inr (0, [.ref (q 57), .ref (q 58), .ref (q 59), .ref (q 60), .int (nI c2_105), .int (nI w2_106)])), (q 57, .inl (cI, 1600, .inl g1_107))]) ⟨hx, hb, hml, hown, hts⟩ hl.1 (c_erd_needs l D cI cJ cC cZ cS zk zv zf q xa2_99 xv2_100 ((xo + 1) - 1) xt2_101 xz2_102 xf2_103 xp2_104 tl tb 93 (rc (bindR (bd og (opF tb tl 91 xo)) (apF (testR tb tl (fcR tb tl (dd - 1)))))) (by omega) (by omega) (by omega) htb (by decide) (hO2_112).1) w_5_85 w_3_51 w_3_52 w_1_4 w_3_53 (by decide +kernel) ⟨⟨(by dsimp only; omega), (by dsimp only; omega)⟩, (by dsimp only; omega), (by dsimp only; omega)⟩ hK hP hD hS hZ hA [6, 2, 3] [0, 1, 4, 5] rfl rfl (by decide +kernel) (by decide +kernel) (by decide +kernel) rfl rfl rfl rfl (Nat.le_of_ble_eq_true rfl) dX5_readFact_91 (fun u H locs hw hP hD hS => ?_)
        obtain ⟨xa2_114, xv2_115, xt2_116, xz2_117, xf2_118, xp2_119, hxa2_120, hxz2_121, hO2_122, rfl⟩ := hw
        have hP : va_P D vwCl [(q 4, .inr (5, [.ref (q 2), .ref (q 55), .ref (q 56), .int vb])), (q 55, .inr (8, [.ref (q 2), .int 2])), (q 56, .inr (0, [.ref (q 57), .ref (q 58), .ref (q 59), .ref (q 60), .int (nI c2_105), .int (nI w2_106)])), (q 57, .inl (cI, 1600, .inl g1_107)), (q 2, .inr (6, [.ref (q 0), .int (nI xa2_114), .int xv2_115, .int (nI ((xo + 1) - 1)), .int xt2_116, .int (nI xz2_117), .int xf2_118, .int xp2_119])), (q 0, .inr (10, [.ref (q 20), .int (nI tl)])), (q 20, .inl (cI, 1600, .inl (fun j => nI (tb j))))] H := hP
        have hD : va_D A [(q 4, .inr (5, [.ref (q 2), .ref (q 55), .ref (q 56), .int vb])), (q 55, .inr (8, [.ref (q 2), .int 2])), (q 56, .inr (0, [.ref (q 57), .ref (q 58), .ref (q 59), .ref (q 60), .int (nI c2_105), .int (nI w2_106)])), (q 57, .inl (cI, 1600, .inl g1_107)), (q 2, .inr (6, [.ref (q 0), .int (nI xa2_114), .int xv2_115, .int (nI ((xo + 1) - 1)), .int xt2_116, .int (nI xz2_117), .int xf2_118, .int xp2_119])), (q 0, .inr (10, [.ref (q 20), .int (nI tl)])), (q 20, .inl (cI, 1600, .inl (fun j => nI (tb j))))] := hD
        have hO_123 := rs_bd hO2_112 hO2_122
        have hL_124 := lenS_bd (fwd_tk (tb := tb) (n := tl) (w := 93)) hL_113
        refine lv_goto (tgt := 184) hx hb dX5_readFact_94 (by decide) ?_
        have hP := hP.sub (ws' := [(q 4, .inr (5, [.ref (q 2), .ref (q 55), .ref (q 56), .int vb])), (q 55, .inr (8, [.ref (q 2), .int 2])), (q 2, .inr (6, [.ref (q 0), .int (nI xa2_114), .int xv2_115, .int (nI ((xo + 1) - 1)), .int xt2_116, .int (nI xz2_117), .int xf2_118, .int xp2_119])), (q 0, .inr (10, [.ref (q 20), .int (nI tl)])), (q 20, .inl (cI, 1600, .inl (fun j => nI (tb j)))), (q 56, .inr (0, [.ref (q 57), .ref (q 58), .ref (q 59), .ref (q 60), .int (nI c2_105), .int (nI w2_106)])), (q 57, .inl (cI, 1600, .inl g1_107))]) [0, 1, 4, 5, 6, 2, 3] rfl
        have hD := hD.sub (ws' := [(q 4, .inr (5, [.ref (q 2), .ref (q 55), .ref (q 56), .int vb])), (q 55, .inr (8, [.ref (q 2), .int 2])), (q 2, .inr (6, [.ref (q 0), .int (nI xa2_114), .int xv2_115, .int (nI ((xo + 1) - 1)), .int xt2_116, .int (nI xz2_117), .int xf2_118, .int xp2_119])), (q 0, .inr (10, [.ref (q 20), .int (nI tl)])), (q 20, .inl (cI, 1600, .inl (fun j => nI (tb j)))), (q 56, .inr (0, [.ref (q 57), .ref (q 58), .ref (q 59), .ref (q 60), .int (nI c2_105), .int (nI w2_106)])), (q 57, .inl (cI, 1600, .inl g1_107))]) [0, 1, 4, 5, 6, 2, 3] (by decide +kernel) rfl
        exact sk_vret hx hb hr hlocks hK hP hD hS (⟨xa2_114, xv2_115, xt2_116, xz2_117, xf2_118, xp2_119, c2_105, w2_106, g1_107, by omega, by omega, by omega, by omega, by rw [← f_sq (xo := xo) htb hO c_2 (by omega) (by omega)]; exact hO_123, rfl⟩) (Nat.le_of_ble_eq_true rfl) (Nat.le_of_ble_eq_true rfl) dX5_readFact_184
  · skip
    refine lv_aload_n hx hb dX5_readFact_13 rfl (lv_at hl 0 rfl) ?_
    refine sk_get (v := .ref (q 2)) (C := RX5) (T := TX5) (N := 4) hx hb hts inlX5 hown hK hP 0 rfl rfl 0 (by decide) w_1_154 rfl dX5_readFact_14 ?_
    refine lv_sipush (v := 275) hx hb dX5_readFact_17 (by decide) ?_
    refine sk_ViZ (q0 := 0) (n := 1) (rest := []) (wr := [(q 4, .inr (5, [.ref (q 2), .ref (q 55), .ref (q 56), .int vb])), (q 55, .inr (8, [.ref (q 2), .int 2])), (q 56, .inr (0, [.ref (q 57), .ref (q 58), .ref (q 59), .ref (q 60), .int (nI cl), .int (nI mw)])), (q 57, .inl (cI, 1600, .inl f1))]) ⟨hx, hb, hml, hown, hts⟩ hl.1 (c_erd_opens l D cI cJ cC cZ cS zk zv zf q xa xv xo xt xz xf xp tl tb 275 (rc og) (by omega) (by omega) (by omega) htb (by decide) (by omega) (hO).1) w_5_82 w_3_102 w_3_103 w_1_4 w_3_104 (by decide +kernel) ⟨⟨(by dsimp only; omega), (by dsimp only; omega)⟩, (by dsimp only; omega), (by dsimp only; omega)⟩ hK hP hD hS hZ hA [2, 3, 4] [0, 1, 5, 6] rfl rfl (by decide +kernel) (by decide +kernel) (by decide +kernel) rfl rfl rfl rfl (Nat.le_of_ble_eq_true rfl) dX5_readFact_20 (fun r_132 u H locs hw hP hD hS => ?_)
    obtain ⟨xa2_125, xv2_126, xt2_127, xz2_128, xf2_129, xp2_130, b_131, hxa2_133, hxz2_134, hb1_135, hO2_136, rfl, rfl⟩ := hw
    have hP : va_P D vwCl [(q 4, .inr (5, [.ref (q 2), .ref (q 55), .ref (q 56), .int vb])), (q 55, .inr (8, [.ref (q 2), .int 2])), (q 56, .inr (0, [.ref (q 57), .ref (q 58), .ref (q 59), .ref (q 60), .int (nI cl), .int (nI mw)])), (q 57, .inl (cI, 1600, .inl f1)), (q 2, .inr (6, [.ref (q 0), .int (nI xa2_125), .int xv2_126, .int (nI (xo + b_131)), .int xt2_127, .int (nI xz2_128), .int xf2_129, .int xp2_130])), (q 0, .inr (10, [.ref (q 20), .int (nI tl)])), (q 20, .inl (cI, 1600, .inl (fun j => nI (tb j))))] H := hP
    have hD : va_D A [(q 4, .inr (5, [.ref (q 2), .ref (q 55), .ref (q 56), .int vb])), (q 55, .inr (8, [.ref (q 2), .int 2])), (q 56, .inr (0, [.ref (q 57), .ref (q 58), .ref (q 59), .ref (q 60), .int (nI cl), .int (nI mw)])), (q 57, .inl (cI, 1600, .inl f1)), (q 2, .inr (6, [.ref (q 0), .int (nI xa2_125), .int xv2_126, .int (nI (xo + b_131)), .int xt2_127, .int (nI xz2_128), .int xf2_129, .int xp2_130])), (q 0, .inr (10, [.ref (q 20), .int (nI tl)])), (q 20, .inl (cI, 1600, .inl (fun j => nI (tb j))))] := hD
    have hO_137 := rs_bd hO hO2_136
    have hL_138 := lenS_op (n := tl) (w := 275) (xo := xo) htb (by decide) hlen
    refine lv_if_eq (tgt := 184) hx hb dX5_readFact_23 (by decide) (fun c_139 => ?_) (fun c_139 => ?_)
    · have c_139 : b_131 = 0 := (neq b_131 0 (by omega) (by omega)).mp c_139
      obtain rfl : b_131 = 0 := by omega
      have hP := hP.sub (ws' := [(q 4, .inr (5, [.ref (q 2), .ref (q 55), .ref (q 56), .int vb])), (q 55, .inr (8, [.ref (q 2), .int 2])), (q 2, .inr (6, [.ref (q 0), .int (nI xa2_125), .int xv2_126, .int (nI (xo + 0)), .int xt2_127, .int (nI xz2_128), .int xf2_129, .int xp2_130])), (q 0, .inr (10, [.ref (q 20), .int (nI tl)])), (q 20, .inl (cI, 1600, .inl (fun j => nI (tb j)))), (q 56, .inr (0, [.ref (q 57), .ref (q 58), .ref (q 59), .ref (q 60), .int (nI cl), .int (nI mw)])), (q 57, .inl (cI, 1600, .inl f1))]) [0, 1, 4, 5, 6, 2, 3] rfl
      have hD := hD.sub (ws' := [(q 4, .inr (5, [.ref (q 2), .ref (q 55), .ref (q 56), .int vb])), (q 55, .inr (8, [.ref (q 2), .int 2])), (q 2, .inr (6, [.ref (q 0), .int (nI xa2_125), .int xv2_126, .int (nI (xo + 0)), .int xt2_127, .int (nI xz2_128), .int xf2_129, .int xp2_130])), (q 0, .inr (10, [.ref (q 20), .int (nI tl)])), (q 20, .inl (cI, 1600, .inl (fun j => nI (tb j)))), (q 56, .inr (0, [.ref (q 57), .ref (q 58), .ref (q 59), .ref (q 60), .int (nI cl), .int (nI mw)])), (q 57, .inl (cI, 1600, .inl f1))]) [0, 1, 4, 5, 6, 2, 3] (by decide +kernel) rfl
      exact sk_vret hx hb hr hlocks hK hP hD hS (⟨xa2_125, xv2_126, xt2_127, xz2_128, xf2_129, xp2_130, cl, mw, f1, by omega, by omega, by omega, by omega, by rw [← f_not0 (xo := xo) htb hO c_1 (rr_0 hb1_135 (by omega) c_1) (by have := rr_0 hb1_135 (by omega) c_1; omega)]; exact hO_137, rfl⟩) (Nat.le_of_ble_eq_true rfl) (Nat.le_of_ble_eq_true rfl) dX5_readFact_184
    · have c_139 : ¬ (b_131 = 0) := fun h => c_139 ((neq b_131 0 (by omega) (by omega)).mpr h)
      have hxo1 := (rr_1 hb1_135 (by omega)).1
      obtain rfl : b_131 = 1 := by omega
      refine lv_aload_n hx hb dX5_readFact_26 rfl (lv_at hl 0 rfl) ?_
      refine sk_VvZ (q0 := 0) (n := 0) (rest := []) (wr := []) ⟨hx, hb, hml, hown, hts⟩ hl.1 (hf (dd - 1) (by omega) q vb xa2_125 xv2_126 (xo + 1) xt2_127 xz2_128 xf2_129 xp2_130 tl tb cl mw f1 (bd og (opF tb tl 275 xo)) (by omega) (by omega) (by omega) htb (by omega) (by omega) (by omega) hO_137 (lenO_S hL_138)) w_5_78 w_5_80 w_0_36 w_1_7 w_5_81 (by decide +kernel) ⟨⟨(by dsimp only; omega), (by dsimp only; omega)⟩, (by dsimp only; omega), (by dsimp only; omega)⟩ hK hP hD hS hZ hA [0, 1, 4, 5, 6, 2, 3] [] rfl rfl (by decide +kernel) (by decide +kernel) (by decide +kernel) rfl rfl rfl rfl (Nat.le_of_ble_eq_true rfl) dX5_readFact_27 (fun u H locs hw hP hD hS => ?_)
      obtain ⟨xa2_140, xv2_141, xt2_142, xz2_143, xf2_144, xp2_145, c2_146, w2_147, g1_148, hxa2_149, hxz2_150, hc2_151, hw2_152, hO2_153, rfl⟩ := hw
      have hP : va_P D vwCl [(q 4, .inr (5, [.ref (q 2), .ref (q 55), .ref (q 56), .int vb])), (q 55, .inr (8, [.ref (q 2), .int 2])), (q 2, .inr (6, [.ref (q 0), .int (nI xa2_140), .int xv2_141, .int (nI (xo + 1)), .int xt2_142, .int (nI xz2_143), .int xf2_144, .int xp2_145])), (q 0, .inr (10, [.ref (q 20), .int (nI tl)])), (q 20, .inl (cI, 1600, .inl (fun j => nI (tb j)))), (q 56, .inr (0, [.ref (q 57), .ref (q 58), .ref (q 59), .ref (q 60), .int (nI c2_146), .int (nI w2_147)])), (q 57, .inl (cI, 1600, .inl g1_148))] H := hP
      have hD : va_D A [(q 4, .inr (5, [.ref (q 2), .ref (q 55), .ref (q 56), .int vb])), (q 55, .inr (8, [.ref (q 2), .int 2])), (q 2, .inr (6, [.ref (q 0), .int (nI xa2_140), .int xv2_141, .int (nI (xo + 1)), .int xt2_142, .int (nI xz2_143), .int xf2_144, .int xp2_145])), (q 0, .inr (10, [.ref (q 20), .int (nI tl)])), (q 20, .inl (cI, 1600, .inl (fun j => nI (tb j)))), (q 56, .inr (0, [.ref (q 57), .ref (q 58), .ref (q 59), .ref (q 60), .int (nI c2_146), .int (nI w2_147)])), (q 57, .inl (cI, 1600, .inl g1_148))] := hD
      have hL_154 := lenS_ap (len_fc (tb := tb) (n := tl) (dd - 1)) hL_138
      refine lv_aload_n hx hb dX5_readFact_30 rfl (lv_at hl 0 rfl) ?_
      refine sk_get (v := .ref (q 56)) (C := RX5) (T := TX5) (N := 4) hx hb hts inlX5 hown hK hP 0 rfl rfl 2 (by decide) w_1_156 rfl dX5_readFact_31 ?_
      refine lv_sipush (v := 20001) hx hb dX5_readFact_34 (by decide) ?_
      refine sk_Vv (q0 := 0) (n := 1) (rest := []) (wr := [(q 4, .inr (5, [.ref (q 2), .ref (q 55), .ref (q 56), .int vb])), (q 55, .inr (8, [.ref (q 2), .int 2])), (q 2, .inr (6, [.ref (q 0), .int (nI xa2_140), .int xv2_141, .int (nI (xo + 1)), .int xt2_142, .int (nI xz2_143), .int xf2_144, .int xp2_145])), (q 0, .inr (10, [.ref (q 20), .int (nI tl)])), (q 20, .inl (cI, 1600, .inl (fun j => nI (tb j))))]) ⟨hx, hb, hml, hown, hts⟩ hl.1 (c_eCode_addX l D cI cJ cC cZ cS (q 56) (q 57) (q 58) (q 59) (q 60) c2_146 w2_147 g1_148 20001 (bindR (bd og (opF tb tl 275 xo)) (apF (fcR tb tl (dd - 1)))) 12 (by omega) (by omega) (by decide) (by omega) (hO2_153).2 (rm_S hO2_153 htl hL_154)) w_5_83 w_3_98 w_3_99 w_1_8 w_3_100 (by decide +kernel) ⟨⟨(by dsimp only; omega), (by dsimp only; omega)⟩, (by dsimp only; omega), (by dsimp only; omega)⟩ hK hP hD hS hA [5, 6] [0, 1, 2, 3, 4] rfl rfl (by decide +kernel) (by decide +kernel) (by decide +kernel) rfl rfl rfl rfl (Nat.le_of_ble_eq_true rfl) dX5_readFact_37 (fun u H locs hw hP hD hS => ?_)
      obtain ⟨c2_155, w2_156, g1_157, hc2_158, hw2_159, hO2_160, rfl⟩ := hw
      have hP : va_P D vwCl [(q 4, .inr (5, [.ref (q 2), .ref (q 55), .ref (q 56), .int vb])), (q 55, .inr (8, [.ref (q 2), .int 2])), (q 2, .inr (6, [.ref (q 0), .int (nI xa2_140), .int xv2_141, .int (nI (xo + 1)), .int xt2_142, .int (nI xz2_143), .int xf2_144, .int xp2_145])), (q 0, .inr (10, [.ref (q 20), .int (nI tl)])), (q 20, .inl (cI, 1600, .inl (fun j => nI (tb j)))), (q 56, .inr (0, [.ref (q 57), .ref (q 58), .ref (q 59), .ref (q 60), .int (nI c2_155), .int (nI w2_156)])), (q 57, .inl (cI, 1600, .inl g1_157))] H := hP
      have hD : va_D A [(q 4, .inr (5, [.ref (q 2), .ref (q 55), .ref (q 56), .int vb])), (q 55, .inr (8, [.ref (q 2), .int 2])), (q 2, .inr (6, [.ref (q 0), .int (nI xa2_140), .int xv2_141, .int (nI (xo + 1)), .int xt2_142, .int (nI xz2_143), .int xf2_144, .int xp2_145])), (q 0, .inr (10, [.ref (q 20), .int (nI tl)])), (q 20, .inl (cI, 1600, .inl (fun j => nI (tb j)))), (q 56, .inr (0, [.ref (q 57), .ref (q 58), .ref (q 59), .ref (q 60), .int (nI c2_155), .int (nI w2_156)])), (q 57, .inl (cI, 1600, .inl g1_157))] := hD
      have hO_161 := rs_ad hO2_153 hO2_160
      have hL_162 := lenO_ad (v := 12) hL_154
      refine lv_aload_n hx hb dX5_readFact_40 rfl (lv_at hl 0 rfl) ?_
      refine sk_get (v := .ref (q 2)) (C := RX5) (T := TX5) (N := 4) hx hb hts inlX5 hown hK hP 0 rfl rfl 0 (by decide) w_1_154 rfl dX5_readFact_41 ?_
      refine sk_Vv (q0 := 0) (n := 0) (rest := []) (wr := [(q 4, .inr (5, [.ref (q 2), .ref (q 55), .ref (q 56), .int vb])), (q 55, .inr (8, [.ref (q 2), .int 2])), (q 0, .inr (10, [.ref (q 20), .int (nI tl)])), (q 20, .inl (cI, 1600, .inl (fun j => nI (tb j)))), (q 56, .inr (0, [.ref (q 57), .ref (q 58), .ref (q 59), .ref (q 60), .int (nI c2_155), .int (nI w2_156)])), (q 57, .inl (cI, 1600, .inl g1_157))]) ⟨hx, hb, hml, hown, hts⟩ hl.1 (c_erd_shuts l D cI cJ cC cZ cS q xa2_140 xv2_141 (xo + 1) xt2_142 xz2_143 xf2_144 xp2_145 (by omega) (by omega)) w_5_84 w_3_106 w_3_107 w_1_4 w_3_108 (by decide +kernel) ⟨⟨(by dsimp only; omega), (by dsimp only; omega)⟩, (by dsimp only; omega), (by dsimp only; omega)⟩ hK hP hD hS hA [2] [0, 1, 3, 4, 5, 6] rfl rfl (by decide +kernel) (by decide +kernel) (by decide +kernel) rfl rfl rfl rfl (Nat.le_of_ble_eq_true rfl) dX5_readFact_44 (fun u H locs hw hP hD hS => ?_)
      obtain rfl := hw
      have hP : va_P D vwCl [(q 4, .inr (5, [.ref (q 2), .ref (q 55), .ref (q 56), .int vb])), (q 55, .inr (8, [.ref (q 2), .int 2])), (q 0, .inr (10, [.ref (q 20), .int (nI tl)])), (q 20, .inl (cI, 1600, .inl (fun j => nI (tb j)))), (q 56, .inr (0, [.ref (q 57), .ref (q 58), .ref (q 59), .ref (q 60), .int (nI c2_155), .int (nI w2_156)])), (q 57, .inl (cI, 1600, .inl g1_157)), (q 2, .inr (6, [.ref (q 0), .int (nI xa2_140), .int xv2_141, .int (nI ((xo + 1) - 1)), .int xt2_142, .int (nI xz2_143), .int xf2_144, .int xp2_145]))] H := hP
      have hD : va_D A [(q 4, .inr (5, [.ref (q 2), .ref (q 55), .ref (q 56), .int vb])), (q 55, .inr (8, [.ref (q 2), .int 2])), (q 0, .inr (10, [.ref (q 20), .int (nI tl)])), (q 20, .inl (cI, 1600, .inl (fun j => nI (tb j)))), (q 56, .inr (0, [.ref (q 57), .ref (q 58), .ref (q 59), .ref (q 60), .int (nI c2_155), .int (nI w2_156)])), (q 57, .inl (cI, 1600, .inl g1_157)), (q 2, .inr (6, [.ref (q 0), .int (nI xa2_140), .int xv2_141, .int (nI ((xo + 1) - 1)), .int xt2_142, .int (nI xz2_143), .int xf2_144, .int xp2_145]))] := hD
      refine lv_goto (tgt := 184) hx hb dX5_readFact_47 (by decide) ?_
      have hP := hP.sub (ws' := [(q 4, .inr (5, [.ref (q 2), .ref (q 55), .ref (q 56), .int vb])), (q 55, .inr (8, [.ref (q 2), .int 2])), (q 2, .inr (6, [.ref (q 0), .int (nI xa2_140), .int xv2_141, .int (nI ((xo + 1) - 1)), .int xt2_142, .int (nI xz2_143), .int xf2_144, .int xp2_145])), (q 0, .inr (10, [.ref (q 20), .int (nI tl)])), (q 20, .inl (cI, 1600, .inl (fun j => nI (tb j)))), (q 56, .inr (0, [.ref (q 57), .ref (q 58), .ref (q 59), .ref (q 60), .int (nI c2_155), .int (nI w2_156)])), (q 57, .inl (cI, 1600, .inl g1_157))]) [0, 1, 6, 2, 3, 4, 5] rfl
      have hD := hD.sub (ws' := [(q 4, .inr (5, [.ref (q 2), .ref (q 55), .ref (q 56), .int vb])), (q 55, .inr (8, [.ref (q 2), .int 2])), (q 2, .inr (6, [.ref (q 0), .int (nI xa2_140), .int xv2_141, .int (nI ((xo + 1) - 1)), .int xt2_142, .int (nI xz2_143), .int xf2_144, .int xp2_145])), (q 0, .inr (10, [.ref (q 20), .int (nI tl)])), (q 20, .inl (cI, 1600, .inl (fun j => nI (tb j)))), (q 56, .inr (0, [.ref (q 57), .ref (q 58), .ref (q 59), .ref (q 60), .int (nI c2_155), .int (nI w2_156)])), (q 57, .inl (cI, 1600, .inl g1_157))]) [0, 1, 6, 2, 3, 4, 5] (by decide +kernel) rfl
      exact sk_vret hx hb hr hlocks hK hP hD hS (⟨xa2_140, xv2_141, xt2_142, xz2_143, xf2_144, xp2_145, c2_155, w2_156, g1_157, by omega, by omega, by omega, by omega, by rw [← f_not (xo := xo) htb hO c_1 (by omega) (by omega)]; exact hO_161, rfl⟩) (Nat.le_of_ble_eq_true rfl) (Nat.le_of_ble_eq_true rfl) dX5_readFact_184
set_option maxHeartbeats 4000000 in
set_option maxRecDepth 100000 in
theorem c_ereadBoth (l : Launch) (D : va_G) (cI cJ cC cZ cS : ClassId) (zk zv : Nat) (zf : Value) (dd : Nat) (hq : CT_ereadFact l D cI cJ cC cZ cS zk zv zf dd) : CT_ereadBoth l D cI cJ cC cZ cS zk zv zf dd := by
  intro q vb xa xv xo xt xz xf xp tl tb cl mw f1 og hxa hxz htl htb hcl hmw hdd hO hlen
  refine skMZ_of (by decide +kernel) (Nat.le_of_ble_eq_true rfl) ?_
  intro p e s m below meth c A ls E hP hD hZ hl
  obtain ⟨hx, hb, hr, hml, hlocks, hin, hown, hts, hK, hA⟩ := E
  have hown : s.vm.findClass RX5 = some m.cls := hown
  have hS : va_S A s.heap s.heap [] := va_S.rf
  have hl : lv_has ls 2 [(0, .ref (q 4))] := hl
  refine lv_aload_n hx hb dX5_readBoth_0 rfl (lv_at hl 0 rfl) ?_
  refine sk_VvZ (q0 := 0) (n := 0) (rest := []) (wr := []) ⟨hx, hb, hml, hown, hts⟩ hl.1 (hq q vb xa xv xo xt xz xf xp tl tb cl mw f1 og (by omega) (by omega) (by omega) htb (by omega) (by omega) (by omega) hO hlen) w_5_78 w_5_80 w_0_36 w_1_7 w_5_81 (by decide +kernel) ⟨⟨(by dsimp only; omega), (by dsimp only; omega)⟩, (by dsimp only; omega), (by dsimp only; omega)⟩ hK hP hD hS hZ hA [0, 1, 2, 3, 4, 5, 6] [] rfl rfl (by decide +kernel) (by decide +kernel) (by decide +kernel) rfl rfl rfl rfl (Nat.le_of_ble_eq_true rfl) dX5_readBoth_1 (fun u H locs hw hP hD hS => ?_)
  obtain ⟨xa2_1, xv2_2, xt2_3, xz2_4, xf2_5, xp2_6, c2_7, w2_8, g1_9, hxa2_10, hxz2_11, hc2_12, hw2_13, hO2_14, rfl⟩ := hw
  have hP : va_P D vwCl [(q 4, .inr (5, [.ref (q 2), .ref (q 55), .ref (q 56), .int vb])), (q 55, .inr (8, [.ref (q 2), .int 2])), (q 2, .inr (6, [.ref (q 0), .int (nI xa2_1), .int xv2_2, .int (nI xo), .int xt2_3, .int (nI xz2_4), .int xf2_5, .int xp2_6])), (q 0, .inr (10, [.ref (q 20), .int (nI tl)])), (q 20, .inl (cI, 1600, .inl (fun j => nI (tb j)))), (q 56, .inr (0, [.ref (q 57), .ref (q 58), .ref (q 59), .ref (q 60), .int (nI c2_7), .int (nI w2_8)])), (q 57, .inl (cI, 1600, .inl g1_9))] H := hP
  have hD : va_D A [(q 4, .inr (5, [.ref (q 2), .ref (q 55), .ref (q 56), .int vb])), (q 55, .inr (8, [.ref (q 2), .int 2])), (q 2, .inr (6, [.ref (q 0), .int (nI xa2_1), .int xv2_2, .int (nI xo), .int xt2_3, .int (nI xz2_4), .int xf2_5, .int xp2_6])), (q 0, .inr (10, [.ref (q 20), .int (nI tl)])), (q 20, .inl (cI, 1600, .inl (fun j => nI (tb j)))), (q 56, .inr (0, [.ref (q 57), .ref (q 58), .ref (q 59), .ref (q 60), .int (nI c2_7), .int (nI w2_8)])), (q 57, .inl (cI, 1600, .inl g1_9))] := hD
  have hL_15 := lenO_ap (len_fc (tb := tb) (n := tl) dd) hlen
  refine lv_iconst (v := 0) hx hb dX5_readBoth_4 (by decide) ?_
  refine lv_istore_n (lv' := [(1, .int 0), (0, .ref (q 4))]) hx hb dX5_readBoth_5 rfl hl (by decide) rfl (fun ls hl => ?_)
  have lp_16 : ∀ (n_17 : Nat) (i : Nat) (za : Nat) (zw : Int32) (zt : Int32) (zz : Nat) (zg : Int32) (zp : Int32) (yc : Nat) (yw : Nat) (yf : Nat → Int32) (zo : Res) (H : Heap) (locs : List Loc) (ls : Array Slot), 1600 - i < n_17 → (rsO tb tl zo za zw zt zz zg zp yc yw yf) → (i ≤ 1600) → (za ≤ 1600) → (zz ≤ 1600) → (yc ≤ 1600) → (yw ≤ 1) → (lenO zo) → (iO i zo) → (bindR zo (fun r => andR tb tl (fcR tb tl dd) (tl + 2) r.1 r.2) = bindR og (apF (bothR tb tl (fcR tb tl dd)))) → va_P D vwCl [(q 4, .inr (5, [.ref (q 2), .ref (q 55), .ref (q 56), .int vb])), (q 55, .inr (8, [.ref (q 2), .int 2])), (q 2, .inr (6, [.ref (q 0), .int (nI za), .int zw, .int (nI xo), .int zt, .int (nI zz), .int zg, .int zp])), (q 0, .inr (10, [.ref (q 20), .int (nI tl)])), (q 20, .inl (cI, 1600, .inl (fun j => nI (tb j)))), (q 56, .inr (0, [.ref (q 57), .ref (q 58), .ref (q 59), .ref (q 60), .int (nI yc), .int (nI yw)])), (q 57, .inl (cI, 1600, .inl yf))] H → va_D A [(q 4, .inr (5, [.ref (q 2), .ref (q 55), .ref (q 56), .int vb])), (q 55, .inr (8, [.ref (q 2), .int 2])), (q 2, .inr (6, [.ref (q 0), .int (nI za), .int zw, .int (nI xo), .int zt, .int (nI zz), .int zg, .int zp])), (q 0, .inr (10, [.ref (q 20), .int (nI tl)])), (q 20, .inl (cI, 1600, .inl (fun j => nI (tb j)))), (q 56, .inr (0, [.ref (q 57), .ref (q 58), .ref (q 59), .ref (q 60), .int (nI yc), .int (nI yw)])), (q 57, .inl (cI, 1600, .inl yf))] → va_S A s.heap H locs → lv_has ls 2 [(1, .int (nI i)), (0, .ref (q 4))] → W p l e { frames := 41 + 8 * dd, cells := 0, slots := 0, locals := 925 + 200 * dd } s m ([.ref (q 4)] : List Value).toArray below meth c H locs 0 0 (MQ below (skV D (skT cI cJ cC cZ cS) (fun (u : va_W) => ∃ (xa2 : Nat), ∃ (xv2 : Int32), ∃ (xt2 : Int32), ∃ (xz2 : Nat), ∃ (xf2 : Int32), ∃ (xp2 : Int32), ∃ (c2 : Nat), ∃ (w2 : Nat), ∃ (g1 : Nat → Int32), xa2 ≤ 1600 ∧ xz2 ≤ 1600 ∧ c2 ≤ 1600 ∧ w2 ≤ 1 ∧ rsO tb tl (bindR og (apF (bothR tb tl (fcR tb tl dd)))) xa2 xv2 xt2 xz2 xf2 xp2 c2 w2 g1 ∧ u = [(q 4, .inr (5, [.ref (q 2), .ref (q 55), .ref (q 56), .int vb])), (q 55, .inr (8, [.ref (q 2), .int 2])), (q 2, .inr (6, [.ref (q 0), .int (nI xa2), .int xv2, .int (nI xo), .int xt2, .int (nI xz2), .int xf2, .int xp2])), (q 0, .inr (10, [.ref (q 20), .int (nI tl)])), (q 20, .inl (cI, 1600, .inl (fun j => nI (tb j)))), (q 56, .inr (0, [.ref (q 57), .ref (q 58), .ref (q 59), .ref (q 60), .int (nI c2), .int (nI w2)])), (q 57, .inl (cI, 1600, .inl g1))]) A) ([.ref (q 4)] : List Value).toArray s 0 0 A) (F0 m 6 ls []) := by
    intro n_17
    induction n_17 with
    | zero => intro i za zw zt zz zg zp yc yw yf zo H locs ls hm; exact absurd hm (Nat.not_lt_zero _)
    | succ n_17 ih_lp_16 =>
      intro i za zw zt zz zg zp yc yw yf zo H locs ls hm hzO hi hza hzz hyc hyw hzl hiO hrem hP hD hS hl
      refine lv_iload_n hx hb dX5_readBoth_6 rfl (lv_at hl 0 rfl) ?_
      refine lv_sipush (v := 1600) hx hb dX5_readBoth_7 (by decide) ?_
      refine lv_icmp_ge (tgt := 46) hx hb dX5_readBoth_10 (by decide) (fun c_18 => ?_) (fun c_18 => ?_)
      · have c_18 : 1600 ≤ i := (nle 1600 i (by omega) (by omega)).mp c_18
        exact sk_vret hx hb hr hlocks hK hP hD hS (⟨za, zw, zt, zz, zg, zp, yc, yw, yf, by omega, by omega, by omega, by omega, both_e htb hzO htl hiO (Or.inl (by omega)) hrem hzO, rfl⟩) (Nat.le_of_ble_eq_true rfl) (Nat.le_of_ble_eq_true rfl) dX5_readBoth_46
      · have c_18 : ¬ (1600 ≤ i) := fun h => c_18 ((nle 1600 i (by omega) (by omega)).mpr h)
        refine lv_aload_n hx hb dX5_readBoth_13 rfl (lv_at hl 1 rfl) ?_
        refine sk_get (v := .ref (q 2)) (C := RX5) (T := TX5) (N := 4) hx hb hts inlX5 hown hK hP 0 rfl rfl 0 (by decide) w_1_154 rfl dX5_readBoth_14 ?_
        refine lv_sipush (v := 274) hx hb dX5_readBoth_17 (by decide) ?_
        refine sk_ViZ (q0 := 0) (n := 1) (rest := []) (wr := [(q 4, .inr (5, [.ref (q 2), .ref (q 55), .ref (q 56), .int vb])), (q 55, .inr (8, [.ref (q 2), .int 2])), (q 56, .inr (0, [.ref (q 57), .ref (q 58), .ref (q 59), .ref (q 60), .int (nI yc), .int (nI yw)])), (q 57, .inl (cI, 1600, .inl yf))]) ⟨hx, hb, hml, hown, hts⟩ hl.1 (c_erd_takes l D cI cJ cC cZ cS zk zv zf q za zw xo zt zz zg zp tl tb 274 (rc zo) (by omega) (by omega) (by omega) htb (by decide) (hzO).1) w_5_86 w_5_87 w_5_88 w_1_4 w_5_89 (by decide +kernel) ⟨⟨(by dsimp only; omega), (by dsimp only; omega)⟩, (by dsimp only; omega), (by dsimp only; omega)⟩ hK hP hD hS hZ hA [2, 3, 4] [0, 1, 5, 6] rfl rfl (by decide +kernel) (by decide +kernel) (by decide +kernel) rfl rfl rfl rfl (Nat.le_of_ble_eq_true rfl) dX5_readBoth_20 (fun r_26 u H locs hw hP hD hS => ?_)
        obtain ⟨xa2_19, xv2_20, xt2_21, xz2_22, xf2_23, xp2_24, b_25, hxa2_27, hxz2_28, hb1_29, hO2_30, rfl, rfl⟩ := hw
        have hP : va_P D vwCl [(q 4, .inr (5, [.ref (q 2), .ref (q 55), .ref (q 56), .int vb])), (q 55, .inr (8, [.ref (q 2), .int 2])), (q 56, .inr (0, [.ref (q 57), .ref (q 58), .ref (q 59), .ref (q 60), .int (nI yc), .int (nI yw)])), (q 57, .inl (cI, 1600, .inl yf)), (q 2, .inr (6, [.ref (q 0), .int (nI xa2_19), .int xv2_20, .int (nI xo), .int xt2_21, .int (nI xz2_22), .int xf2_23, .int xp2_24])), (q 0, .inr (10, [.ref (q 20), .int (nI tl)])), (q 20, .inl (cI, 1600, .inl (fun j => nI (tb j))))] H := hP
        have hD : va_D A [(q 4, .inr (5, [.ref (q 2), .ref (q 55), .ref (q 56), .int vb])), (q 55, .inr (8, [.ref (q 2), .int 2])), (q 56, .inr (0, [.ref (q 57), .ref (q 58), .ref (q 59), .ref (q 60), .int (nI yc), .int (nI yw)])), (q 57, .inl (cI, 1600, .inl yf)), (q 2, .inr (6, [.ref (q 0), .int (nI xa2_19), .int xv2_20, .int (nI xo), .int xt2_21, .int (nI xz2_22), .int xf2_23, .int xp2_24])), (q 0, .inr (10, [.ref (q 20), .int (nI tl)])), (q 20, .inl (cI, 1600, .inl (fun j => nI (tb j))))] := hD
        refine lv_if_eq (tgt := 46) hx hb dX5_readBoth_23 (by decide) (fun c_31 => ?_) (fun c_31 => ?_)
        · have c_31 : b_25 = 0 := (neq b_25 0 (by omega) (by omega)).mp c_31
          have hw_33 := (rr_0 hO2_30 (by omega)).1
          have hO_32 := rs_re hzO (rr_0 hO2_30 (by omega)).2
          have hP := hP.sub (ws' := [(q 4, .inr (5, [.ref (q 2), .ref (q 55), .ref (q 56), .int vb])), (q 55, .inr (8, [.ref (q 2), .int 2])), (q 2, .inr (6, [.ref (q 0), .int (nI xa2_19), .int xv2_20, .int (nI xo), .int xt2_21, .int (nI xz2_22), .int xf2_23, .int xp2_24])), (q 0, .inr (10, [.ref (q 20), .int (nI tl)])), (q 20, .inl (cI, 1600, .inl (fun j => nI (tb j)))), (q 56, .inr (0, [.ref (q 57), .ref (q 58), .ref (q 59), .ref (q 60), .int (nI yc), .int (nI yw)])), (q 57, .inl (cI, 1600, .inl yf))]) [0, 1, 4, 5, 6, 2, 3] rfl
          have hD := hD.sub (ws' := [(q 4, .inr (5, [.ref (q 2), .ref (q 55), .ref (q 56), .int vb])), (q 55, .inr (8, [.ref (q 2), .int 2])), (q 2, .inr (6, [.ref (q 0), .int (nI xa2_19), .int xv2_20, .int (nI xo), .int xt2_21, .int (nI xz2_22), .int xf2_23, .int xp2_24])), (q 0, .inr (10, [.ref (q 20), .int (nI tl)])), (q 20, .inl (cI, 1600, .inl (fun j => nI (tb j)))), (q 56, .inr (0, [.ref (q 57), .ref (q 58), .ref (q 59), .ref (q 60), .int (nI yc), .int (nI yw)])), (q 57, .inl (cI, 1600, .inl yf))]) [0, 1, 4, 5, 6, 2, 3] (by decide +kernel) rfl
          exact sk_vret hx hb hr hlocks hK hP hD hS (⟨xa2_19, xv2_20, xt2_21, xz2_22, xf2_23, xp2_24, yc, yw, yf, by omega, by omega, by omega, by omega, both_e htb hzO htl hiO (Or.inr hw_33) hrem hO_32, rfl⟩) (Nat.le_of_ble_eq_true rfl) (Nat.le_of_ble_eq_true rfl) dX5_readBoth_46
        · have c_31 : ¬ (b_25 = 0) := fun h => c_31 ((neq b_25 0 (by omega) (by omega)).mpr h)
          have hw_35 := (rr_1 hO2_30 (by omega)).1
          have hO_34 := rs_bd hzO (rr_1 hO2_30 (by omega)).2
          have hL_36 := lenS_nx htb hzO ⟨by rw [hw_35]; decide, by rw [hw_35]; decide⟩ hzl
          refine lv_aload_n hx hb dX5_readBoth_26 rfl (lv_at hl 1 rfl) ?_
          refine sk_VvZ (q0 := 0) (n := 0) (rest := []) (wr := []) ⟨hx, hb, hml, hown, hts⟩ hl.1 (hq q vb xa2_19 xv2_20 xo xt2_21 xz2_22 xf2_23 xp2_24 tl tb yc yw yf (bd zo (nxF tb tl)) (by omega) (by omega) (by omega) htb (by omega) (by omega) (by omega) hO_34 (lenO_S hL_36)) w_5_78 w_5_80 w_0_36 w_1_7 w_5_81 (by decide +kernel) ⟨⟨(by dsimp only; omega), (by dsimp only; omega)⟩, (by dsimp only; omega), (by dsimp only; omega)⟩ hK hP hD hS hZ hA [0, 1, 4, 5, 6, 2, 3] [] rfl rfl (by decide +kernel) (by decide +kernel) (by decide +kernel) rfl rfl rfl rfl (Nat.le_of_ble_eq_true rfl) dX5_readBoth_27 (fun u H locs hw hP hD hS => ?_)
          obtain ⟨xa2_37, xv2_38, xt2_39, xz2_40, xf2_41, xp2_42, c2_43, w2_44, g1_45, hxa2_46, hxz2_47, hc2_48, hw2_49, hO2_50, rfl⟩ := hw
          have hP : va_P D vwCl [(q 4, .inr (5, [.ref (q 2), .ref (q 55), .ref (q 56), .int vb])), (q 55, .inr (8, [.ref (q 2), .int 2])), (q 2, .inr (6, [.ref (q 0), .int (nI xa2_37), .int xv2_38, .int (nI xo), .int xt2_39, .int (nI xz2_40), .int xf2_41, .int xp2_42])), (q 0, .inr (10, [.ref (q 20), .int (nI tl)])), (q 20, .inl (cI, 1600, .inl (fun j => nI (tb j)))), (q 56, .inr (0, [.ref (q 57), .ref (q 58), .ref (q 59), .ref (q 60), .int (nI c2_43), .int (nI w2_44)])), (q 57, .inl (cI, 1600, .inl g1_45))] H := hP
          have hD : va_D A [(q 4, .inr (5, [.ref (q 2), .ref (q 55), .ref (q 56), .int vb])), (q 55, .inr (8, [.ref (q 2), .int 2])), (q 2, .inr (6, [.ref (q 0), .int (nI xa2_37), .int xv2_38, .int (nI xo), .int xt2_39, .int (nI xz2_40), .int xf2_41, .int xp2_42])), (q 0, .inr (10, [.ref (q 20), .int (nI tl)])), (q 20, .inl (cI, 1600, .inl (fun j => nI (tb j)))), (q 56, .inr (0, [.ref (q 57), .ref (q 58), .ref (q 59), .ref (q 60), .int (nI c2_43), .int (nI w2_44)])), (q 57, .inl (cI, 1600, .inl g1_45))] := hD
          have hL_51 := lenS_ap (len_fc (tb := tb) (n := tl) dd) hL_36
          refine lv_aload_n hx hb dX5_readBoth_30 rfl (lv_at hl 1 rfl) ?_
          refine sk_get (v := .ref (q 56)) (C := RX5) (T := TX5) (N := 4) hx hb hts inlX5 hown hK hP 0 rfl rfl 2 (by decide) w_1_156 rfl dX5_readBoth_31 ?_
          refine lv_sipush (v := 30009) hx hb dX5_readBoth_34 (by decide) ?_
          refine sk_Vv (q0 := 0) (n := 1) (rest := []) (wr := [(q 4, .inr (5, [.ref (q 2), .ref (q 55), .ref (q 56), .int vb])), (q 55, .inr (8, [.ref (q 2), .int 2])), (q 2, .inr (6, [.ref (q 0), .int (nI xa2_37), .int xv2_38, .int (nI xo), .int xt2_39, .int (nI xz2_40), .int xf2_41, .int xp2_42])), (q 0, .inr (10, [.ref (q 20), .int (nI tl)])), (q 20, .inl (cI, 1600, .inl (fun j => nI (tb j))))]) ⟨hx, hb, hml, hown, hts⟩ hl.1 (c_eCode_addX l D cI cJ cC cZ cS (q 56) (q 57) (q 58) (q 59) (q 60) c2_43 w2_44 g1_45 30009 (bindR (bd zo (nxF tb tl)) (apF (fcR tb tl dd))) 10 (by omega) (by omega) (by decide) (by omega) (hO2_50).2 (rm_S hO2_50 htl hL_51)) w_5_83 w_3_98 w_3_99 w_1_8 w_3_100 (by decide +kernel) ⟨⟨(by dsimp only; omega), (by dsimp only; omega)⟩, (by dsimp only; omega), (by dsimp only; omega)⟩ hK hP hD hS hA [5, 6] [0, 1, 2, 3, 4] rfl rfl (by decide +kernel) (by decide +kernel) (by decide +kernel) rfl rfl rfl rfl (Nat.le_of_ble_eq_true rfl) dX5_readBoth_37 (fun u H locs hw hP hD hS => ?_)
          obtain ⟨c2_52, w2_53, g1_54, hc2_55, hw2_56, hO2_57, rfl⟩ := hw
          have hP : va_P D vwCl [(q 4, .inr (5, [.ref (q 2), .ref (q 55), .ref (q 56), .int vb])), (q 55, .inr (8, [.ref (q 2), .int 2])), (q 2, .inr (6, [.ref (q 0), .int (nI xa2_37), .int xv2_38, .int (nI xo), .int xt2_39, .int (nI xz2_40), .int xf2_41, .int xp2_42])), (q 0, .inr (10, [.ref (q 20), .int (nI tl)])), (q 20, .inl (cI, 1600, .inl (fun j => nI (tb j)))), (q 56, .inr (0, [.ref (q 57), .ref (q 58), .ref (q 59), .ref (q 60), .int (nI c2_52), .int (nI w2_53)])), (q 57, .inl (cI, 1600, .inl g1_54))] H := hP
          have hD : va_D A [(q 4, .inr (5, [.ref (q 2), .ref (q 55), .ref (q 56), .int vb])), (q 55, .inr (8, [.ref (q 2), .int 2])), (q 2, .inr (6, [.ref (q 0), .int (nI xa2_37), .int xv2_38, .int (nI xo), .int xt2_39, .int (nI xz2_40), .int xf2_41, .int xp2_42])), (q 0, .inr (10, [.ref (q 20), .int (nI tl)])), (q 20, .inl (cI, 1600, .inl (fun j => nI (tb j)))), (q 56, .inr (0, [.ref (q 57), .ref (q 58), .ref (q 59), .ref (q 60), .int (nI c2_52), .int (nI w2_53)])), (q 57, .inl (cI, 1600, .inl g1_54))] := hD
          have hO_58 := rs_ad hO2_50 hO2_57
          have hL_59 := lenO_ad (v := 10) hL_51
          refine lv_iinc (v := nI (i + 1)) (lv' := [(1, .int (nI (i + 1))), (0, .ref (q 4))]) hx hb dX5_readBoth_40 hl (k := 0) rfl (ninc i 1 (by decide)) (by decide) rfl (fun ls hl => ?_)
          refine lv_goto (tgt := 6) hx hb dX5_readBoth_43 (by decide) ?_
          exact ih_lp_16 (i + 1) xa2_37 xv2_38 xt2_39 xz2_40 xf2_41 xp2_42 c2_52 w2_53 g1_54 (ad (bindR (bd zo (nxF tb tl)) (apF (fcR tb tl dd))) 10) _ _ _ (by omega) hO_58 (by omega) (by omega) (by omega) (by omega) (by omega) hL_59 (iO_s htb hzO ⟨by rw [hw_35]; decide, by rw [hw_35]; decide⟩ (fcR_mono dd) hiO) (both_s htb hzO (fcR_mono dd) hw_35 hrem) hP hD hS (lv_sub hl [0, 1] rfl)
  exact lp_16 (1600 - 0 + 1) 0 xa2_1 xv2_2 xt2_3 xz2_4 xf2_5 xp2_6 c2_7 w2_8 g1_9 (bindR og (apF (fcR tb tl dd))) _ _ _ (Nat.lt_succ_self _) hO2_14 (by omega) (by omega) (by omega) (by omega) (by omega) hL_15 (iO_0 _) (both_0 _) hP hD hS (lv_sub hl [0, 1] rfl)
set_option maxHeartbeats 4000000 in
set_option maxRecDepth 100000 in
theorem c_ereadTest (l : Launch) (D : va_G) (cI cJ cC cZ cS : ClassId) (zk zv : Nat) (zf : Value) (dd : Nat) (hq : CT_ereadBoth l D cI cJ cC cZ cS zk zv zf dd) : CT_ereadTest l D cI cJ cC cZ cS zk zv zf dd := by
  intro q vb xa xv xo xt xz xf xp tl tb cl mw f1 og hxa hxz htl htb hcl hmw hdd hO hlen
  refine skMZ_of (by decide +kernel) (Nat.le_of_ble_eq_true rfl) ?_
  intro p e s m below meth c A ls E hP hD hZ hl
  obtain ⟨hx, hb, hr, hml, hlocks, hin, hown, hts, hK, hA⟩ := E
  have hown : s.vm.findClass RX5 = some m.cls := hown
  have hS : va_S A s.heap s.heap [] := va_S.rf
  have hl : lv_has ls 2 [(0, .ref (q 4))] := hl
  refine lv_aload_n hx hb dX5_readTest_0 rfl (lv_at hl 0 rfl) ?_
  refine sk_VvZ (q0 := 0) (n := 0) (rest := []) (wr := []) ⟨hx, hb, hml, hown, hts⟩ hl.1 (hq q vb xa xv xo xt xz xf xp tl tb cl mw f1 og (by omega) (by omega) (by omega) htb (by omega) (by omega) (by omega) hO hlen) w_5_74 w_5_76 w_0_35 w_1_7 w_5_77 (by decide +kernel) ⟨⟨(by dsimp only; omega), (by dsimp only; omega)⟩, (by dsimp only; omega), (by dsimp only; omega)⟩ hK hP hD hS hZ hA [0, 1, 2, 3, 4, 5, 6] [] rfl rfl (by decide +kernel) (by decide +kernel) (by decide +kernel) rfl rfl rfl rfl (Nat.le_of_ble_eq_true rfl) dX5_readTest_1 (fun u H locs hw hP hD hS => ?_)
  obtain ⟨xa2_1, xv2_2, xt2_3, xz2_4, xf2_5, xp2_6, c2_7, w2_8, g1_9, hxa2_10, hxz2_11, hc2_12, hw2_13, hO2_14, rfl⟩ := hw
  have hP : va_P D vwCl [(q 4, .inr (5, [.ref (q 2), .ref (q 55), .ref (q 56), .int vb])), (q 55, .inr (8, [.ref (q 2), .int 2])), (q 2, .inr (6, [.ref (q 0), .int (nI xa2_1), .int xv2_2, .int (nI xo), .int xt2_3, .int (nI xz2_4), .int xf2_5, .int xp2_6])), (q 0, .inr (10, [.ref (q 20), .int (nI tl)])), (q 20, .inl (cI, 1600, .inl (fun j => nI (tb j)))), (q 56, .inr (0, [.ref (q 57), .ref (q 58), .ref (q 59), .ref (q 60), .int (nI c2_7), .int (nI w2_8)])), (q 57, .inl (cI, 1600, .inl g1_9))] H := hP
  have hD : va_D A [(q 4, .inr (5, [.ref (q 2), .ref (q 55), .ref (q 56), .int vb])), (q 55, .inr (8, [.ref (q 2), .int 2])), (q 2, .inr (6, [.ref (q 0), .int (nI xa2_1), .int xv2_2, .int (nI xo), .int xt2_3, .int (nI xz2_4), .int xf2_5, .int xp2_6])), (q 0, .inr (10, [.ref (q 20), .int (nI tl)])), (q 20, .inl (cI, 1600, .inl (fun j => nI (tb j)))), (q 56, .inr (0, [.ref (q 57), .ref (q 58), .ref (q 59), .ref (q 60), .int (nI c2_7), .int (nI w2_8)])), (q 57, .inl (cI, 1600, .inl g1_9))] := hD
  have hL_15 := lenO_ap (len_both (tb := tb) (n := tl) (len_fc (tb := tb) (n := tl) dd)) hlen
  refine lv_iconst (v := 0) hx hb dX5_readTest_4 (by decide) ?_
  refine lv_istore_n (lv' := [(1, .int 0), (0, .ref (q 4))]) hx hb dX5_readTest_5 rfl hl (by decide) rfl (fun ls hl => ?_)
  have lp_16 : ∀ (n_17 : Nat) (i : Nat) (za : Nat) (zw : Int32) (zt : Int32) (zz : Nat) (zg : Int32) (zp : Int32) (yc : Nat) (yw : Nat) (yf : Nat → Int32) (zo : Res) (H : Heap) (locs : List Loc) (ls : Array Slot), 1600 - i < n_17 → (rsO tb tl zo za zw zt zz zg zp yc yw yf) → (i ≤ 1600) → (za ≤ 1600) → (zz ≤ 1600) → (yc ≤ 1600) → (yw ≤ 1) → (lenO zo) → (iO i zo) → (bindR zo (fun r => orR tb tl (fcR tb tl dd) (tl + 2) r.1 r.2) = bindR og (apF (testR tb tl (fcR tb tl dd)))) → va_P D vwCl [(q 4, .inr (5, [.ref (q 2), .ref (q 55), .ref (q 56), .int vb])), (q 55, .inr (8, [.ref (q 2), .int 2])), (q 2, .inr (6, [.ref (q 0), .int (nI za), .int zw, .int (nI xo), .int zt, .int (nI zz), .int zg, .int zp])), (q 0, .inr (10, [.ref (q 20), .int (nI tl)])), (q 20, .inl (cI, 1600, .inl (fun j => nI (tb j)))), (q 56, .inr (0, [.ref (q 57), .ref (q 58), .ref (q 59), .ref (q 60), .int (nI yc), .int (nI yw)])), (q 57, .inl (cI, 1600, .inl yf))] H → va_D A [(q 4, .inr (5, [.ref (q 2), .ref (q 55), .ref (q 56), .int vb])), (q 55, .inr (8, [.ref (q 2), .int 2])), (q 2, .inr (6, [.ref (q 0), .int (nI za), .int zw, .int (nI xo), .int zt, .int (nI zz), .int zg, .int zp])), (q 0, .inr (10, [.ref (q 20), .int (nI tl)])), (q 20, .inl (cI, 1600, .inl (fun j => nI (tb j)))), (q 56, .inr (0, [.ref (q 57), .ref (q 58), .ref (q 59), .ref (q 60), .int (nI yc), .int (nI yw)])), (q 57, .inl (cI, 1600, .inl yf))] → va_S A s.heap H locs → lv_has ls 2 [(1, .int (nI i)), (0, .ref (q 4))] → W p l e { frames := 42 + 8 * dd, cells := 0, slots := 0, locals := 950 + 200 * dd } s m ([.ref (q 4)] : List Value).toArray below meth c H locs 0 0 (MQ below (skV D (skT cI cJ cC cZ cS) (fun (u : va_W) => ∃ (xa2 : Nat), ∃ (xv2 : Int32), ∃ (xt2 : Int32), ∃ (xz2 : Nat), ∃ (xf2 : Int32), ∃ (xp2 : Int32), ∃ (c2 : Nat), ∃ (w2 : Nat), ∃ (g1 : Nat → Int32), xa2 ≤ 1600 ∧ xz2 ≤ 1600 ∧ c2 ≤ 1600 ∧ w2 ≤ 1 ∧ rsO tb tl (bindR og (apF (testR tb tl (fcR tb tl dd)))) xa2 xv2 xt2 xz2 xf2 xp2 c2 w2 g1 ∧ u = [(q 4, .inr (5, [.ref (q 2), .ref (q 55), .ref (q 56), .int vb])), (q 55, .inr (8, [.ref (q 2), .int 2])), (q 2, .inr (6, [.ref (q 0), .int (nI xa2), .int xv2, .int (nI xo), .int xt2, .int (nI xz2), .int xf2, .int xp2])), (q 0, .inr (10, [.ref (q 20), .int (nI tl)])), (q 20, .inl (cI, 1600, .inl (fun j => nI (tb j)))), (q 56, .inr (0, [.ref (q 57), .ref (q 58), .ref (q 59), .ref (q 60), .int (nI c2), .int (nI w2)])), (q 57, .inl (cI, 1600, .inl g1))]) A) ([.ref (q 4)] : List Value).toArray s 0 0 A) (F0 m 6 ls []) := by
    intro n_17
    induction n_17 with
    | zero => intro i za zw zt zz zg zp yc yw yf zo H locs ls hm; exact absurd hm (Nat.not_lt_zero _)
    | succ n_17 ih_lp_16 =>
      intro i za zw zt zz zg zp yc yw yf zo H locs ls hm hzO hi hza hzz hyc hyw hzl hiO hrem hP hD hS hl
      refine lv_iload_n hx hb dX5_readTest_6 rfl (lv_at hl 0 rfl) ?_
      refine lv_sipush (v := 1600) hx hb dX5_readTest_7 (by decide) ?_
      refine lv_icmp_ge (tgt := 46) hx hb dX5_readTest_10 (by decide) (fun c_18 => ?_) (fun c_18 => ?_)
      · have c_18 : 1600 ≤ i := (nle 1600 i (by omega) (by omega)).mp c_18
        exact sk_vret hx hb hr hlocks hK hP hD hS (⟨za, zw, zt, zz, zg, zp, yc, yw, yf, by omega, by omega, by omega, by omega, test_e htb hzO htl hiO (Or.inl (by omega)) hrem hzO, rfl⟩) (Nat.le_of_ble_eq_true rfl) (Nat.le_of_ble_eq_true rfl) dX5_readTest_46
      · have c_18 : ¬ (1600 ≤ i) := fun h => c_18 ((nle 1600 i (by omega) (by omega)).mpr h)
        refine lv_aload_n hx hb dX5_readTest_13 rfl (lv_at hl 1 rfl) ?_
        refine sk_get (v := .ref (q 2)) (C := RX5) (T := TX5) (N := 4) hx hb hts inlX5 hown hK hP 0 rfl rfl 0 (by decide) w_1_154 rfl dX5_readTest_14 ?_
        refine lv_sipush (v := 273) hx hb dX5_readTest_17 (by decide) ?_
        refine sk_ViZ (q0 := 0) (n := 1) (rest := []) (wr := [(q 4, .inr (5, [.ref (q 2), .ref (q 55), .ref (q 56), .int vb])), (q 55, .inr (8, [.ref (q 2), .int 2])), (q 56, .inr (0, [.ref (q 57), .ref (q 58), .ref (q 59), .ref (q 60), .int (nI yc), .int (nI yw)])), (q 57, .inl (cI, 1600, .inl yf))]) ⟨hx, hb, hml, hown, hts⟩ hl.1 (c_erd_takes l D cI cJ cC cZ cS zk zv zf q za zw xo zt zz zg zp tl tb 273 (rc zo) (by omega) (by omega) (by omega) htb (by decide) (hzO).1) w_5_86 w_5_87 w_5_88 w_1_4 w_5_89 (by decide +kernel) ⟨⟨(by dsimp only; omega), (by dsimp only; omega)⟩, (by dsimp only; omega), (by dsimp only; omega)⟩ hK hP hD hS hZ hA [2, 3, 4] [0, 1, 5, 6] rfl rfl (by decide +kernel) (by decide +kernel) (by decide +kernel) rfl rfl rfl rfl (Nat.le_of_ble_eq_true rfl) dX5_readTest_20 (fun r_26 u H locs hw hP hD hS => ?_)
        obtain ⟨xa2_19, xv2_20, xt2_21, xz2_22, xf2_23, xp2_24, b_25, hxa2_27, hxz2_28, hb1_29, hO2_30, rfl, rfl⟩ := hw
        have hP : va_P D vwCl [(q 4, .inr (5, [.ref (q 2), .ref (q 55), .ref (q 56), .int vb])), (q 55, .inr (8, [.ref (q 2), .int 2])), (q 56, .inr (0, [.ref (q 57), .ref (q 58), .ref (q 59), .ref (q 60), .int (nI yc), .int (nI yw)])), (q 57, .inl (cI, 1600, .inl yf)), (q 2, .inr (6, [.ref (q 0), .int (nI xa2_19), .int xv2_20, .int (nI xo), .int xt2_21, .int (nI xz2_22), .int xf2_23, .int xp2_24])), (q 0, .inr (10, [.ref (q 20), .int (nI tl)])), (q 20, .inl (cI, 1600, .inl (fun j => nI (tb j))))] H := hP
        have hD : va_D A [(q 4, .inr (5, [.ref (q 2), .ref (q 55), .ref (q 56), .int vb])), (q 55, .inr (8, [.ref (q 2), .int 2])), (q 56, .inr (0, [.ref (q 57), .ref (q 58), .ref (q 59), .ref (q 60), .int (nI yc), .int (nI yw)])), (q 57, .inl (cI, 1600, .inl yf)), (q 2, .inr (6, [.ref (q 0), .int (nI xa2_19), .int xv2_20, .int (nI xo), .int xt2_21, .int (nI xz2_22), .int xf2_23, .int xp2_24])), (q 0, .inr (10, [.ref (q 20), .int (nI tl)])), (q 20, .inl (cI, 1600, .inl (fun j => nI (tb j))))] := hD
        refine lv_if_eq (tgt := 46) hx hb dX5_readTest_23 (by decide) (fun c_31 => ?_) (fun c_31 => ?_)
        · have c_31 : b_25 = 0 := (neq b_25 0 (by omega) (by omega)).mp c_31
          have hw_33 := (rr_0 hO2_30 (by omega)).1
          have hO_32 := rs_re hzO (rr_0 hO2_30 (by omega)).2
          have hP := hP.sub (ws' := [(q 4, .inr (5, [.ref (q 2), .ref (q 55), .ref (q 56), .int vb])), (q 55, .inr (8, [.ref (q 2), .int 2])), (q 2, .inr (6, [.ref (q 0), .int (nI xa2_19), .int xv2_20, .int (nI xo), .int xt2_21, .int (nI xz2_22), .int xf2_23, .int xp2_24])), (q 0, .inr (10, [.ref (q 20), .int (nI tl)])), (q 20, .inl (cI, 1600, .inl (fun j => nI (tb j)))), (q 56, .inr (0, [.ref (q 57), .ref (q 58), .ref (q 59), .ref (q 60), .int (nI yc), .int (nI yw)])), (q 57, .inl (cI, 1600, .inl yf))]) [0, 1, 4, 5, 6, 2, 3] rfl
          have hD := hD.sub (ws' := [(q 4, .inr (5, [.ref (q 2), .ref (q 55), .ref (q 56), .int vb])), (q 55, .inr (8, [.ref (q 2), .int 2])), (q 2, .inr (6, [.ref (q 0), .int (nI xa2_19), .int xv2_20, .int (nI xo), .int xt2_21, .int (nI xz2_22), .int xf2_23, .int xp2_24])), (q 0, .inr (10, [.ref (q 20), .int (nI tl)])), (q 20, .inl (cI, 1600, .inl (fun j => nI (tb j)))), (q 56, .inr (0, [.ref (q 57), .ref (q 58), .ref (q 59), .ref (q 60), .int (nI yc), .int (nI yw)])), (q 57, .inl (cI, 1600, .inl yf))]) [0, 1, 4, 5, 6, 2, 3] (by decide +kernel) rfl
          exact sk_vret hx hb hr hlocks hK hP hD hS (⟨xa2_19, xv2_20, xt2_21, xz2_22, xf2_23, xp2_24, yc, yw, yf, by omega, by omega, by omega, by omega, test_e htb hzO htl hiO (Or.inr hw_33) hrem hO_32, rfl⟩) (Nat.le_of_ble_eq_true rfl) (Nat.le_of_ble_eq_true rfl) dX5_readTest_46
        · have c_31 : ¬ (b_25 = 0) := fun h => c_31 ((neq b_25 0 (by omega) (by omega)).mpr h)
          have hw_35 := (rr_1 hO2_30 (by omega)).1
          have hO_34 := rs_bd hzO (rr_1 hO2_30 (by omega)).2
          have hL_36 := lenS_nx htb hzO ⟨by rw [hw_35]; decide, by rw [hw_35]; decide⟩ hzl
          refine lv_aload_n hx hb dX5_readTest_26 rfl (lv_at hl 1 rfl) ?_
          refine sk_VvZ (q0 := 0) (n := 0) (rest := []) (wr := []) ⟨hx, hb, hml, hown, hts⟩ hl.1 (hq q vb xa2_19 xv2_20 xo xt2_21 xz2_22 xf2_23 xp2_24 tl tb yc yw yf (bd zo (nxF tb tl)) (by omega) (by omega) (by omega) htb (by omega) (by omega) (by omega) hO_34 (lenO_S hL_36)) w_5_74 w_5_76 w_0_35 w_1_7 w_5_77 (by decide +kernel) ⟨⟨(by dsimp only; omega), (by dsimp only; omega)⟩, (by dsimp only; omega), (by dsimp only; omega)⟩ hK hP hD hS hZ hA [0, 1, 4, 5, 6, 2, 3] [] rfl rfl (by decide +kernel) (by decide +kernel) (by decide +kernel) rfl rfl rfl rfl (Nat.le_of_ble_eq_true rfl) dX5_readTest_27 (fun u H locs hw hP hD hS => ?_)
          obtain ⟨xa2_37, xv2_38, xt2_39, xz2_40, xf2_41, xp2_42, c2_43, w2_44, g1_45, hxa2_46, hxz2_47, hc2_48, hw2_49, hO2_50, rfl⟩ := hw
          have hP : va_P D vwCl [(q 4, .inr (5, [.ref (q 2), .ref (q 55), .ref (q 56), .int vb])), (q 55, .inr (8, [.ref (q 2), .int 2])), (q 2, .inr (6, [.ref (q 0), .int (nI xa2_37), .int xv2_38, .int (nI xo), .int xt2_39, .int (nI xz2_40), .int xf2_41, .int xp2_42])), (q 0, .inr (10, [.ref (q 20), .int (nI tl)])), (q 20, .inl (cI, 1600, .inl (fun j => nI (tb j)))), (q 56, .inr (0, [.ref (q 57), .ref (q 58), .ref (q 59), .ref (q 60), .int (nI c2_43), .int (nI w2_44)])), (q 57, .inl (cI, 1600, .inl g1_45))] H := hP
          have hD : va_D A [(q 4, .inr (5, [.ref (q 2), .ref (q 55), .ref (q 56), .int vb])), (q 55, .inr (8, [.ref (q 2), .int 2])), (q 2, .inr (6, [.ref (q 0), .int (nI xa2_37), .int xv2_38, .int (nI xo), .int xt2_39, .int (nI xz2_40), .int xf2_41, .int xp2_42])), (q 0, .inr (10, [.ref (q 20), .int (nI tl)])), (q 20, .inl (cI, 1600, .inl (fun j => nI (tb j)))), (q 56, .inr (0, [.ref (q 57), .ref (q 58), .ref (q 59), .ref (q 60), .int (nI c2_43), .int (nI w2_44)])), (q 57, .inl (cI, 1600, .inl g1_45))] := hD
          have hL_51 := lenS_ap (len_both (tb := tb) (n := tl) (len_fc (tb := tb) (n := tl) dd)) hL_36
          refine lv_aload_n hx hb dX5_readTest_30 rfl (lv_at hl 1 rfl) ?_
          refine sk_get (v := .ref (q 56)) (C := RX5) (T := TX5) (N := 4) hx hb hts inlX5 hown hK hP 0 rfl rfl 2 (by decide) w_1_156 rfl dX5_readTest_31 ?_
          refine lv_sipush (v := 30010) hx hb dX5_readTest_34 (by decide) ?_
          refine sk_Vv (q0 := 0) (n := 1) (rest := []) (wr := [(q 4, .inr (5, [.ref (q 2), .ref (q 55), .ref (q 56), .int vb])), (q 55, .inr (8, [.ref (q 2), .int 2])), (q 2, .inr (6, [.ref (q 0), .int (nI xa2_37), .int xv2_38, .int (nI xo), .int xt2_39, .int (nI xz2_40), .int xf2_41, .int xp2_42])), (q 0, .inr (10, [.ref (q 20), .int (nI tl)])), (q 20, .inl (cI, 1600, .inl (fun j => nI (tb j))))]) ⟨hx, hb, hml, hown, hts⟩ hl.1 (c_eCode_addX l D cI cJ cC cZ cS (q 56) (q 57) (q 58) (q 59) (q 60) c2_43 w2_44 g1_45 30010 (bindR (bd zo (nxF tb tl)) (apF (bothR tb tl (fcR tb tl dd)))) 11 (by omega) (by omega) (by decide) (by omega) (hO2_50).2 (rm_S hO2_50 htl hL_51)) w_5_83 w_3_98 w_3_99 w_1_8 w_3_100 (by decide +kernel) ⟨⟨(by dsimp only; omega), (by dsimp only; omega)⟩, (by dsimp only; omega), (by dsimp only; omega)⟩ hK hP hD hS hA [5, 6] [0, 1, 2, 3, 4] rfl rfl (by decide +kernel) (by decide +kernel) (by decide +kernel) rfl rfl rfl rfl (Nat.le_of_ble_eq_true rfl) dX5_readTest_37 (fun u H locs hw hP hD hS => ?_)
          obtain ⟨c2_52, w2_53, g1_54, hc2_55, hw2_56, hO2_57, rfl⟩ := hw
          have hP : va_P D vwCl [(q 4, .inr (5, [.ref (q 2), .ref (q 55), .ref (q 56), .int vb])), (q 55, .inr (8, [.ref (q 2), .int 2])), (q 2, .inr (6, [.ref (q 0), .int (nI xa2_37), .int xv2_38, .int (nI xo), .int xt2_39, .int (nI xz2_40), .int xf2_41, .int xp2_42])), (q 0, .inr (10, [.ref (q 20), .int (nI tl)])), (q 20, .inl (cI, 1600, .inl (fun j => nI (tb j)))), (q 56, .inr (0, [.ref (q 57), .ref (q 58), .ref (q 59), .ref (q 60), .int (nI c2_52), .int (nI w2_53)])), (q 57, .inl (cI, 1600, .inl g1_54))] H := hP
          have hD : va_D A [(q 4, .inr (5, [.ref (q 2), .ref (q 55), .ref (q 56), .int vb])), (q 55, .inr (8, [.ref (q 2), .int 2])), (q 2, .inr (6, [.ref (q 0), .int (nI xa2_37), .int xv2_38, .int (nI xo), .int xt2_39, .int (nI xz2_40), .int xf2_41, .int xp2_42])), (q 0, .inr (10, [.ref (q 20), .int (nI tl)])), (q 20, .inl (cI, 1600, .inl (fun j => nI (tb j)))), (q 56, .inr (0, [.ref (q 57), .ref (q 58), .ref (q 59), .ref (q 60), .int (nI c2_52), .int (nI w2_53)])), (q 57, .inl (cI, 1600, .inl g1_54))] := hD
          have hO_58 := rs_ad hO2_50 hO2_57
          have hL_59 := lenO_ad (v := 11) hL_51
          refine lv_iinc (v := nI (i + 1)) (lv' := [(1, .int (nI (i + 1))), (0, .ref (q 4))]) hx hb dX5_readTest_40 hl (k := 0) rfl (ninc i 1 (by decide)) (by decide) rfl (fun ls hl => ?_)
          refine lv_goto (tgt := 6) hx hb dX5_readTest_43 (by decide) ?_
          exact ih_lp_16 (i + 1) xa2_37 xv2_38 xt2_39 xz2_40 xf2_41 xp2_42 c2_52 w2_53 g1_54 (ad (bindR (bd zo (nxF tb tl)) (apF (bothR tb tl (fcR tb tl dd)))) 11) _ _ _ (by omega) hO_58 (by omega) (by omega) (by omega) (by omega) (by omega) hL_59 (iO_s htb hzO ⟨by rw [hw_35]; decide, by rw [hw_35]; decide⟩ (bothR_mono (fcR_mono dd)) hiO) (test_s htb hzO (fcR_mono dd) hw_35 hrem) hP hD hS (lv_sub hl [0, 1] rfl)
  exact lp_16 (1600 - 0 + 1) 0 xa2_1 xv2_2 xt2_3 xz2_4 xf2_5 xp2_6 c2_7 w2_8 g1_9 (bindR og (apF (bothR tb tl (fcR tb tl dd)))) _ _ _ (Nat.lt_succ_self _) hO2_14 (by omega) (by omega) (by omega) (by omega) (by omega) hL_15 (iO_0 _) (test_0 _) hP hD hS (lv_sub hl [0, 1] rfl)
theorem c_etests (l : Launch) (D : va_G) (cI cJ cC cZ cS : ClassId) (zk zv : Nat) (zf : Value) (dd : Nat) : CT_ereadTest l D cI cJ cC cZ cS zk zv zf dd ∧ CT_ereadFact l D cI cJ cC cZ cS zk zv zf dd := by
  induction dd with
  | zero =>
    have h1 := c_ereadFact l D cI cJ cC cZ cS zk zv zf 0 (fun d h => absurd h (by omega)) (fun d h => absurd h (by omega))
    exact ⟨c_ereadTest l D cI cJ cC cZ cS zk zv zf 0 (c_ereadBoth l D cI cJ cC cZ cS zk zv zf 0 h1), h1⟩
  | succ n ih =>
    have ht : ∀ d, d + 1 = n + 1 → CT_ereadTest l D cI cJ cC cZ cS zk zv zf d := fun d h => by rw [show d = n by omega]; exact ih.1
    have hf : ∀ d, d + 1 = n + 1 → CT_ereadFact l D cI cJ cC cZ cS zk zv zf d := fun d h => by rw [show d = n by omega]; exact ih.2
    have h1 := c_ereadFact l D cI cJ cC cZ cS zk zv zf (n + 1) ht hf
    exact ⟨c_ereadTest l D cI cJ cC cZ cS zk zv zf (n + 1) (c_ereadBoth l D cI cJ cC cZ cS zk zv zf (n + 1) h1), h1⟩
set_option maxHeartbeats 4000000 in
set_option maxRecDepth 100000 in
theorem c_eq_read (l : Launch) (D : va_G) (cI cJ cC cZ cS : ClassId) (zk zv : Nat) (zf : Value) (q : Nat → Nat) (vb : Int32) (xa : Nat) (xv : Int32) (xo : Nat) (xt : Int32) (xz : Nat) (xf : Int32) (xp : Int32) (tl : Nat) (tb : Nat → Nat) (cl : Nat) (mw : Nat) (f1 : Nat → Int32) (hxa : xa ≤ 1600) (hxz : xz ≤ 1600) (htl : tl ≤ 1600) (htb : ∀ j, tb j ≤ 255) (hcl : cl ≤ 1600) (hmw : mw ≤ 1) : skMZ zk zv zf l yX5_read cX5_read 1 none 91 2171 0 0 D (skT cI cJ cC cZ cS) [.ref (q 4)] [(q 4, .inr (5, [.ref (q 2), .ref (q 55), .ref (q 56), .int vb])), (q 55, .inr (8, [.ref (q 2), .int 2])), (q 2, .inr (6, [.ref (q 0), .int (nI xa), .int xv, .int (nI xo), .int xt, .int (nI xz), .int xf, .int xp])), (q 0, .inr (10, [.ref (q 20), .int (nI tl)])), (q 20, .inl (cI, 1600, .inl (fun j => nI (tb j)))), (q 56, .inr (0, [.ref (q 57), .ref (q 58), .ref (q 59), .ref (q 60), .int (nI cl), .int (nI mw)])), (q 57, .inl (cI, 1600, .inl f1))] (skV D (skT cI cJ cC cZ cS) (fun (u : va_W) => ∃ (xa2 : Nat), ∃ (xv2 : Int32), ∃ (xt2 : Int32), ∃ (xz2 : Nat), ∃ (xf2 : Int32), ∃ (xp2 : Int32), ∃ (c2 : Nat), ∃ (w2 : Nat), ∃ (g1 : Nat → Int32), ∃ (vb2 : Int32), xa2 ≤ 1600 ∧ xz2 ≤ 1600 ∧ c2 ≤ 1600 ∧ w2 ≤ 1 ∧ rdO tb tl (quP tb tl) xa2 xv2 xt2 xz2 xf2 xp2 ∧ u = [(q 4, .inr (5, [.ref (q 2), .ref (q 55), .ref (q 56), .int vb2])), (q 55, .inr (8, [.ref (q 2), .int 2])), (q 2, .inr (6, [.ref (q 0), .int (nI xa2), .int xv2, .int 0, .int xt2, .int (nI xz2), .int xf2, .int xp2])), (q 0, .inr (10, [.ref (q 20), .int (nI tl)])), (q 20, .inl (cI, 1600, .inl (fun j => nI (tb j)))), (q 56, .inr (0, [.ref (q 57), .ref (q 58), .ref (q 59), .ref (q 60), .int (nI c2), .int (nI w2)])), (q 57, .inl (cI, 1600, .inl g1))])) := by
  refine skMZ_of (by decide +kernel) (Nat.le_of_ble_eq_true rfl) ?_
  intro p e s m below meth c A ls E hP hD hZ hl
  obtain ⟨hx, hb, hr, hml, hlocks, hin, hown, hts, hK, hA⟩ := E
  have hown : s.vm.findClass RX5 = some m.cls := hown
  have hS : va_S A s.heap s.heap [] := va_S.rf
  have hl : lv_has ls 1 [(0, .ref (q 4))] := hl
  refine lv_aload_n hx hb dX5_read_0 rfl (lv_at hl 0 rfl) ?_
  refine sk_get (v := .ref (q 56)) (C := RX5) (T := TX5) (N := 4) hx hb hts inlX5 hown hK hP 0 rfl rfl 2 (by decide) w_1_156 rfl dX5_read_1 ?_
  refine sk_Vv (q0 := 0) (n := 0) (rest := []) (wr := [(q 4, .inr (5, [.ref (q 2), .ref (q 55), .ref (q 56), .int vb])), (q 55, .inr (8, [.ref (q 2), .int 2])), (q 2, .inr (6, [.ref (q 0), .int (nI xa), .int xv, .int (nI xo), .int xt, .int (nI xz), .int xf, .int xp])), (q 0, .inr (10, [.ref (q 20), .int (nI tl)])), (q 20, .inl (cI, 1600, .inl (fun j => nI (tb j)))), (q 57, .inl (cI, 1600, .inl f1))]) ⟨hx, hb, hml, hown, hts⟩ hl.1 (c_Code_clear l D cI cJ cC cZ cS (q 56) (q 57) (q 58) (q 59) (q 60) cl mw) w_5_67 w_2_215 w_2_216 w_1_8 w_2_217 (by decide +kernel) ⟨⟨(Nat.le_of_ble_eq_true rfl), (Nat.le_of_ble_eq_true rfl)⟩, (Nat.le_of_ble_eq_true rfl), (Nat.le_of_ble_eq_true rfl)⟩ hK hP hD hS hA [5] [0, 1, 2, 3, 4, 6] rfl rfl (by decide +kernel) (by decide +kernel) (by decide +kernel) rfl rfl rfl rfl (Nat.le_of_ble_eq_true rfl) dX5_read_4 (fun u H locs hw hP hD hS => ?_)
  obtain rfl := hw
  have hP : va_P D vwCl [(q 4, .inr (5, [.ref (q 2), .ref (q 55), .ref (q 56), .int vb])), (q 55, .inr (8, [.ref (q 2), .int 2])), (q 2, .inr (6, [.ref (q 0), .int (nI xa), .int xv, .int (nI xo), .int xt, .int (nI xz), .int xf, .int xp])), (q 0, .inr (10, [.ref (q 20), .int (nI tl)])), (q 20, .inl (cI, 1600, .inl (fun j => nI (tb j)))), (q 57, .inl (cI, 1600, .inl f1)), (q 56, .inr (0, [.ref (q 57), .ref (q 58), .ref (q 59), .ref (q 60), .int 0, .int 0]))] H := hP
  have hD : va_D A [(q 4, .inr (5, [.ref (q 2), .ref (q 55), .ref (q 56), .int vb])), (q 55, .inr (8, [.ref (q 2), .int 2])), (q 2, .inr (6, [.ref (q 0), .int (nI xa), .int xv, .int (nI xo), .int xt, .int (nI xz), .int xf, .int xp])), (q 0, .inr (10, [.ref (q 20), .int (nI tl)])), (q 20, .inl (cI, 1600, .inl (fun j => nI (tb j)))), (q 57, .inl (cI, 1600, .inl f1)), (q 56, .inr (0, [.ref (q 57), .ref (q 58), .ref (q 59), .ref (q 60), .int 0, .int 0]))] := hD
  refine lv_aload_n hx hb dX5_read_7 rfl (lv_at hl 0 rfl) ?_
  refine sk_get (v := .ref (q 2)) (C := RX5) (T := TX5) (N := 4) hx hb hts inlX5 hown hK hP 0 rfl rfl 0 (by decide) w_1_154 rfl dX5_read_8 ?_
  refine sk_VvZ (q0 := 0) (n := 0) (rest := []) (wr := [(q 4, .inr (5, [.ref (q 2), .ref (q 55), .ref (q 56), .int vb])), (q 55, .inr (8, [.ref (q 2), .int 2])), (q 57, .inl (cI, 1600, .inl f1)), (q 56, .inr (0, [.ref (q 57), .ref (q 58), .ref (q 59), .ref (q 60), .int 0, .int 0]))]) ⟨hx, hb, hml, hown, hts⟩ hl.1 (c_erd_begin l D cI cJ cC cZ cS zk zv zf q xa xv xo xt xz xf xp tl tb (by omega) (by omega) (by omega) htb) w_5_68 w_2_222 w_2_223 w_1_4 w_2_224 (by decide +kernel) ⟨⟨(Nat.le_of_ble_eq_true rfl), (Nat.le_of_ble_eq_true rfl)⟩, (Nat.le_of_ble_eq_true rfl), (Nat.le_of_ble_eq_true rfl)⟩ hK hP hD hS hZ hA [2, 3, 4] [0, 1, 5, 6] rfl rfl (by decide +kernel) (by decide +kernel) (by decide +kernel) rfl rfl rfl rfl (Nat.le_of_ble_eq_true rfl) dX5_read_11 (fun u H locs hw hP hD hS => ?_)
  obtain ⟨xa2_1, xv2_2, xt2_3, xz2_4, hxa2_5, hxz2_6, hO2_7, rfl⟩ := hw
  have hP : va_P D vwCl [(q 4, .inr (5, [.ref (q 2), .ref (q 55), .ref (q 56), .int vb])), (q 55, .inr (8, [.ref (q 2), .int 2])), (q 57, .inl (cI, 1600, .inl f1)), (q 56, .inr (0, [.ref (q 57), .ref (q 58), .ref (q 59), .ref (q 60), .int 0, .int 0])), (q 2, .inr (6, [.ref (q 0), .int (nI xa2_1), .int xv2_2, .int 0, .int xt2_3, .int (nI xz2_4), .int 0, .int (-1)])), (q 0, .inr (10, [.ref (q 20), .int (nI tl)])), (q 20, .inl (cI, 1600, .inl (fun j => nI (tb j))))] H := hP
  have hD : va_D A [(q 4, .inr (5, [.ref (q 2), .ref (q 55), .ref (q 56), .int vb])), (q 55, .inr (8, [.ref (q 2), .int 2])), (q 57, .inl (cI, 1600, .inl f1)), (q 56, .inr (0, [.ref (q 57), .ref (q 58), .ref (q 59), .ref (q 60), .int 0, .int 0])), (q 2, .inr (6, [.ref (q 0), .int (nI xa2_1), .int xv2_2, .int 0, .int xt2_3, .int (nI xz2_4), .int 0, .int (-1)])), (q 0, .inr (10, [.ref (q 20), .int (nI tl)])), (q 20, .inl (cI, 1600, .inl (fun j => nI (tb j))))] := hD
  refine lv_aload_n hx hb dX5_read_14 rfl (lv_at hl 0 rfl) ?_
  refine lv_aload_n hx hb dX5_read_15 rfl (lv_at hl 0 rfl) ?_
  refine sk_get (v := .ref (q 2)) (C := RX5) (T := TX5) (N := 4) hx hb hts inlX5 hown hK hP 0 rfl rfl 0 (by decide) w_1_154 rfl dX5_read_16 ?_
  refine sk_get (v := .int xt2_3) (C := RX6) (T := TX6) (N := 8) hx hb hts inlX6 hown hK hP 4 rfl rfl 4 (by decide) w_1_61 rfl dX5_read_19 ?_
  refine sk_put (ws' := [(q 4, .inr (5, [.ref (q 2), .ref (q 55), .ref (q 56), .int xt2_3])), (q 55, .inr (8, [.ref (q 2), .int 2])), (q 57, .inl (cI, 1600, .inl f1)), (q 56, .inr (0, [.ref (q 57), .ref (q 58), .ref (q 59), .ref (q 60), .int 0, .int 0])), (q 2, .inr (6, [.ref (q 0), .int (nI xa2_1), .int xv2_2, .int 0, .int xt2_3, .int (nI xz2_4), .int 0, .int (-1)])), (q 0, .inr (10, [.ref (q 20), .int (nI tl)])), (q 20, .inl (cI, 1600, .inl (fun j => nI (tb j))))]) (C := RX5) (T := TX5) (N := 4) (v := .int xt2_3) hx hb hts inlX5 tyX5 tyX5_ok nmX5 hown hK hP hD hS 0 rfl rfl 3 (by decide) w_1_157 rfl rfl rfl (Nat.le_of_ble_eq_true rfl) rfl dX5_read_22 (fun H locs hP hD hS => ?_)
  have jn_8 : ∀ (o1_ : Nat → Int32) (oc : Nat) (ox : Nat) (oa : Nat) (ow : Int32) (ot : Int32) (oz : Nat) (og : Int32) (op : Int32) (wo : Except Err Cur) (H : Heap) (locs : List Loc) (ls : Array Slot), (rdO tb tl wo oa ow ot oz og op) → (oa ≤ 1600) → (oz ≤ 1600) → (oc ≤ 1600) → (ox ≤ 1) → (wo = quF tb tl (sk tb tl 0, false)) → va_P D vwCl [(q 4, .inr (5, [.ref (q 2), .ref (q 55), .ref (q 56), .int xt2_3])), (q 55, .inr (8, [.ref (q 2), .int 2])), (q 57, .inl (cI, 1600, .inl o1_)), (q 56, .inr (0, [.ref (q 57), .ref (q 58), .ref (q 59), .ref (q 60), .int (nI oc), .int (nI ox)])), (q 2, .inr (6, [.ref (q 0), .int (nI oa), .int ow, .int 0, .int ot, .int (nI oz), .int og, .int op])), (q 0, .inr (10, [.ref (q 20), .int (nI tl)])), (q 20, .inl (cI, 1600, .inl (fun j => nI (tb j))))] H → va_D A [(q 4, .inr (5, [.ref (q 2), .ref (q 55), .ref (q 56), .int xt2_3])), (q 55, .inr (8, [.ref (q 2), .int 2])), (q 57, .inl (cI, 1600, .inl o1_)), (q 56, .inr (0, [.ref (q 57), .ref (q 58), .ref (q 59), .ref (q 60), .int (nI oc), .int (nI ox)])), (q 2, .inr (6, [.ref (q 0), .int (nI oa), .int ow, .int 0, .int ot, .int (nI oz), .int og, .int op])), (q 0, .inr (10, [.ref (q 20), .int (nI tl)])), (q 20, .inl (cI, 1600, .inl (fun j => nI (tb j))))] → va_S A s.heap H locs → lv_has ls 1 [(0, .ref (q 4))] → W p l e { frames := 91, cells := 0, slots := 0, locals := 2171 } s m ([.ref (q 4)] : List Value).toArray below meth c H locs 0 0 (MQ below (skV D (skT cI cJ cC cZ cS) (fun (u : va_W) => ∃ (xa2 : Nat), ∃ (xv2 : Int32), ∃ (xt2 : Int32), ∃ (xz2 : Nat), ∃ (xf2 : Int32), ∃ (xp2 : Int32), ∃ (c2 : Nat), ∃ (w2 : Nat), ∃ (g1 : Nat → Int32), ∃ (vb2 : Int32), xa2 ≤ 1600 ∧ xz2 ≤ 1600 ∧ c2 ≤ 1600 ∧ w2 ≤ 1 ∧ rdO tb tl (quP tb tl) xa2 xv2 xt2 xz2 xf2 xp2 ∧ u = [(q 4, .inr (5, [.ref (q 2), .ref (q 55), .ref (q 56), .int vb2])), (q 55, .inr (8, [.ref (q 2), .int 2])), (q 2, .inr (6, [.ref (q 0), .int (nI xa2), .int xv2, .int 0, .int xt2, .int (nI xz2), .int xf2, .int xp2])), (q 0, .inr (10, [.ref (q 20), .int (nI tl)])), (q 20, .inl (cI, 1600, .inl (fun j => nI (tb j)))), (q 56, .inr (0, [.ref (q 57), .ref (q 58), .ref (q 59), .ref (q 60), .int (nI c2), .int (nI w2)])), (q 57, .inl (cI, 1600, .inl g1))]) A) ([.ref (q 4)] : List Value).toArray s 0 0 A) (F0 m 138 ls []) := by
    intro o1_ oc ox oa ow ot oz og op wo H locs ls hwO hoa hoz hoc hox hwq hP hD hS hl
    refine lv_aload_n hx hb dX5_read_138 rfl (lv_at hl 0 rfl) ?_
    refine sk_get (v := .ref (q 2)) (C := RX5) (T := TX5) (N := 4) hx hb hts inlX5 hown hK hP 0 rfl rfl 0 (by decide) w_1_154 rfl dX5_read_139 ?_
    refine sk_get (v := .int ot) (C := RX6) (T := TX6) (N := 8) hx hb hts inlX6 hown hK hP 4 rfl rfl 4 (by decide) w_1_61 rfl dX5_read_142 ?_
    refine lv_iconst (v := (-1)) hx hb dX5_read_145 (by decide) ?_
    refine lv_icmp_eq (tgt := 156) hx hb dX5_read_146 (by decide) (fun c_9 => ?_) (fun c_9 => ?_)
    · skip
      have hP := hP.sub (ws' := [(q 4, .inr (5, [.ref (q 2), .ref (q 55), .ref (q 56), .int xt2_3])), (q 55, .inr (8, [.ref (q 2), .int 2])), (q 2, .inr (6, [.ref (q 0), .int (nI oa), .int ow, .int 0, .int ot, .int (nI oz), .int og, .int op])), (q 0, .inr (10, [.ref (q 20), .int (nI tl)])), (q 20, .inl (cI, 1600, .inl (fun j => nI (tb j)))), (q 56, .inr (0, [.ref (q 57), .ref (q 58), .ref (q 59), .ref (q 60), .int (nI oc), .int (nI ox)])), (q 57, .inl (cI, 1600, .inl o1_))]) [0, 1, 4, 5, 6, 3, 2] rfl
      have hD := hD.sub (ws' := [(q 4, .inr (5, [.ref (q 2), .ref (q 55), .ref (q 56), .int xt2_3])), (q 55, .inr (8, [.ref (q 2), .int 2])), (q 2, .inr (6, [.ref (q 0), .int (nI oa), .int ow, .int 0, .int ot, .int (nI oz), .int og, .int op])), (q 0, .inr (10, [.ref (q 20), .int (nI tl)])), (q 20, .inl (cI, 1600, .inl (fun j => nI (tb j)))), (q 56, .inr (0, [.ref (q 57), .ref (q 58), .ref (q 59), .ref (q 60), .int (nI oc), .int (nI ox)])), (q 57, .inl (cI, 1600, .inl o1_))]) [0, 1, 4, 5, 6, 3, 2] (by decide +kernel) rfl
      exact sk_vret hx hb hr hlocks hK hP hD hS (⟨oa, ow, ot, oz, og, op, oc, ox, o1_, xt2_3, by omega, by omega, by omega, by omega, (by have h9 := q_e1 htb hwO c_9; rw [hwq] at h9; exact h9), rfl⟩) (Nat.le_of_ble_eq_true rfl) (Nat.le_of_ble_eq_true rfl) dX5_read_156
    · skip
      refine lv_aload_n hx hb dX5_read_149 rfl (lv_at hl 0 rfl) ?_
      refine sk_get (v := .ref (q 2)) (C := RX5) (T := TX5) (N := 4) hx hb hts inlX5 hown hK hP 0 rfl rfl 0 (by decide) w_1_154 rfl dX5_read_150 ?_
      refine sk_Vv (q0 := 0) (n := 0) (rest := []) (wr := [(q 4, .inr (5, [.ref (q 2), .ref (q 55), .ref (q 56), .int xt2_3])), (q 55, .inr (8, [.ref (q 2), .int 2])), (q 57, .inl (cI, 1600, .inl o1_)), (q 56, .inr (0, [.ref (q 57), .ref (q 58), .ref (q 59), .ref (q 60), .int (nI oc), .int (nI ox)])), (q 0, .inr (10, [.ref (q 20), .int (nI tl)])), (q 20, .inl (cI, 1600, .inl (fun j => nI (tb j))))]) ⟨hx, hb, hml, hown, hts⟩ hl.1 (c_erd_failHere l D cI cJ cC cZ cS q oa ow 0 ot oz og op tl tb wo (by omega) hwO) w_5_94 w_3_55 w_3_56 w_1_4 w_3_57 (by decide +kernel) ⟨⟨(Nat.le_of_ble_eq_true rfl), (Nat.le_of_ble_eq_true rfl)⟩, (Nat.le_of_ble_eq_true rfl), (Nat.le_of_ble_eq_true rfl)⟩ hK hP hD hS hA [4] [0, 1, 2, 3, 5, 6] rfl rfl (by decide +kernel) (by decide +kernel) (by decide +kernel) rfl rfl rfl rfl (Nat.le_of_ble_eq_true rfl) dX5_read_153 (fun u H locs hw hP hD hS => ?_)
      obtain ⟨xf2_10, xp2_11, hO2_12, rfl⟩ := hw
      have hP : va_P D vwCl [(q 4, .inr (5, [.ref (q 2), .ref (q 55), .ref (q 56), .int xt2_3])), (q 55, .inr (8, [.ref (q 2), .int 2])), (q 57, .inl (cI, 1600, .inl o1_)), (q 56, .inr (0, [.ref (q 57), .ref (q 58), .ref (q 59), .ref (q 60), .int (nI oc), .int (nI ox)])), (q 0, .inr (10, [.ref (q 20), .int (nI tl)])), (q 20, .inl (cI, 1600, .inl (fun j => nI (tb j)))), (q 2, .inr (6, [.ref (q 0), .int (nI oa), .int ow, .int 0, .int (-2), .int (nI oz), .int xf2_10, .int xp2_11]))] H := hP
      have hD : va_D A [(q 4, .inr (5, [.ref (q 2), .ref (q 55), .ref (q 56), .int xt2_3])), (q 55, .inr (8, [.ref (q 2), .int 2])), (q 57, .inl (cI, 1600, .inl o1_)), (q 56, .inr (0, [.ref (q 57), .ref (q 58), .ref (q 59), .ref (q 60), .int (nI oc), .int (nI ox)])), (q 0, .inr (10, [.ref (q 20), .int (nI tl)])), (q 20, .inl (cI, 1600, .inl (fun j => nI (tb j)))), (q 2, .inr (6, [.ref (q 0), .int (nI oa), .int ow, .int 0, .int (-2), .int (nI oz), .int xf2_10, .int xp2_11]))] := hD
      have hP := hP.sub (ws' := [(q 4, .inr (5, [.ref (q 2), .ref (q 55), .ref (q 56), .int xt2_3])), (q 55, .inr (8, [.ref (q 2), .int 2])), (q 2, .inr (6, [.ref (q 0), .int (nI oa), .int ow, .int 0, .int (-2), .int (nI oz), .int xf2_10, .int xp2_11])), (q 0, .inr (10, [.ref (q 20), .int (nI tl)])), (q 20, .inl (cI, 1600, .inl (fun j => nI (tb j)))), (q 56, .inr (0, [.ref (q 57), .ref (q 58), .ref (q 59), .ref (q 60), .int (nI oc), .int (nI ox)])), (q 57, .inl (cI, 1600, .inl o1_))]) [0, 1, 6, 4, 5, 3, 2] rfl
      have hD := hD.sub (ws' := [(q 4, .inr (5, [.ref (q 2), .ref (q 55), .ref (q 56), .int xt2_3])), (q 55, .inr (8, [.ref (q 2), .int 2])), (q 2, .inr (6, [.ref (q 0), .int (nI oa), .int ow, .int 0, .int (-2), .int (nI oz), .int xf2_10, .int xp2_11])), (q 0, .inr (10, [.ref (q 20), .int (nI tl)])), (q 20, .inl (cI, 1600, .inl (fun j => nI (tb j)))), (q 56, .inr (0, [.ref (q 57), .ref (q 58), .ref (q 59), .ref (q 60), .int (nI oc), .int (nI ox)])), (q 57, .inl (cI, 1600, .inl o1_))]) [0, 1, 6, 4, 5, 3, 2] (by decide +kernel) rfl
      exact sk_vret hx hb hr hlocks hK hP hD hS (⟨oa, ow, (-2), oz, xf2_10, xp2_11, oc, ox, o1_, xt2_3, by omega, by omega, by omega, by omega, (by have h9 := q_e2 htb hwO c_9 hO2_12; rw [hwq] at h9; exact h9), rfl⟩) (Nat.le_of_ble_eq_true rfl) (Nat.le_of_ble_eq_true rfl) dX5_read_156
  refine lv_aload_n hx hb dX5_read_25 rfl (lv_at hl 0 rfl) ?_
  refine sk_get (v := .int xt2_3) (C := RX5) (T := TX5) (N := 4) hx hb hts inlX5 hown hK hP 0 rfl rfl 3 (by decide) w_1_157 rfl dX5_read_26 ?_
  by_cases g_13 : xt2_3 = 271
  · refine lv_tableIn (off := 67) (tgt := 96) hx hb dX5_read_29 (by rw [g_13]; decide) (by rw [g_13]; decide) (by rw [g_13]; rfl) (by decide) ?_
    refine lv_aload_n hx hb dX5_read_96 rfl (lv_at hl 0 rfl) ?_
    refine sk_get (v := .ref (q 2)) (C := RX5) (T := TX5) (N := 4) hx hb hts inlX5 hown hK hP 0 rfl rfl 0 (by decide) w_1_154 rfl dX5_read_97 ?_
    refine sk_VvZ (q0 := 0) (n := 0) (rest := []) (wr := [(q 4, .inr (5, [.ref (q 2), .ref (q 55), .ref (q 56), .int xt2_3])), (q 55, .inr (8, [.ref (q 2), .int 2])), (q 57, .inl (cI, 1600, .inl f1)), (q 56, .inr (0, [.ref (q 57), .ref (q 58), .ref (q 59), .ref (q 60), .int 0, .int 0]))]) ⟨hx, hb, hml, hown, hts⟩ hl.1 (c_erd_step l D cI cJ cC cZ cS zk zv zf q xa2_1 xv2_2 0 xt2_3 xz2_4 0 (-1) tl tb (bindR (.ok (sk tb tl 0, false)) (beF tb tl)) (by omega) (by omega) (by omega) htb (rd_st htb hO2_7 ⟨by rw [g_13]; decide, by rw [g_13]; decide⟩)) w_5_69 w_2_226 w_2_227 w_1_4 w_2_228 (by decide +kernel) ⟨⟨(Nat.le_of_ble_eq_true rfl), (Nat.le_of_ble_eq_true rfl)⟩, (Nat.le_of_ble_eq_true rfl), (Nat.le_of_ble_eq_true rfl)⟩ hK hP hD hS hZ hA [4, 5, 6] [0, 1, 2, 3] rfl rfl (by decide +kernel) (by decide +kernel) (by decide +kernel) rfl rfl rfl rfl (Nat.le_of_ble_eq_true rfl) dX5_read_100 (fun u H locs hw hP hD hS => ?_)
    obtain ⟨xa2_14, xv2_15, xt2_16, xz2_17, hxa2_18, hxz2_19, hO2_20, rfl⟩ := hw
    have hP : va_P D vwCl [(q 4, .inr (5, [.ref (q 2), .ref (q 55), .ref (q 56), .int xt2_3])), (q 55, .inr (8, [.ref (q 2), .int 2])), (q 57, .inl (cI, 1600, .inl f1)), (q 56, .inr (0, [.ref (q 57), .ref (q 58), .ref (q 59), .ref (q 60), .int 0, .int 0])), (q 2, .inr (6, [.ref (q 0), .int (nI xa2_14), .int xv2_15, .int 0, .int xt2_16, .int (nI xz2_17), .int 0, .int (-1)])), (q 0, .inr (10, [.ref (q 20), .int (nI tl)])), (q 20, .inl (cI, 1600, .inl (fun j => nI (tb j))))] H := hP
    have hD : va_D A [(q 4, .inr (5, [.ref (q 2), .ref (q 55), .ref (q 56), .int xt2_3])), (q 55, .inr (8, [.ref (q 2), .int 2])), (q 57, .inl (cI, 1600, .inl f1)), (q 56, .inr (0, [.ref (q 57), .ref (q 58), .ref (q 59), .ref (q 60), .int 0, .int 0])), (q 2, .inr (6, [.ref (q 0), .int (nI xa2_14), .int xv2_15, .int 0, .int xt2_16, .int (nI xz2_17), .int 0, .int (-1)])), (q 0, .inr (10, [.ref (q 20), .int (nI tl)])), (q 20, .inl (cI, 1600, .inl (fun j => nI (tb j))))] := hD
    rw [stF_nx] at hO2_20
    have hO_21 := rs_0 (c := nx tb tl (sk tb tl 0)) (f := f1) hO2_20
    refine lv_aload_n hx hb dX5_read_103 rfl (lv_at hl 0 rfl) ?_
    refine sk_VvZ (q0 := 0) (n := 0) (rest := []) (wr := []) ⟨hx, hb, hml, hown, hts⟩ hl.1 ((c_etests l D cI cJ cC cZ cS zk zv zf 6).1 q xt2_3 xa2_14 xv2_15 0 xt2_16 xz2_17 0 (-1) tl tb 0 0 f1 (.ok (nx tb tl (sk tb tl 0), [])) (by omega) (by omega) (by omega) htb (by omega) (by omega) (by omega) hO_21 (lenO_0 (nx tb tl (sk tb tl 0)))) w_5_70 w_5_72 w_0_34 w_1_7 w_5_73 (by decide +kernel) ⟨⟨(Nat.le_of_ble_eq_true rfl), (Nat.le_of_ble_eq_true rfl)⟩, (Nat.le_of_ble_eq_true rfl), (Nat.le_of_ble_eq_true rfl)⟩ hK hP hD hS hZ hA [0, 1, 4, 5, 6, 3, 2] [] rfl rfl (by decide +kernel) (by decide +kernel) (by decide +kernel) rfl rfl rfl rfl (Nat.le_of_ble_eq_true rfl) dX5_read_104 (fun u H locs hw hP hD hS => ?_)
    obtain ⟨xa2_22, xv2_23, xt2_24, xz2_25, xf2_26, xp2_27, c2_28, w2_29, g1_30, hxa2_31, hxz2_32, hc2_33, hw2_34, hO2_35, rfl⟩ := hw
    have hP : va_P D vwCl [(q 4, .inr (5, [.ref (q 2), .ref (q 55), .ref (q 56), .int xt2_3])), (q 55, .inr (8, [.ref (q 2), .int 2])), (q 2, .inr (6, [.ref (q 0), .int (nI xa2_22), .int xv2_23, .int 0, .int xt2_24, .int (nI xz2_25), .int xf2_26, .int xp2_27])), (q 0, .inr (10, [.ref (q 20), .int (nI tl)])), (q 20, .inl (cI, 1600, .inl (fun j => nI (tb j)))), (q 56, .inr (0, [.ref (q 57), .ref (q 58), .ref (q 59), .ref (q 60), .int (nI c2_28), .int (nI w2_29)])), (q 57, .inl (cI, 1600, .inl g1_30))] H := hP
    have hD : va_D A [(q 4, .inr (5, [.ref (q 2), .ref (q 55), .ref (q 56), .int xt2_3])), (q 55, .inr (8, [.ref (q 2), .int 2])), (q 2, .inr (6, [.ref (q 0), .int (nI xa2_22), .int xv2_23, .int 0, .int xt2_24, .int (nI xz2_25), .int xf2_26, .int xp2_27])), (q 0, .inr (10, [.ref (q 20), .int (nI tl)])), (q 20, .inl (cI, 1600, .inl (fun j => nI (tb j)))), (q 56, .inr (0, [.ref (q 57), .ref (q 58), .ref (q 59), .ref (q 60), .int (nI c2_28), .int (nI w2_29)])), (q 57, .inl (cI, 1600, .inl g1_30))] := hD
    have hL_36 := lenO_ap (len_test (tb := tb) (n := tl) (len_fc (tb := tb) (n := tl) 6)) (lenO_0 (nx tb tl (sk tb tl 0)))
    have hO_37 := (hO2_35).1
    rw [q_t (k := 15) htb hO2_7 g_13 (by decide)] at hO_37
    refine lv_goto (tgt := 138) hx hb dX5_read_107 (by decide) ?_
    have hP := hP.sub (ws' := [(q 4, .inr (5, [.ref (q 2), .ref (q 55), .ref (q 56), .int xt2_3])), (q 55, .inr (8, [.ref (q 2), .int 2])), (q 57, .inl (cI, 1600, .inl g1_30)), (q 56, .inr (0, [.ref (q 57), .ref (q 58), .ref (q 59), .ref (q 60), .int (nI c2_28), .int (nI w2_29)])), (q 2, .inr (6, [.ref (q 0), .int (nI xa2_22), .int xv2_23, .int 0, .int xt2_24, .int (nI xz2_25), .int xf2_26, .int xp2_27])), (q 0, .inr (10, [.ref (q 20), .int (nI tl)])), (q 20, .inl (cI, 1600, .inl (fun j => nI (tb j))))]) [0, 1, 6, 5, 2, 3, 4] rfl
    have hD := hD.sub (ws' := [(q 4, .inr (5, [.ref (q 2), .ref (q 55), .ref (q 56), .int xt2_3])), (q 55, .inr (8, [.ref (q 2), .int 2])), (q 57, .inl (cI, 1600, .inl g1_30)), (q 56, .inr (0, [.ref (q 57), .ref (q 58), .ref (q 59), .ref (q 60), .int (nI c2_28), .int (nI w2_29)])), (q 2, .inr (6, [.ref (q 0), .int (nI xa2_22), .int xv2_23, .int 0, .int xt2_24, .int (nI xz2_25), .int xf2_26, .int xp2_27])), (q 0, .inr (10, [.ref (q 20), .int (nI tl)])), (q 20, .inl (cI, 1600, .inl (fun j => nI (tb j))))]) [0, 1, 6, 5, 2, 3, 4] (by decide +kernel) rfl
    exact jn_8 g1_30 c2_28 w2_29 xa2_22 xv2_23 xt2_24 xz2_25 xf2_26 xp2_27 (quF tb tl (sk tb tl 0, false)) _ _ _ hO_37 (by omega) (by omega) (by omega) (by omega) rfl hP hD hS (lv_sub hl [0] rfl)
  by_cases g_38 : xt2_3 = 272
  · refine lv_tableIn (off := 102) (tgt := 131) hx hb dX5_read_29 (by rw [g_38]; decide) (by rw [g_38]; decide) (by rw [g_38]; rfl) (by decide) ?_
    refine lv_aload_n hx hb dX5_read_131 rfl (lv_at hl 0 rfl) ?_
    refine sk_get (v := .ref (q 2)) (C := RX5) (T := TX5) (N := 4) hx hb hts inlX5 hown hK hP 0 rfl rfl 0 (by decide) w_1_154 rfl dX5_read_132 ?_
    refine sk_Vv (q0 := 0) (n := 0) (rest := []) (wr := [(q 4, .inr (5, [.ref (q 2), .ref (q 55), .ref (q 56), .int xt2_3])), (q 55, .inr (8, [.ref (q 2), .int 2])), (q 57, .inl (cI, 1600, .inl f1)), (q 56, .inr (0, [.ref (q 57), .ref (q 58), .ref (q 59), .ref (q 60), .int 0, .int 0])), (q 0, .inr (10, [.ref (q 20), .int (nI tl)])), (q 20, .inl (cI, 1600, .inl (fun j => nI (tb j))))]) ⟨hx, hb, hml, hown, hts⟩ hl.1 (c_erd_failHere l D cI cJ cC cZ cS q xa2_1 xv2_2 0 xt2_3 xz2_4 0 (-1) tl tb (.ok (sk tb tl 0, false)) (by omega) hO2_7) w_5_94 w_3_55 w_3_56 w_1_4 w_3_57 (by decide +kernel) ⟨⟨(Nat.le_of_ble_eq_true rfl), (Nat.le_of_ble_eq_true rfl)⟩, (Nat.le_of_ble_eq_true rfl), (Nat.le_of_ble_eq_true rfl)⟩ hK hP hD hS hA [4] [0, 1, 2, 3, 5, 6] rfl rfl (by decide +kernel) (by decide +kernel) (by decide +kernel) rfl rfl rfl rfl (Nat.le_of_ble_eq_true rfl) dX5_read_135 (fun u H locs hw hP hD hS => ?_)
    obtain ⟨xf2_39, xp2_40, hO2_41, rfl⟩ := hw
    have hP : va_P D vwCl [(q 4, .inr (5, [.ref (q 2), .ref (q 55), .ref (q 56), .int xt2_3])), (q 55, .inr (8, [.ref (q 2), .int 2])), (q 57, .inl (cI, 1600, .inl f1)), (q 56, .inr (0, [.ref (q 57), .ref (q 58), .ref (q 59), .ref (q 60), .int 0, .int 0])), (q 0, .inr (10, [.ref (q 20), .int (nI tl)])), (q 20, .inl (cI, 1600, .inl (fun j => nI (tb j)))), (q 2, .inr (6, [.ref (q 0), .int (nI xa2_1), .int xv2_2, .int 0, .int (-2), .int (nI xz2_4), .int xf2_39, .int xp2_40]))] H := hP
    have hD : va_D A [(q 4, .inr (5, [.ref (q 2), .ref (q 55), .ref (q 56), .int xt2_3])), (q 55, .inr (8, [.ref (q 2), .int 2])), (q 57, .inl (cI, 1600, .inl f1)), (q 56, .inr (0, [.ref (q 57), .ref (q 58), .ref (q 59), .ref (q 60), .int 0, .int 0])), (q 0, .inr (10, [.ref (q 20), .int (nI tl)])), (q 20, .inl (cI, 1600, .inl (fun j => nI (tb j)))), (q 2, .inr (6, [.ref (q 0), .int (nI xa2_1), .int xv2_2, .int 0, .int (-2), .int (nI xz2_4), .int xf2_39, .int xp2_40]))] := hD
    have hO_42 := hO2_41
    rw [q_n htb hO2_7 (by rw [g_38]; decide) (by rw [g_38]; decide) (by rw [g_38]; decide) (by rw [g_38]; decide) (by rw [g_38]; decide) (by rw [g_38]; decide)] at hO_42
    have hP := hP.sub (ws' := [(q 4, .inr (5, [.ref (q 2), .ref (q 55), .ref (q 56), .int xt2_3])), (q 55, .inr (8, [.ref (q 2), .int 2])), (q 57, .inl (cI, 1600, .inl f1)), (q 56, .inr (0, [.ref (q 57), .ref (q 58), .ref (q 59), .ref (q 60), .int 0, .int 0])), (q 2, .inr (6, [.ref (q 0), .int (nI xa2_1), .int xv2_2, .int 0, .int (-2), .int (nI xz2_4), .int xf2_39, .int xp2_40])), (q 0, .inr (10, [.ref (q 20), .int (nI tl)])), (q 20, .inl (cI, 1600, .inl (fun j => nI (tb j))))]) [0, 1, 2, 3, 6, 4, 5] rfl
    have hD := hD.sub (ws' := [(q 4, .inr (5, [.ref (q 2), .ref (q 55), .ref (q 56), .int xt2_3])), (q 55, .inr (8, [.ref (q 2), .int 2])), (q 57, .inl (cI, 1600, .inl f1)), (q 56, .inr (0, [.ref (q 57), .ref (q 58), .ref (q 59), .ref (q 60), .int 0, .int 0])), (q 2, .inr (6, [.ref (q 0), .int (nI xa2_1), .int xv2_2, .int 0, .int (-2), .int (nI xz2_4), .int xf2_39, .int xp2_40])), (q 0, .inr (10, [.ref (q 20), .int (nI tl)])), (q 20, .inl (cI, 1600, .inl (fun j => nI (tb j))))]) [0, 1, 2, 3, 6, 4, 5] (by decide +kernel) rfl
    exact jn_8 f1 0 0 xa2_1 xv2_2 (-2) xz2_4 xf2_39 xp2_40 (quF tb tl (sk tb tl 0, false)) _ _ _ hO_42 (by omega) (by omega) (by omega) (by omega) rfl hP hD hS (lv_sub hl [0] rfl)
  by_cases g_43 : xt2_3 = 273
  · refine lv_tableIn (off := 102) (tgt := 131) hx hb dX5_read_29 (by rw [g_43]; decide) (by rw [g_43]; decide) (by rw [g_43]; rfl) (by decide) ?_
    refine lv_aload_n hx hb dX5_read_131 rfl (lv_at hl 0 rfl) ?_
    refine sk_get (v := .ref (q 2)) (C := RX5) (T := TX5) (N := 4) hx hb hts inlX5 hown hK hP 0 rfl rfl 0 (by decide) w_1_154 rfl dX5_read_132 ?_
    refine sk_Vv (q0 := 0) (n := 0) (rest := []) (wr := [(q 4, .inr (5, [.ref (q 2), .ref (q 55), .ref (q 56), .int xt2_3])), (q 55, .inr (8, [.ref (q 2), .int 2])), (q 57, .inl (cI, 1600, .inl f1)), (q 56, .inr (0, [.ref (q 57), .ref (q 58), .ref (q 59), .ref (q 60), .int 0, .int 0])), (q 0, .inr (10, [.ref (q 20), .int (nI tl)])), (q 20, .inl (cI, 1600, .inl (fun j => nI (tb j))))]) ⟨hx, hb, hml, hown, hts⟩ hl.1 (c_erd_failHere l D cI cJ cC cZ cS q xa2_1 xv2_2 0 xt2_3 xz2_4 0 (-1) tl tb (.ok (sk tb tl 0, false)) (by omega) hO2_7) w_5_94 w_3_55 w_3_56 w_1_4 w_3_57 (by decide +kernel) ⟨⟨(Nat.le_of_ble_eq_true rfl), (Nat.le_of_ble_eq_true rfl)⟩, (Nat.le_of_ble_eq_true rfl), (Nat.le_of_ble_eq_true rfl)⟩ hK hP hD hS hA [4] [0, 1, 2, 3, 5, 6] rfl rfl (by decide +kernel) (by decide +kernel) (by decide +kernel) rfl rfl rfl rfl (Nat.le_of_ble_eq_true rfl) dX5_read_135 (fun u H locs hw hP hD hS => ?_)
    obtain ⟨xf2_44, xp2_45, hO2_46, rfl⟩ := hw
    have hP : va_P D vwCl [(q 4, .inr (5, [.ref (q 2), .ref (q 55), .ref (q 56), .int xt2_3])), (q 55, .inr (8, [.ref (q 2), .int 2])), (q 57, .inl (cI, 1600, .inl f1)), (q 56, .inr (0, [.ref (q 57), .ref (q 58), .ref (q 59), .ref (q 60), .int 0, .int 0])), (q 0, .inr (10, [.ref (q 20), .int (nI tl)])), (q 20, .inl (cI, 1600, .inl (fun j => nI (tb j)))), (q 2, .inr (6, [.ref (q 0), .int (nI xa2_1), .int xv2_2, .int 0, .int (-2), .int (nI xz2_4), .int xf2_44, .int xp2_45]))] H := hP
    have hD : va_D A [(q 4, .inr (5, [.ref (q 2), .ref (q 55), .ref (q 56), .int xt2_3])), (q 55, .inr (8, [.ref (q 2), .int 2])), (q 57, .inl (cI, 1600, .inl f1)), (q 56, .inr (0, [.ref (q 57), .ref (q 58), .ref (q 59), .ref (q 60), .int 0, .int 0])), (q 0, .inr (10, [.ref (q 20), .int (nI tl)])), (q 20, .inl (cI, 1600, .inl (fun j => nI (tb j)))), (q 2, .inr (6, [.ref (q 0), .int (nI xa2_1), .int xv2_2, .int 0, .int (-2), .int (nI xz2_4), .int xf2_44, .int xp2_45]))] := hD
    have hO_47 := hO2_46
    rw [q_n htb hO2_7 (by rw [g_43]; decide) (by rw [g_43]; decide) (by rw [g_43]; decide) (by rw [g_43]; decide) (by rw [g_43]; decide) (by rw [g_43]; decide)] at hO_47
    have hP := hP.sub (ws' := [(q 4, .inr (5, [.ref (q 2), .ref (q 55), .ref (q 56), .int xt2_3])), (q 55, .inr (8, [.ref (q 2), .int 2])), (q 57, .inl (cI, 1600, .inl f1)), (q 56, .inr (0, [.ref (q 57), .ref (q 58), .ref (q 59), .ref (q 60), .int 0, .int 0])), (q 2, .inr (6, [.ref (q 0), .int (nI xa2_1), .int xv2_2, .int 0, .int (-2), .int (nI xz2_4), .int xf2_44, .int xp2_45])), (q 0, .inr (10, [.ref (q 20), .int (nI tl)])), (q 20, .inl (cI, 1600, .inl (fun j => nI (tb j))))]) [0, 1, 2, 3, 6, 4, 5] rfl
    have hD := hD.sub (ws' := [(q 4, .inr (5, [.ref (q 2), .ref (q 55), .ref (q 56), .int xt2_3])), (q 55, .inr (8, [.ref (q 2), .int 2])), (q 57, .inl (cI, 1600, .inl f1)), (q 56, .inr (0, [.ref (q 57), .ref (q 58), .ref (q 59), .ref (q 60), .int 0, .int 0])), (q 2, .inr (6, [.ref (q 0), .int (nI xa2_1), .int xv2_2, .int 0, .int (-2), .int (nI xz2_4), .int xf2_44, .int xp2_45])), (q 0, .inr (10, [.ref (q 20), .int (nI tl)])), (q 20, .inl (cI, 1600, .inl (fun j => nI (tb j))))]) [0, 1, 2, 3, 6, 4, 5] (by decide +kernel) rfl
    exact jn_8 f1 0 0 xa2_1 xv2_2 (-2) xz2_4 xf2_44 xp2_45 (quF tb tl (sk tb tl 0, false)) _ _ _ hO_47 (by omega) (by omega) (by omega) (by omega) rfl hP hD hS (lv_sub hl [0] rfl)
  by_cases g_48 : xt2_3 = 274
  · refine lv_tableIn (off := 102) (tgt := 131) hx hb dX5_read_29 (by rw [g_48]; decide) (by rw [g_48]; decide) (by rw [g_48]; rfl) (by decide) ?_
    refine lv_aload_n hx hb dX5_read_131 rfl (lv_at hl 0 rfl) ?_
    refine sk_get (v := .ref (q 2)) (C := RX5) (T := TX5) (N := 4) hx hb hts inlX5 hown hK hP 0 rfl rfl 0 (by decide) w_1_154 rfl dX5_read_132 ?_
    refine sk_Vv (q0 := 0) (n := 0) (rest := []) (wr := [(q 4, .inr (5, [.ref (q 2), .ref (q 55), .ref (q 56), .int xt2_3])), (q 55, .inr (8, [.ref (q 2), .int 2])), (q 57, .inl (cI, 1600, .inl f1)), (q 56, .inr (0, [.ref (q 57), .ref (q 58), .ref (q 59), .ref (q 60), .int 0, .int 0])), (q 0, .inr (10, [.ref (q 20), .int (nI tl)])), (q 20, .inl (cI, 1600, .inl (fun j => nI (tb j))))]) ⟨hx, hb, hml, hown, hts⟩ hl.1 (c_erd_failHere l D cI cJ cC cZ cS q xa2_1 xv2_2 0 xt2_3 xz2_4 0 (-1) tl tb (.ok (sk tb tl 0, false)) (by omega) hO2_7) w_5_94 w_3_55 w_3_56 w_1_4 w_3_57 (by decide +kernel) ⟨⟨(Nat.le_of_ble_eq_true rfl), (Nat.le_of_ble_eq_true rfl)⟩, (Nat.le_of_ble_eq_true rfl), (Nat.le_of_ble_eq_true rfl)⟩ hK hP hD hS hA [4] [0, 1, 2, 3, 5, 6] rfl rfl (by decide +kernel) (by decide +kernel) (by decide +kernel) rfl rfl rfl rfl (Nat.le_of_ble_eq_true rfl) dX5_read_135 (fun u H locs hw hP hD hS => ?_)
    obtain ⟨xf2_49, xp2_50, hO2_51, rfl⟩ := hw
    have hP : va_P D vwCl [(q 4, .inr (5, [.ref (q 2), .ref (q 55), .ref (q 56), .int xt2_3])), (q 55, .inr (8, [.ref (q 2), .int 2])), (q 57, .inl (cI, 1600, .inl f1)), (q 56, .inr (0, [.ref (q 57), .ref (q 58), .ref (q 59), .ref (q 60), .int 0, .int 0])), (q 0, .inr (10, [.ref (q 20), .int (nI tl)])), (q 20, .inl (cI, 1600, .inl (fun j => nI (tb j)))), (q 2, .inr (6, [.ref (q 0), .int (nI xa2_1), .int xv2_2, .int 0, .int (-2), .int (nI xz2_4), .int xf2_49, .int xp2_50]))] H := hP
    have hD : va_D A [(q 4, .inr (5, [.ref (q 2), .ref (q 55), .ref (q 56), .int xt2_3])), (q 55, .inr (8, [.ref (q 2), .int 2])), (q 57, .inl (cI, 1600, .inl f1)), (q 56, .inr (0, [.ref (q 57), .ref (q 58), .ref (q 59), .ref (q 60), .int 0, .int 0])), (q 0, .inr (10, [.ref (q 20), .int (nI tl)])), (q 20, .inl (cI, 1600, .inl (fun j => nI (tb j)))), (q 2, .inr (6, [.ref (q 0), .int (nI xa2_1), .int xv2_2, .int 0, .int (-2), .int (nI xz2_4), .int xf2_49, .int xp2_50]))] := hD
    have hO_52 := hO2_51
    rw [q_n htb hO2_7 (by rw [g_48]; decide) (by rw [g_48]; decide) (by rw [g_48]; decide) (by rw [g_48]; decide) (by rw [g_48]; decide) (by rw [g_48]; decide)] at hO_52
    have hP := hP.sub (ws' := [(q 4, .inr (5, [.ref (q 2), .ref (q 55), .ref (q 56), .int xt2_3])), (q 55, .inr (8, [.ref (q 2), .int 2])), (q 57, .inl (cI, 1600, .inl f1)), (q 56, .inr (0, [.ref (q 57), .ref (q 58), .ref (q 59), .ref (q 60), .int 0, .int 0])), (q 2, .inr (6, [.ref (q 0), .int (nI xa2_1), .int xv2_2, .int 0, .int (-2), .int (nI xz2_4), .int xf2_49, .int xp2_50])), (q 0, .inr (10, [.ref (q 20), .int (nI tl)])), (q 20, .inl (cI, 1600, .inl (fun j => nI (tb j))))]) [0, 1, 2, 3, 6, 4, 5] rfl
    have hD := hD.sub (ws' := [(q 4, .inr (5, [.ref (q 2), .ref (q 55), .ref (q 56), .int xt2_3])), (q 55, .inr (8, [.ref (q 2), .int 2])), (q 57, .inl (cI, 1600, .inl f1)), (q 56, .inr (0, [.ref (q 57), .ref (q 58), .ref (q 59), .ref (q 60), .int 0, .int 0])), (q 2, .inr (6, [.ref (q 0), .int (nI xa2_1), .int xv2_2, .int 0, .int (-2), .int (nI xz2_4), .int xf2_49, .int xp2_50])), (q 0, .inr (10, [.ref (q 20), .int (nI tl)])), (q 20, .inl (cI, 1600, .inl (fun j => nI (tb j))))]) [0, 1, 2, 3, 6, 4, 5] (by decide +kernel) rfl
    exact jn_8 f1 0 0 xa2_1 xv2_2 (-2) xz2_4 xf2_49 xp2_50 (quF tb tl (sk tb tl 0, false)) _ _ _ hO_52 (by omega) (by omega) (by omega) (by omega) rfl hP hD hS (lv_sub hl [0] rfl)
  by_cases g_53 : xt2_3 = 275
  · refine lv_tableIn (off := 102) (tgt := 131) hx hb dX5_read_29 (by rw [g_53]; decide) (by rw [g_53]; decide) (by rw [g_53]; rfl) (by decide) ?_
    refine lv_aload_n hx hb dX5_read_131 rfl (lv_at hl 0 rfl) ?_
    refine sk_get (v := .ref (q 2)) (C := RX5) (T := TX5) (N := 4) hx hb hts inlX5 hown hK hP 0 rfl rfl 0 (by decide) w_1_154 rfl dX5_read_132 ?_
    refine sk_Vv (q0 := 0) (n := 0) (rest := []) (wr := [(q 4, .inr (5, [.ref (q 2), .ref (q 55), .ref (q 56), .int xt2_3])), (q 55, .inr (8, [.ref (q 2), .int 2])), (q 57, .inl (cI, 1600, .inl f1)), (q 56, .inr (0, [.ref (q 57), .ref (q 58), .ref (q 59), .ref (q 60), .int 0, .int 0])), (q 0, .inr (10, [.ref (q 20), .int (nI tl)])), (q 20, .inl (cI, 1600, .inl (fun j => nI (tb j))))]) ⟨hx, hb, hml, hown, hts⟩ hl.1 (c_erd_failHere l D cI cJ cC cZ cS q xa2_1 xv2_2 0 xt2_3 xz2_4 0 (-1) tl tb (.ok (sk tb tl 0, false)) (by omega) hO2_7) w_5_94 w_3_55 w_3_56 w_1_4 w_3_57 (by decide +kernel) ⟨⟨(Nat.le_of_ble_eq_true rfl), (Nat.le_of_ble_eq_true rfl)⟩, (Nat.le_of_ble_eq_true rfl), (Nat.le_of_ble_eq_true rfl)⟩ hK hP hD hS hA [4] [0, 1, 2, 3, 5, 6] rfl rfl (by decide +kernel) (by decide +kernel) (by decide +kernel) rfl rfl rfl rfl (Nat.le_of_ble_eq_true rfl) dX5_read_135 (fun u H locs hw hP hD hS => ?_)
    obtain ⟨xf2_54, xp2_55, hO2_56, rfl⟩ := hw
    have hP : va_P D vwCl [(q 4, .inr (5, [.ref (q 2), .ref (q 55), .ref (q 56), .int xt2_3])), (q 55, .inr (8, [.ref (q 2), .int 2])), (q 57, .inl (cI, 1600, .inl f1)), (q 56, .inr (0, [.ref (q 57), .ref (q 58), .ref (q 59), .ref (q 60), .int 0, .int 0])), (q 0, .inr (10, [.ref (q 20), .int (nI tl)])), (q 20, .inl (cI, 1600, .inl (fun j => nI (tb j)))), (q 2, .inr (6, [.ref (q 0), .int (nI xa2_1), .int xv2_2, .int 0, .int (-2), .int (nI xz2_4), .int xf2_54, .int xp2_55]))] H := hP
    have hD : va_D A [(q 4, .inr (5, [.ref (q 2), .ref (q 55), .ref (q 56), .int xt2_3])), (q 55, .inr (8, [.ref (q 2), .int 2])), (q 57, .inl (cI, 1600, .inl f1)), (q 56, .inr (0, [.ref (q 57), .ref (q 58), .ref (q 59), .ref (q 60), .int 0, .int 0])), (q 0, .inr (10, [.ref (q 20), .int (nI tl)])), (q 20, .inl (cI, 1600, .inl (fun j => nI (tb j)))), (q 2, .inr (6, [.ref (q 0), .int (nI xa2_1), .int xv2_2, .int 0, .int (-2), .int (nI xz2_4), .int xf2_54, .int xp2_55]))] := hD
    have hO_57 := hO2_56
    rw [q_n htb hO2_7 (by rw [g_53]; decide) (by rw [g_53]; decide) (by rw [g_53]; decide) (by rw [g_53]; decide) (by rw [g_53]; decide) (by rw [g_53]; decide)] at hO_57
    have hP := hP.sub (ws' := [(q 4, .inr (5, [.ref (q 2), .ref (q 55), .ref (q 56), .int xt2_3])), (q 55, .inr (8, [.ref (q 2), .int 2])), (q 57, .inl (cI, 1600, .inl f1)), (q 56, .inr (0, [.ref (q 57), .ref (q 58), .ref (q 59), .ref (q 60), .int 0, .int 0])), (q 2, .inr (6, [.ref (q 0), .int (nI xa2_1), .int xv2_2, .int 0, .int (-2), .int (nI xz2_4), .int xf2_54, .int xp2_55])), (q 0, .inr (10, [.ref (q 20), .int (nI tl)])), (q 20, .inl (cI, 1600, .inl (fun j => nI (tb j))))]) [0, 1, 2, 3, 6, 4, 5] rfl
    have hD := hD.sub (ws' := [(q 4, .inr (5, [.ref (q 2), .ref (q 55), .ref (q 56), .int xt2_3])), (q 55, .inr (8, [.ref (q 2), .int 2])), (q 57, .inl (cI, 1600, .inl f1)), (q 56, .inr (0, [.ref (q 57), .ref (q 58), .ref (q 59), .ref (q 60), .int 0, .int 0])), (q 2, .inr (6, [.ref (q 0), .int (nI xa2_1), .int xv2_2, .int 0, .int (-2), .int (nI xz2_4), .int xf2_54, .int xp2_55])), (q 0, .inr (10, [.ref (q 20), .int (nI tl)])), (q 20, .inl (cI, 1600, .inl (fun j => nI (tb j))))]) [0, 1, 2, 3, 6, 4, 5] (by decide +kernel) rfl
    exact jn_8 f1 0 0 xa2_1 xv2_2 (-2) xz2_4 xf2_54 xp2_55 (quF tb tl (sk tb tl 0, false)) _ _ _ hO_57 (by omega) (by omega) (by omega) (by omega) rfl hP hD hS (lv_sub hl [0] rfl)
  by_cases g_58 : xt2_3 = 276
  · refine lv_tableIn (off := 102) (tgt := 131) hx hb dX5_read_29 (by rw [g_58]; decide) (by rw [g_58]; decide) (by rw [g_58]; rfl) (by decide) ?_
    refine lv_aload_n hx hb dX5_read_131 rfl (lv_at hl 0 rfl) ?_
    refine sk_get (v := .ref (q 2)) (C := RX5) (T := TX5) (N := 4) hx hb hts inlX5 hown hK hP 0 rfl rfl 0 (by decide) w_1_154 rfl dX5_read_132 ?_
    refine sk_Vv (q0 := 0) (n := 0) (rest := []) (wr := [(q 4, .inr (5, [.ref (q 2), .ref (q 55), .ref (q 56), .int xt2_3])), (q 55, .inr (8, [.ref (q 2), .int 2])), (q 57, .inl (cI, 1600, .inl f1)), (q 56, .inr (0, [.ref (q 57), .ref (q 58), .ref (q 59), .ref (q 60), .int 0, .int 0])), (q 0, .inr (10, [.ref (q 20), .int (nI tl)])), (q 20, .inl (cI, 1600, .inl (fun j => nI (tb j))))]) ⟨hx, hb, hml, hown, hts⟩ hl.1 (c_erd_failHere l D cI cJ cC cZ cS q xa2_1 xv2_2 0 xt2_3 xz2_4 0 (-1) tl tb (.ok (sk tb tl 0, false)) (by omega) hO2_7) w_5_94 w_3_55 w_3_56 w_1_4 w_3_57 (by decide +kernel) ⟨⟨(Nat.le_of_ble_eq_true rfl), (Nat.le_of_ble_eq_true rfl)⟩, (Nat.le_of_ble_eq_true rfl), (Nat.le_of_ble_eq_true rfl)⟩ hK hP hD hS hA [4] [0, 1, 2, 3, 5, 6] rfl rfl (by decide +kernel) (by decide +kernel) (by decide +kernel) rfl rfl rfl rfl (Nat.le_of_ble_eq_true rfl) dX5_read_135 (fun u H locs hw hP hD hS => ?_)
    obtain ⟨xf2_59, xp2_60, hO2_61, rfl⟩ := hw
    have hP : va_P D vwCl [(q 4, .inr (5, [.ref (q 2), .ref (q 55), .ref (q 56), .int xt2_3])), (q 55, .inr (8, [.ref (q 2), .int 2])), (q 57, .inl (cI, 1600, .inl f1)), (q 56, .inr (0, [.ref (q 57), .ref (q 58), .ref (q 59), .ref (q 60), .int 0, .int 0])), (q 0, .inr (10, [.ref (q 20), .int (nI tl)])), (q 20, .inl (cI, 1600, .inl (fun j => nI (tb j)))), (q 2, .inr (6, [.ref (q 0), .int (nI xa2_1), .int xv2_2, .int 0, .int (-2), .int (nI xz2_4), .int xf2_59, .int xp2_60]))] H := hP
    have hD : va_D A [(q 4, .inr (5, [.ref (q 2), .ref (q 55), .ref (q 56), .int xt2_3])), (q 55, .inr (8, [.ref (q 2), .int 2])), (q 57, .inl (cI, 1600, .inl f1)), (q 56, .inr (0, [.ref (q 57), .ref (q 58), .ref (q 59), .ref (q 60), .int 0, .int 0])), (q 0, .inr (10, [.ref (q 20), .int (nI tl)])), (q 20, .inl (cI, 1600, .inl (fun j => nI (tb j)))), (q 2, .inr (6, [.ref (q 0), .int (nI xa2_1), .int xv2_2, .int 0, .int (-2), .int (nI xz2_4), .int xf2_59, .int xp2_60]))] := hD
    have hO_62 := hO2_61
    rw [q_n htb hO2_7 (by rw [g_58]; decide) (by rw [g_58]; decide) (by rw [g_58]; decide) (by rw [g_58]; decide) (by rw [g_58]; decide) (by rw [g_58]; decide)] at hO_62
    have hP := hP.sub (ws' := [(q 4, .inr (5, [.ref (q 2), .ref (q 55), .ref (q 56), .int xt2_3])), (q 55, .inr (8, [.ref (q 2), .int 2])), (q 57, .inl (cI, 1600, .inl f1)), (q 56, .inr (0, [.ref (q 57), .ref (q 58), .ref (q 59), .ref (q 60), .int 0, .int 0])), (q 2, .inr (6, [.ref (q 0), .int (nI xa2_1), .int xv2_2, .int 0, .int (-2), .int (nI xz2_4), .int xf2_59, .int xp2_60])), (q 0, .inr (10, [.ref (q 20), .int (nI tl)])), (q 20, .inl (cI, 1600, .inl (fun j => nI (tb j))))]) [0, 1, 2, 3, 6, 4, 5] rfl
    have hD := hD.sub (ws' := [(q 4, .inr (5, [.ref (q 2), .ref (q 55), .ref (q 56), .int xt2_3])), (q 55, .inr (8, [.ref (q 2), .int 2])), (q 57, .inl (cI, 1600, .inl f1)), (q 56, .inr (0, [.ref (q 57), .ref (q 58), .ref (q 59), .ref (q 60), .int 0, .int 0])), (q 2, .inr (6, [.ref (q 0), .int (nI xa2_1), .int xv2_2, .int 0, .int (-2), .int (nI xz2_4), .int xf2_59, .int xp2_60])), (q 0, .inr (10, [.ref (q 20), .int (nI tl)])), (q 20, .inl (cI, 1600, .inl (fun j => nI (tb j))))]) [0, 1, 2, 3, 6, 4, 5] (by decide +kernel) rfl
    exact jn_8 f1 0 0 xa2_1 xv2_2 (-2) xz2_4 xf2_59 xp2_60 (quF tb tl (sk tb tl 0, false)) _ _ _ hO_62 (by omega) (by omega) (by omega) (by omega) rfl hP hD hS (lv_sub hl [0] rfl)
  by_cases g_63 : xt2_3 = 277
  · refine lv_tableIn (off := 102) (tgt := 131) hx hb dX5_read_29 (by rw [g_63]; decide) (by rw [g_63]; decide) (by rw [g_63]; rfl) (by decide) ?_
    refine lv_aload_n hx hb dX5_read_131 rfl (lv_at hl 0 rfl) ?_
    refine sk_get (v := .ref (q 2)) (C := RX5) (T := TX5) (N := 4) hx hb hts inlX5 hown hK hP 0 rfl rfl 0 (by decide) w_1_154 rfl dX5_read_132 ?_
    refine sk_Vv (q0 := 0) (n := 0) (rest := []) (wr := [(q 4, .inr (5, [.ref (q 2), .ref (q 55), .ref (q 56), .int xt2_3])), (q 55, .inr (8, [.ref (q 2), .int 2])), (q 57, .inl (cI, 1600, .inl f1)), (q 56, .inr (0, [.ref (q 57), .ref (q 58), .ref (q 59), .ref (q 60), .int 0, .int 0])), (q 0, .inr (10, [.ref (q 20), .int (nI tl)])), (q 20, .inl (cI, 1600, .inl (fun j => nI (tb j))))]) ⟨hx, hb, hml, hown, hts⟩ hl.1 (c_erd_failHere l D cI cJ cC cZ cS q xa2_1 xv2_2 0 xt2_3 xz2_4 0 (-1) tl tb (.ok (sk tb tl 0, false)) (by omega) hO2_7) w_5_94 w_3_55 w_3_56 w_1_4 w_3_57 (by decide +kernel) ⟨⟨(Nat.le_of_ble_eq_true rfl), (Nat.le_of_ble_eq_true rfl)⟩, (Nat.le_of_ble_eq_true rfl), (Nat.le_of_ble_eq_true rfl)⟩ hK hP hD hS hA [4] [0, 1, 2, 3, 5, 6] rfl rfl (by decide +kernel) (by decide +kernel) (by decide +kernel) rfl rfl rfl rfl (Nat.le_of_ble_eq_true rfl) dX5_read_135 (fun u H locs hw hP hD hS => ?_)
    obtain ⟨xf2_64, xp2_65, hO2_66, rfl⟩ := hw
    have hP : va_P D vwCl [(q 4, .inr (5, [.ref (q 2), .ref (q 55), .ref (q 56), .int xt2_3])), (q 55, .inr (8, [.ref (q 2), .int 2])), (q 57, .inl (cI, 1600, .inl f1)), (q 56, .inr (0, [.ref (q 57), .ref (q 58), .ref (q 59), .ref (q 60), .int 0, .int 0])), (q 0, .inr (10, [.ref (q 20), .int (nI tl)])), (q 20, .inl (cI, 1600, .inl (fun j => nI (tb j)))), (q 2, .inr (6, [.ref (q 0), .int (nI xa2_1), .int xv2_2, .int 0, .int (-2), .int (nI xz2_4), .int xf2_64, .int xp2_65]))] H := hP
    have hD : va_D A [(q 4, .inr (5, [.ref (q 2), .ref (q 55), .ref (q 56), .int xt2_3])), (q 55, .inr (8, [.ref (q 2), .int 2])), (q 57, .inl (cI, 1600, .inl f1)), (q 56, .inr (0, [.ref (q 57), .ref (q 58), .ref (q 59), .ref (q 60), .int 0, .int 0])), (q 0, .inr (10, [.ref (q 20), .int (nI tl)])), (q 20, .inl (cI, 1600, .inl (fun j => nI (tb j)))), (q 2, .inr (6, [.ref (q 0), .int (nI xa2_1), .int xv2_2, .int 0, .int (-2), .int (nI xz2_4), .int xf2_64, .int xp2_65]))] := hD
    have hO_67 := hO2_66
    rw [q_n htb hO2_7 (by rw [g_63]; decide) (by rw [g_63]; decide) (by rw [g_63]; decide) (by rw [g_63]; decide) (by rw [g_63]; decide) (by rw [g_63]; decide)] at hO_67
    have hP := hP.sub (ws' := [(q 4, .inr (5, [.ref (q 2), .ref (q 55), .ref (q 56), .int xt2_3])), (q 55, .inr (8, [.ref (q 2), .int 2])), (q 57, .inl (cI, 1600, .inl f1)), (q 56, .inr (0, [.ref (q 57), .ref (q 58), .ref (q 59), .ref (q 60), .int 0, .int 0])), (q 2, .inr (6, [.ref (q 0), .int (nI xa2_1), .int xv2_2, .int 0, .int (-2), .int (nI xz2_4), .int xf2_64, .int xp2_65])), (q 0, .inr (10, [.ref (q 20), .int (nI tl)])), (q 20, .inl (cI, 1600, .inl (fun j => nI (tb j))))]) [0, 1, 2, 3, 6, 4, 5] rfl
    have hD := hD.sub (ws' := [(q 4, .inr (5, [.ref (q 2), .ref (q 55), .ref (q 56), .int xt2_3])), (q 55, .inr (8, [.ref (q 2), .int 2])), (q 57, .inl (cI, 1600, .inl f1)), (q 56, .inr (0, [.ref (q 57), .ref (q 58), .ref (q 59), .ref (q 60), .int 0, .int 0])), (q 2, .inr (6, [.ref (q 0), .int (nI xa2_1), .int xv2_2, .int 0, .int (-2), .int (nI xz2_4), .int xf2_64, .int xp2_65])), (q 0, .inr (10, [.ref (q 20), .int (nI tl)])), (q 20, .inl (cI, 1600, .inl (fun j => nI (tb j))))]) [0, 1, 2, 3, 6, 4, 5] (by decide +kernel) rfl
    exact jn_8 f1 0 0 xa2_1 xv2_2 (-2) xz2_4 xf2_64 xp2_65 (quF tb tl (sk tb tl 0, false)) _ _ _ hO_67 (by omega) (by omega) (by omega) (by omega) rfl hP hD hS (lv_sub hl [0] rfl)
  by_cases g_68 : xt2_3 = 278
  · refine lv_tableIn (off := 102) (tgt := 131) hx hb dX5_read_29 (by rw [g_68]; decide) (by rw [g_68]; decide) (by rw [g_68]; rfl) (by decide) ?_
    refine lv_aload_n hx hb dX5_read_131 rfl (lv_at hl 0 rfl) ?_
    refine sk_get (v := .ref (q 2)) (C := RX5) (T := TX5) (N := 4) hx hb hts inlX5 hown hK hP 0 rfl rfl 0 (by decide) w_1_154 rfl dX5_read_132 ?_
    refine sk_Vv (q0 := 0) (n := 0) (rest := []) (wr := [(q 4, .inr (5, [.ref (q 2), .ref (q 55), .ref (q 56), .int xt2_3])), (q 55, .inr (8, [.ref (q 2), .int 2])), (q 57, .inl (cI, 1600, .inl f1)), (q 56, .inr (0, [.ref (q 57), .ref (q 58), .ref (q 59), .ref (q 60), .int 0, .int 0])), (q 0, .inr (10, [.ref (q 20), .int (nI tl)])), (q 20, .inl (cI, 1600, .inl (fun j => nI (tb j))))]) ⟨hx, hb, hml, hown, hts⟩ hl.1 (c_erd_failHere l D cI cJ cC cZ cS q xa2_1 xv2_2 0 xt2_3 xz2_4 0 (-1) tl tb (.ok (sk tb tl 0, false)) (by omega) hO2_7) w_5_94 w_3_55 w_3_56 w_1_4 w_3_57 (by decide +kernel) ⟨⟨(Nat.le_of_ble_eq_true rfl), (Nat.le_of_ble_eq_true rfl)⟩, (Nat.le_of_ble_eq_true rfl), (Nat.le_of_ble_eq_true rfl)⟩ hK hP hD hS hA [4] [0, 1, 2, 3, 5, 6] rfl rfl (by decide +kernel) (by decide +kernel) (by decide +kernel) rfl rfl rfl rfl (Nat.le_of_ble_eq_true rfl) dX5_read_135 (fun u H locs hw hP hD hS => ?_)
    obtain ⟨xf2_69, xp2_70, hO2_71, rfl⟩ := hw
    have hP : va_P D vwCl [(q 4, .inr (5, [.ref (q 2), .ref (q 55), .ref (q 56), .int xt2_3])), (q 55, .inr (8, [.ref (q 2), .int 2])), (q 57, .inl (cI, 1600, .inl f1)), (q 56, .inr (0, [.ref (q 57), .ref (q 58), .ref (q 59), .ref (q 60), .int 0, .int 0])), (q 0, .inr (10, [.ref (q 20), .int (nI tl)])), (q 20, .inl (cI, 1600, .inl (fun j => nI (tb j)))), (q 2, .inr (6, [.ref (q 0), .int (nI xa2_1), .int xv2_2, .int 0, .int (-2), .int (nI xz2_4), .int xf2_69, .int xp2_70]))] H := hP
    have hD : va_D A [(q 4, .inr (5, [.ref (q 2), .ref (q 55), .ref (q 56), .int xt2_3])), (q 55, .inr (8, [.ref (q 2), .int 2])), (q 57, .inl (cI, 1600, .inl f1)), (q 56, .inr (0, [.ref (q 57), .ref (q 58), .ref (q 59), .ref (q 60), .int 0, .int 0])), (q 0, .inr (10, [.ref (q 20), .int (nI tl)])), (q 20, .inl (cI, 1600, .inl (fun j => nI (tb j)))), (q 2, .inr (6, [.ref (q 0), .int (nI xa2_1), .int xv2_2, .int 0, .int (-2), .int (nI xz2_4), .int xf2_69, .int xp2_70]))] := hD
    have hO_72 := hO2_71
    rw [q_n htb hO2_7 (by rw [g_68]; decide) (by rw [g_68]; decide) (by rw [g_68]; decide) (by rw [g_68]; decide) (by rw [g_68]; decide) (by rw [g_68]; decide)] at hO_72
    have hP := hP.sub (ws' := [(q 4, .inr (5, [.ref (q 2), .ref (q 55), .ref (q 56), .int xt2_3])), (q 55, .inr (8, [.ref (q 2), .int 2])), (q 57, .inl (cI, 1600, .inl f1)), (q 56, .inr (0, [.ref (q 57), .ref (q 58), .ref (q 59), .ref (q 60), .int 0, .int 0])), (q 2, .inr (6, [.ref (q 0), .int (nI xa2_1), .int xv2_2, .int 0, .int (-2), .int (nI xz2_4), .int xf2_69, .int xp2_70])), (q 0, .inr (10, [.ref (q 20), .int (nI tl)])), (q 20, .inl (cI, 1600, .inl (fun j => nI (tb j))))]) [0, 1, 2, 3, 6, 4, 5] rfl
    have hD := hD.sub (ws' := [(q 4, .inr (5, [.ref (q 2), .ref (q 55), .ref (q 56), .int xt2_3])), (q 55, .inr (8, [.ref (q 2), .int 2])), (q 57, .inl (cI, 1600, .inl f1)), (q 56, .inr (0, [.ref (q 57), .ref (q 58), .ref (q 59), .ref (q 60), .int 0, .int 0])), (q 2, .inr (6, [.ref (q 0), .int (nI xa2_1), .int xv2_2, .int 0, .int (-2), .int (nI xz2_4), .int xf2_69, .int xp2_70])), (q 0, .inr (10, [.ref (q 20), .int (nI tl)])), (q 20, .inl (cI, 1600, .inl (fun j => nI (tb j))))]) [0, 1, 2, 3, 6, 4, 5] (by decide +kernel) rfl
    exact jn_8 f1 0 0 xa2_1 xv2_2 (-2) xz2_4 xf2_69 xp2_70 (quF tb tl (sk tb tl 0, false)) _ _ _ hO_72 (by omega) (by omega) (by omega) (by omega) rfl hP hD hS (lv_sub hl [0] rfl)
  by_cases g_73 : xt2_3 = 279
  · refine lv_tableIn (off := 67) (tgt := 96) hx hb dX5_read_29 (by rw [g_73]; decide) (by rw [g_73]; decide) (by rw [g_73]; rfl) (by decide) ?_
    refine lv_aload_n hx hb dX5_read_96 rfl (lv_at hl 0 rfl) ?_
    refine sk_get (v := .ref (q 2)) (C := RX5) (T := TX5) (N := 4) hx hb hts inlX5 hown hK hP 0 rfl rfl 0 (by decide) w_1_154 rfl dX5_read_97 ?_
    refine sk_VvZ (q0 := 0) (n := 0) (rest := []) (wr := [(q 4, .inr (5, [.ref (q 2), .ref (q 55), .ref (q 56), .int xt2_3])), (q 55, .inr (8, [.ref (q 2), .int 2])), (q 57, .inl (cI, 1600, .inl f1)), (q 56, .inr (0, [.ref (q 57), .ref (q 58), .ref (q 59), .ref (q 60), .int 0, .int 0]))]) ⟨hx, hb, hml, hown, hts⟩ hl.1 (c_erd_step l D cI cJ cC cZ cS zk zv zf q xa2_1 xv2_2 0 xt2_3 xz2_4 0 (-1) tl tb (bindR (.ok (sk tb tl 0, false)) (beF tb tl)) (by omega) (by omega) (by omega) htb (rd_st htb hO2_7 ⟨by rw [g_73]; decide, by rw [g_73]; decide⟩)) w_5_69 w_2_226 w_2_227 w_1_4 w_2_228 (by decide +kernel) ⟨⟨(Nat.le_of_ble_eq_true rfl), (Nat.le_of_ble_eq_true rfl)⟩, (Nat.le_of_ble_eq_true rfl), (Nat.le_of_ble_eq_true rfl)⟩ hK hP hD hS hZ hA [4, 5, 6] [0, 1, 2, 3] rfl rfl (by decide +kernel) (by decide +kernel) (by decide +kernel) rfl rfl rfl rfl (Nat.le_of_ble_eq_true rfl) dX5_read_100 (fun u H locs hw hP hD hS => ?_)
    obtain ⟨xa2_74, xv2_75, xt2_76, xz2_77, hxa2_78, hxz2_79, hO2_80, rfl⟩ := hw
    have hP : va_P D vwCl [(q 4, .inr (5, [.ref (q 2), .ref (q 55), .ref (q 56), .int xt2_3])), (q 55, .inr (8, [.ref (q 2), .int 2])), (q 57, .inl (cI, 1600, .inl f1)), (q 56, .inr (0, [.ref (q 57), .ref (q 58), .ref (q 59), .ref (q 60), .int 0, .int 0])), (q 2, .inr (6, [.ref (q 0), .int (nI xa2_74), .int xv2_75, .int 0, .int xt2_76, .int (nI xz2_77), .int 0, .int (-1)])), (q 0, .inr (10, [.ref (q 20), .int (nI tl)])), (q 20, .inl (cI, 1600, .inl (fun j => nI (tb j))))] H := hP
    have hD : va_D A [(q 4, .inr (5, [.ref (q 2), .ref (q 55), .ref (q 56), .int xt2_3])), (q 55, .inr (8, [.ref (q 2), .int 2])), (q 57, .inl (cI, 1600, .inl f1)), (q 56, .inr (0, [.ref (q 57), .ref (q 58), .ref (q 59), .ref (q 60), .int 0, .int 0])), (q 2, .inr (6, [.ref (q 0), .int (nI xa2_74), .int xv2_75, .int 0, .int xt2_76, .int (nI xz2_77), .int 0, .int (-1)])), (q 0, .inr (10, [.ref (q 20), .int (nI tl)])), (q 20, .inl (cI, 1600, .inl (fun j => nI (tb j))))] := hD
    rw [stF_nx] at hO2_80
    have hO_81 := rs_0 (c := nx tb tl (sk tb tl 0)) (f := f1) hO2_80
    refine lv_aload_n hx hb dX5_read_103 rfl (lv_at hl 0 rfl) ?_
    refine sk_VvZ (q0 := 0) (n := 0) (rest := []) (wr := []) ⟨hx, hb, hml, hown, hts⟩ hl.1 ((c_etests l D cI cJ cC cZ cS zk zv zf 6).1 q xt2_3 xa2_74 xv2_75 0 xt2_76 xz2_77 0 (-1) tl tb 0 0 f1 (.ok (nx tb tl (sk tb tl 0), [])) (by omega) (by omega) (by omega) htb (by omega) (by omega) (by omega) hO_81 (lenO_0 (nx tb tl (sk tb tl 0)))) w_5_70 w_5_72 w_0_34 w_1_7 w_5_73 (by decide +kernel) ⟨⟨(Nat.le_of_ble_eq_true rfl), (Nat.le_of_ble_eq_true rfl)⟩, (Nat.le_of_ble_eq_true rfl), (Nat.le_of_ble_eq_true rfl)⟩ hK hP hD hS hZ hA [0, 1, 4, 5, 6, 3, 2] [] rfl rfl (by decide +kernel) (by decide +kernel) (by decide +kernel) rfl rfl rfl rfl (Nat.le_of_ble_eq_true rfl) dX5_read_104 (fun u H locs hw hP hD hS => ?_)
    obtain ⟨xa2_82, xv2_83, xt2_84, xz2_85, xf2_86, xp2_87, c2_88, w2_89, g1_90, hxa2_91, hxz2_92, hc2_93, hw2_94, hO2_95, rfl⟩ := hw
    have hP : va_P D vwCl [(q 4, .inr (5, [.ref (q 2), .ref (q 55), .ref (q 56), .int xt2_3])), (q 55, .inr (8, [.ref (q 2), .int 2])), (q 2, .inr (6, [.ref (q 0), .int (nI xa2_82), .int xv2_83, .int 0, .int xt2_84, .int (nI xz2_85), .int xf2_86, .int xp2_87])), (q 0, .inr (10, [.ref (q 20), .int (nI tl)])), (q 20, .inl (cI, 1600, .inl (fun j => nI (tb j)))), (q 56, .inr (0, [.ref (q 57), .ref (q 58), .ref (q 59), .ref (q 60), .int (nI c2_88), .int (nI w2_89)])), (q 57, .inl (cI, 1600, .inl g1_90))] H := hP
    have hD : va_D A [(q 4, .inr (5, [.ref (q 2), .ref (q 55), .ref (q 56), .int xt2_3])), (q 55, .inr (8, [.ref (q 2), .int 2])), (q 2, .inr (6, [.ref (q 0), .int (nI xa2_82), .int xv2_83, .int 0, .int xt2_84, .int (nI xz2_85), .int xf2_86, .int xp2_87])), (q 0, .inr (10, [.ref (q 20), .int (nI tl)])), (q 20, .inl (cI, 1600, .inl (fun j => nI (tb j)))), (q 56, .inr (0, [.ref (q 57), .ref (q 58), .ref (q 59), .ref (q 60), .int (nI c2_88), .int (nI w2_89)])), (q 57, .inl (cI, 1600, .inl g1_90))] := hD
    have hL_96 := lenO_ap (len_test (tb := tb) (n := tl) (len_fc (tb := tb) (n := tl) 6)) (lenO_0 (nx tb tl (sk tb tl 0)))
    have hO_97 := (hO2_95).1
    rw [q_t (k := 23) htb hO2_7 g_73 (by decide)] at hO_97
    refine lv_goto (tgt := 138) hx hb dX5_read_107 (by decide) ?_
    have hP := hP.sub (ws' := [(q 4, .inr (5, [.ref (q 2), .ref (q 55), .ref (q 56), .int xt2_3])), (q 55, .inr (8, [.ref (q 2), .int 2])), (q 57, .inl (cI, 1600, .inl g1_90)), (q 56, .inr (0, [.ref (q 57), .ref (q 58), .ref (q 59), .ref (q 60), .int (nI c2_88), .int (nI w2_89)])), (q 2, .inr (6, [.ref (q 0), .int (nI xa2_82), .int xv2_83, .int 0, .int xt2_84, .int (nI xz2_85), .int xf2_86, .int xp2_87])), (q 0, .inr (10, [.ref (q 20), .int (nI tl)])), (q 20, .inl (cI, 1600, .inl (fun j => nI (tb j))))]) [0, 1, 6, 5, 2, 3, 4] rfl
    have hD := hD.sub (ws' := [(q 4, .inr (5, [.ref (q 2), .ref (q 55), .ref (q 56), .int xt2_3])), (q 55, .inr (8, [.ref (q 2), .int 2])), (q 57, .inl (cI, 1600, .inl g1_90)), (q 56, .inr (0, [.ref (q 57), .ref (q 58), .ref (q 59), .ref (q 60), .int (nI c2_88), .int (nI w2_89)])), (q 2, .inr (6, [.ref (q 0), .int (nI xa2_82), .int xv2_83, .int 0, .int xt2_84, .int (nI xz2_85), .int xf2_86, .int xp2_87])), (q 0, .inr (10, [.ref (q 20), .int (nI tl)])), (q 20, .inl (cI, 1600, .inl (fun j => nI (tb j))))]) [0, 1, 6, 5, 2, 3, 4] (by decide +kernel) rfl
    exact jn_8 g1_90 c2_88 w2_89 xa2_82 xv2_83 xt2_84 xz2_85 xf2_86 xp2_87 (quF tb tl (sk tb tl 0, false)) _ _ _ hO_97 (by omega) (by omega) (by omega) (by omega) rfl hP hD hS (lv_sub hl [0] rfl)
  by_cases g_98 : xt2_3 = 280
  · refine lv_tableIn (off := 67) (tgt := 96) hx hb dX5_read_29 (by rw [g_98]; decide) (by rw [g_98]; decide) (by rw [g_98]; rfl) (by decide) ?_
    refine lv_aload_n hx hb dX5_read_96 rfl (lv_at hl 0 rfl) ?_
    refine sk_get (v := .ref (q 2)) (C := RX5) (T := TX5) (N := 4) hx hb hts inlX5 hown hK hP 0 rfl rfl 0 (by decide) w_1_154 rfl dX5_read_97 ?_
    refine sk_VvZ (q0 := 0) (n := 0) (rest := []) (wr := [(q 4, .inr (5, [.ref (q 2), .ref (q 55), .ref (q 56), .int xt2_3])), (q 55, .inr (8, [.ref (q 2), .int 2])), (q 57, .inl (cI, 1600, .inl f1)), (q 56, .inr (0, [.ref (q 57), .ref (q 58), .ref (q 59), .ref (q 60), .int 0, .int 0]))]) ⟨hx, hb, hml, hown, hts⟩ hl.1 (c_erd_step l D cI cJ cC cZ cS zk zv zf q xa2_1 xv2_2 0 xt2_3 xz2_4 0 (-1) tl tb (bindR (.ok (sk tb tl 0, false)) (beF tb tl)) (by omega) (by omega) (by omega) htb (rd_st htb hO2_7 ⟨by rw [g_98]; decide, by rw [g_98]; decide⟩)) w_5_69 w_2_226 w_2_227 w_1_4 w_2_228 (by decide +kernel) ⟨⟨(Nat.le_of_ble_eq_true rfl), (Nat.le_of_ble_eq_true rfl)⟩, (Nat.le_of_ble_eq_true rfl), (Nat.le_of_ble_eq_true rfl)⟩ hK hP hD hS hZ hA [4, 5, 6] [0, 1, 2, 3] rfl rfl (by decide +kernel) (by decide +kernel) (by decide +kernel) rfl rfl rfl rfl (Nat.le_of_ble_eq_true rfl) dX5_read_100 (fun u H locs hw hP hD hS => ?_)
    obtain ⟨xa2_99, xv2_100, xt2_101, xz2_102, hxa2_103, hxz2_104, hO2_105, rfl⟩ := hw
    have hP : va_P D vwCl [(q 4, .inr (5, [.ref (q 2), .ref (q 55), .ref (q 56), .int xt2_3])), (q 55, .inr (8, [.ref (q 2), .int 2])), (q 57, .inl (cI, 1600, .inl f1)), (q 56, .inr (0, [.ref (q 57), .ref (q 58), .ref (q 59), .ref (q 60), .int 0, .int 0])), (q 2, .inr (6, [.ref (q 0), .int (nI xa2_99), .int xv2_100, .int 0, .int xt2_101, .int (nI xz2_102), .int 0, .int (-1)])), (q 0, .inr (10, [.ref (q 20), .int (nI tl)])), (q 20, .inl (cI, 1600, .inl (fun j => nI (tb j))))] H := hP
    have hD : va_D A [(q 4, .inr (5, [.ref (q 2), .ref (q 55), .ref (q 56), .int xt2_3])), (q 55, .inr (8, [.ref (q 2), .int 2])), (q 57, .inl (cI, 1600, .inl f1)), (q 56, .inr (0, [.ref (q 57), .ref (q 58), .ref (q 59), .ref (q 60), .int 0, .int 0])), (q 2, .inr (6, [.ref (q 0), .int (nI xa2_99), .int xv2_100, .int 0, .int xt2_101, .int (nI xz2_102), .int 0, .int (-1)])), (q 0, .inr (10, [.ref (q 20), .int (nI tl)])), (q 20, .inl (cI, 1600, .inl (fun j => nI (tb j))))] := hD
    rw [stF_nx] at hO2_105
    have hO_106 := rs_0 (c := nx tb tl (sk tb tl 0)) (f := f1) hO2_105
    refine lv_aload_n hx hb dX5_read_103 rfl (lv_at hl 0 rfl) ?_
    refine sk_VvZ (q0 := 0) (n := 0) (rest := []) (wr := []) ⟨hx, hb, hml, hown, hts⟩ hl.1 ((c_etests l D cI cJ cC cZ cS zk zv zf 6).1 q xt2_3 xa2_99 xv2_100 0 xt2_101 xz2_102 0 (-1) tl tb 0 0 f1 (.ok (nx tb tl (sk tb tl 0), [])) (by omega) (by omega) (by omega) htb (by omega) (by omega) (by omega) hO_106 (lenO_0 (nx tb tl (sk tb tl 0)))) w_5_70 w_5_72 w_0_34 w_1_7 w_5_73 (by decide +kernel) ⟨⟨(Nat.le_of_ble_eq_true rfl), (Nat.le_of_ble_eq_true rfl)⟩, (Nat.le_of_ble_eq_true rfl), (Nat.le_of_ble_eq_true rfl)⟩ hK hP hD hS hZ hA [0, 1, 4, 5, 6, 3, 2] [] rfl rfl (by decide +kernel) (by decide +kernel) (by decide +kernel) rfl rfl rfl rfl (Nat.le_of_ble_eq_true rfl) dX5_read_104 (fun u H locs hw hP hD hS => ?_)
    obtain ⟨xa2_107, xv2_108, xt2_109, xz2_110, xf2_111, xp2_112, c2_113, w2_114, g1_115, hxa2_116, hxz2_117, hc2_118, hw2_119, hO2_120, rfl⟩ := hw
    have hP : va_P D vwCl [(q 4, .inr (5, [.ref (q 2), .ref (q 55), .ref (q 56), .int xt2_3])), (q 55, .inr (8, [.ref (q 2), .int 2])), (q 2, .inr (6, [.ref (q 0), .int (nI xa2_107), .int xv2_108, .int 0, .int xt2_109, .int (nI xz2_110), .int xf2_111, .int xp2_112])), (q 0, .inr (10, [.ref (q 20), .int (nI tl)])), (q 20, .inl (cI, 1600, .inl (fun j => nI (tb j)))), (q 56, .inr (0, [.ref (q 57), .ref (q 58), .ref (q 59), .ref (q 60), .int (nI c2_113), .int (nI w2_114)])), (q 57, .inl (cI, 1600, .inl g1_115))] H := hP
    have hD : va_D A [(q 4, .inr (5, [.ref (q 2), .ref (q 55), .ref (q 56), .int xt2_3])), (q 55, .inr (8, [.ref (q 2), .int 2])), (q 2, .inr (6, [.ref (q 0), .int (nI xa2_107), .int xv2_108, .int 0, .int xt2_109, .int (nI xz2_110), .int xf2_111, .int xp2_112])), (q 0, .inr (10, [.ref (q 20), .int (nI tl)])), (q 20, .inl (cI, 1600, .inl (fun j => nI (tb j)))), (q 56, .inr (0, [.ref (q 57), .ref (q 58), .ref (q 59), .ref (q 60), .int (nI c2_113), .int (nI w2_114)])), (q 57, .inl (cI, 1600, .inl g1_115))] := hD
    have hL_121 := lenO_ap (len_test (tb := tb) (n := tl) (len_fc (tb := tb) (n := tl) 6)) (lenO_0 (nx tb tl (sk tb tl 0)))
    have hO_122 := (hO2_120).1
    rw [q_t (k := 24) htb hO2_7 g_98 (by decide)] at hO_122
    refine lv_goto (tgt := 138) hx hb dX5_read_107 (by decide) ?_
    have hP := hP.sub (ws' := [(q 4, .inr (5, [.ref (q 2), .ref (q 55), .ref (q 56), .int xt2_3])), (q 55, .inr (8, [.ref (q 2), .int 2])), (q 57, .inl (cI, 1600, .inl g1_115)), (q 56, .inr (0, [.ref (q 57), .ref (q 58), .ref (q 59), .ref (q 60), .int (nI c2_113), .int (nI w2_114)])), (q 2, .inr (6, [.ref (q 0), .int (nI xa2_107), .int xv2_108, .int 0, .int xt2_109, .int (nI xz2_110), .int xf2_111, .int xp2_112])), (q 0, .inr (10, [.ref (q 20), .int (nI tl)])), (q 20, .inl (cI, 1600, .inl (fun j => nI (tb j))))]) [0, 1, 6, 5, 2, 3, 4] rfl
    have hD := hD.sub (ws' := [(q 4, .inr (5, [.ref (q 2), .ref (q 55), .ref (q 56), .int xt2_3])), (q 55, .inr (8, [.ref (q 2), .int 2])), (q 57, .inl (cI, 1600, .inl g1_115)), (q 56, .inr (0, [.ref (q 57), .ref (q 58), .ref (q 59), .ref (q 60), .int (nI c2_113), .int (nI w2_114)])), (q 2, .inr (6, [.ref (q 0), .int (nI xa2_107), .int xv2_108, .int 0, .int xt2_109, .int (nI xz2_110), .int xf2_111, .int xp2_112])), (q 0, .inr (10, [.ref (q 20), .int (nI tl)])), (q 20, .inl (cI, 1600, .inl (fun j => nI (tb j))))]) [0, 1, 6, 5, 2, 3, 4] (by decide +kernel) rfl
    exact jn_8 g1_115 c2_113 w2_114 xa2_107 xv2_108 xt2_109 xz2_110 xf2_111 xp2_112 (quF tb tl (sk tb tl 0, false)) _ _ _ hO_122 (by omega) (by omega) (by omega) (by omega) rfl hP hD hS (lv_sub hl [0] rfl)
  by_cases g_123 : xt2_3 = 281
  · refine lv_tableIn (off := 81) (tgt := 110) hx hb dX5_read_29 (by rw [g_123]; decide) (by rw [g_123]; decide) (by rw [g_123]; rfl) (by decide) ?_
    refine lv_aload_n hx hb dX5_read_110 rfl (lv_at hl 0 rfl) ?_
    refine sk_get (v := .ref (q 2)) (C := RX5) (T := TX5) (N := 4) hx hb hts inlX5 hown hK hP 0 rfl rfl 0 (by decide) w_1_154 rfl dX5_read_111 ?_
    refine sk_VvZ (q0 := 0) (n := 0) (rest := []) (wr := [(q 4, .inr (5, [.ref (q 2), .ref (q 55), .ref (q 56), .int xt2_3])), (q 55, .inr (8, [.ref (q 2), .int 2])), (q 57, .inl (cI, 1600, .inl f1)), (q 56, .inr (0, [.ref (q 57), .ref (q 58), .ref (q 59), .ref (q 60), .int 0, .int 0]))]) ⟨hx, hb, hml, hown, hts⟩ hl.1 (c_erd_step l D cI cJ cC cZ cS zk zv zf q xa2_1 xv2_2 0 xt2_3 xz2_4 0 (-1) tl tb (bindR (.ok (sk tb tl 0, false)) (beF tb tl)) (by omega) (by omega) (by omega) htb (rd_st htb hO2_7 ⟨by rw [g_123]; decide, by rw [g_123]; decide⟩)) w_5_69 w_2_226 w_2_227 w_1_4 w_2_228 (by decide +kernel) ⟨⟨(Nat.le_of_ble_eq_true rfl), (Nat.le_of_ble_eq_true rfl)⟩, (Nat.le_of_ble_eq_true rfl), (Nat.le_of_ble_eq_true rfl)⟩ hK hP hD hS hZ hA [4, 5, 6] [0, 1, 2, 3] rfl rfl (by decide +kernel) (by decide +kernel) (by decide +kernel) rfl rfl rfl rfl (Nat.le_of_ble_eq_true rfl) dX5_read_114 (fun u H locs hw hP hD hS => ?_)
    obtain ⟨xa2_124, xv2_125, xt2_126, xz2_127, hxa2_128, hxz2_129, hO2_130, rfl⟩ := hw
    have hP : va_P D vwCl [(q 4, .inr (5, [.ref (q 2), .ref (q 55), .ref (q 56), .int xt2_3])), (q 55, .inr (8, [.ref (q 2), .int 2])), (q 57, .inl (cI, 1600, .inl f1)), (q 56, .inr (0, [.ref (q 57), .ref (q 58), .ref (q 59), .ref (q 60), .int 0, .int 0])), (q 2, .inr (6, [.ref (q 0), .int (nI xa2_124), .int xv2_125, .int 0, .int xt2_126, .int (nI xz2_127), .int 0, .int (-1)])), (q 0, .inr (10, [.ref (q 20), .int (nI tl)])), (q 20, .inl (cI, 1600, .inl (fun j => nI (tb j))))] H := hP
    have hD : va_D A [(q 4, .inr (5, [.ref (q 2), .ref (q 55), .ref (q 56), .int xt2_3])), (q 55, .inr (8, [.ref (q 2), .int 2])), (q 57, .inl (cI, 1600, .inl f1)), (q 56, .inr (0, [.ref (q 57), .ref (q 58), .ref (q 59), .ref (q 60), .int 0, .int 0])), (q 2, .inr (6, [.ref (q 0), .int (nI xa2_124), .int xv2_125, .int 0, .int xt2_126, .int (nI xz2_127), .int 0, .int (-1)])), (q 0, .inr (10, [.ref (q 20), .int (nI tl)])), (q 20, .inl (cI, 1600, .inl (fun j => nI (tb j))))] := hD
    rw [stF_nx] at hO2_130
    have hO_131 := rs_0 (c := nx tb tl (sk tb tl 0)) (f := f1) hO2_130
    refine lv_aload_n hx hb dX5_read_117 rfl (lv_at hl 0 rfl) ?_
    refine sk_get (v := .ref (q 55)) (C := RX5) (T := TX5) (N := 4) hx hb hts inlX5 hown hK hP 0 rfl rfl 1 (by decide) w_1_155 rfl dX5_read_118 ?_
    refine lv_aload_n hx hb dX5_read_121 rfl (lv_at hl 0 rfl) ?_
    refine sk_get (v := .ref (q 56)) (C := RX5) (T := TX5) (N := 4) hx hb hts inlX5 hown hK hP 0 rfl rfl 2 (by decide) w_1_156 rfl dX5_read_122 ?_
    refine sk_VvZ (q0 := 0) (n := 1) (rest := []) (wr := [(q 4, .inr (5, [.ref (q 2), .ref (q 55), .ref (q 56), .int xt2_3]))]) ⟨hx, hb, hml, hown, hts⟩ hl.1 (c_esread l D cI cJ cC cZ cS zk zv zf 6 q (q 55) 2 xa2_124 xv2_125 0 xt2_126 xz2_127 0 (-1) tl tb (q 56) (q 57) (q 58) (q 59) (q 60) 0 0 f1 (.ok (nx tb tl (sk tb tl 0), [])) (by omega) (by omega) (by omega) htb (by omega) (by omega) (by omega) (by omega) hO_131 (lenO_0 (nx tb tl (sk tb tl 0)))) w_5_90 w_3_81 w_3_82 w_1_6 w_3_83 (by decide +kernel) ⟨⟨(Nat.le_of_ble_eq_true rfl), (Nat.le_of_ble_eq_true rfl)⟩, (Nat.le_of_ble_eq_true rfl), (Nat.le_of_ble_eq_true rfl)⟩ hK hP hD hS hZ hA [1, 4, 5, 6, 3, 2] [0] rfl rfl (by decide +kernel) (by decide +kernel) (by decide +kernel) rfl rfl rfl rfl (Nat.le_of_ble_eq_true rfl) dX5_read_125 (fun u H locs hw hP hD hS => ?_)
    obtain ⟨xa2_132, xv2_133, xt2_134, xz2_135, xf2_136, xp2_137, c2_138, w2_139, g1_140, hxa2_141, hxz2_142, hc2_143, hw2_144, hO2_145, rfl⟩ := hw
    have hP : va_P D vwCl [(q 4, .inr (5, [.ref (q 2), .ref (q 55), .ref (q 56), .int xt2_3])), (q 55, .inr (8, [.ref (q 2), .int 2])), (q 2, .inr (6, [.ref (q 0), .int (nI xa2_132), .int xv2_133, .int 0, .int xt2_134, .int (nI xz2_135), .int xf2_136, .int xp2_137])), (q 0, .inr (10, [.ref (q 20), .int (nI tl)])), (q 20, .inl (cI, 1600, .inl (fun j => nI (tb j)))), (q 56, .inr (0, [.ref (q 57), .ref (q 58), .ref (q 59), .ref (q 60), .int (nI c2_138), .int (nI w2_139)])), (q 57, .inl (cI, 1600, .inl g1_140))] H := hP
    have hD : va_D A [(q 4, .inr (5, [.ref (q 2), .ref (q 55), .ref (q 56), .int xt2_3])), (q 55, .inr (8, [.ref (q 2), .int 2])), (q 2, .inr (6, [.ref (q 0), .int (nI xa2_132), .int xv2_133, .int 0, .int xt2_134, .int (nI xz2_135), .int xf2_136, .int xp2_137])), (q 0, .inr (10, [.ref (q 20), .int (nI tl)])), (q 20, .inl (cI, 1600, .inl (fun j => nI (tb j)))), (q 56, .inr (0, [.ref (q 57), .ref (q 58), .ref (q 59), .ref (q 60), .int (nI c2_138), .int (nI w2_139)])), (q 57, .inl (cI, 1600, .inl g1_140))] := hD
    have hL_146 := lenO_ap (len_sum (tb := tb) (n := tl) (len_part (tb := tb) (n := tl) (kind := 2) 6)) (lenO_0 (nx tb tl (sk tb tl 0)))
    have hO_147 := (hO2_145).1
    rw [q_s (k := 25) htb hO2_7 g_123 (by decide)] at hO_147
    refine lv_goto (tgt := 138) hx hb dX5_read_128 (by decide) ?_
    have hP := hP.sub (ws' := [(q 4, .inr (5, [.ref (q 2), .ref (q 55), .ref (q 56), .int xt2_3])), (q 55, .inr (8, [.ref (q 2), .int 2])), (q 57, .inl (cI, 1600, .inl g1_140)), (q 56, .inr (0, [.ref (q 57), .ref (q 58), .ref (q 59), .ref (q 60), .int (nI c2_138), .int (nI w2_139)])), (q 2, .inr (6, [.ref (q 0), .int (nI xa2_132), .int xv2_133, .int 0, .int xt2_134, .int (nI xz2_135), .int xf2_136, .int xp2_137])), (q 0, .inr (10, [.ref (q 20), .int (nI tl)])), (q 20, .inl (cI, 1600, .inl (fun j => nI (tb j))))]) [0, 1, 6, 5, 2, 3, 4] rfl
    have hD := hD.sub (ws' := [(q 4, .inr (5, [.ref (q 2), .ref (q 55), .ref (q 56), .int xt2_3])), (q 55, .inr (8, [.ref (q 2), .int 2])), (q 57, .inl (cI, 1600, .inl g1_140)), (q 56, .inr (0, [.ref (q 57), .ref (q 58), .ref (q 59), .ref (q 60), .int (nI c2_138), .int (nI w2_139)])), (q 2, .inr (6, [.ref (q 0), .int (nI xa2_132), .int xv2_133, .int 0, .int xt2_134, .int (nI xz2_135), .int xf2_136, .int xp2_137])), (q 0, .inr (10, [.ref (q 20), .int (nI tl)])), (q 20, .inl (cI, 1600, .inl (fun j => nI (tb j))))]) [0, 1, 6, 5, 2, 3, 4] (by decide +kernel) rfl
    exact jn_8 g1_140 c2_138 w2_139 xa2_132 xv2_133 xt2_134 xz2_135 xf2_136 xp2_137 (quF tb tl (sk tb tl 0, false)) _ _ _ hO_147 (by omega) (by omega) (by omega) (by omega) rfl hP hD hS (lv_sub hl [0] rfl)
  by_cases g_148 : xt2_3 = 282
  · refine lv_tableIn (off := 81) (tgt := 110) hx hb dX5_read_29 (by rw [g_148]; decide) (by rw [g_148]; decide) (by rw [g_148]; rfl) (by decide) ?_
    refine lv_aload_n hx hb dX5_read_110 rfl (lv_at hl 0 rfl) ?_
    refine sk_get (v := .ref (q 2)) (C := RX5) (T := TX5) (N := 4) hx hb hts inlX5 hown hK hP 0 rfl rfl 0 (by decide) w_1_154 rfl dX5_read_111 ?_
    refine sk_VvZ (q0 := 0) (n := 0) (rest := []) (wr := [(q 4, .inr (5, [.ref (q 2), .ref (q 55), .ref (q 56), .int xt2_3])), (q 55, .inr (8, [.ref (q 2), .int 2])), (q 57, .inl (cI, 1600, .inl f1)), (q 56, .inr (0, [.ref (q 57), .ref (q 58), .ref (q 59), .ref (q 60), .int 0, .int 0]))]) ⟨hx, hb, hml, hown, hts⟩ hl.1 (c_erd_step l D cI cJ cC cZ cS zk zv zf q xa2_1 xv2_2 0 xt2_3 xz2_4 0 (-1) tl tb (bindR (.ok (sk tb tl 0, false)) (beF tb tl)) (by omega) (by omega) (by omega) htb (rd_st htb hO2_7 ⟨by rw [g_148]; decide, by rw [g_148]; decide⟩)) w_5_69 w_2_226 w_2_227 w_1_4 w_2_228 (by decide +kernel) ⟨⟨(Nat.le_of_ble_eq_true rfl), (Nat.le_of_ble_eq_true rfl)⟩, (Nat.le_of_ble_eq_true rfl), (Nat.le_of_ble_eq_true rfl)⟩ hK hP hD hS hZ hA [4, 5, 6] [0, 1, 2, 3] rfl rfl (by decide +kernel) (by decide +kernel) (by decide +kernel) rfl rfl rfl rfl (Nat.le_of_ble_eq_true rfl) dX5_read_114 (fun u H locs hw hP hD hS => ?_)
    obtain ⟨xa2_149, xv2_150, xt2_151, xz2_152, hxa2_153, hxz2_154, hO2_155, rfl⟩ := hw
    have hP : va_P D vwCl [(q 4, .inr (5, [.ref (q 2), .ref (q 55), .ref (q 56), .int xt2_3])), (q 55, .inr (8, [.ref (q 2), .int 2])), (q 57, .inl (cI, 1600, .inl f1)), (q 56, .inr (0, [.ref (q 57), .ref (q 58), .ref (q 59), .ref (q 60), .int 0, .int 0])), (q 2, .inr (6, [.ref (q 0), .int (nI xa2_149), .int xv2_150, .int 0, .int xt2_151, .int (nI xz2_152), .int 0, .int (-1)])), (q 0, .inr (10, [.ref (q 20), .int (nI tl)])), (q 20, .inl (cI, 1600, .inl (fun j => nI (tb j))))] H := hP
    have hD : va_D A [(q 4, .inr (5, [.ref (q 2), .ref (q 55), .ref (q 56), .int xt2_3])), (q 55, .inr (8, [.ref (q 2), .int 2])), (q 57, .inl (cI, 1600, .inl f1)), (q 56, .inr (0, [.ref (q 57), .ref (q 58), .ref (q 59), .ref (q 60), .int 0, .int 0])), (q 2, .inr (6, [.ref (q 0), .int (nI xa2_149), .int xv2_150, .int 0, .int xt2_151, .int (nI xz2_152), .int 0, .int (-1)])), (q 0, .inr (10, [.ref (q 20), .int (nI tl)])), (q 20, .inl (cI, 1600, .inl (fun j => nI (tb j))))] := hD
    rw [stF_nx] at hO2_155
    have hO_156 := rs_0 (c := nx tb tl (sk tb tl 0)) (f := f1) hO2_155
    refine lv_aload_n hx hb dX5_read_117 rfl (lv_at hl 0 rfl) ?_
    refine sk_get (v := .ref (q 55)) (C := RX5) (T := TX5) (N := 4) hx hb hts inlX5 hown hK hP 0 rfl rfl 1 (by decide) w_1_155 rfl dX5_read_118 ?_
    refine lv_aload_n hx hb dX5_read_121 rfl (lv_at hl 0 rfl) ?_
    refine sk_get (v := .ref (q 56)) (C := RX5) (T := TX5) (N := 4) hx hb hts inlX5 hown hK hP 0 rfl rfl 2 (by decide) w_1_156 rfl dX5_read_122 ?_
    refine sk_VvZ (q0 := 0) (n := 1) (rest := []) (wr := [(q 4, .inr (5, [.ref (q 2), .ref (q 55), .ref (q 56), .int xt2_3]))]) ⟨hx, hb, hml, hown, hts⟩ hl.1 (c_esread l D cI cJ cC cZ cS zk zv zf 6 q (q 55) 2 xa2_149 xv2_150 0 xt2_151 xz2_152 0 (-1) tl tb (q 56) (q 57) (q 58) (q 59) (q 60) 0 0 f1 (.ok (nx tb tl (sk tb tl 0), [])) (by omega) (by omega) (by omega) htb (by omega) (by omega) (by omega) (by omega) hO_156 (lenO_0 (nx tb tl (sk tb tl 0)))) w_5_90 w_3_81 w_3_82 w_1_6 w_3_83 (by decide +kernel) ⟨⟨(Nat.le_of_ble_eq_true rfl), (Nat.le_of_ble_eq_true rfl)⟩, (Nat.le_of_ble_eq_true rfl), (Nat.le_of_ble_eq_true rfl)⟩ hK hP hD hS hZ hA [1, 4, 5, 6, 3, 2] [0] rfl rfl (by decide +kernel) (by decide +kernel) (by decide +kernel) rfl rfl rfl rfl (Nat.le_of_ble_eq_true rfl) dX5_read_125 (fun u H locs hw hP hD hS => ?_)
    obtain ⟨xa2_157, xv2_158, xt2_159, xz2_160, xf2_161, xp2_162, c2_163, w2_164, g1_165, hxa2_166, hxz2_167, hc2_168, hw2_169, hO2_170, rfl⟩ := hw
    have hP : va_P D vwCl [(q 4, .inr (5, [.ref (q 2), .ref (q 55), .ref (q 56), .int xt2_3])), (q 55, .inr (8, [.ref (q 2), .int 2])), (q 2, .inr (6, [.ref (q 0), .int (nI xa2_157), .int xv2_158, .int 0, .int xt2_159, .int (nI xz2_160), .int xf2_161, .int xp2_162])), (q 0, .inr (10, [.ref (q 20), .int (nI tl)])), (q 20, .inl (cI, 1600, .inl (fun j => nI (tb j)))), (q 56, .inr (0, [.ref (q 57), .ref (q 58), .ref (q 59), .ref (q 60), .int (nI c2_163), .int (nI w2_164)])), (q 57, .inl (cI, 1600, .inl g1_165))] H := hP
    have hD : va_D A [(q 4, .inr (5, [.ref (q 2), .ref (q 55), .ref (q 56), .int xt2_3])), (q 55, .inr (8, [.ref (q 2), .int 2])), (q 2, .inr (6, [.ref (q 0), .int (nI xa2_157), .int xv2_158, .int 0, .int xt2_159, .int (nI xz2_160), .int xf2_161, .int xp2_162])), (q 0, .inr (10, [.ref (q 20), .int (nI tl)])), (q 20, .inl (cI, 1600, .inl (fun j => nI (tb j)))), (q 56, .inr (0, [.ref (q 57), .ref (q 58), .ref (q 59), .ref (q 60), .int (nI c2_163), .int (nI w2_164)])), (q 57, .inl (cI, 1600, .inl g1_165))] := hD
    have hL_171 := lenO_ap (len_sum (tb := tb) (n := tl) (len_part (tb := tb) (n := tl) (kind := 2) 6)) (lenO_0 (nx tb tl (sk tb tl 0)))
    have hO_172 := (hO2_170).1
    rw [q_s (k := 26) htb hO2_7 g_148 (by decide)] at hO_172
    refine lv_goto (tgt := 138) hx hb dX5_read_128 (by decide) ?_
    have hP := hP.sub (ws' := [(q 4, .inr (5, [.ref (q 2), .ref (q 55), .ref (q 56), .int xt2_3])), (q 55, .inr (8, [.ref (q 2), .int 2])), (q 57, .inl (cI, 1600, .inl g1_165)), (q 56, .inr (0, [.ref (q 57), .ref (q 58), .ref (q 59), .ref (q 60), .int (nI c2_163), .int (nI w2_164)])), (q 2, .inr (6, [.ref (q 0), .int (nI xa2_157), .int xv2_158, .int 0, .int xt2_159, .int (nI xz2_160), .int xf2_161, .int xp2_162])), (q 0, .inr (10, [.ref (q 20), .int (nI tl)])), (q 20, .inl (cI, 1600, .inl (fun j => nI (tb j))))]) [0, 1, 6, 5, 2, 3, 4] rfl
    have hD := hD.sub (ws' := [(q 4, .inr (5, [.ref (q 2), .ref (q 55), .ref (q 56), .int xt2_3])), (q 55, .inr (8, [.ref (q 2), .int 2])), (q 57, .inl (cI, 1600, .inl g1_165)), (q 56, .inr (0, [.ref (q 57), .ref (q 58), .ref (q 59), .ref (q 60), .int (nI c2_163), .int (nI w2_164)])), (q 2, .inr (6, [.ref (q 0), .int (nI xa2_157), .int xv2_158, .int 0, .int xt2_159, .int (nI xz2_160), .int xf2_161, .int xp2_162])), (q 0, .inr (10, [.ref (q 20), .int (nI tl)])), (q 20, .inl (cI, 1600, .inl (fun j => nI (tb j))))]) [0, 1, 6, 5, 2, 3, 4] (by decide +kernel) rfl
    exact jn_8 g1_165 c2_163 w2_164 xa2_157 xv2_158 xt2_159 xz2_160 xf2_161 xp2_162 (quF tb tl (sk tb tl 0, false)) _ _ _ hO_172 (by omega) (by omega) (by omega) (by omega) rfl hP hD hS (lv_sub hl [0] rfl)
  by_cases g_173 : xt2_3 = 283
  · refine lv_tableIn (off := 81) (tgt := 110) hx hb dX5_read_29 (by rw [g_173]; decide) (by rw [g_173]; decide) (by rw [g_173]; rfl) (by decide) ?_
    refine lv_aload_n hx hb dX5_read_110 rfl (lv_at hl 0 rfl) ?_
    refine sk_get (v := .ref (q 2)) (C := RX5) (T := TX5) (N := 4) hx hb hts inlX5 hown hK hP 0 rfl rfl 0 (by decide) w_1_154 rfl dX5_read_111 ?_
    refine sk_VvZ (q0 := 0) (n := 0) (rest := []) (wr := [(q 4, .inr (5, [.ref (q 2), .ref (q 55), .ref (q 56), .int xt2_3])), (q 55, .inr (8, [.ref (q 2), .int 2])), (q 57, .inl (cI, 1600, .inl f1)), (q 56, .inr (0, [.ref (q 57), .ref (q 58), .ref (q 59), .ref (q 60), .int 0, .int 0]))]) ⟨hx, hb, hml, hown, hts⟩ hl.1 (c_erd_step l D cI cJ cC cZ cS zk zv zf q xa2_1 xv2_2 0 xt2_3 xz2_4 0 (-1) tl tb (bindR (.ok (sk tb tl 0, false)) (beF tb tl)) (by omega) (by omega) (by omega) htb (rd_st htb hO2_7 ⟨by rw [g_173]; decide, by rw [g_173]; decide⟩)) w_5_69 w_2_226 w_2_227 w_1_4 w_2_228 (by decide +kernel) ⟨⟨(Nat.le_of_ble_eq_true rfl), (Nat.le_of_ble_eq_true rfl)⟩, (Nat.le_of_ble_eq_true rfl), (Nat.le_of_ble_eq_true rfl)⟩ hK hP hD hS hZ hA [4, 5, 6] [0, 1, 2, 3] rfl rfl (by decide +kernel) (by decide +kernel) (by decide +kernel) rfl rfl rfl rfl (Nat.le_of_ble_eq_true rfl) dX5_read_114 (fun u H locs hw hP hD hS => ?_)
    obtain ⟨xa2_174, xv2_175, xt2_176, xz2_177, hxa2_178, hxz2_179, hO2_180, rfl⟩ := hw
    have hP : va_P D vwCl [(q 4, .inr (5, [.ref (q 2), .ref (q 55), .ref (q 56), .int xt2_3])), (q 55, .inr (8, [.ref (q 2), .int 2])), (q 57, .inl (cI, 1600, .inl f1)), (q 56, .inr (0, [.ref (q 57), .ref (q 58), .ref (q 59), .ref (q 60), .int 0, .int 0])), (q 2, .inr (6, [.ref (q 0), .int (nI xa2_174), .int xv2_175, .int 0, .int xt2_176, .int (nI xz2_177), .int 0, .int (-1)])), (q 0, .inr (10, [.ref (q 20), .int (nI tl)])), (q 20, .inl (cI, 1600, .inl (fun j => nI (tb j))))] H := hP
    have hD : va_D A [(q 4, .inr (5, [.ref (q 2), .ref (q 55), .ref (q 56), .int xt2_3])), (q 55, .inr (8, [.ref (q 2), .int 2])), (q 57, .inl (cI, 1600, .inl f1)), (q 56, .inr (0, [.ref (q 57), .ref (q 58), .ref (q 59), .ref (q 60), .int 0, .int 0])), (q 2, .inr (6, [.ref (q 0), .int (nI xa2_174), .int xv2_175, .int 0, .int xt2_176, .int (nI xz2_177), .int 0, .int (-1)])), (q 0, .inr (10, [.ref (q 20), .int (nI tl)])), (q 20, .inl (cI, 1600, .inl (fun j => nI (tb j))))] := hD
    rw [stF_nx] at hO2_180
    have hO_181 := rs_0 (c := nx tb tl (sk tb tl 0)) (f := f1) hO2_180
    refine lv_aload_n hx hb dX5_read_117 rfl (lv_at hl 0 rfl) ?_
    refine sk_get (v := .ref (q 55)) (C := RX5) (T := TX5) (N := 4) hx hb hts inlX5 hown hK hP 0 rfl rfl 1 (by decide) w_1_155 rfl dX5_read_118 ?_
    refine lv_aload_n hx hb dX5_read_121 rfl (lv_at hl 0 rfl) ?_
    refine sk_get (v := .ref (q 56)) (C := RX5) (T := TX5) (N := 4) hx hb hts inlX5 hown hK hP 0 rfl rfl 2 (by decide) w_1_156 rfl dX5_read_122 ?_
    refine sk_VvZ (q0 := 0) (n := 1) (rest := []) (wr := [(q 4, .inr (5, [.ref (q 2), .ref (q 55), .ref (q 56), .int xt2_3]))]) ⟨hx, hb, hml, hown, hts⟩ hl.1 (c_esread l D cI cJ cC cZ cS zk zv zf 6 q (q 55) 2 xa2_174 xv2_175 0 xt2_176 xz2_177 0 (-1) tl tb (q 56) (q 57) (q 58) (q 59) (q 60) 0 0 f1 (.ok (nx tb tl (sk tb tl 0), [])) (by omega) (by omega) (by omega) htb (by omega) (by omega) (by omega) (by omega) hO_181 (lenO_0 (nx tb tl (sk tb tl 0)))) w_5_90 w_3_81 w_3_82 w_1_6 w_3_83 (by decide +kernel) ⟨⟨(Nat.le_of_ble_eq_true rfl), (Nat.le_of_ble_eq_true rfl)⟩, (Nat.le_of_ble_eq_true rfl), (Nat.le_of_ble_eq_true rfl)⟩ hK hP hD hS hZ hA [1, 4, 5, 6, 3, 2] [0] rfl rfl (by decide +kernel) (by decide +kernel) (by decide +kernel) rfl rfl rfl rfl (Nat.le_of_ble_eq_true rfl) dX5_read_125 (fun u H locs hw hP hD hS => ?_)
    obtain ⟨xa2_182, xv2_183, xt2_184, xz2_185, xf2_186, xp2_187, c2_188, w2_189, g1_190, hxa2_191, hxz2_192, hc2_193, hw2_194, hO2_195, rfl⟩ := hw
    have hP : va_P D vwCl [(q 4, .inr (5, [.ref (q 2), .ref (q 55), .ref (q 56), .int xt2_3])), (q 55, .inr (8, [.ref (q 2), .int 2])), (q 2, .inr (6, [.ref (q 0), .int (nI xa2_182), .int xv2_183, .int 0, .int xt2_184, .int (nI xz2_185), .int xf2_186, .int xp2_187])), (q 0, .inr (10, [.ref (q 20), .int (nI tl)])), (q 20, .inl (cI, 1600, .inl (fun j => nI (tb j)))), (q 56, .inr (0, [.ref (q 57), .ref (q 58), .ref (q 59), .ref (q 60), .int (nI c2_188), .int (nI w2_189)])), (q 57, .inl (cI, 1600, .inl g1_190))] H := hP
    have hD : va_D A [(q 4, .inr (5, [.ref (q 2), .ref (q 55), .ref (q 56), .int xt2_3])), (q 55, .inr (8, [.ref (q 2), .int 2])), (q 2, .inr (6, [.ref (q 0), .int (nI xa2_182), .int xv2_183, .int 0, .int xt2_184, .int (nI xz2_185), .int xf2_186, .int xp2_187])), (q 0, .inr (10, [.ref (q 20), .int (nI tl)])), (q 20, .inl (cI, 1600, .inl (fun j => nI (tb j)))), (q 56, .inr (0, [.ref (q 57), .ref (q 58), .ref (q 59), .ref (q 60), .int (nI c2_188), .int (nI w2_189)])), (q 57, .inl (cI, 1600, .inl g1_190))] := hD
    have hL_196 := lenO_ap (len_sum (tb := tb) (n := tl) (len_part (tb := tb) (n := tl) (kind := 2) 6)) (lenO_0 (nx tb tl (sk tb tl 0)))
    have hO_197 := (hO2_195).1
    rw [q_s (k := 27) htb hO2_7 g_173 (by decide)] at hO_197
    refine lv_goto (tgt := 138) hx hb dX5_read_128 (by decide) ?_
    have hP := hP.sub (ws' := [(q 4, .inr (5, [.ref (q 2), .ref (q 55), .ref (q 56), .int xt2_3])), (q 55, .inr (8, [.ref (q 2), .int 2])), (q 57, .inl (cI, 1600, .inl g1_190)), (q 56, .inr (0, [.ref (q 57), .ref (q 58), .ref (q 59), .ref (q 60), .int (nI c2_188), .int (nI w2_189)])), (q 2, .inr (6, [.ref (q 0), .int (nI xa2_182), .int xv2_183, .int 0, .int xt2_184, .int (nI xz2_185), .int xf2_186, .int xp2_187])), (q 0, .inr (10, [.ref (q 20), .int (nI tl)])), (q 20, .inl (cI, 1600, .inl (fun j => nI (tb j))))]) [0, 1, 6, 5, 2, 3, 4] rfl
    have hD := hD.sub (ws' := [(q 4, .inr (5, [.ref (q 2), .ref (q 55), .ref (q 56), .int xt2_3])), (q 55, .inr (8, [.ref (q 2), .int 2])), (q 57, .inl (cI, 1600, .inl g1_190)), (q 56, .inr (0, [.ref (q 57), .ref (q 58), .ref (q 59), .ref (q 60), .int (nI c2_188), .int (nI w2_189)])), (q 2, .inr (6, [.ref (q 0), .int (nI xa2_182), .int xv2_183, .int 0, .int xt2_184, .int (nI xz2_185), .int xf2_186, .int xp2_187])), (q 0, .inr (10, [.ref (q 20), .int (nI tl)])), (q 20, .inl (cI, 1600, .inl (fun j => nI (tb j))))]) [0, 1, 6, 5, 2, 3, 4] (by decide +kernel) rfl
    exact jn_8 g1_190 c2_188 w2_189 xa2_182 xv2_183 xt2_184 xz2_185 xf2_186 xp2_187 (quF tb tl (sk tb tl 0, false)) _ _ _ hO_197 (by omega) (by omega) (by omega) (by omega) rfl hP hD hS (lv_sub hl [0] rfl)
  refine lv_tableOut (tgt := 131) hx hb dX5_read_29 (sk_out2 271 283 (by intro k hk1 hk2; rcases (show k = 271 ∨ k = 272 ∨ k = 273 ∨ k = 274 ∨ k = 275 ∨ k = 276 ∨ k = 277 ∨ k = 278 ∨ k = 279 ∨ k = 280 ∨ k = 281 ∨ k = 282 ∨ k = 283 by omega) with rfl | rfl | rfl | rfl | rfl | rfl | rfl | rfl | rfl | rfl | rfl | rfl | rfl <;> assumption)) (by decide) ?_
  refine lv_aload_n hx hb dX5_read_131 rfl (lv_at hl 0 rfl) ?_
  refine sk_get (v := .ref (q 2)) (C := RX5) (T := TX5) (N := 4) hx hb hts inlX5 hown hK hP 0 rfl rfl 0 (by decide) w_1_154 rfl dX5_read_132 ?_
  refine sk_Vv (q0 := 0) (n := 0) (rest := []) (wr := [(q 4, .inr (5, [.ref (q 2), .ref (q 55), .ref (q 56), .int xt2_3])), (q 55, .inr (8, [.ref (q 2), .int 2])), (q 57, .inl (cI, 1600, .inl f1)), (q 56, .inr (0, [.ref (q 57), .ref (q 58), .ref (q 59), .ref (q 60), .int 0, .int 0])), (q 0, .inr (10, [.ref (q 20), .int (nI tl)])), (q 20, .inl (cI, 1600, .inl (fun j => nI (tb j))))]) ⟨hx, hb, hml, hown, hts⟩ hl.1 (c_erd_failHere l D cI cJ cC cZ cS q xa2_1 xv2_2 0 xt2_3 xz2_4 0 (-1) tl tb (.ok (sk tb tl 0, false)) (by omega) hO2_7) w_5_94 w_3_55 w_3_56 w_1_4 w_3_57 (by decide +kernel) ⟨⟨(Nat.le_of_ble_eq_true rfl), (Nat.le_of_ble_eq_true rfl)⟩, (Nat.le_of_ble_eq_true rfl), (Nat.le_of_ble_eq_true rfl)⟩ hK hP hD hS hA [4] [0, 1, 2, 3, 5, 6] rfl rfl (by decide +kernel) (by decide +kernel) (by decide +kernel) rfl rfl rfl rfl (Nat.le_of_ble_eq_true rfl) dX5_read_135 (fun u H locs hw hP hD hS => ?_)
  obtain ⟨xf2_198, xp2_199, hO2_200, rfl⟩ := hw
  have hP : va_P D vwCl [(q 4, .inr (5, [.ref (q 2), .ref (q 55), .ref (q 56), .int xt2_3])), (q 55, .inr (8, [.ref (q 2), .int 2])), (q 57, .inl (cI, 1600, .inl f1)), (q 56, .inr (0, [.ref (q 57), .ref (q 58), .ref (q 59), .ref (q 60), .int 0, .int 0])), (q 0, .inr (10, [.ref (q 20), .int (nI tl)])), (q 20, .inl (cI, 1600, .inl (fun j => nI (tb j)))), (q 2, .inr (6, [.ref (q 0), .int (nI xa2_1), .int xv2_2, .int 0, .int (-2), .int (nI xz2_4), .int xf2_198, .int xp2_199]))] H := hP
  have hD : va_D A [(q 4, .inr (5, [.ref (q 2), .ref (q 55), .ref (q 56), .int xt2_3])), (q 55, .inr (8, [.ref (q 2), .int 2])), (q 57, .inl (cI, 1600, .inl f1)), (q 56, .inr (0, [.ref (q 57), .ref (q 58), .ref (q 59), .ref (q 60), .int 0, .int 0])), (q 0, .inr (10, [.ref (q 20), .int (nI tl)])), (q 20, .inl (cI, 1600, .inl (fun j => nI (tb j)))), (q 2, .inr (6, [.ref (q 0), .int (nI xa2_1), .int xv2_2, .int 0, .int (-2), .int (nI xz2_4), .int xf2_198, .int xp2_199]))] := hD
  have hO_201 := hO2_200
  rw [q_n htb hO2_7 (by assumption) (by assumption) (by assumption) (by assumption) (by assumption) (by assumption)] at hO_201
  have hP := hP.sub (ws' := [(q 4, .inr (5, [.ref (q 2), .ref (q 55), .ref (q 56), .int xt2_3])), (q 55, .inr (8, [.ref (q 2), .int 2])), (q 57, .inl (cI, 1600, .inl f1)), (q 56, .inr (0, [.ref (q 57), .ref (q 58), .ref (q 59), .ref (q 60), .int 0, .int 0])), (q 2, .inr (6, [.ref (q 0), .int (nI xa2_1), .int xv2_2, .int 0, .int (-2), .int (nI xz2_4), .int xf2_198, .int xp2_199])), (q 0, .inr (10, [.ref (q 20), .int (nI tl)])), (q 20, .inl (cI, 1600, .inl (fun j => nI (tb j))))]) [0, 1, 2, 3, 6, 4, 5] rfl
  have hD := hD.sub (ws' := [(q 4, .inr (5, [.ref (q 2), .ref (q 55), .ref (q 56), .int xt2_3])), (q 55, .inr (8, [.ref (q 2), .int 2])), (q 57, .inl (cI, 1600, .inl f1)), (q 56, .inr (0, [.ref (q 57), .ref (q 58), .ref (q 59), .ref (q 60), .int 0, .int 0])), (q 2, .inr (6, [.ref (q 0), .int (nI xa2_1), .int xv2_2, .int 0, .int (-2), .int (nI xz2_4), .int xf2_198, .int xp2_199])), (q 0, .inr (10, [.ref (q 20), .int (nI tl)])), (q 20, .inl (cI, 1600, .inl (fun j => nI (tb j))))]) [0, 1, 2, 3, 6, 4, 5] (by decide +kernel) rfl
  exact jn_8 f1 0 0 xa2_1 xv2_2 (-2) xz2_4 xf2_198 xp2_199 (quF tb tl (sk tb tl 0, false)) _ _ _ hO_201 (by omega) (by omega) (by omega) (by omega) rfl hP hD hS (lv_sub hl [0] rfl)
/-! sums: what steps give on a pile -/
def kcClip (v : Int64) : Int64 := if 1000000 < v then 1000000 else if v < -1000000 then -1000000 else v
def kcFl (a b : Int64) : Int64 := if b = 0 then 0 else if (¬ a - a / b * b = 0) ∧ ¬ (a < 0 ↔ b < 0) then a / b - 1 else a / b
def kcOp (c : Nat) (a b : Int64) : Int64 :=
  if c = 1 then kcClip (a + b) else if c = 2 then kcClip (a - b) else if c = 3 then kcClip (a * b) else if c = 4 then kcFl a b
  else if c = 5 then (if b < a then b else a) else (if a < b then b else a)
def kcSt (nm : Nat → Int64) (c : Nat) (S : List Int64) : Option (List Int64) :=
  if 1000 ≤ c then some (Int64.ofNat (c - 1000) :: S)
  else if 40 ≤ c then some (nm (c - 40) :: S)
  else match S with
    | b :: a :: r => some (kcOp c a b :: r)
    | _ => none
def kcEx (nm : Nat → Int64) (B : Nat) : List Nat → List Int64 → Option (List Int64)
  | [], S => some S
  | c :: k, S => match kcSt nm c S with
    | none => none
    | some T => if T.length ≤ B then kcEx nm B k T else none
theorem kcEx_app (nm : Nat → Int64) (B : Nat) : ∀ (k l : List Nat) (S : List Int64), kcEx nm B (k ++ l) S = (kcEx nm B k S).bind (kcEx nm B l)
  | [], l, S => rfl
  | c :: k, l, S => by
    show (match kcSt nm c S with | none => none | some T => if T.length ≤ B then kcEx nm B (k ++ l) T else none) = (match kcSt nm c S with | none => none | some T => if T.length ≤ B then kcEx nm B k T else none).bind (kcEx nm B l)
    cases kcSt nm c S with
    | none => rfl
    | some T =>
      show (if T.length ≤ B then kcEx nm B (k ++ l) T else none) = (if T.length ≤ B then kcEx nm B k T else none).bind (kcEx nm B l)
      by_cases h : T.length ≤ B
      · rw [if_pos h, if_pos h]; exact kcEx_app nm B k l T
      · rw [if_neg h, if_neg h]; rfl
theorem kcEx_1 {nm : Nat → Int64} {B c : Nat} {k : List Nat} {S T : List Int64} (h : kcSt nm c S = some T) (hB : T.length ≤ B) : kcEx nm B (c :: k) S = kcEx nm B k T := by
  show (match kcSt nm c S with | none => none | some T => if T.length ≤ B then kcEx nm B k T else none) = _
  rw [h]
  show (if T.length ≤ B then kcEx nm B k T else none) = _
  rw [if_pos hB]
/-- one step of a run that ends well -/
theorem kcEx_c {nm : Nat → Int64} {B c : Nat} {k : List Nat} {S R : List Int64} (h : kcEx nm B (c :: k) S = some R) : ∃ T, kcSt nm c S = some T ∧ T.length ≤ B ∧ kcEx nm B k T = some R := by
  have h1 : (match kcSt nm c S with | none => none | some T => if T.length ≤ B then kcEx nm B k T else none) = some R := h
  cases hs : kcSt nm c S with
  | none => rw [hs] at h1; cases h1
  | some T =>
    rw [hs] at h1
    have h2 : (if T.length ≤ B then kcEx nm B k T else none) = some R := h1
    by_cases hB : T.length ≤ B
    · rw [if_pos hB] at h2; exact ⟨T, rfl, hB, h2⟩
    · rw [if_neg hB] at h2; cases h2
theorem kcSt_num {nm : Nat → Int64} {c : Nat} {S : List Int64} (h : 1000 ≤ c) : kcSt nm c S = some (Int64.ofNat (c - 1000) :: S) := by
  unfold kcSt; rw [if_pos h]
theorem kcSt_nm {nm : Nat → Int64} {c : Nat} {S : List Int64} (h : 40 ≤ c) (h2 : c < 1000) : kcSt nm c S = some (nm (c - 40) :: S) := by
  unfold kcSt; rw [if_neg (by omega), if_pos h]
theorem kcSt_op {nm : Nat → Int64} {c : Nat} {a b : Int64} {S : List Int64} (h : c < 40) : kcSt nm c (b :: a :: S) = some (kcOp c a b :: S) := by
  unfold kcSt; rw [if_neg (by omega), if_neg (by omega)]
/-- a sign finds two -/
theorem kcSt_two {nm : Nat → Int64} {c : Nat} {S T : List Int64} (h : c < 40) (hs : kcSt nm c S = some T) : ∃ b a R, S = b :: a :: R ∧ T = kcOp c a b :: R := by
  unfold kcSt at hs
  rw [if_neg (by omega), if_neg (by omega)] at hs
  cases S with
  | nil => have h9 : (none : Option (List Int64)) = some T := hs; cases h9
  | cons b S =>
    cases S with
    | nil => have h9 : (none : Option (List Int64)) = some T := hs; cases h9
    | cons a R => exact ⟨b, a, R, rfl, (Option.some.inj hs).symm⟩
/-- steps that put one value on whatever pile, with m places -/
def kcGd (nm : Nat → Int64) (m : Nat) (k : List Nat) : Prop := ∃ v, ∀ (B : Nat) (S : List Int64), S.length + m ≤ B → kcEx nm B k S = some (v :: S)
theorem kcGd_mono {nm : Nat → Int64} {m m2 : Nat} {k : List Nat} (h : kcGd nm m k) (hm : m ≤ m2) : kcGd nm m2 k := by
  obtain ⟨v, hv⟩ := h
  exact ⟨v, fun B S hB => hv B S (by omega)⟩
theorem kcGd_bin {nm : Nat → Int64} {m m2 o : Nat} {k l : List Nat} (h1 : kcGd nm m k) (h2 : kcGd nm m2 l) (hm : m2 + 1 ≤ m) (ho : o < 40) : kcGd nm m (k ++ l ++ [o]) := by
  obtain ⟨v, hv⟩ := h1
  obtain ⟨u, hu⟩ := h2
  refine ⟨kcOp o v u, fun B S hB => ?_⟩
  rw [kcEx_app, kcEx_app, hv B S hB]
  show (kcEx nm B l (v :: S)).bind (kcEx nm B [o]) = _
  rw [hu B (v :: S) (by rw [List.length_cons]; omega)]
  show kcEx nm B [o] (u :: v :: S) = _
  rw [kcEx_1 (kcSt_op ho) (by rw [List.length_cons]; omega)]
  rfl
theorem kcGd_num {nm : Nat → Int64} {v : Nat} : kcGd nm 1 [1000 + v] := by
  refine ⟨Int64.ofNat v, fun B S hB => ?_⟩
  rw [kcEx_1 (kcSt_num (by omega)) (by rw [List.length_cons]; omega), Nat.add_sub_cancel_left]
  rfl
theorem kcGd_nm {nm : Nat → Int64} {j : Nat} (hj : j < 900) : kcGd nm 1 [40 + j] := by
  refine ⟨nm j, fun B S hB => ?_⟩
  rw [kcEx_1 (kcSt_nm (by omega) (by omega)) (by rw [List.length_cons]; omega), Nat.add_sub_cancel_left]
  rfl
/-- which names stand there -/
def kcN1 (kind c : Nat) : Prop := (1 ≤ c ∧ c ≤ 6) ∨ (1000 ≤ c ∧ c < 11000) ∨ (40 ≤ c ∧ c < 50 ∧ allow kind (c - 40) = true)
def kcNs (kind : Nat) (k : List Nat) : Prop := ∀ c, c ∈ k → kcN1 kind c
theorem kcNs_app {kind : Nat} {k l : List Nat} (h1 : kcNs kind k) (h2 : kcNs kind l) : kcNs kind (k ++ l) := fun c hc => by
  rcases List.mem_append.mp hc with h | h
  · exact h1 c h
  · exact h2 c h
theorem kcNs_1 {kind c : Nat} (h : kcN1 kind c) : kcNs kind [c] := fun x hx => by
  rw [List.mem_singleton.mp hx]; exact h
def kcG (kind m : Nat) (k : List Nat) : Prop := (∀ nm, kcGd nm m k) ∧ kcNs kind k
theorem kcG_mono {kind m m2 : Nat} {k : List Nat} (h : kcG kind m k) (hm : m ≤ m2) : kcG kind m2 k := ⟨fun nm => kcGd_mono (h.1 nm) hm, h.2⟩
theorem kcG_bin {kind m m2 o : Nat} {k l : List Nat} (h1 : kcG kind m k) (h2 : kcG kind m2 l) (hm : m2 + 1 ≤ m) (ho : 1 ≤ o ∧ o ≤ 6) : kcG kind m (k ++ l ++ [o]) :=
  ⟨fun nm => kcGd_bin (h1.1 nm) (h2.1 nm) hm (by omega), kcNs_app (kcNs_app h1.2 h2.2) (kcNs_1 (Or.inl ho))⟩
theorem numP_val {tb : Nat → Nat} {n lo hi : Nat} {c : Cur} {r : Nat × Cur} (h : numP tb n lo hi c = .ok r) : lo ≤ r.1 ∧ r.1 ≤ hi := by
  unfold numP at h
  split at h
  · split at h
    · cases h
    · split at h
      · cases h
      · next hc => cases h; exact ⟨by show lo ≤ vd tb c.1 (ext qD tb n c.1 - c.1); omega, by show vd tb c.1 (ext qD tb n c.1 - c.1) ≤ hi; omega⟩
  · cases h
theorem kc_mul {tb : Nat → Nat} {n kind h : Nat} {P : Cur → Res} (hP : ∀ c r, P c = .ok r → kcG kind h r.2) : ∀ f c k r, mulLp tb n P f c k = .ok r → kcG kind (h + 1) k → kcG kind (h + 1) r.2
  | 0, c, k, r, h, _ => by cases h
  | f + 1, c, k, r, h, hk => by
    rw [mulLp] at h
    split at h
    · obtain ⟨a, h1, h2⟩ := bindR_ok h
      exact kc_mul hP f _ _ _ h2 (kcG_bin hk (hP _ _ h1) (by omega) ⟨by decide, by decide⟩)
    · split at h
      · obtain ⟨a, h1, h2⟩ := bindR_ok h
        exact kc_mul hP f _ _ _ h2 (kcG_bin hk (hP _ _ h1) (by omega) ⟨by decide, by decide⟩)
      · cases h; exact hk
theorem kc_prod {tb : Nat → Nat} {n kind h : Nat} {P : Cur → Res} (hP : ∀ c r, P c = .ok r → kcG kind h r.2) : ∀ c r, prodOf tb n P c = .ok r → kcG kind (h + 1) r.2 := fun c r hr => by
  obtain ⟨a, h1, h2⟩ := bindR_ok (show bindR (P c) (fun r => mulLp tb n P (n + 2) r.1 r.2) = .ok r from hr)
  exact kc_mul hP _ _ _ _ h2 (kcG_mono (hP _ _ h1) (by omega))
theorem kc_add {tb : Nat → Nat} {n kind h : Nat} {P : Cur → Res} (hP : ∀ c r, P c = .ok r → kcG kind h r.2) : ∀ f c k r, addLp tb n P f c k = .ok r → kcG kind (h + 2) k → kcG kind (h + 2) r.2
  | 0, c, k, r, h, _ => by cases h
  | f + 1, c, k, r, h, hk => by
    rw [addLp] at h
    split at h
    · obtain ⟨a, h1, h2⟩ := bindR_ok h
      exact kc_add hP f _ _ _ h2 (kcG_bin hk (kc_prod hP _ _ h1) (by omega) ⟨by decide, by decide⟩)
    · split at h
      · obtain ⟨a, h1, h2⟩ := bindR_ok h
        exact kc_add hP f _ _ _ h2 (kcG_bin hk (kc_prod hP _ _ h1) (by omega) ⟨by decide, by decide⟩)
      · cases h; exact hk
theorem kc_sum {tb : Nat → Nat} {n kind h : Nat} {P : Cur → Res} (hP : ∀ c r, P c = .ok r → kcG kind h r.2) : ∀ c r, sumOf tb n P c = .ok r → kcG kind (h + 2) r.2 := fun c r hr => by
  obtain ⟨a, h1, h2⟩ := bindR_ok (show bindR (prodOf tb n P c) (fun r => addLp tb n P (n + 2) r.1 r.2) = .ok r from hr)
  exact kc_add hP _ _ _ _ h2 (kcG_mono (kc_prod hP _ _ h1) (by omega))
theorem kc_partB {tb : Nat → Nat} {n kind h : Nat} (hk2 : kind < 2) {Q : Option (Cur → Res)} (hQ : ∀ P, Q = some P → ∀ c r, P c = .ok r → kcG kind h r.2) {c : Cur} {r : Cur × List Nat} (hr : partB tb n kind Q c = .ok r) : kcG kind (h + 3) r.2 := by
  unfold partB at hr
  split at hr
  · cases Q with
    | none => cases hr
    | some P =>
      obtain ⟨a, h1, h2⟩ := bindR_ok hr
      obtain ⟨c1, h3, h4⟩ := bindR_ok h2
      cases h4
      exact kcG_mono (kc_sum (hQ P rfl) _ a h1) (by omega)
  · split at hr
    · split at hr
      · cases Q with
        | none => cases hr
        | some P =>
          obtain ⟨a, h1, h2⟩ := bindR_ok hr
          obtain ⟨c2, h3, h4⟩ := bindR_ok h2
          obtain ⟨b, h5, h6⟩ := bindR_ok h4
          obtain ⟨c3, h7, h8⟩ := bindR_ok h6
          cases h8
          refine kcG_bin (kcG_mono (kc_sum (hQ P rfl) _ _ h1) (by omega)) (kc_sum (hQ P rfl) _ _ h5) (by omega) ?_
          split
          · exact ⟨by decide, by decide⟩
          · exact ⟨by decide, by decide⟩
      · cases hr
    · split at hr
      · next hw => exact absurd hw.1 (by omega)
      · cases hx : partIx tb n kind c with
        | some j =>
          rw [hx] at hr
          cases hr
          have hj := (partIx_lt hx).2
          have ha : allow kind j = true := by
            have := List.find?_some hx
            rw [Bool.and_eq_true] at this
            exact this.2
          exact ⟨fun nm => kcGd_mono (kcGd_nm (by omega)) (by omega), kcNs_1 (Or.inr (Or.inr ⟨by omega, by omega, by rw [Nat.add_sub_cancel_left]; exact ha⟩))⟩
        | none =>
          rw [hx] at hr
          obtain ⟨a, h1, h2⟩ := bindR_ok hr
          cases h2
          have hv := numP_val h1
          exact ⟨fun nm => kcGd_mono kcGd_num (by omega), kcNs_1 (Or.inr (Or.inl ⟨by omega, by omega⟩))⟩
theorem kc_part {tb : Nat → Nat} {n kind : Nat} (hk : kind < 2) : ∀ d c r, rdPart tb n kind d c = .ok r → kcG kind (3 * d + 3) r.2
  | 0, c, r, h => kcG_mono (kc_partB (h := 0) hk (Q := none) (fun P hp => by cases hp) h) (by omega)
  | d + 1, c, r, h => kcG_mono (kc_partB (h := 3 * d + 3) hk (Q := some (rdPart tb n kind d)) (fun P hp => by cases hp; exact kc_part hk d) h) (by omega)
theorem kc_sumD {tb : Nat → Nat} {n kind : Nat} (hk : kind < 2) {c : Cur} {r : Cur × List Nat} (h : sumD tb n kind 6 c = .ok r) : kcG kind 23 r.2 := kc_sum (kc_part hk 6) c r h
/-- only the names that stand there count -/
theorem kcEx_cg {nm nm2 : Nat → Int64} {B : Nat} : ∀ (k : List Nat) (S : List Int64), (∀ c, c ∈ k → 40 ≤ c → c < 1000 → nm (c - 40) = nm2 (c - 40)) → kcEx nm B k S = kcEx nm2 B k S
  | [], S, _ => rfl
  | c :: k, S, h => by
    have e : kcSt nm c S = kcSt nm2 c S := by
      unfold kcSt
      by_cases h1 : 1000 ≤ c
      · rw [if_pos h1, if_pos h1]
      · rw [if_neg h1, if_neg h1]
        by_cases h2 : 40 ≤ c
        · rw [if_pos h2, if_pos h2, h c (List.mem_cons_self ..) h2 (by omega)]
        · rw [if_neg h2, if_neg h2]
    show (match kcSt nm c S with | none => none | some T => if T.length ≤ B then kcEx nm B k T else none) = (match kcSt nm2 c S with | none => none | some T => if T.length ≤ B then kcEx nm2 B k T else none)
    rw [e]
    cases kcSt nm2 c S with
    | none => rfl
    | some T =>
      show (if T.length ≤ B then kcEx nm B k T else none) = (if T.length ≤ B then kcEx nm2 B k T else none)
      rw [kcEx_cg k T (fun x hx => h x (List.mem_cons_of_mem c hx))]
/-! the sums of a lock -/
def kcSub (K : List Nat) (p : Nat × Nat) : List Nat := (K.drop p.1).take (p.2 - p.1)
def kcLk (L : LkS) : Prop := ∀ w p, lG L w = some p → p.1 < p.2 ∧ p.2 ≤ (lK L).length ∧ kcG (if w = 1 then 1 else 0) 23 (kcSub (lK L) p)
theorem kcSub_app {K k : List Nat} {p : Nat × Nat} (h : p.1 < p.2) (h2 : p.2 ≤ K.length) : kcSub (K ++ k) p = kcSub K p := by
  unfold kcSub
  rw [List.drop_append_of_le_length (by omega), List.take_append_of_le_length (by rw [List.length_drop]; omega)]
theorem kcSub_new {K k : List Nat} : kcSub (K ++ k) (K.length, K.length + k.length) = k := by
  unfold kcSub
  show ((K ++ k).drop K.length).take (K.length + k.length - K.length) = k
  rw [List.drop_left, Nat.add_sub_cancel_left, List.take_length]
theorem kcLk_stS {L : LkS} {w : Nat} {k : List Nat} (h : kcLk L) (hk : kcG (if w = 1 then 1 else 0) 23 k) (hl : 1 ≤ k.length) : kcLk (stS L w k) := by
  intro v p hp
  have hp2 : updG (lG L) w (some ((lK L).length, (lK L).length + k.length)) v = some p := hp
  unfold updG at hp2
  show p.1 < p.2 ∧ p.2 ≤ (lK L ++ k).length ∧ kcG (if v = 1 then 1 else 0) 23 (kcSub (lK L ++ k) p)
  by_cases e : v = w
  · rw [if_pos e] at hp2
    cases hp2
    refine ⟨by show (lK L).length < (lK L).length + k.length; omega, by rw [List.length_append]; exact Nat.le_refl _, ?_⟩
    rw [kcSub_new, e]; exact hk
  · rw [if_neg e] at hp2
    obtain ⟨h1, h2, h3⟩ := h v p hp2
    exact ⟨h1, by rw [List.length_append]; omega, by rw [kcSub_app h1 h2]; exact h3⟩
theorem kcGd_len {nm : Nat → Int64} {m : Nat} {k : List Nat} (h : kcGd nm m k) : 1 ≤ k.length := by
  obtain ⟨v, hv⟩ := h
  cases k with
  | nil =>
    have h1 := hv m [] (by rw [List.length_nil]; omega)
    have h2 : (some [] : Option (List Int64)) = some [v] := h1
    cases h2
  | cons c k => rw [List.length_cons]; omega
theorem kcLk_sumL {tb : Nat → Nat} {n : Nat} {L : LkS} {w kind : Nat} {c : Cur} {r : LkS × Cur} (hL : kcLk L) (hw : kind = if w = 1 then 1 else 0) (h : sumL tb n L w kind c = .ok r) : kcLk r.1 := by
  unfold sumL at h
  split at h
  · cases h
  · obtain ⟨a, h1, h2⟩ := bindR_ok h
    cases h2
    have hg := kc_sumD (by rw [hw]; split <;> omega) h1
    exact kcLk_stS hL (hw ▸ hg) (kcGd_len (hg.1 (fun _ => 0)))
theorem kcLk_body {tb : Nat → Nat} {n : Nat} {L : LkS} {c : Cur} {r : LkS × Cur} (hL : kcLk L) (h : bodyP tb n L c = .ok r) : kcLk r.1 := by
  unfold bodyP at h
  split at h
  · obtain ⟨x, h1, h2⟩ := bindR_ok h; cases h2; exact hL
  · split at h
    · obtain ⟨x, h1, h2⟩ := bindR_ok h; cases h2; exact hL
    · split at h
      · obtain ⟨x, h1, h2⟩ := bindR_ok h
        have h3 : (if lU L x.1 = true then (.error (2, (nx tb n c.1).1) : LkR) else .ok (stU L x.1, x.2)) = .ok r := h2
        split at h3
        · cases h3
        · cases h3; exact hL
      · split at h
        · exact kcLk_sumL hL rfl h
        · split at h
          · exact kcLk_sumL hL rfl h
          · split at h
            · exact kcLk_sumL hL rfl h
            · split at h
              · obtain ⟨x, h1, h2⟩ := bindR_ok h; cases h2; exact hL
              · cases h
theorem kcLk_stm {tb : Nat → Nat} {n : Nat} {q r : LkS × Cur} (hL : kcLk q.1) (h : stmP tb n q = .ok r) : kcLk r.1 := by
  obtain ⟨x, h1, h2⟩ := bindR_ok (show bindR (bodyP tb n q.1 q.2) (fun r => bindR (signP tb n 59 r.2) (fun c => .ok (r.1, c))) = .ok r from h)
  obtain ⟨y, h3, h4⟩ := bindR_ok h2
  cases h4
  exact kcLk_body (r := x) hL h1
theorem kcLk_stP {tb : Nat → Nat} {n : Nat} : ∀ f q r, stP tb n f q = .ok r → kcLk q.1 → kcLk r.1
  | 0, q, r, h, hL => by
    have h1 : (if n ≤ q.2.1 then (.ok (q.1, 60) : Except Err (LkS × Nat)) else .error (5, q.2.1)) = .ok r := h
    split at h1
    · cases h1; exact hL
    · cases h1
  | f + 1, q, r, h, hL => by
    have h1 : (if n ≤ q.2.1 then (.ok (q.1, 60 - (f + 1)) : Except Err (LkS × Nat)) else bindR (stmP tb n q) (stP tb n f)) = .ok r := h
    split at h1
    · cases h1; exact hL
    · obtain ⟨x, h2, h3⟩ := bindR_ok h1
      exact kcLk_stP f x r h3 (kcLk_stm hL h2)
theorem kcLk_0 (d m : Nat) : kcLk (L0 d m) := fun w p hp => by
  have h : (none : Option (Nat × Nat)) = some p := hp
  cases h
theorem kcLk_open {tb : Nat → Nat} {n : Nat} {c : Cur} {r : LkS × Cur} (h : openP tb n c = .ok r) : kcLk r.1 := by
  unfold openP at h
  obtain ⟨c1, h1, h2⟩ := bindR_ok h
  obtain ⟨d, h3, h4⟩ := bindR_ok h2
  obtain ⟨c2, h5, h6⟩ := bindR_ok h4
  obtain ⟨m, h7, h8⟩ := bindR_ok h6
  obtain ⟨c3, h9, h10⟩ := bindR_ok h8
  cases h10
  exact kcLk_0 _ _
theorem kcLk_lock {tb : Nat → Nat} {n : Nat} {r : LkS × Nat} (h : lockP tb n = .ok r) : kcLk r.1 := by
  obtain ⟨x, h1, h2⟩ := bindR_ok (show bindR (openP tb n (sk tb n 0, false)) (stP tb n 59) = .ok r from h)
  exact kcLk_stP 59 x r h2 (kcLk_open h1)
theorem kcLk_untS {L : LkS} {w : Nat} (h : kcLk L) : kcLk (untS L w) := by
  unfold untS
  split
  · exact h
  · refine kcLk_stS h ?_ (Nat.le_refl 1)
    by_cases e : w = 1
    · rw [if_pos e, if_pos e]
      exact ⟨fun nm => kcGd_mono (kcGd_nm (j := 5) (by omega)) (by omega), kcNs_1 (Or.inr (Or.inr ⟨by decide, by decide, rfl⟩))⟩
    · rw [if_neg e, if_neg e]
      exact ⟨fun nm => kcGd_mono (kcGd_nm (j := 0) (by omega)) (by omega), kcNs_1 (Or.inr (Or.inr ⟨by decide, by decide, rfl⟩))⟩
theorem kcLk_untN {L : LkS} (h : kcLk L) : ∀ i, kcLk (untN L i)
  | 0 => h
  | i + 1 => kcLk_untS (kcLk_untN h i)
theorem kcLk_F {L : LkS} (h : kcLk L) : kcLk (lkF L) := kcLk_untN h 3
/-- the steps of a sum, told or not -/
def kcSeg (L : LkS) (w : Nat) : List Nat := match lG (lkF L) w with
  | none => []
  | some p => kcSub (lK (lkF L)) p
theorem untS_G {L : LkS} {w v : Nat} : lG (untS L w) v = if (lG L w).isSome = true then lG L v else if v = w then some ((lK L).length, (lK L).length + 1) else lG L v := by
  unfold untS
  by_cases h : (lG L w).isSome = true
  · rw [if_pos h, if_pos h]
  · rw [if_neg h, if_neg h]; rfl
theorem untS_keep {L : LkS} {w v : Nat} {p : Nat × Nat} (h : lG L v = some p) : lG (untS L w) v = some p := by
  rw [untS_G]
  by_cases h0 : (lG L w).isSome = true
  · rw [if_pos h0]; exact h
  · rw [if_neg h0]
    by_cases e : v = w
    · subst e; rw [h] at h0; exact absurd rfl h0
    · rw [if_neg e]; exact h
theorem untS_app (L : LkS) (w : Nat) : ∃ k, lK (untS L w) = lK L ++ k := by
  unfold untS
  split
  · exact ⟨[], (List.append_nil _).symm⟩
  · exact ⟨_, rfl⟩
theorem untN_some {L : LkS} : ∀ i v, v < i → ∃ p, lG (untN L i) v = some p
  | 0, v, h => absurd h (Nat.not_lt_zero v)
  | i + 1, v, h => by
    show ∃ p, lG (untS (untN L i) i) v = some p
    by_cases e : v = i
    · subst e
      rw [untS_G]
      cases hv : lG (untN L v) v with
      | some p => exact ⟨p, by rw [if_pos (by rfl)]⟩
      | none => exact ⟨_, by rw [if_neg (by decide), if_pos rfl]⟩
    · obtain ⟨p, hp⟩ := untN_some i v (by omega)
      exact ⟨p, untS_keep hp⟩
theorem kcSeg_G {L : LkS} (h : kcLk L) {w : Nat} (hw : w < 3) : kcG (if w = 1 then 1 else 0) 23 (kcSeg L w) := by
  obtain ⟨p, hp⟩ := untN_some (L := L) 3 w hw
  have h1 := (kcLk_F h w p hp).2.2
  unfold kcSeg
  rw [show lG (lkF L) w = some p from hp]
  exact h1
/-- what a sum gives -/
def kcV (L : LkS) (w : Nat) (nm : Nat → Int64) : Int64 := match kcEx nm 64 (kcSeg L w) [] with
  | some (v :: _) => v
  | _ => 0
theorem kcV_ex {L : LkS} (h : kcLk L) {w : Nat} (hw : w < 3) (nm : Nat → Int64) : kcEx nm 64 (kcSeg L w) [] = some [kcV L w nm] := by
  obtain ⟨v, hv⟩ := (kcSeg_G h hw).1 nm
  have h1 := hv 64 [] (by rw [List.length_nil]; omega)
  have key : ∀ o : Option (List Int64), o = some [v] → (match o with | some (v :: _) => v | _ => (0 : Int64)) = v := by
    intro o ho; subst ho; rfl
  have h2 : kcV L w nm = v := key _ h1
  rw [h2]; exact h1
theorem kcV_cg {L : LkS} (h : kcLk L) {w : Nat} (hw : w < 3) {nm nm2 : Nat → Int64} (e : ∀ j, j < (if w = 1 then 7 else 5) → nm j = nm2 j) : kcV L w nm = kcV L w nm2 := by
  have key : ∀ c, c ∈ kcSeg L w → 40 ≤ c → c < 1000 → nm (c - 40) = nm2 (c - 40) := by
    intro c hc h1 h2
    rcases (kcSeg_G h hw).2 c hc with ⟨q, q2⟩ | ⟨q, q2⟩ | ⟨q, q2, qa⟩
    · exact absurd h1 (by omega)
    · exact absurd h2 (by omega)
    · refine e _ ?_
      unfold allow at qa
      by_cases hw1 : w = 1
      · rw [if_pos hw1, if_neg (by decide), if_pos rfl, decide_eq_true_iff] at qa
        rw [if_pos hw1]; exact qa
      · rw [if_neg hw1, if_pos rfl, decide_eq_true_iff] at qa
        rw [if_neg hw1]; exact qa
  unfold kcV
  rw [kcEx_cg (nm := nm) (nm2 := nm2) (kcSeg L w) [] key]
/-- without week the week does not count -/
theorem kcV_wk {L : LkS} (h : kcLk L) {w : Nat} (hw : w < 3) {nm nm2 : Nat → Int64} (h4 : 44 ∉ lK (lkF L)) (e : ∀ j, j < (if w = 1 then 7 else 5) → ¬ j = 4 → nm j = nm2 j) : kcV L w nm = kcV L w nm2 := by
  have key : ∀ c, c ∈ kcSeg L w → 40 ≤ c → c < 1000 → nm (c - 40) = nm2 (c - 40) := by
    intro c hc h1 h2
    have hne : ¬ c = 44 := fun q => by
      subst q
      obtain ⟨p, hp⟩ := untN_some (L := L) 3 w hw
      unfold kcSeg at hc
      rw [show lG (lkF L) w = some p from hp] at hc
      exact h4 (List.mem_of_mem_drop (List.mem_of_mem_take (show 44 ∈ ((lK (lkF L)).drop p.1).take (p.2 - p.1) from hc)))
    rcases (kcSeg_G h hw).2 c hc with ⟨q, q2⟩ | ⟨q, q2⟩ | ⟨q, q2, qa⟩
    · exact absurd h1 (by omega)
    · exact absurd h2 (by omega)
    · refine e _ ?_ (by omega)
      unfold allow at qa
      by_cases hw1 : w = 1
      · rw [if_pos hw1, if_neg (by decide), if_pos rfl, decide_eq_true_iff] at qa
        rw [if_pos hw1]; exact qa
      · rw [if_neg hw1, if_pos rfl, decide_eq_true_iff] at qa
        rw [if_neg hw1]; exact qa
  unfold kcV
  rw [kcEx_cg (nm := nm) (nm2 := nm2) (kcSeg L w) [] key]
theorem untN_keep {L : LkS} {v : Nat} {p : Nat × Nat} (h : lG L v = some p) : ∀ i, lG (untN L i) v = some p
  | 0 => h
  | i + 1 => untS_keep (untN_keep h i)
theorem untN_app (L : LkS) : ∀ i, ∃ k, lK (untN L i) = lK L ++ k
  | 0 => ⟨[], (List.append_nil _).symm⟩
  | i + 1 => by
    obtain ⟨k, hk⟩ := untN_app L i
    obtain ⟨k2, hk2⟩ := untS_app (untN L i) i
    exact ⟨k ++ k2, by show lK (untS (untN L i) i) = _; rw [hk2, hk, List.append_assoc]⟩
theorem kcSeg_some {L : LkS} (hL : kcLk L) {w : Nat} {p : Nat × Nat} (h : lG L w = some p) : kcSeg L w = kcSub (lK L) p := by
  unfold kcSeg
  rw [show lG (lkF L) w = some p from untN_keep h 3]
  obtain ⟨k, hk⟩ := untN_app L 3
  show kcSub (lK (untN L 3)) p = _
  rw [hk]
  exact kcSub_app (hL w p h).1 (hL w p h).2.1
theorem untN_none {L : LkS} {v : Nat} (h : lG L v = none) : ∀ i, i ≤ v → lG (untN L i) v = none
  | 0, _ => h
  | i + 1, hi => by
    show lG (untS (untN L i) i) v = none
    rw [untS_G]
    by_cases h0 : (lG (untN L i) i).isSome = true
    · rw [if_pos h0]; exact untN_none h i (by omega)
    · rw [if_neg h0, if_neg (show ¬ v = i by omega)]; exact untN_none h i (by omega)
theorem kcSeg_none {L : LkS} {w : Nat} (hw : w < 3) (h : lG L w = none) : kcSeg L w = [if w = 1 then 45 else 40] := by
  have h1 := untN_none h w (Nat.le_refl w)
  have e1 : untN L (w + 1) = stS (untN L w) w [if w = 1 then 45 else 40] := by
    show untS (untN L w) w = _
    unfold untS
    rw [h1, if_neg (by decide)]
  have e2 : lG (untN L (w + 1)) w = some ((lK (untN L w)).length, (lK (untN L w)).length + 1) := by
    rw [e1]
    show updG (lG (untN L w)) w _ w = _
    unfold updG
    rw [if_pos rfl]
    rfl
  have e3 : lK (untN L (w + 1)) = lK (untN L w) ++ [if w = 1 then 45 else 40] := by rw [e1]; rfl
  have key : ∀ j, ∃ k, lG (untN L (w + 1 + j)) w = some ((lK (untN L w)).length, (lK (untN L w)).length + 1) ∧ lK (untN L (w + 1 + j)) = lK (untN L (w + 1)) ++ k := by
    intro j
    induction j with
    | zero => exact ⟨[], e2, (List.append_nil _).symm⟩
    | succ j ih =>
      obtain ⟨k, a, b⟩ := ih
      obtain ⟨k2, hk2⟩ := untS_app (untN L (w + 1 + j)) (w + 1 + j)
      exact ⟨k ++ k2, untS_keep a, by show lK (untS (untN L (w + 1 + j)) (w + 1 + j)) = _; rw [hk2, b, List.append_assoc]⟩
  obtain ⟨k, a, b⟩ := key (2 - w)
  rw [show w + 1 + (2 - w) = 3 by omega] at a b
  unfold kcSeg
  rw [show lG (lkF L) w = _ from a]
  show kcSub (lK (untN L 3)) _ = _
  rw [b, kcSub_app (by show (lK (untN L w)).length < (lK (untN L w)).length + 1; omega) (by rw [e3, List.length_append, List.length_singleton]; exact Nat.le_refl _), e3]
  exact kcSub_new
theorem kcV_none {L : LkS} {w : Nat} (hw : w < 3) (h : lG L w = none) (nm : Nat → Int64) : kcV L w nm = if w = 1 then nm 5 else nm 0 := by
  unfold kcV
  rw [kcSeg_none hw h]
  by_cases e : w = 1
  · rw [if_pos e, if_pos e, kcEx_1 (kcSt_nm (by decide) (by decide)) (Nat.le_of_ble_eq_true rfl)]
    rfl
  · rw [if_neg e, if_neg e, kcEx_1 (kcSt_nm (by decide) (by decide)) (Nat.le_of_ble_eq_true rfl)]
    rfl
/-! weeks: ways through days of ten moods -/
def kcS (f : Nat → Nat) : Nat → Nat
  | 0 => 0
  | n + 1 => kcS f n + f n
theorem kcS_cg {f g : Nat → Nat} : ∀ n, (∀ m, m < n → f m = g m) → kcS f n = kcS g n
  | 0, _ => rfl
  | n + 1, h => by
    show kcS f n + f n = kcS g n + g n
    rw [kcS_cg n (fun m hm => h m (by omega)), h n (by omega)]
theorem kcS_le {f : Nat → Nat} {b : Nat} : ∀ n, (∀ m, m < n → f m ≤ b) → kcS f n ≤ n * b
  | 0, _ => Nat.zero_le _
  | n + 1, h => by
    show kcS f n + f n ≤ (n + 1) * b
    have h1 := kcS_le n (fun m hm => h m (by omega))
    have h2 := h n (by omega)
    rw [Nat.succ_mul]
    omega
theorem kcS_z {f : Nat → Nat} : ∀ n, (∀ m, m < n → f m = 0) → kcS f n = 0
  | 0, _ => rfl
  | n + 1, h => by
    show kcS f n + f n = 0
    rw [kcS_z n (fun m hm => h m (by omega)), h n (by omega)]
theorem kcS_pos {f : Nat → Nat} : ∀ n, kcS f n = 0 → ∀ m, m < n → f m = 0
  | 0, _, m, hm => absurd hm (Nat.not_lt_zero m)
  | n + 1, h, m, hm => by
    have h1 : kcS f n + f n = 0 := h
    by_cases e : m = n
    · subst e; omega
    · exact kcS_pos n (by omega) m (by omega)
theorem kcS_add {f g : Nat → Nat} : ∀ n, kcS (fun m => f m + g m) n = kcS f n + kcS g n
  | 0 => rfl
  | n + 1 => by
    show kcS (fun m => f m + g m) n + (f n + g n) = (kcS f n + f n) + (kcS g n + g n)
    rw [kcS_add n]
    omega
theorem kcS_mul {f : Nat → Nat} {b : Nat} : ∀ n, kcS (fun m => f m * b) n = kcS f n * b
  | 0 => by show 0 = 0 * b; omega
  | n + 1 => by
    show kcS (fun m => f m * b) n + f n * b = (kcS f n + f n) * b
    rw [kcS_mul n, Nat.add_mul]
theorem kcS_mulL {f : Nat → Nat} {b : Nat} (n : Nat) : kcS (fun m => b * f m) n = b * kcS f n := by
  rw [kcS_cg (g := fun m => f m * b) n (fun m _ => Nat.mul_comm _ _), kcS_mul, Nat.mul_comm]
theorem kcS_swap {f : Nat → Nat → Nat} (k : Nat) : ∀ n, kcS (fun m => kcS (fun a => f a m) k) n = kcS (fun a => kcS (fun m => f a m) n) k
  | 0 => (kcS_z (f := fun a => kcS (fun m => f a m) 0) k (fun m _ => rfl)).symm
  | n + 1 => by
    show kcS (fun m => kcS (fun a => f a m) k) n + kcS (fun a => f a n) k = kcS (fun a => kcS (fun m => f a m) n + f a n) k
    rw [kcS_swap k n, kcS_add]
def kcC (E : Nat → Nat → Nat → Bool) : Nat → Nat → Nat → Nat
  | 0, _, _ => 1
  | k + 1, d, a => kcS (fun m => if E d a m = true then kcC E k (d + 1) m else 0) 10
theorem kcC_s (E : Nat → Nat → Nat → Bool) (k d a : Nat) : kcC E (k + 1) d a = kcS (fun m => if E d a m = true then kcC E k (d + 1) m else 0) 10 := rfl
theorem kcC_le (E : Nat → Nat → Nat → Bool) : ∀ k d a, kcC E k d a ≤ 10 ^ k
  | 0, _, _ => Nat.le_refl 1
  | k + 1, d, a => by
    rw [kcC_s, Nat.pow_succ, Nat.mul_comm]
    refine kcS_le 10 (fun m _ => ?_)
    split
    · exact kcC_le E k (d + 1) m
    · exact Nat.zero_le _
theorem kcC_cg {E F : Nat → Nat → Nat → Bool} : ∀ k d a, (∀ e, d ≤ e → e < d + k → ∀ x m, x < 10 → m < 10 → E e x m = F e x m) → a < 10 → kcC E k d a = kcC F k d a
  | 0, _, _, _, _ => rfl
  | k + 1, d, a, h, ha => by
    rw [kcC_s, kcC_s]
    refine kcS_cg 10 (fun m hm => ?_)
    rw [h d (Nat.le_refl d) (by omega) a m ha hm, kcC_cg k (d + 1) m (fun e h1 h2 x y hx hy => h e (by omega) (by omega) x y hx hy) hm]
theorem kc_9 {k : Nat} (h : k ≤ 9) : 10 ^ k ≤ 1000000000 := Nat.pow_le_pow_right (by decide) h
theorem kcC_9 (E : Nat → Nat → Nat → Bool) {k : Nat} (h : k ≤ 9) (d a : Nat) : kcC E k d a ≤ 1000000000 := Nat.le_trans (kcC_le E k d a) (kc_9 h)
/-- from ahead -/
def kcB (E : Nat → Nat → Nat → Bool) (a0 : Nat) : Nat → Nat → Nat
  | 0, m => if E 0 a0 m = true then 1 else 0
  | d + 1, m => kcS (fun a => if E (d + 1) a m = true then kcB E a0 d a else 0) 10
theorem kcB_0 (E : Nat → Nat → Nat → Bool) (a0 m : Nat) : kcB E a0 0 m = if E 0 a0 m = true then 1 else 0 := rfl
theorem kcB_s (E : Nat → Nat → Nat → Bool) (a0 d m : Nat) : kcB E a0 (d + 1) m = kcS (fun a => if E (d + 1) a m = true then kcB E a0 d a else 0) 10 := rfl
theorem kcB_C (E : Nat → Nat → Nat → Bool) (a0 : Nat) : ∀ d k, kcS (fun m => kcB E a0 d m * kcC E k (d + 1) m) 10 = kcC E (k + d + 1) 0 a0
  | 0, k => by
    rw [show k + 0 + 1 = k + 1 by omega, kcC_s]
    refine kcS_cg 10 (fun m _ => ?_)
    rw [kcB_0]
    by_cases h : E 0 a0 m = true
    · rw [if_pos h, if_pos h, Nat.one_mul]
    · rw [if_neg h, if_neg h, Nat.zero_mul]
  | d + 1, k => by
    have ih := kcB_C E a0 d (k + 1)
    rw [show k + (d + 1) + 1 = (k + 1) + d + 1 by omega, ← ih]
    rw [kcS_cg (g := fun m => kcS (fun a => if E (d + 1) a m = true then kcB E a0 d a * kcC E k (d + 1 + 1) m else 0) 10) 10 (fun m _ => ?_)]
    · rw [kcS_swap 10 10]
      refine kcS_cg 10 (fun a _ => ?_)
      rw [kcC_s, ← kcS_mulL]
      refine kcS_cg 10 (fun m _ => ?_)
      by_cases h : E (d + 1) a m = true
      · rw [if_pos h, if_pos h]
      · rw [if_neg h, if_neg h, Nat.mul_zero]
    · show kcB E a0 (d + 1) m * kcC E k (d + 1 + 1) m = _
      rw [kcB_s, ← kcS_mul]
      refine kcS_cg 10 (fun a _ => ?_)
      by_cases h : E (d + 1) a m = true
      · rw [if_pos h, if_pos h]
      · rw [if_neg h, if_neg h, Nat.zero_mul]
theorem kcB_all (E : Nat → Nat → Nat → Bool) (a0 d : Nat) : kcS (kcB E a0 d) 10 = kcC E (d + 1) 0 a0 := by
  have h := kcB_C E a0 d 0
  rw [Nat.zero_add] at h
  rw [← h]
  exact kcS_cg 10 (fun m _ => (Nat.mul_one _).symm)
/-! the week of a number -/
def kcP (w : Nat → Nat) : Nat → Nat → Nat → Nat × Nat
  | 0, m, x => (m, x)
  | f + 1, m, x => if x < w m then (m, x) else kcP w f (m + 1) (x - w m)
theorem kcP_s (w : Nat → Nat) (f m x : Nat) : kcP w (f + 1) m x = if x < w m then (m, x) else kcP w f (m + 1) (x - w m) := rfl
theorem kcP_go {w : Nat → Nat} {m x : Nat} (hm : m < 10) (h : ¬ x < w m) : kcP w (10 - m) m x = kcP w (10 - (m + 1)) (m + 1) (x - w m) := by
  rw [show 10 - m = (10 - (m + 1)) + 1 by omega, kcP_s, if_neg h]
theorem kcP_at {w : Nat → Nat} {m x : Nat} (hm : m < 10) (h : x < w m) : kcP w (10 - m) m x = (m, x) := by
  rw [show 10 - m = (10 - (m + 1)) + 1 by omega, kcP_s, if_pos h]
/-- what is left of a sum from a place on -/
def kcT (w : Nat → Nat) : Nat → Nat → Nat
  | 0, _ => 0
  | f + 1, m => w m + kcT w f (m + 1)
theorem kcT_S (w : Nat → Nat) : ∀ f m, kcS w m + kcT w f m = kcS w (m + f)
  | 0, m => rfl
  | f + 1, m => by
    show kcS w m + (w m + kcT w f (m + 1)) = _
    have h := kcT_S w f (m + 1)
    rw [show m + (f + 1) = m + 1 + f by omega, ← h]
    show kcS w m + (w m + kcT w f (m + 1)) = (kcS w m + w m) + kcT w f (m + 1)
    omega
theorem kcP_in {w : Nat → Nat} : ∀ f m x, x < kcT w f m → (kcP w f m x).1 < m + f ∧ (kcP w f m x).2 < w (kcP w f m x).1
  | 0, m, x, h => absurd h (Nat.not_lt_zero x)
  | f + 1, m, x, h => by
    rw [kcP_s]
    have h1 : x < w m + kcT w f (m + 1) := h
    by_cases c : x < w m
    · rw [if_pos c]; exact ⟨by show m < m + (f + 1); omega, c⟩
    · rw [if_neg c]
      have h2 := kcP_in (w := w) f (m + 1) (x - w m) (by omega)
      exact ⟨by omega, h2.2⟩
theorem kcP_10 {w : Nat → Nat} {x : Nat} (h : x < kcS w 10) : (kcP w 10 0 x).1 < 10 ∧ (kcP w 10 0 x).2 < w (kcP w 10 0 x).1 := by
  have h0 := kcT_S w 10 0
  have h1 : kcS w 0 = 0 := rfl
  have h2 := kcP_in (w := w) 10 0 x (by rw [show 0 + 10 = 10 from rfl] at h0; omega)
  exact ⟨by omega, h2.2⟩
/-- the first with some -/
theorem kcP_zero {w : Nat → Nat} : ∀ f m j, m ≤ j → j < m + f → 0 < w j → (∀ i, m ≤ i → i < j → w i = 0) → kcP w f m 0 = (j, 0)
  | 0, m, j, h1, h2, _, _ => absurd h2 (by omega)
  | f + 1, m, j, h1, h2, h3, h4 => by
    rw [kcP_s]
    by_cases e : j = m
    · subst e; rw [if_pos h3]
    · rw [if_neg (by rw [h4 m (Nat.le_refl m) (by omega)]; omega), Nat.zero_sub]
      exact kcP_zero f (m + 1) j (by omega) (by omega) h3 (fun i hi hj => h4 i (by omega) hj)
def kcW (E : Nat → Nat → Nat → Bool) (n d a m : Nat) : Nat := if E d a m = true then kcC E (n - (d + 1)) (d + 1) m else 0
/-- ahead of a day: the mood, and what is left of the number -/
def kcA (E : Nat → Nat → Nat → Bool) (n a0 x : Nat) : Nat → Nat × Nat
  | 0 => (a0, x)
  | d + 1 => kcP (kcW E n d (kcA E n a0 x d).1) 10 0 (kcA E n a0 x d).2
theorem kcA_s (E : Nat → Nat → Nat → Bool) (n a0 x d : Nat) : kcA E n a0 x (d + 1) = kcP (kcW E n d (kcA E n a0 x d).1) 10 0 (kcA E n a0 x d).2 := rfl
theorem kcW_S {E : Nat → Nat → Nat → Bool} {n d a : Nat} (h : d < n) : kcS (kcW E n d a) 10 = kcC E (n - d) d a := by
  rw [show n - d = (n - (d + 1)) + 1 by omega, kcC_s]
  rfl
theorem kcA_ok {E : Nat → Nat → Nat → Bool} {n a0 x : Nat} (ha : a0 < 10) (h : x < kcC E n 0 a0) : ∀ d, d ≤ n → (kcA E n a0 x d).1 < 10 ∧ (kcA E n a0 x d).2 < kcC E (n - d) d (kcA E n a0 x d).1
  | 0, _ => ⟨ha, h⟩
  | d + 1, hd => by
    obtain ⟨h1, h2⟩ := kcA_ok ha h d (by omega)
    rw [← kcW_S (by omega)] at h2
    obtain ⟨h3, h4⟩ := kcP_10 h2
    rw [kcA_s]
    refine ⟨h3, ?_⟩
    generalize kcP (kcW E n d (kcA E n a0 x d).1) 10 0 (kcA E n a0 x d).2 = q at h3 h4 ⊢
    unfold kcW at h4
    split at h4
    · exact h4
    · exact absurd h4 (Nat.not_lt_zero _)
/-- the mood of a day in the week of a number -/
def kcM (E : Nat → Nat → Nat → Bool) (n a0 x d : Nat) : Nat := (kcA E n a0 x (d + 1)).1
/-! masks of ten bits -/
def kcK (P : Nat → Bool) : Nat → Nat
  | 0 => 0
  | n + 1 => kcK P n + (if P n = true then 2 ^ n else 0)
theorem kcK_lt (P : Nat → Bool) : ∀ n, kcK P n < 2 ^ n
  | 0 => Nat.le_refl 1
  | n + 1 => by
    have h := kcK_lt P n
    show kcK P n + (if P n = true then 2 ^ n else 0) < 2 ^ (n + 1)
    rw [Nat.pow_succ]
    split <;> omega
theorem kcK_s (P : Nat → Bool) (n : Nat) : kcK P (n + 1) = kcK P n + (if P n = true then 2 ^ n else 0) := rfl
theorem kcK_or (P : Nat → Bool) (n : Nat) (h : P n = true) : kcK P n ||| 2 ^ n = kcK P (n + 1) := by
  rw [kcK_s, if_pos h, Nat.or_comm, Nat.add_comm]
  have h1 := Nat.two_pow_add_eq_or_of_lt (kcK_lt P n) 1
  rw [Nat.mul_one] at h1
  exact h1.symm
theorem kcK_no (P : Nat → Bool) (n : Nat) (h : ¬ P n = true) : kcK P (n + 1) = kcK P n := by
  rw [kcK_s, if_neg h, Nat.add_zero]
theorem kcK_bit (P : Nat → Bool) : ∀ n j, (kcK P n).testBit j = (decide (j < n) && P j)
  | 0, j => by
    show Nat.testBit 0 j = _
    rw [Nat.zero_testBit]
    rfl
  | n + 1, j => by
    by_cases h : P n = true
    · rw [← kcK_or P n h, Nat.testBit_or, kcK_bit P n j, Nat.testBit_two_pow]
      by_cases e : n = j
      · subst e
        rw [h]
        simp
      · rw [show decide (n = j) = false from decide_eq_false e, Bool.or_false]
        by_cases l : j < n
        · rw [show decide (j < n) = true from decide_eq_true l, show decide (j < n + 1) = true from decide_eq_true (by omega)]
        · rw [show decide (j < n) = false from decide_eq_false l, show decide (j < n + 1) = false from decide_eq_false (by omega)]
    · rw [kcK_no P n h, kcK_bit P n j]
      by_cases e : j = n
      · subst e
        rw [Bool.not_eq_true] at h
        rw [h, Bool.and_false, Bool.and_false]
      · by_cases l : j < n
        · rw [show decide (j < n) = true from decide_eq_true l, show decide (j < n + 1) = true from decide_eq_true (by omega)]
        · rw [show decide (j < n) = false from decide_eq_false l, show decide (j < n + 1) = false from decide_eq_false (by omega)]
