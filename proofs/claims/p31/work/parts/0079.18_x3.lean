theorem cm_m1 {k : Nat} (h : k < 10) : ¬ cm (40 + k) = -1 := by
  match k, h with
  | 0, _ => decide
  | 1, _ => decide
  | 2, _ => decide
  | 3, _ => decide
  | 4, _ => decide
  | 5, _ => decide
  | 6, _ => decide
  | 7, _ => decide
  | 8, _ => decide
  | 9, _ => decide
  | n + 10, h => exact absurd h (by omega)
set_option maxHeartbeats 4000000 in
set_option maxRecDepth 100000 in
theorem c_ereadPart (l : Launch) (D : va_G) (cI cJ cC cZ cS : ClassId) (zk zv : Nat) (zf : Value) (dd : Nat) (hs : ∀ d, d + 1 = dd → CT_ereadSum l D cI cJ cC cZ cS zk zv zf d) (hp : ∀ d, d + 1 = dd → CT_ereadPart l D cI cJ cC cZ cS zk zv zf d) (hq : CT_ereadPair l D cI cJ cC cZ cS zk zv zf dd) : CT_ereadPart l D cI cJ cC cZ cS zk zv zf dd := by
  intro q u0 kn xa xv xo xt xz xf xp tl tb h0 k1 k2 k3 k4 cl mw f1 og hxa hxz htl htb hcl hmw hkn hdd hO hlen
  refine skMZ_of pf_X8_readPart (Nat.le_of_ble_eq_true rfl) ?_
  intro p e s m below meth c A ls E hP hD hZ hl
  refine skE_el E (fun hx hb hr hml hlocks hin hown hts hK hA => ?_)
  have hown : s.vm.findClass RX8 = some m.cls := hown
  have hS : va_S A s.heap s.heap [] := va_S.rf
  have hl : lv_has ls 4 [(0, .ref u0), (1, .ref h0)] := hl
  refine lv_aload_n hx hb dX8_readPart_0 rfl (lv_at hl 0 rfl) ?_
  refine sk_get (v := .ref (q 2)) (C := RX8) (T := TX8) (N := 2) hx hb hts inlX8 hown hK hP 0 rfl rfl 0 (by decide) w_1_100 rfl dX8_readPart_1 ?_
  refine sk_get (v := .int xt) (C := RX6) (T := TX6) (N := 8) hx hb hts inlX6 hown hK hP 1 rfl rfl 4 (by decide) w_1_63 rfl dX8_readPart_4 ?_
  refine lv_istore_n (lv' := [(2, .int xt), (0, .ref u0), (1, .ref h0)]) hx hb dX8_readPart_7 rfl hl (by decide) rfl (fun ls hl => ?_)
  refine lv_iload_n hx hb dX8_readPart_8 rfl (lv_at hl 0 rfl) ?_
  refine lv_bipush (v := (-3)) hx hb dX8_readPart_9 (by decide) ?_
  refine lv_icmp_ne (tgt := 32) hx hb dX8_readPart_11 (by decide) (fun c_1 => ?_) (fun c_1 => ?_)
  · skip
    refine lv_iload_n hx hb dX8_readPart_32 rfl (lv_at hl 0 rfl) ?_
    refine lv_bipush (v := 40) hx hb dX8_readPart_33 (by decide) ?_
    refine lv_icmp_ne (tgt := 74) hx hb dX8_readPart_35 (by decide) (fun c_2 => ?_) (fun c_2 => ?_)
    · skip
      refine lv_iload_n hx hb dX8_readPart_74 rfl (lv_at hl 0 rfl) ?_
      refine lv_sipush (v := 277) hx hb dX8_readPart_75 (by decide) ?_
      refine lv_icmp_eq (tgt := 88) hx hb dX8_readPart_78 (by decide) (fun c_3 => ?_) (fun c_3 => ?_)
      · skip
        refine lv_aload_n hx hb dX8_readPart_88 rfl (lv_at hl 1 rfl) ?_
        refine sk_get (v := .ref (q 2)) (C := RX8) (T := TX8) (N := 2) hx hb hts inlX8 hown hK hP 0 rfl rfl 0 (by decide) w_1_100 rfl dX8_readPart_89 ?_
        refine sk_VvZ (q0 := 0) (n := 0) (rest := []) (wr := fmR om_6_1c _) ⟨hx, hb, hml, hown, hts⟩ hl.1 (c_erd_step l D cI cJ cC cZ cS zk zv zf q xa xv xo xt xz xf xp tl tb (bindR (rc og) (beF tb tl)) (by omega) (by omega) (by omega) htb (rd_st htb (hO).1 ⟨by rw [c_3]; decide, by rw [c_3]; decide⟩)) w_3_110 w_2_226 w_2_227 w_1_4 w_2_228 hd_X6_step_0 ⟨⟨(by dsimp only; omega), (by dsimp only; omega)⟩, (by dsimp only; omega), (by dsimp only; omega)⟩ hK hP hD hS hZ hA (fmT om_6_1c 0) (fmF om_6_1c 0) (fm_C1 rfl rfl) (fm_R rfl rfl) (fm_nT om_6_1c 0) (fm_nF om_6_1c 0) (fm_di om_6_1c 0) rfl rfl rfl rfl (Nat.le_of_ble_eq_true rfl) dX8_readPart_92 (fun u H locs hw hP hD hS => ?_)
        refine exE hw (fun xa2_4 hw1 => exE hw1 (fun xv2_5 hw2 => exE hw2 (fun xt2_6 hw3 => exE hw3 (fun xz2_7 hw4 => anE hw4 (fun hxa2_8 hw5 => anE hw5 (fun hxz2_9 hw6 => anE hw6 (fun hO2_10 eu_11 => ?_)))))))
        clear hw hw1 hw2 hw3 hw4 hw5 hw6
        refine o_mgE (ws' := [(u0, .inr (8, [.ref (q 2), .int (nI kn)])), (q 2, .inr (6, [.ref (q 0), .int (nI xa2_4), .int xv2_5, .int (nI xo), .int xt2_6, .int (nI xz2_7), .int xf, .int xp])), (q 0, .inr (10, [.ref (q 20), .int (nI tl)])), (q 20, .inl (cI, 1600, .inl (fun j => nI (tb j)))), (h0, .inr (0, [.ref k1, .ref k2, .ref k3, .ref k4, .int (nI cl), .int (nI mw)])), (k1, .inl (cI, 1600, .inl f1))]) eu_11 hP hD rfl (fun hP hD => ?_)
        rw [stF_nx] at hO2_10
        have hO_12 := rs_bd hO hO2_10
        have hL_13 := lenS_nx htb hO ⟨by rw [c_3]; decide, by rw [c_3]; decide⟩ hlen
        refine lv_aload_n hx hb dX8_readPart_95 rfl (lv_at hl 1 rfl) ?_
        refine lv_aload_n hx hb dX8_readPart_96 rfl (lv_at hl 2 rfl) ?_
        refine lv_iload_n hx hb dX8_readPart_97 rfl (lv_at hl 0 rfl) ?_
        refine lv_sipush (v := 277) hx hb dX8_readPart_98 (by decide) ?_
        refine lv_icmp_ne (tgt := 110) hx hb dX8_readPart_101 (by decide) (fun c => absurd c_3 c) (fun c_14 => ?_)
        refine lv_sipush (v := 30004) hx hb dX8_readPart_104 (by decide) ?_
        refine lv_goto (tgt := 113) hx hb dX8_readPart_107 (by decide) ?_
        refine sk_VvZ (q0 := 0) (n := 2) (rest := []) (wr := fmR om_6_3f _) ⟨hx, hb, hml, hown, hts⟩ hl.1 (hq q u0 kn xa2_4 xv2_5 xo xt2_6 xz2_7 xf xp tl tb h0 k1 k2 k3 k4 cl mw f1 (bd og (nxF tb tl)) 30004 5 (by omega) (by omega) (by omega) htb (by omega) (by omega) (by omega) (by omega) hO_12 (lenO_S hL_13) (by decide) (by omega)) w_3_111 w_3_113 w_0_9 w_1_6 w_3_114 hd_X8_readPair_2 ⟨⟨(by dsimp only; omega), (by dsimp only; omega)⟩, (by dsimp only; omega), (by dsimp only; omega)⟩ hK hP hD hS hZ hA (fmT om_6_3f 0) (fmF om_6_3f 0) (fm_C1 rfl rfl) (fm_R rfl rfl) (fm_nT om_6_3f 0) (fm_nF om_6_3f 0) (fm_di om_6_3f 0) rfl rfl rfl rfl (Nat.le_of_ble_eq_true rfl) dX8_readPart_113 (fun u H locs hw hP hD hS => ?_)
        refine exE hw (fun xa2_15 hw1 => exE hw1 (fun xv2_16 hw2 => exE hw2 (fun xt2_17 hw3 => exE hw3 (fun xz2_18 hw4 => exE hw4 (fun xf2_19 hw5 => exE hw5 (fun xp2_20 hw6 => exE hw6 (fun c2_21 hw7 => exE hw7 (fun w2_22 hw8 => exE hw8 (fun g1_23 hw9 => anE hw9 (fun hxa2_24 hw10 => anE hw10 (fun hxz2_25 hw11 => anE hw11 (fun hc2_26 hw12 => anE hw12 (fun hw2_27 hw13 => anE hw13 (fun hO2_28 eu_29 => ?_))))))))))))))
        clear hw hw1 hw2 hw3 hw4 hw5 hw6 hw7 hw8 hw9 hw10 hw11 hw12 hw13
        refine o_mgE (ws' := [(u0, .inr (8, [.ref (q 2), .int (nI kn)])), (q 2, .inr (6, [.ref (q 0), .int (nI xa2_15), .int xv2_16, .int (nI xo), .int xt2_17, .int (nI xz2_18), .int xf2_19, .int xp2_20])), (q 0, .inr (10, [.ref (q 20), .int (nI tl)])), (q 20, .inl (cI, 1600, .inl (fun j => nI (tb j)))), (h0, .inr (0, [.ref k1, .ref k2, .ref k3, .ref k4, .int (nI c2_21), .int (nI w2_22)])), (k1, .inl (cI, 1600, .inl g1_23))]) eu_29 hP hD rfl (fun hP hD => ?_)
        refine lv_goto (tgt := 217) hx hb dX8_readPart_116 (by decide) ?_
        exact sk_vret hx hb hr hlocks hK hP hD hS (⟨xa2_15, xv2_16, xt2_17, xz2_18, xf2_19, xp2_20, c2_21, w2_22, g1_23, by omega, by omega, by omega, by omega, by rw [← p_mm (v := 5) htb hO (Or.inl ⟨c_3, rfl⟩)]; exact hO2_28, rfl⟩) (Nat.le_of_ble_eq_true rfl) (Nat.le_of_ble_eq_true rfl) dX8_readPart_217
      · skip
        refine lv_iload_n hx hb dX8_readPart_81 rfl (lv_at hl 0 rfl) ?_
        refine lv_sipush (v := 278) hx hb dX8_readPart_82 (by decide) ?_
        refine lv_icmp_ne (tgt := 119) hx hb dX8_readPart_85 (by decide) (fun c_30 => ?_) (fun c_30 => ?_)
        · skip
          refine lv_iload_n hx hb dX8_readPart_119 rfl (lv_at hl 0 rfl) ?_
          refine lv_sipush (v := 272) hx hb dX8_readPart_120 (by decide) ?_
          refine lv_icmp_ne (tgt := 169) hx hb dX8_readPart_123 (by decide) (fun c_31 => ?_) (fun c_31 => ?_)
          · skip
            refine lv_aload_n hx hb dX8_readPart_169 rfl (lv_at hl 1 rfl) ?_
            refine sk_get (v := .int (nI kn)) (C := RX8) (T := TX8) (N := 2) hx hb hts inlX8 hown hK hP 0 rfl rfl 1 (by decide) w_1_101 rfl dX8_readPart_170 ?_
            refine lv_iconst (v := 2) hx hb dX8_readPart_173 (by decide) ?_
            refine lv_icmp_ne (tgt := 184) hx hb dX8_readPart_174 (by decide) (fun c_32 => ?_) (fun c_32 => ?_)
            · have c_32 : ¬ (kn = 2) := fun h => c_32 ((neq kn 2 (by omega) (by omega)).mpr h)
              refine lv_aload_n hx hb dX8_readPart_184 rfl (lv_at hl 1 rfl) ?_
              refine lv_iload_n hx hb dX8_readPart_185 rfl (lv_at hl 0 rfl) ?_
              refine sk_Vi (q0 := 0) (n := 1) (rest := []) (wr := fmR om_6_20 _) ⟨hx, hb, hml, hown, hts⟩ hl.1 (c_enameInLock l D cI cJ cC cZ cS u0 kn q xt (by omega)) w_3_118 w_3_120 w_0_10 w_1_6 w_3_121 hd_X8_nameInLock_1 ⟨⟨(by dsimp only; omega), (by dsimp only; omega)⟩, (by dsimp only; omega), (by dsimp only; omega)⟩ hK hP hD hS hA (fmT om_6_20 0) (fmF om_6_20 0) (fm_C1 rfl rfl) (fm_R rfl rfl) (fm_nT om_6_20 0) (fm_nF om_6_20 0) (fm_di om_6_20 0) rfl rfl rfl rfl (Nat.le_of_ble_eq_true rfl) dX8_readPart_186 (fun r_33 u H locs hw hP hD hS => ?_)
              refine anE hw (fun hnm_34 eu_35 => ?_)
              clear hw
              refine o_mgE (ws' := [(u0, .inr (8, [.ref (q 2), .int (nI kn)])), (q 2, .inr (6, [.ref (q 0), .int (nI xa), .int xv, .int (nI xo), .int xt, .int (nI xz), .int xf, .int xp])), (q 0, .inr (10, [.ref (q 20), .int (nI tl)])), (q 20, .inl (cI, 1600, .inl (fun j => nI (tb j)))), (h0, .inr (0, [.ref k1, .ref k2, .ref k3, .ref k4, .int (nI cl), .int (nI mw)])), (k1, .inl (cI, 1600, .inl f1))]) eu_35 hP hD rfl (fun hP hD => ?_)
              refine lv_istore_n (lv' := [(3, .int r_33), (2, .int xt), (0, .ref u0), (1, .ref h0)]) hx hb dX8_readPart_189 rfl hl (by decide) rfl (fun ls hl => ?_)
              refine lv_iload_n hx hb dX8_readPart_190 rfl (lv_at hl 0 rfl) ?_
              refine lv_iconst (v := (-1)) hx hb dX8_readPart_191 (by decide) ?_
              refine lv_icmp_ne (tgt := 205) hx hb dX8_readPart_192 (by decide) (fun c_36 => ?_) (fun c_36 => ?_)
              · obtain ⟨kx, hkxl, hkx, hkr⟩ := (hnm_34).resolve_left (fun hq => c_36 hq.1)
                refine lv_aload_n hx hb dX8_readPart_205 rfl (lv_at hl 3 rfl) ?_
                refine lv_iload_n hx hb dX8_readPart_206 rfl (lv_at hl 0 rfl) ?_
                refine sk_Vv (q0 := 0) (n := 1) (rest := []) (wr := fmR om_6_3 _) ⟨hx, hb, hml, hown, hts⟩ hl.1 (c_eCode_addX l D cI cJ cC cZ cS h0 k1 k2 k3 k4 cl mw f1 r_33 og (40 + kx) (by omega) (by omega) hkr (by omega) (hO).2 (rm_w htb hO htl (nIx_real hkx) hlen)) w_3_97 w_3_98 w_3_99 w_1_8 w_3_100 hd_X0_add_1 ⟨⟨(by dsimp only; omega), (by dsimp only; omega)⟩, (by dsimp only; omega), (by dsimp only; omega)⟩ hK hP hD hS hA (fmT om_6_3 0) (fmF om_6_3 0) (fm_C1 rfl rfl) (fm_R rfl rfl) (fm_nT om_6_3 0) (fm_nF om_6_3 0) (fm_di om_6_3 0) rfl rfl rfl rfl (Nat.le_of_ble_eq_true rfl) dX8_readPart_207 (fun u H locs hw hP hD hS => ?_)
                refine exE hw (fun c2_37 hw1 => exE hw1 (fun w2_38 hw2 => exE hw2 (fun g1_39 hw3 => anE hw3 (fun hc2_40 hw4 => anE hw4 (fun hw2_41 hw5 => anE hw5 (fun hO2_42 eu_43 => ?_))))))
                clear hw hw1 hw2 hw3 hw4 hw5
                refine o_mgE (ws' := [(u0, .inr (8, [.ref (q 2), .int (nI kn)])), (q 2, .inr (6, [.ref (q 0), .int (nI xa), .int xv, .int (nI xo), .int xt, .int (nI xz), .int xf, .int xp])), (q 0, .inr (10, [.ref (q 20), .int (nI tl)])), (q 20, .inl (cI, 1600, .inl (fun j => nI (tb j)))), (h0, .inr (0, [.ref k1, .ref k2, .ref k3, .ref k4, .int (nI c2_37), .int (nI w2_38)])), (k1, .inl (cI, 1600, .inl g1_39))]) eu_43 hP hD rfl (fun hP hD => ?_)
                have hO_44 := rs_ad hO hO2_42
                refine lv_aload_n hx hb dX8_readPart_210 rfl (lv_at hl 2 rfl) ?_
                refine sk_get (v := .ref (q 2)) (C := RX8) (T := TX8) (N := 2) hx hb hts inlX8 hown hK hP 0 rfl rfl 0 (by decide) w_1_100 rfl dX8_readPart_211 ?_
                refine sk_VvZ (q0 := 0) (n := 0) (rest := []) (wr := fmR om_6_1c _) ⟨hx, hb, hml, hown, hts⟩ hl.1 (c_erd_step l D cI cJ cC cZ cS zk zv zf q xa xv xo xt xz xf xp tl tb (bindR (rc (ad og (40 + kx))) (beF tb tl)) (by omega) (by omega) (by omega) htb (rd_st htb (hO_44).1 (nIx_real hkx))) w_3_110 w_2_226 w_2_227 w_1_4 w_2_228 hd_X6_step_0 ⟨⟨(by dsimp only; omega), (by dsimp only; omega)⟩, (by dsimp only; omega), (by dsimp only; omega)⟩ hK hP hD hS hZ hA (fmT om_6_1c 0) (fmF om_6_1c 0) (fm_C1 rfl rfl) (fm_R rfl rfl) (fm_nT om_6_1c 0) (fm_nF om_6_1c 0) (fm_di om_6_1c 0) rfl rfl rfl rfl (Nat.le_of_ble_eq_true rfl) dX8_readPart_214 (fun u H locs hw hP hD hS => ?_)
                refine exE hw (fun xa2_45 hw1 => exE hw1 (fun xv2_46 hw2 => exE hw2 (fun xt2_47 hw3 => exE hw3 (fun xz2_48 hw4 => anE hw4 (fun hxa2_49 hw5 => anE hw5 (fun hxz2_50 hw6 => anE hw6 (fun hO2_51 eu_52 => ?_)))))))
                clear hw hw1 hw2 hw3 hw4 hw5 hw6
                refine o_mgE (ws' := [(u0, .inr (8, [.ref (q 2), .int (nI kn)])), (q 2, .inr (6, [.ref (q 0), .int (nI xa2_45), .int xv2_46, .int (nI xo), .int xt2_47, .int (nI xz2_48), .int xf, .int xp])), (q 0, .inr (10, [.ref (q 20), .int (nI tl)])), (q 20, .inl (cI, 1600, .inl (fun j => nI (tb j)))), (h0, .inr (0, [.ref k1, .ref k2, .ref k3, .ref k4, .int (nI c2_37), .int (nI w2_38)])), (k1, .inl (cI, 1600, .inl g1_39))]) eu_52 hP hD rfl (fun hP hD => ?_)
                rw [stF_nx] at hO2_51
                have hO_53 := rs_bd hO_44 hO2_51
                exact sk_vret hx hb hr hlocks hK hP hD hS (⟨xa2_45, xv2_46, xt2_47, xz2_48, xf, xp, c2_37, w2_38, g1_39, by omega, by omega, by omega, by omega, by rw [← p_name htb hO c_2 c_3 c_30 (fun hq => c_31 hq.2) hkx]; exact hO_53, rfl⟩) (Nat.le_of_ble_eq_true rfl) (Nat.le_of_ble_eq_true rfl) dX8_readPart_217
              · have hkx := ((hnm_34).resolve_right (fun hq => by obtain ⟨k9, h9, -, e9⟩ := hq; exact cm_m1 h9 (e9.symm.trans c_36))).2
                refine lv_aload_n hx hb dX8_readPart_195 rfl (lv_at hl 2 rfl) ?_
                refine sk_get (v := .ref (q 2)) (C := RX8) (T := TX8) (N := 2) hx hb hts inlX8 hown hK hP 0 rfl rfl 0 (by decide) w_1_100 rfl dX8_readPart_196 ?_
                refine sk_Vv (q0 := 0) (n := 0) (rest := []) (wr := fmR om_6_10 _) ⟨hx, hb, hml, hown, hts⟩ hl.1 (c_erd_failHere l D cI cJ cC cZ cS q xa xv xo xt xz xf xp tl tb (rc og) (by omega) (hO).1) w_3_122 w_3_55 w_3_56 w_1_4 w_3_57 hd_X6_failHere_0 ⟨⟨(by dsimp only; omega), (by dsimp only; omega)⟩, (by dsimp only; omega), (by dsimp only; omega)⟩ hK hP hD hS hA (fmT om_6_10 0) (fmF om_6_10 0) (fm_C1 rfl rfl) (fm_R rfl rfl) (fm_nT om_6_10 0) (fm_nF om_6_10 0) (fm_di om_6_10 0) rfl rfl rfl rfl (Nat.le_of_ble_eq_true rfl) dX8_readPart_199 (fun u H locs hw hP hD hS => ?_)
                refine exE hw (fun xf2_54 hw1 => exE hw1 (fun xp2_55 hw2 => anE hw2 (fun hO2_56 eu_57 => ?_)))
                clear hw hw1 hw2
                refine o_mgE (ws' := [(u0, .inr (8, [.ref (q 2), .int (nI kn)])), (q 2, .inr (6, [.ref (q 0), .int (nI xa), .int xv, .int (nI xo), .int (-2), .int (nI xz), .int xf2_54, .int xp2_55])), (q 0, .inr (10, [.ref (q 20), .int (nI tl)])), (q 20, .inl (cI, 1600, .inl (fun j => nI (tb j)))), (h0, .inr (0, [.ref k1, .ref k2, .ref k3, .ref k4, .int (nI cl), .int (nI mw)])), (k1, .inl (cI, 1600, .inl f1))]) eu_57 hP hD rfl (fun hP hD => ?_)
                have hO_58 := rs_bd hO hO2_56
                have hL_59 := lenO_bd (fwd_here (k := 1)) hlen
                refine lv_goto (tgt := 217) hx hb dX8_readPart_202 (by decide) ?_
                exact sk_vret hx hb hr hlocks hK hP hD hS (⟨xa, xv, (-2), xz, xf2_54, xp2_55, cl, mw, f1, by omega, by omega, by omega, by omega, by rw [← p_none htb hO c_1 c_2 c_3 c_30 (fun hq => c_31 hq.2) hkx]; exact hO_58, rfl⟩) (Nat.le_of_ble_eq_true rfl) (Nat.le_of_ble_eq_true rfl) dX8_readPart_217
            · have c_32 : kn = 2 := (neq kn 2 (by omega) (by omega)).mp c_32
              refine lv_iload_n hx hb dX8_readPart_177 rfl (lv_at hl 0 rfl) ?_
              refine sk_Si (n := 1) (rest := []) (wr := [(u0, .inr (8, [.ref (q 2), .int (nI kn)])), (q 2, .inr (6, [.ref (q 0), .int (nI xa), .int xv, .int (nI xo), .int xt, .int (nI xz), .int xf, .int xp])), (q 0, .inr (10, [.ref (q 20), .int (nI tl)])), (q 20, .inl (cI, 1600, .inl (fun j => nI (tb j)))), (h0, .inr (0, [.ref k1, .ref k2, .ref k3, .ref k4, .int (nI cl), .int (nI mw)])), (k1, .inl (cI, 1600, .inl f1))]) ⟨hx, hb, hml, hown, hts⟩ hl.1 (c_enameInQuestion l D cI cJ cC cZ cS xt) w_3_115 w_3_116 w_1_6 w_3_117 hd_X8_nameInQuestion_1 ⟨⟨(by dsimp only; omega), (by dsimp only; omega)⟩, (by dsimp only; omega), (by dsimp only; omega)⟩ hK hP hD hS hA [] [0, 1, 2, 3, 4, 5] rfl rfl (by decide +kernel) (by decide +kernel) (by decide +kernel) rfl rfl (Nat.le_of_ble_eq_true rfl) dX8_readPart_178 (fun r_60 u H locs hw hP hD hS => ?_)
              obtain ⟨hnm_61, rfl⟩ := hw
              refine o_re (ws' := [(u0, .inr (8, [.ref (q 2), .int (nI kn)])), (q 2, .inr (6, [.ref (q 0), .int (nI xa), .int xv, .int (nI xo), .int xt, .int (nI xz), .int xf, .int xp])), (q 0, .inr (10, [.ref (q 20), .int (nI tl)])), (q 20, .inl (cI, 1600, .inl (fun j => nI (tb j)))), (h0, .inr (0, [.ref k1, .ref k2, .ref k3, .ref k4, .int (nI cl), .int (nI mw)])), (k1, .inl (cI, 1600, .inl f1))]) hP hD rfl (fun hP hD => ?_)
              obtain rfl : kn = 2 := by omega
              refine lv_goto (tgt := 189) hx hb dX8_readPart_181 (by decide) ?_
              refine lv_istore_n (lv' := [(3, .int r_60), (2, .int xt), (0, .ref u0), (1, .ref h0)]) hx hb dX8_readPart_189 rfl hl (by decide) rfl (fun ls hl => ?_)
              refine lv_iload_n hx hb dX8_readPart_190 rfl (lv_at hl 0 rfl) ?_
              refine lv_iconst (v := (-1)) hx hb dX8_readPart_191 (by decide) ?_
              refine lv_icmp_ne (tgt := 205) hx hb dX8_readPart_192 (by decide) (fun c_62 => ?_) (fun c_62 => ?_)
              · obtain ⟨kx, hkxl, hkx, hkr⟩ := (hnm_61).resolve_left (fun hq => c_62 hq.1)
                refine lv_aload_n hx hb dX8_readPart_205 rfl (lv_at hl 3 rfl) ?_
                refine lv_iload_n hx hb dX8_readPart_206 rfl (lv_at hl 0 rfl) ?_
                refine sk_Vv (q0 := 0) (n := 1) (rest := []) (wr := fmR om_6_3 _) ⟨hx, hb, hml, hown, hts⟩ hl.1 (c_eCode_addX l D cI cJ cC cZ cS h0 k1 k2 k3 k4 cl mw f1 r_60 og (40 + kx) (by omega) (by omega) hkr (by omega) (hO).2 (rm_w htb hO htl (nIx_real hkx) hlen)) w_3_97 w_3_98 w_3_99 w_1_8 w_3_100 hd_X0_add_1 ⟨⟨(by dsimp only; omega), (by dsimp only; omega)⟩, (by dsimp only; omega), (by dsimp only; omega)⟩ hK hP hD hS hA (fmT om_6_3 0) (fmF om_6_3 0) (fm_C1 rfl rfl) (fm_R rfl rfl) (fm_nT om_6_3 0) (fm_nF om_6_3 0) (fm_di om_6_3 0) rfl rfl rfl rfl (Nat.le_of_ble_eq_true rfl) dX8_readPart_207 (fun u H locs hw hP hD hS => ?_)
                refine exE hw (fun c2_63 hw1 => exE hw1 (fun w2_64 hw2 => exE hw2 (fun g1_65 hw3 => anE hw3 (fun hc2_66 hw4 => anE hw4 (fun hw2_67 hw5 => anE hw5 (fun hO2_68 eu_69 => ?_))))))
                clear hw hw1 hw2 hw3 hw4 hw5
                refine o_mgE (ws' := [(u0, .inr (8, [.ref (q 2), .int 2])), (q 2, .inr (6, [.ref (q 0), .int (nI xa), .int xv, .int (nI xo), .int xt, .int (nI xz), .int xf, .int xp])), (q 0, .inr (10, [.ref (q 20), .int (nI tl)])), (q 20, .inl (cI, 1600, .inl (fun j => nI (tb j)))), (h0, .inr (0, [.ref k1, .ref k2, .ref k3, .ref k4, .int (nI c2_63), .int (nI w2_64)])), (k1, .inl (cI, 1600, .inl g1_65))]) eu_69 hP hD rfl (fun hP hD => ?_)
                have hO_70 := rs_ad hO hO2_68
                refine lv_aload_n hx hb dX8_readPart_210 rfl (lv_at hl 2 rfl) ?_
                refine sk_get (v := .ref (q 2)) (C := RX8) (T := TX8) (N := 2) hx hb hts inlX8 hown hK hP 0 rfl rfl 0 (by decide) w_1_100 rfl dX8_readPart_211 ?_
                refine sk_VvZ (q0 := 0) (n := 0) (rest := []) (wr := fmR om_6_1c _) ⟨hx, hb, hml, hown, hts⟩ hl.1 (c_erd_step l D cI cJ cC cZ cS zk zv zf q xa xv xo xt xz xf xp tl tb (bindR (rc (ad og (40 + kx))) (beF tb tl)) (by omega) (by omega) (by omega) htb (rd_st htb (hO_70).1 (nIx_real hkx))) w_3_110 w_2_226 w_2_227 w_1_4 w_2_228 hd_X6_step_0 ⟨⟨(by dsimp only; omega), (by dsimp only; omega)⟩, (by dsimp only; omega), (by dsimp only; omega)⟩ hK hP hD hS hZ hA (fmT om_6_1c 0) (fmF om_6_1c 0) (fm_C1 rfl rfl) (fm_R rfl rfl) (fm_nT om_6_1c 0) (fm_nF om_6_1c 0) (fm_di om_6_1c 0) rfl rfl rfl rfl (Nat.le_of_ble_eq_true rfl) dX8_readPart_214 (fun u H locs hw hP hD hS => ?_)
                refine exE hw (fun xa2_71 hw1 => exE hw1 (fun xv2_72 hw2 => exE hw2 (fun xt2_73 hw3 => exE hw3 (fun xz2_74 hw4 => anE hw4 (fun hxa2_75 hw5 => anE hw5 (fun hxz2_76 hw6 => anE hw6 (fun hO2_77 eu_78 => ?_)))))))
                clear hw hw1 hw2 hw3 hw4 hw5 hw6
                refine o_mgE (ws' := [(u0, .inr (8, [.ref (q 2), .int 2])), (q 2, .inr (6, [.ref (q 0), .int (nI xa2_71), .int xv2_72, .int (nI xo), .int xt2_73, .int (nI xz2_74), .int xf, .int xp])), (q 0, .inr (10, [.ref (q 20), .int (nI tl)])), (q 20, .inl (cI, 1600, .inl (fun j => nI (tb j)))), (h0, .inr (0, [.ref k1, .ref k2, .ref k3, .ref k4, .int (nI c2_63), .int (nI w2_64)])), (k1, .inl (cI, 1600, .inl g1_65))]) eu_78 hP hD rfl (fun hP hD => ?_)
                rw [stF_nx] at hO2_77
                have hO_79 := rs_bd hO_70 hO2_77
                exact sk_vret hx hb hr hlocks hK hP hD hS (⟨xa2_71, xv2_72, xt2_73, xz2_74, xf, xp, c2_63, w2_64, g1_65, by omega, by omega, by omega, by omega, by rw [← p_name htb hO c_2 c_3 c_30 (fun hq => c_31 hq.2) hkx]; exact hO_79, rfl⟩) (Nat.le_of_ble_eq_true rfl) (Nat.le_of_ble_eq_true rfl) dX8_readPart_217
              · have hkx := ((hnm_61).resolve_right (fun hq => by obtain ⟨k9, h9, -, e9⟩ := hq; exact cm_m1 h9 (e9.symm.trans c_62))).2
                refine lv_aload_n hx hb dX8_readPart_195 rfl (lv_at hl 2 rfl) ?_
                refine sk_get (v := .ref (q 2)) (C := RX8) (T := TX8) (N := 2) hx hb hts inlX8 hown hK hP 0 rfl rfl 0 (by decide) w_1_100 rfl dX8_readPart_196 ?_
                refine sk_Vv (q0 := 0) (n := 0) (rest := []) (wr := fmR om_6_10 _) ⟨hx, hb, hml, hown, hts⟩ hl.1 (c_erd_failHere l D cI cJ cC cZ cS q xa xv xo xt xz xf xp tl tb (rc og) (by omega) (hO).1) w_3_122 w_3_55 w_3_56 w_1_4 w_3_57 hd_X6_failHere_0 ⟨⟨(by dsimp only; omega), (by dsimp only; omega)⟩, (by dsimp only; omega), (by dsimp only; omega)⟩ hK hP hD hS hA (fmT om_6_10 0) (fmF om_6_10 0) (fm_C1 rfl rfl) (fm_R rfl rfl) (fm_nT om_6_10 0) (fm_nF om_6_10 0) (fm_di om_6_10 0) rfl rfl rfl rfl (Nat.le_of_ble_eq_true rfl) dX8_readPart_199 (fun u H locs hw hP hD hS => ?_)
                refine exE hw (fun xf2_80 hw1 => exE hw1 (fun xp2_81 hw2 => anE hw2 (fun hO2_82 eu_83 => ?_)))
                clear hw hw1 hw2
                refine o_mgE (ws' := [(u0, .inr (8, [.ref (q 2), .int 2])), (q 2, .inr (6, [.ref (q 0), .int (nI xa), .int xv, .int (nI xo), .int (-2), .int (nI xz), .int xf2_80, .int xp2_81])), (q 0, .inr (10, [.ref (q 20), .int (nI tl)])), (q 20, .inl (cI, 1600, .inl (fun j => nI (tb j)))), (h0, .inr (0, [.ref k1, .ref k2, .ref k3, .ref k4, .int (nI cl), .int (nI mw)])), (k1, .inl (cI, 1600, .inl f1))]) eu_83 hP hD rfl (fun hP hD => ?_)
                have hO_84 := rs_bd hO hO2_82
                have hL_85 := lenO_bd (fwd_here (k := 1)) hlen
                refine lv_goto (tgt := 217) hx hb dX8_readPart_202 (by decide) ?_
                exact sk_vret hx hb hr hlocks hK hP hD hS (⟨xa, xv, (-2), xz, xf2_80, xp2_81, cl, mw, f1, by omega, by omega, by omega, by omega, by rw [← p_none htb hO c_1 c_2 c_3 c_30 (fun hq => c_31 hq.2) hkx]; exact hO_84, rfl⟩) (Nat.le_of_ble_eq_true rfl) (Nat.le_of_ble_eq_true rfl) dX8_readPart_217
          · skip
            refine lv_aload_n hx hb dX8_readPart_126 rfl (lv_at hl 1 rfl) ?_
            refine sk_get (v := .int (nI kn)) (C := RX8) (T := TX8) (N := 2) hx hb hts inlX8 hown hK hP 0 rfl rfl 1 (by decide) w_1_101 rfl dX8_readPart_127 ?_
            refine lv_iconst (v := 2) hx hb dX8_readPart_130 (by decide) ?_
            refine lv_icmp_ne (tgt := 169) hx hb dX8_readPart_131 (by decide) (fun c_86 => ?_) (fun c_86 => ?_)
            · have c_86 : ¬ (kn = 2) := fun h => c_86 ((neq kn 2 (by omega) (by omega)).mpr h)
              refine lv_aload_n hx hb dX8_readPart_169 rfl (lv_at hl 1 rfl) ?_
              refine sk_get (v := .int (nI kn)) (C := RX8) (T := TX8) (N := 2) hx hb hts inlX8 hown hK hP 0 rfl rfl 1 (by decide) w_1_101 rfl dX8_readPart_170 ?_
              refine lv_iconst (v := 2) hx hb dX8_readPart_173 (by decide) ?_
              refine lv_icmp_ne (tgt := 184) hx hb dX8_readPart_174 (by decide) (fun c_87 => ?_) (fun c_87 => ?_)
              · have c_87 : ¬ (kn = 2) := fun h => c_87 ((neq kn 2 (by omega) (by omega)).mpr h)
                refine lv_aload_n hx hb dX8_readPart_184 rfl (lv_at hl 1 rfl) ?_
                refine lv_iload_n hx hb dX8_readPart_185 rfl (lv_at hl 0 rfl) ?_
                refine sk_Vi (q0 := 0) (n := 1) (rest := []) (wr := fmR om_6_20 _) ⟨hx, hb, hml, hown, hts⟩ hl.1 (c_enameInLock l D cI cJ cC cZ cS u0 kn q xt (by omega)) w_3_118 w_3_120 w_0_10 w_1_6 w_3_121 hd_X8_nameInLock_1 ⟨⟨(by dsimp only; omega), (by dsimp only; omega)⟩, (by dsimp only; omega), (by dsimp only; omega)⟩ hK hP hD hS hA (fmT om_6_20 0) (fmF om_6_20 0) (fm_C1 rfl rfl) (fm_R rfl rfl) (fm_nT om_6_20 0) (fm_nF om_6_20 0) (fm_di om_6_20 0) rfl rfl rfl rfl (Nat.le_of_ble_eq_true rfl) dX8_readPart_186 (fun r_88 u H locs hw hP hD hS => ?_)
                refine anE hw (fun hnm_89 eu_90 => ?_)
                clear hw
                refine o_mgE (ws' := [(u0, .inr (8, [.ref (q 2), .int (nI kn)])), (q 2, .inr (6, [.ref (q 0), .int (nI xa), .int xv, .int (nI xo), .int xt, .int (nI xz), .int xf, .int xp])), (q 0, .inr (10, [.ref (q 20), .int (nI tl)])), (q 20, .inl (cI, 1600, .inl (fun j => nI (tb j)))), (h0, .inr (0, [.ref k1, .ref k2, .ref k3, .ref k4, .int (nI cl), .int (nI mw)])), (k1, .inl (cI, 1600, .inl f1))]) eu_90 hP hD rfl (fun hP hD => ?_)
                refine lv_istore_n (lv' := [(3, .int r_88), (2, .int xt), (0, .ref u0), (1, .ref h0)]) hx hb dX8_readPart_189 rfl hl (by decide) rfl (fun ls hl => ?_)
                refine lv_iload_n hx hb dX8_readPart_190 rfl (lv_at hl 0 rfl) ?_
                refine lv_iconst (v := (-1)) hx hb dX8_readPart_191 (by decide) ?_
                refine lv_icmp_ne (tgt := 205) hx hb dX8_readPart_192 (by decide) (fun c_91 => ?_) (fun c_91 => ?_)
                · obtain ⟨kx, hkxl, hkx, hkr⟩ := (hnm_89).resolve_left (fun hq => c_91 hq.1)
                  refine lv_aload_n hx hb dX8_readPart_205 rfl (lv_at hl 3 rfl) ?_
                  refine lv_iload_n hx hb dX8_readPart_206 rfl (lv_at hl 0 rfl) ?_
                  refine sk_Vv (q0 := 0) (n := 1) (rest := []) (wr := fmR om_6_3 _) ⟨hx, hb, hml, hown, hts⟩ hl.1 (c_eCode_addX l D cI cJ cC cZ cS h0 k1 k2 k3 k4 cl mw f1 r_88 og (40 + kx) (by omega) (by omega) hkr (by omega) (hO).2 (rm_w htb hO htl (nIx_real hkx) hlen)) w_3_97 w_3_98 w_3_99 w_1_8 w_3_100 hd_X0_add_1 ⟨⟨(by dsimp only; omega), (by dsimp only; omega)⟩, (by dsimp only; omega), (by dsimp only; omega)⟩ hK hP hD hS hA (fmT om_6_3 0) (fmF om_6_3 0) (fm_C1 rfl rfl) (fm_R rfl rfl) (fm_nT om_6_3 0) (fm_nF om_6_3 0) (fm_di om_6_3 0) rfl rfl rfl rfl (Nat.le_of_ble_eq_true rfl) dX8_readPart_207 (fun u H locs hw hP hD hS => ?_)
                  refine exE hw (fun c2_92 hw1 => exE hw1 (fun w2_93 hw2 => exE hw2 (fun g1_94 hw3 => anE hw3 (fun hc2_95 hw4 => anE hw4 (fun hw2_96 hw5 => anE hw5 (fun hO2_97 eu_98 => ?_))))))
                  clear hw hw1 hw2 hw3 hw4 hw5
                  refine o_mgE (ws' := [(u0, .inr (8, [.ref (q 2), .int (nI kn)])), (q 2, .inr (6, [.ref (q 0), .int (nI xa), .int xv, .int (nI xo), .int xt, .int (nI xz), .int xf, .int xp])), (q 0, .inr (10, [.ref (q 20), .int (nI tl)])), (q 20, .inl (cI, 1600, .inl (fun j => nI (tb j)))), (h0, .inr (0, [.ref k1, .ref k2, .ref k3, .ref k4, .int (nI c2_92), .int (nI w2_93)])), (k1, .inl (cI, 1600, .inl g1_94))]) eu_98 hP hD rfl (fun hP hD => ?_)
                  have hO_99 := rs_ad hO hO2_97
                  refine lv_aload_n hx hb dX8_readPart_210 rfl (lv_at hl 2 rfl) ?_
                  refine sk_get (v := .ref (q 2)) (C := RX8) (T := TX8) (N := 2) hx hb hts inlX8 hown hK hP 0 rfl rfl 0 (by decide) w_1_100 rfl dX8_readPart_211 ?_
                  refine sk_VvZ (q0 := 0) (n := 0) (rest := []) (wr := fmR om_6_1c _) ⟨hx, hb, hml, hown, hts⟩ hl.1 (c_erd_step l D cI cJ cC cZ cS zk zv zf q xa xv xo xt xz xf xp tl tb (bindR (rc (ad og (40 + kx))) (beF tb tl)) (by omega) (by omega) (by omega) htb (rd_st htb (hO_99).1 (nIx_real hkx))) w_3_110 w_2_226 w_2_227 w_1_4 w_2_228 hd_X6_step_0 ⟨⟨(by dsimp only; omega), (by dsimp only; omega)⟩, (by dsimp only; omega), (by dsimp only; omega)⟩ hK hP hD hS hZ hA (fmT om_6_1c 0) (fmF om_6_1c 0) (fm_C1 rfl rfl) (fm_R rfl rfl) (fm_nT om_6_1c 0) (fm_nF om_6_1c 0) (fm_di om_6_1c 0) rfl rfl rfl rfl (Nat.le_of_ble_eq_true rfl) dX8_readPart_214 (fun u H locs hw hP hD hS => ?_)
                  refine exE hw (fun xa2_100 hw1 => exE hw1 (fun xv2_101 hw2 => exE hw2 (fun xt2_102 hw3 => exE hw3 (fun xz2_103 hw4 => anE hw4 (fun hxa2_104 hw5 => anE hw5 (fun hxz2_105 hw6 => anE hw6 (fun hO2_106 eu_107 => ?_)))))))
                  clear hw hw1 hw2 hw3 hw4 hw5 hw6
                  refine o_mgE (ws' := [(u0, .inr (8, [.ref (q 2), .int (nI kn)])), (q 2, .inr (6, [.ref (q 0), .int (nI xa2_100), .int xv2_101, .int (nI xo), .int xt2_102, .int (nI xz2_103), .int xf, .int xp])), (q 0, .inr (10, [.ref (q 20), .int (nI tl)])), (q 20, .inl (cI, 1600, .inl (fun j => nI (tb j)))), (h0, .inr (0, [.ref k1, .ref k2, .ref k3, .ref k4, .int (nI c2_92), .int (nI w2_93)])), (k1, .inl (cI, 1600, .inl g1_94))]) eu_107 hP hD rfl (fun hP hD => ?_)
                  rw [stF_nx] at hO2_106
                  have hO_108 := rs_bd hO_99 hO2_106
                  exact sk_vret hx hb hr hlocks hK hP hD hS (⟨xa2_100, xv2_101, xt2_102, xz2_103, xf, xp, c2_92, w2_93, g1_94, by omega, by omega, by omega, by omega, by rw [← p_name htb hO c_2 c_3 c_30 (fun hq => absurd hq.1 (by omega)) hkx]; exact hO_108, rfl⟩) (Nat.le_of_ble_eq_true rfl) (Nat.le_of_ble_eq_true rfl) dX8_readPart_217
                · have hkx := ((hnm_89).resolve_right (fun hq => by obtain ⟨k9, h9, -, e9⟩ := hq; exact cm_m1 h9 (e9.symm.trans c_91))).2
                  refine lv_aload_n hx hb dX8_readPart_195 rfl (lv_at hl 2 rfl) ?_
                  refine sk_get (v := .ref (q 2)) (C := RX8) (T := TX8) (N := 2) hx hb hts inlX8 hown hK hP 0 rfl rfl 0 (by decide) w_1_100 rfl dX8_readPart_196 ?_
                  refine sk_Vv (q0 := 0) (n := 0) (rest := []) (wr := fmR om_6_10 _) ⟨hx, hb, hml, hown, hts⟩ hl.1 (c_erd_failHere l D cI cJ cC cZ cS q xa xv xo xt xz xf xp tl tb (rc og) (by omega) (hO).1) w_3_122 w_3_55 w_3_56 w_1_4 w_3_57 hd_X6_failHere_0 ⟨⟨(by dsimp only; omega), (by dsimp only; omega)⟩, (by dsimp only; omega), (by dsimp only; omega)⟩ hK hP hD hS hA (fmT om_6_10 0) (fmF om_6_10 0) (fm_C1 rfl rfl) (fm_R rfl rfl) (fm_nT om_6_10 0) (fm_nF om_6_10 0) (fm_di om_6_10 0) rfl rfl rfl rfl (Nat.le_of_ble_eq_true rfl) dX8_readPart_199 (fun u H locs hw hP hD hS => ?_)
                  refine exE hw (fun xf2_109 hw1 => exE hw1 (fun xp2_110 hw2 => anE hw2 (fun hO2_111 eu_112 => ?_)))
                  clear hw hw1 hw2
                  refine o_mgE (ws' := [(u0, .inr (8, [.ref (q 2), .int (nI kn)])), (q 2, .inr (6, [.ref (q 0), .int (nI xa), .int xv, .int (nI xo), .int (-2), .int (nI xz), .int xf2_109, .int xp2_110])), (q 0, .inr (10, [.ref (q 20), .int (nI tl)])), (q 20, .inl (cI, 1600, .inl (fun j => nI (tb j)))), (h0, .inr (0, [.ref k1, .ref k2, .ref k3, .ref k4, .int (nI cl), .int (nI mw)])), (k1, .inl (cI, 1600, .inl f1))]) eu_112 hP hD rfl (fun hP hD => ?_)
                  have hO_113 := rs_bd hO hO2_111
                  have hL_114 := lenO_bd (fwd_here (k := 1)) hlen
                  refine lv_goto (tgt := 217) hx hb dX8_readPart_202 (by decide) ?_
                  exact sk_vret hx hb hr hlocks hK hP hD hS (⟨xa, xv, (-2), xz, xf2_109, xp2_110, cl, mw, f1, by omega, by omega, by omega, by omega, by rw [← p_none htb hO c_1 c_2 c_3 c_30 (fun hq => absurd hq.1 (by omega)) hkx]; exact hO_113, rfl⟩) (Nat.le_of_ble_eq_true rfl) (Nat.le_of_ble_eq_true rfl) dX8_readPart_217
              · have c_87 : kn = 2 := (neq kn 2 (by omega) (by omega)).mp c_87
                refine lv_iload_n hx hb dX8_readPart_177 rfl (lv_at hl 0 rfl) ?_
                refine sk_Si (n := 1) (rest := []) (wr := [(u0, .inr (8, [.ref (q 2), .int (nI kn)])), (q 2, .inr (6, [.ref (q 0), .int (nI xa), .int xv, .int (nI xo), .int xt, .int (nI xz), .int xf, .int xp])), (q 0, .inr (10, [.ref (q 20), .int (nI tl)])), (q 20, .inl (cI, 1600, .inl (fun j => nI (tb j)))), (h0, .inr (0, [.ref k1, .ref k2, .ref k3, .ref k4, .int (nI cl), .int (nI mw)])), (k1, .inl (cI, 1600, .inl f1))]) ⟨hx, hb, hml, hown, hts⟩ hl.1 (c_enameInQuestion l D cI cJ cC cZ cS xt) w_3_115 w_3_116 w_1_6 w_3_117 hd_X8_nameInQuestion_1 ⟨⟨(by dsimp only; omega), (by dsimp only; omega)⟩, (by dsimp only; omega), (by dsimp only; omega)⟩ hK hP hD hS hA [] [0, 1, 2, 3, 4, 5] rfl rfl (by decide +kernel) (by decide +kernel) (by decide +kernel) rfl rfl (Nat.le_of_ble_eq_true rfl) dX8_readPart_178 (fun r_115 u H locs hw hP hD hS => ?_)
                obtain ⟨hnm_116, rfl⟩ := hw
                refine o_re (ws' := [(u0, .inr (8, [.ref (q 2), .int (nI kn)])), (q 2, .inr (6, [.ref (q 0), .int (nI xa), .int xv, .int (nI xo), .int xt, .int (nI xz), .int xf, .int xp])), (q 0, .inr (10, [.ref (q 20), .int (nI tl)])), (q 20, .inl (cI, 1600, .inl (fun j => nI (tb j)))), (h0, .inr (0, [.ref k1, .ref k2, .ref k3, .ref k4, .int (nI cl), .int (nI mw)])), (k1, .inl (cI, 1600, .inl f1))]) hP hD rfl (fun hP hD => ?_)
                obtain rfl : kn = 2 := by omega
                refine lv_goto (tgt := 189) hx hb dX8_readPart_181 (by decide) ?_
                refine lv_istore_n (lv' := [(3, .int r_115), (2, .int xt), (0, .ref u0), (1, .ref h0)]) hx hb dX8_readPart_189 rfl hl (by decide) rfl (fun ls hl => ?_)
                refine lv_iload_n hx hb dX8_readPart_190 rfl (lv_at hl 0 rfl) ?_
                refine lv_iconst (v := (-1)) hx hb dX8_readPart_191 (by decide) ?_
                refine lv_icmp_ne (tgt := 205) hx hb dX8_readPart_192 (by decide) (fun c_117 => ?_) (fun c_117 => ?_)
                · obtain ⟨kx, hkxl, hkx, hkr⟩ := (hnm_116).resolve_left (fun hq => c_117 hq.1)
                  refine lv_aload_n hx hb dX8_readPart_205 rfl (lv_at hl 3 rfl) ?_
                  refine lv_iload_n hx hb dX8_readPart_206 rfl (lv_at hl 0 rfl) ?_
                  refine sk_Vv (q0 := 0) (n := 1) (rest := []) (wr := fmR om_6_3 _) ⟨hx, hb, hml, hown, hts⟩ hl.1 (c_eCode_addX l D cI cJ cC cZ cS h0 k1 k2 k3 k4 cl mw f1 r_115 og (40 + kx) (by omega) (by omega) hkr (by omega) (hO).2 (rm_w htb hO htl (nIx_real hkx) hlen)) w_3_97 w_3_98 w_3_99 w_1_8 w_3_100 hd_X0_add_1 ⟨⟨(by dsimp only; omega), (by dsimp only; omega)⟩, (by dsimp only; omega), (by dsimp only; omega)⟩ hK hP hD hS hA (fmT om_6_3 0) (fmF om_6_3 0) (fm_C1 rfl rfl) (fm_R rfl rfl) (fm_nT om_6_3 0) (fm_nF om_6_3 0) (fm_di om_6_3 0) rfl rfl rfl rfl (Nat.le_of_ble_eq_true rfl) dX8_readPart_207 (fun u H locs hw hP hD hS => ?_)
                  refine exE hw (fun c2_118 hw1 => exE hw1 (fun w2_119 hw2 => exE hw2 (fun g1_120 hw3 => anE hw3 (fun hc2_121 hw4 => anE hw4 (fun hw2_122 hw5 => anE hw5 (fun hO2_123 eu_124 => ?_))))))
                  clear hw hw1 hw2 hw3 hw4 hw5
                  refine o_mgE (ws' := [(u0, .inr (8, [.ref (q 2), .int 2])), (q 2, .inr (6, [.ref (q 0), .int (nI xa), .int xv, .int (nI xo), .int xt, .int (nI xz), .int xf, .int xp])), (q 0, .inr (10, [.ref (q 20), .int (nI tl)])), (q 20, .inl (cI, 1600, .inl (fun j => nI (tb j)))), (h0, .inr (0, [.ref k1, .ref k2, .ref k3, .ref k4, .int (nI c2_118), .int (nI w2_119)])), (k1, .inl (cI, 1600, .inl g1_120))]) eu_124 hP hD rfl (fun hP hD => ?_)
                  have hO_125 := rs_ad hO hO2_123
                  refine lv_aload_n hx hb dX8_readPart_210 rfl (lv_at hl 2 rfl) ?_
                  refine sk_get (v := .ref (q 2)) (C := RX8) (T := TX8) (N := 2) hx hb hts inlX8 hown hK hP 0 rfl rfl 0 (by decide) w_1_100 rfl dX8_readPart_211 ?_
                  refine sk_VvZ (q0 := 0) (n := 0) (rest := []) (wr := fmR om_6_1c _) ⟨hx, hb, hml, hown, hts⟩ hl.1 (c_erd_step l D cI cJ cC cZ cS zk zv zf q xa xv xo xt xz xf xp tl tb (bindR (rc (ad og (40 + kx))) (beF tb tl)) (by omega) (by omega) (by omega) htb (rd_st htb (hO_125).1 (nIx_real hkx))) w_3_110 w_2_226 w_2_227 w_1_4 w_2_228 hd_X6_step_0 ⟨⟨(by dsimp only; omega), (by dsimp only; omega)⟩, (by dsimp only; omega), (by dsimp only; omega)⟩ hK hP hD hS hZ hA (fmT om_6_1c 0) (fmF om_6_1c 0) (fm_C1 rfl rfl) (fm_R rfl rfl) (fm_nT om_6_1c 0) (fm_nF om_6_1c 0) (fm_di om_6_1c 0) rfl rfl rfl rfl (Nat.le_of_ble_eq_true rfl) dX8_readPart_214 (fun u H locs hw hP hD hS => ?_)
                  refine exE hw (fun xa2_126 hw1 => exE hw1 (fun xv2_127 hw2 => exE hw2 (fun xt2_128 hw3 => exE hw3 (fun xz2_129 hw4 => anE hw4 (fun hxa2_130 hw5 => anE hw5 (fun hxz2_131 hw6 => anE hw6 (fun hO2_132 eu_133 => ?_)))))))
                  clear hw hw1 hw2 hw3 hw4 hw5 hw6
                  refine o_mgE (ws' := [(u0, .inr (8, [.ref (q 2), .int 2])), (q 2, .inr (6, [.ref (q 0), .int (nI xa2_126), .int xv2_127, .int (nI xo), .int xt2_128, .int (nI xz2_129), .int xf, .int xp])), (q 0, .inr (10, [.ref (q 20), .int (nI tl)])), (q 20, .inl (cI, 1600, .inl (fun j => nI (tb j)))), (h0, .inr (0, [.ref k1, .ref k2, .ref k3, .ref k4, .int (nI c2_118), .int (nI w2_119)])), (k1, .inl (cI, 1600, .inl g1_120))]) eu_133 hP hD rfl (fun hP hD => ?_)
                  rw [stF_nx] at hO2_132
                  have hO_134 := rs_bd hO_125 hO2_132
                  exact sk_vret hx hb hr hlocks hK hP hD hS (⟨xa2_126, xv2_127, xt2_128, xz2_129, xf, xp, c2_118, w2_119, g1_120, by omega, by omega, by omega, by omega, by rw [← p_name htb hO c_2 c_3 c_30 (fun hq => absurd hq.1 (by omega)) hkx]; exact hO_134, rfl⟩) (Nat.le_of_ble_eq_true rfl) (Nat.le_of_ble_eq_true rfl) dX8_readPart_217
                · have hkx := ((hnm_116).resolve_right (fun hq => by obtain ⟨k9, h9, -, e9⟩ := hq; exact cm_m1 h9 (e9.symm.trans c_117))).2
                  refine lv_aload_n hx hb dX8_readPart_195 rfl (lv_at hl 2 rfl) ?_
                  refine sk_get (v := .ref (q 2)) (C := RX8) (T := TX8) (N := 2) hx hb hts inlX8 hown hK hP 0 rfl rfl 0 (by decide) w_1_100 rfl dX8_readPart_196 ?_
                  refine sk_Vv (q0 := 0) (n := 0) (rest := []) (wr := fmR om_6_10 _) ⟨hx, hb, hml, hown, hts⟩ hl.1 (c_erd_failHere l D cI cJ cC cZ cS q xa xv xo xt xz xf xp tl tb (rc og) (by omega) (hO).1) w_3_122 w_3_55 w_3_56 w_1_4 w_3_57 hd_X6_failHere_0 ⟨⟨(by dsimp only; omega), (by dsimp only; omega)⟩, (by dsimp only; omega), (by dsimp only; omega)⟩ hK hP hD hS hA (fmT om_6_10 0) (fmF om_6_10 0) (fm_C1 rfl rfl) (fm_R rfl rfl) (fm_nT om_6_10 0) (fm_nF om_6_10 0) (fm_di om_6_10 0) rfl rfl rfl rfl (Nat.le_of_ble_eq_true rfl) dX8_readPart_199 (fun u H locs hw hP hD hS => ?_)
                  refine exE hw (fun xf2_135 hw1 => exE hw1 (fun xp2_136 hw2 => anE hw2 (fun hO2_137 eu_138 => ?_)))
                  clear hw hw1 hw2
                  refine o_mgE (ws' := [(u0, .inr (8, [.ref (q 2), .int 2])), (q 2, .inr (6, [.ref (q 0), .int (nI xa), .int xv, .int (nI xo), .int (-2), .int (nI xz), .int xf2_135, .int xp2_136])), (q 0, .inr (10, [.ref (q 20), .int (nI tl)])), (q 20, .inl (cI, 1600, .inl (fun j => nI (tb j)))), (h0, .inr (0, [.ref k1, .ref k2, .ref k3, .ref k4, .int (nI cl), .int (nI mw)])), (k1, .inl (cI, 1600, .inl f1))]) eu_138 hP hD rfl (fun hP hD => ?_)
                  have hO_139 := rs_bd hO hO2_137
                  have hL_140 := lenO_bd (fwd_here (k := 1)) hlen
                  refine lv_goto (tgt := 217) hx hb dX8_readPart_202 (by decide) ?_
                  exact sk_vret hx hb hr hlocks hK hP hD hS (⟨xa, xv, (-2), xz, xf2_135, xp2_136, cl, mw, f1, by omega, by omega, by omega, by omega, by rw [← p_none htb hO c_1 c_2 c_3 c_30 (fun hq => absurd hq.1 (by omega)) hkx]; exact hO_139, rfl⟩) (Nat.le_of_ble_eq_true rfl) (Nat.le_of_ble_eq_true rfl) dX8_readPart_217
            · have c_86 : kn = 2 := (neq kn 2 (by omega) (by omega)).mp c_86
              refine lv_aload_n hx hb dX8_readPart_134 rfl (lv_at hl 1 rfl) ?_
              refine sk_get (v := .ref (q 2)) (C := RX8) (T := TX8) (N := 2) hx hb hts inlX8 hown hK hP 0 rfl rfl 0 (by decide) w_1_100 rfl dX8_readPart_135 ?_
              refine lv_sipush (v := 272) hx hb dX8_readPart_138 (by decide) ?_
              refine sk_ViZ (q0 := 0) (n := 1) (rest := []) (wr := fmR om_6_1c _) ⟨hx, hb, hml, hown, hts⟩ hl.1 (c_erd_opens l D cI cJ cC cZ cS zk zv zf q xa xv xo xt xz xf xp tl tb 272 (rc og) (by omega) (by omega) (by omega) htb (by decide) (by omega) (hO).1) w_3_101 w_3_102 w_3_103 w_1_4 w_3_104 hd_X6_opens_1 ⟨⟨(by dsimp only; omega), (by dsimp only; omega)⟩, (by dsimp only; omega), (by dsimp only; omega)⟩ hK hP hD hS hZ hA (fmT om_6_1c 0) (fmF om_6_1c 0) (fm_C1 rfl rfl) (fm_R rfl rfl) (fm_nT om_6_1c 0) (fm_nF om_6_1c 0) (fm_di om_6_1c 0) rfl rfl rfl rfl (Nat.le_of_ble_eq_true rfl) dX8_readPart_141 (fun r_148 u H locs hw hP hD hS => ?_)
              refine exE hw (fun xa2_141 hw1 => exE hw1 (fun xv2_142 hw2 => exE hw2 (fun xt2_143 hw3 => exE hw3 (fun xz2_144 hw4 => exE hw4 (fun xf2_145 hw5 => exE hw5 (fun xp2_146 hw6 => exE hw6 (fun b_147 hw7 => anE hw7 (fun hxa2_149 hw8 => anE hw8 (fun hxz2_150 hw9 => anE hw9 (fun hb1_151 hw10 => anE hw10 (fun hO2_152 hw11 => anE hw11 (fun er_154 eu_153 => ?_))))))))))))
              clear hw hw1 hw2 hw3 hw4 hw5 hw6 hw7 hw8 hw9 hw10 hw11
              subst er_154
              refine o_mgE (ws' := [(u0, .inr (8, [.ref (q 2), .int (nI kn)])), (q 2, .inr (6, [.ref (q 0), .int (nI xa2_141), .int xv2_142, .int (nI (xo + b_147)), .int xt2_143, .int (nI xz2_144), .int xf2_145, .int xp2_146])), (q 0, .inr (10, [.ref (q 20), .int (nI tl)])), (q 20, .inl (cI, 1600, .inl (fun j => nI (tb j)))), (h0, .inr (0, [.ref k1, .ref k2, .ref k3, .ref k4, .int (nI cl), .int (nI mw)])), (k1, .inl (cI, 1600, .inl f1))]) eu_153 hP hD rfl (fun hP hD => ?_)
              have hO_155 := rs_bd hO hO2_152
              have hL_156 := lenS_op (n := tl) (w := 272) (xo := xo) htb (by decide) hlen
              refine lv_if_eq (tgt := 217) hx hb dX8_readPart_144 (by decide) (fun c_157 => ?_) (fun c_157 => ?_)
              · have c_157 : b_147 = 0 := (neq b_147 0 (by omega) (by omega)).mp c_157
                obtain rfl : b_147 = 0 := by omega
                exact sk_vret hx hb hr hlocks hK hP hD hS (⟨xa2_141, xv2_142, xt2_143, xz2_144, xf2_145, xp2_146, cl, mw, f1, by omega, by omega, by omega, by omega, by (have hk2 : kn = 2 := by omega); subst hk2; rw [← p_weeks0 (xo := xo) htb hO c_31 (rr_0 hb1_151 (by omega) c_31) (by have := rr_0 hb1_151 (by omega) c_31; omega)]; exact hO_155, rfl⟩) (Nat.le_of_ble_eq_true rfl) (Nat.le_of_ble_eq_true rfl) dX8_readPart_217
              · have c_157 : ¬ (b_147 = 0) := fun h => c_157 ((neq b_147 0 (by omega) (by omega)).mpr h)
                have hxo1 := (rr_1 hb1_151 (by omega)).1
                obtain rfl : b_147 = 1 := by omega
                refine lv_aload_n hx hb dX8_readPart_147 rfl (lv_at hl 1 rfl) ?_
                refine lv_aload_n hx hb dX8_readPart_148 rfl (lv_at hl 2 rfl) ?_
                refine sk_VvZ (q0 := 0) (n := 1) (rest := []) (wr := fmR om_6_3f _) ⟨hx, hb, hml, hown, hts⟩ hl.1 (hp (dd - 1) (by omega) q u0 kn xa2_141 xv2_142 (xo + 1) xt2_143 xz2_144 xf2_145 xp2_146 tl tb h0 k1 k2 k3 k4 cl mw f1 (bd og (opF tb tl 272 xo)) (by omega) (by omega) (by omega) htb (by omega) (by omega) (by omega) (by omega) hO_155 (lenO_S hL_156)) w_3_92 w_3_94 w_0_8 w_1_6 w_3_95 hd_X8_readPart_1 ⟨⟨(by dsimp only; omega), (by dsimp only; omega)⟩, (by dsimp only; omega), (by dsimp only; omega)⟩ hK hP hD hS hZ hA (fmT om_6_3f 0) (fmF om_6_3f 0) (fm_C1 rfl rfl) (fm_R rfl rfl) (fm_nT om_6_3f 0) (fm_nF om_6_3f 0) (fm_di om_6_3f 0) rfl rfl rfl rfl (Nat.le_of_ble_eq_true rfl) dX8_readPart_149 (fun u H locs hw hP hD hS => ?_)
                refine exE hw (fun xa2_158 hw1 => exE hw1 (fun xv2_159 hw2 => exE hw2 (fun xt2_160 hw3 => exE hw3 (fun xz2_161 hw4 => exE hw4 (fun xf2_162 hw5 => exE hw5 (fun xp2_163 hw6 => exE hw6 (fun c2_164 hw7 => exE hw7 (fun w2_165 hw8 => exE hw8 (fun g1_166 hw9 => anE hw9 (fun hxa2_167 hw10 => anE hw10 (fun hxz2_168 hw11 => anE hw11 (fun hc2_169 hw12 => anE hw12 (fun hw2_170 hw13 => anE hw13 (fun hO2_171 eu_172 => ?_))))))))))))))
                clear hw hw1 hw2 hw3 hw4 hw5 hw6 hw7 hw8 hw9 hw10 hw11 hw12 hw13
                refine o_mgE (ws' := [(u0, .inr (8, [.ref (q 2), .int (nI kn)])), (q 2, .inr (6, [.ref (q 0), .int (nI xa2_158), .int xv2_159, .int (nI (xo + 1)), .int xt2_160, .int (nI xz2_161), .int xf2_162, .int xp2_163])), (q 0, .inr (10, [.ref (q 20), .int (nI tl)])), (q 20, .inl (cI, 1600, .inl (fun j => nI (tb j)))), (h0, .inr (0, [.ref k1, .ref k2, .ref k3, .ref k4, .int (nI c2_164), .int (nI w2_165)])), (k1, .inl (cI, 1600, .inl g1_166))]) eu_172 hP hD rfl (fun hP hD => ?_)
                have hL_173 := lenS_ap (len_part (tb := tb) (n := tl) (kind := kn) (dd - 1)) hL_156
                refine lv_aload_n hx hb dX8_readPart_152 rfl (lv_at hl 2 rfl) ?_
                refine lv_sipush (v := 20000) hx hb dX8_readPart_153 (by decide) ?_
                refine sk_Vv (q0 := 0) (n := 1) (rest := []) (wr := fmR om_6_3 _) ⟨hx, hb, hml, hown, hts⟩ hl.1 (c_eCode_addX l D cI cJ cC cZ cS h0 k1 k2 k3 k4 c2_164 w2_165 g1_166 20000 (bindR (bd og (opF tb tl 272 xo)) (apF (rdPart tb tl kn (dd - 1)))) 60 (by omega) (by omega) (by decide) (by omega) (hO2_171).2 (rm_S hO2_171 htl hL_173)) w_3_97 w_3_98 w_3_99 w_1_8 w_3_100 hd_X0_add_1 ⟨⟨(by dsimp only; omega), (by dsimp only; omega)⟩, (by dsimp only; omega), (by dsimp only; omega)⟩ hK hP hD hS hA (fmT om_6_3 0) (fmF om_6_3 0) (fm_C1 rfl rfl) (fm_R rfl rfl) (fm_nT om_6_3 0) (fm_nF om_6_3 0) (fm_di om_6_3 0) rfl rfl rfl rfl (Nat.le_of_ble_eq_true rfl) dX8_readPart_156 (fun u H locs hw hP hD hS => ?_)
                refine exE hw (fun c2_174 hw1 => exE hw1 (fun w2_175 hw2 => exE hw2 (fun g1_176 hw3 => anE hw3 (fun hc2_177 hw4 => anE hw4 (fun hw2_178 hw5 => anE hw5 (fun hO2_179 eu_180 => ?_))))))
                clear hw hw1 hw2 hw3 hw4 hw5
                refine o_mgE (ws' := [(u0, .inr (8, [.ref (q 2), .int (nI kn)])), (q 2, .inr (6, [.ref (q 0), .int (nI xa2_158), .int xv2_159, .int (nI (xo + 1)), .int xt2_160, .int (nI xz2_161), .int xf2_162, .int xp2_163])), (q 0, .inr (10, [.ref (q 20), .int (nI tl)])), (q 20, .inl (cI, 1600, .inl (fun j => nI (tb j)))), (h0, .inr (0, [.ref k1, .ref k2, .ref k3, .ref k4, .int (nI c2_174), .int (nI w2_175)])), (k1, .inl (cI, 1600, .inl g1_176))]) eu_180 hP hD rfl (fun hP hD => ?_)
                have hO_181 := rs_ad hO2_171 hO2_179
                have hL_182 := lenO_ad (v := 60) hL_173
                refine lv_aload_n hx hb dX8_readPart_159 rfl (lv_at hl 1 rfl) ?_
                refine sk_get (v := .ref (q 2)) (C := RX8) (T := TX8) (N := 2) hx hb hts inlX8 hown hK hP 0 rfl rfl 0 (by decide) w_1_100 rfl dX8_readPart_160 ?_
                refine sk_Vv (q0 := 0) (n := 0) (rest := []) (wr := fmR om_6_10 _) ⟨hx, hb, hml, hown, hts⟩ hl.1 (c_erd_shuts l D cI cJ cC cZ cS q xa2_158 xv2_159 (xo + 1) xt2_160 xz2_161 xf2_162 xp2_163 (by omega) (by omega)) w_3_105 w_3_106 w_3_107 w_1_4 w_3_108 hd_X6_shuts_0 ⟨⟨(by dsimp only; omega), (by dsimp only; omega)⟩, (by dsimp only; omega), (by dsimp only; omega)⟩ hK hP hD hS hA (fmT om_6_10 0) (fmF om_6_10 0) (fm_C1 rfl rfl) (fm_R rfl rfl) (fm_nT om_6_10 0) (fm_nF om_6_10 0) (fm_di om_6_10 0) rfl rfl rfl rfl (Nat.le_of_ble_eq_true rfl) dX8_readPart_163 (fun u H locs hw hP hD hS => ?_)
                refine o_mgE (ws' := [(u0, .inr (8, [.ref (q 2), .int (nI kn)])), (q 2, .inr (6, [.ref (q 0), .int (nI xa2_158), .int xv2_159, .int (nI ((xo + 1) - 1)), .int xt2_160, .int (nI xz2_161), .int xf2_162, .int xp2_163])), (q 0, .inr (10, [.ref (q 20), .int (nI tl)])), (q 20, .inl (cI, 1600, .inl (fun j => nI (tb j)))), (h0, .inr (0, [.ref k1, .ref k2, .ref k3, .ref k4, .int (nI c2_174), .int (nI w2_175)])), (k1, .inl (cI, 1600, .inl g1_176))]) hw hP hD rfl (fun hP hD => ?_)
                refine lv_goto (tgt := 217) hx hb dX8_readPart_166 (by decide) ?_
                exact sk_vret hx hb hr hlocks hK hP hD hS (⟨xa2_158, xv2_159, xt2_160, xz2_161, xf2_162, xp2_163, c2_174, w2_175, g1_176, by omega, by omega, by omega, by omega, by (have hk2 : kn = 2 := by omega); subst hk2; rw [← p_weeks (xo := xo) htb hO c_31 (by omega) (by omega)]; exact hO_181, rfl⟩) (Nat.le_of_ble_eq_true rfl) (Nat.le_of_ble_eq_true rfl) dX8_readPart_217
        · skip
          refine lv_aload_n hx hb dX8_readPart_88 rfl (lv_at hl 1 rfl) ?_
          refine sk_get (v := .ref (q 2)) (C := RX8) (T := TX8) (N := 2) hx hb hts inlX8 hown hK hP 0 rfl rfl 0 (by decide) w_1_100 rfl dX8_readPart_89 ?_
          refine sk_VvZ (q0 := 0) (n := 0) (rest := []) (wr := fmR om_6_1c _) ⟨hx, hb, hml, hown, hts⟩ hl.1 (c_erd_step l D cI cJ cC cZ cS zk zv zf q xa xv xo xt xz xf xp tl tb (bindR (rc og) (beF tb tl)) (by omega) (by omega) (by omega) htb (rd_st htb (hO).1 ⟨by rw [c_30]; decide, by rw [c_30]; decide⟩)) w_3_110 w_2_226 w_2_227 w_1_4 w_2_228 hd_X6_step_0 ⟨⟨(by dsimp only; omega), (by dsimp only; omega)⟩, (by dsimp only; omega), (by dsimp only; omega)⟩ hK hP hD hS hZ hA (fmT om_6_1c 0) (fmF om_6_1c 0) (fm_C1 rfl rfl) (fm_R rfl rfl) (fm_nT om_6_1c 0) (fm_nF om_6_1c 0) (fm_di om_6_1c 0) rfl rfl rfl rfl (Nat.le_of_ble_eq_true rfl) dX8_readPart_92 (fun u H locs hw hP hD hS => ?_)
          refine exE hw (fun xa2_183 hw1 => exE hw1 (fun xv2_184 hw2 => exE hw2 (fun xt2_185 hw3 => exE hw3 (fun xz2_186 hw4 => anE hw4 (fun hxa2_187 hw5 => anE hw5 (fun hxz2_188 hw6 => anE hw6 (fun hO2_189 eu_190 => ?_)))))))
          clear hw hw1 hw2 hw3 hw4 hw5 hw6
          refine o_mgE (ws' := [(u0, .inr (8, [.ref (q 2), .int (nI kn)])), (q 2, .inr (6, [.ref (q 0), .int (nI xa2_183), .int xv2_184, .int (nI xo), .int xt2_185, .int (nI xz2_186), .int xf, .int xp])), (q 0, .inr (10, [.ref (q 20), .int (nI tl)])), (q 20, .inl (cI, 1600, .inl (fun j => nI (tb j)))), (h0, .inr (0, [.ref k1, .ref k2, .ref k3, .ref k4, .int (nI cl), .int (nI mw)])), (k1, .inl (cI, 1600, .inl f1))]) eu_190 hP hD rfl (fun hP hD => ?_)
          rw [stF_nx] at hO2_189
          have hO_191 := rs_bd hO hO2_189
          have hL_192 := lenS_nx htb hO ⟨by rw [c_30]; decide, by rw [c_30]; decide⟩ hlen
          refine lv_aload_n hx hb dX8_readPart_95 rfl (lv_at hl 1 rfl) ?_
          refine lv_aload_n hx hb dX8_readPart_96 rfl (lv_at hl 2 rfl) ?_
          refine lv_iload_n hx hb dX8_readPart_97 rfl (lv_at hl 0 rfl) ?_
          refine lv_sipush (v := 277) hx hb dX8_readPart_98 (by decide) ?_
          refine lv_icmp_ne (tgt := 110) hx hb dX8_readPart_101 (by decide) (fun c_193 => ?_) (fun c => absurd c c_3)
          refine lv_sipush (v := 30005) hx hb dX8_readPart_110 (by decide) ?_
          refine sk_VvZ (q0 := 0) (n := 2) (rest := []) (wr := fmR om_6_3f _) ⟨hx, hb, hml, hown, hts⟩ hl.1 (hq q u0 kn xa2_183 xv2_184 xo xt2_185 xz2_186 xf xp tl tb h0 k1 k2 k3 k4 cl mw f1 (bd og (nxF tb tl)) 30005 6 (by omega) (by omega) (by omega) htb (by omega) (by omega) (by omega) (by omega) hO_191 (lenO_S hL_192) (by decide) (by omega)) w_3_111 w_3_113 w_0_9 w_1_6 w_3_114 hd_X8_readPair_2 ⟨⟨(by dsimp only; omega), (by dsimp only; omega)⟩, (by dsimp only; omega), (by dsimp only; omega)⟩ hK hP hD hS hZ hA (fmT om_6_3f 0) (fmF om_6_3f 0) (fm_C1 rfl rfl) (fm_R rfl rfl) (fm_nT om_6_3f 0) (fm_nF om_6_3f 0) (fm_di om_6_3f 0) rfl rfl rfl rfl (Nat.le_of_ble_eq_true rfl) dX8_readPart_113 (fun u H locs hw hP hD hS => ?_)
          refine exE hw (fun xa2_194 hw1 => exE hw1 (fun xv2_195 hw2 => exE hw2 (fun xt2_196 hw3 => exE hw3 (fun xz2_197 hw4 => exE hw4 (fun xf2_198 hw5 => exE hw5 (fun xp2_199 hw6 => exE hw6 (fun c2_200 hw7 => exE hw7 (fun w2_201 hw8 => exE hw8 (fun g1_202 hw9 => anE hw9 (fun hxa2_203 hw10 => anE hw10 (fun hxz2_204 hw11 => anE hw11 (fun hc2_205 hw12 => anE hw12 (fun hw2_206 hw13 => anE hw13 (fun hO2_207 eu_208 => ?_))))))))))))))
          clear hw hw1 hw2 hw3 hw4 hw5 hw6 hw7 hw8 hw9 hw10 hw11 hw12 hw13
          refine o_mgE (ws' := [(u0, .inr (8, [.ref (q 2), .int (nI kn)])), (q 2, .inr (6, [.ref (q 0), .int (nI xa2_194), .int xv2_195, .int (nI xo), .int xt2_196, .int (nI xz2_197), .int xf2_198, .int xp2_199])), (q 0, .inr (10, [.ref (q 20), .int (nI tl)])), (q 20, .inl (cI, 1600, .inl (fun j => nI (tb j)))), (h0, .inr (0, [.ref k1, .ref k2, .ref k3, .ref k4, .int (nI c2_200), .int (nI w2_201)])), (k1, .inl (cI, 1600, .inl g1_202))]) eu_208 hP hD rfl (fun hP hD => ?_)
          refine lv_goto (tgt := 217) hx hb dX8_readPart_116 (by decide) ?_
          exact sk_vret hx hb hr hlocks hK hP hD hS (⟨xa2_194, xv2_195, xt2_196, xz2_197, xf2_198, xp2_199, c2_200, w2_201, g1_202, by omega, by omega, by omega, by omega, by rw [← p_mm (v := 6) htb hO (Or.inr ⟨c_30, rfl⟩)]; exact hO2_207, rfl⟩) (Nat.le_of_ble_eq_true rfl) (Nat.le_of_ble_eq_true rfl) dX8_readPart_217
    · skip
      refine lv_aload_n hx hb dX8_readPart_38 rfl (lv_at hl 1 rfl) ?_
      refine sk_get (v := .ref (q 2)) (C := RX8) (T := TX8) (N := 2) hx hb hts inlX8 hown hK hP 0 rfl rfl 0 (by decide) w_1_100 rfl dX8_readPart_39 ?_
      refine lv_bipush (v := 40) hx hb dX8_readPart_42 (by decide) ?_
      refine sk_ViZ (q0 := 0) (n := 1) (rest := []) (wr := fmR om_6_1c _) ⟨hx, hb, hml, hown, hts⟩ hl.1 (c_erd_opens l D cI cJ cC cZ cS zk zv zf q xa xv xo xt xz xf xp tl tb 40 (rc og) (by omega) (by omega) (by omega) htb (by decide) (by omega) (hO).1) w_3_101 w_3_102 w_3_103 w_1_4 w_3_104 hd_X6_opens_1 ⟨⟨(by dsimp only; omega), (by dsimp only; omega)⟩, (by dsimp only; omega), (by dsimp only; omega)⟩ hK hP hD hS hZ hA (fmT om_6_1c 0) (fmF om_6_1c 0) (fm_C1 rfl rfl) (fm_R rfl rfl) (fm_nT om_6_1c 0) (fm_nF om_6_1c 0) (fm_di om_6_1c 0) rfl rfl rfl rfl (Nat.le_of_ble_eq_true rfl) dX8_readPart_44 (fun r_216 u H locs hw hP hD hS => ?_)
      refine exE hw (fun xa2_209 hw1 => exE hw1 (fun xv2_210 hw2 => exE hw2 (fun xt2_211 hw3 => exE hw3 (fun xz2_212 hw4 => exE hw4 (fun xf2_213 hw5 => exE hw5 (fun xp2_214 hw6 => exE hw6 (fun b_215 hw7 => anE hw7 (fun hxa2_217 hw8 => anE hw8 (fun hxz2_218 hw9 => anE hw9 (fun hb1_219 hw10 => anE hw10 (fun hO2_220 hw11 => anE hw11 (fun er_222 eu_221 => ?_))))))))))))
      clear hw hw1 hw2 hw3 hw4 hw5 hw6 hw7 hw8 hw9 hw10 hw11
      subst er_222
      refine o_mgE (ws' := [(u0, .inr (8, [.ref (q 2), .int (nI kn)])), (q 2, .inr (6, [.ref (q 0), .int (nI xa2_209), .int xv2_210, .int (nI (xo + b_215)), .int xt2_211, .int (nI xz2_212), .int xf2_213, .int xp2_214])), (q 0, .inr (10, [.ref (q 20), .int (nI tl)])), (q 20, .inl (cI, 1600, .inl (fun j => nI (tb j)))), (h0, .inr (0, [.ref k1, .ref k2, .ref k3, .ref k4, .int (nI cl), .int (nI mw)])), (k1, .inl (cI, 1600, .inl f1))]) eu_221 hP hD rfl (fun hP hD => ?_)
      have hO_223 := rs_bd hO hO2_220
      have hL_224 := lenS_op (n := tl) (w := 40) (xo := xo) htb (by decide) hlen
      refine lv_if_eq (tgt := 217) hx hb dX8_readPart_47 (by decide) (fun c_225 => ?_) (fun c_225 => ?_)
      · have c_225 : b_215 = 0 := (neq b_215 0 (by omega) (by omega)).mp c_225
        obtain rfl : b_215 = 0 := by omega
        exact sk_vret hx hb hr hlocks hK hP hD hS (⟨xa2_209, xv2_210, xt2_211, xz2_212, xf2_213, xp2_214, cl, mw, f1, by omega, by omega, by omega, by omega, by rw [← p_round0 (xo := xo) htb hO c_2 (rr_0 hb1_219 (by omega) c_2) (by have := rr_0 hb1_219 (by omega) c_2; omega)]; exact hO_223, rfl⟩) (Nat.le_of_ble_eq_true rfl) (Nat.le_of_ble_eq_true rfl) dX8_readPart_217
      · have c_225 : ¬ (b_215 = 0) := fun h => c_225 ((neq b_215 0 (by omega) (by omega)).mpr h)
        have hxo1 := (rr_1 hb1_219 (by omega)).1
        obtain rfl : b_215 = 1 := by omega
        refine lv_aload_n hx hb dX8_readPart_50 rfl (lv_at hl 1 rfl) ?_
        refine lv_aload_n hx hb dX8_readPart_51 rfl (lv_at hl 2 rfl) ?_
        refine sk_VvZ (q0 := 0) (n := 1) (rest := []) (wr := fmR om_6_3f _) ⟨hx, hb, hml, hown, hts⟩ hl.1 (hs (dd - 1) (by omega) q u0 kn xa2_209 xv2_210 (xo + 1) xt2_211 xz2_212 xf2_213 xp2_214 tl tb h0 k1 k2 k3 k4 cl mw f1 (bd og (opF tb tl 40 xo)) (by omega) (by omega) (by omega) htb (by omega) (by omega) (by omega) (by omega) hO_223 (lenO_S hL_224)) w_3_84 w_3_86 w_0_6 w_1_6 w_3_87 hd_X8_readSum_1 ⟨⟨(by dsimp only; omega), (by dsimp only; omega)⟩, (by dsimp only; omega), (by dsimp only; omega)⟩ hK hP hD hS hZ hA (fmT om_6_3f 0) (fmF om_6_3f 0) (fm_C1 rfl rfl) (fm_R rfl rfl) (fm_nT om_6_3f 0) (fm_nF om_6_3f 0) (fm_di om_6_3f 0) rfl rfl rfl rfl (Nat.le_of_ble_eq_true rfl) dX8_readPart_52 (fun u H locs hw hP hD hS => ?_)
        refine exE hw (fun xa2_226 hw1 => exE hw1 (fun xv2_227 hw2 => exE hw2 (fun xt2_228 hw3 => exE hw3 (fun xz2_229 hw4 => exE hw4 (fun xf2_230 hw5 => exE hw5 (fun xp2_231 hw6 => exE hw6 (fun c2_232 hw7 => exE hw7 (fun w2_233 hw8 => exE hw8 (fun g1_234 hw9 => anE hw9 (fun hxa2_235 hw10 => anE hw10 (fun hxz2_236 hw11 => anE hw11 (fun hc2_237 hw12 => anE hw12 (fun hw2_238 hw13 => anE hw13 (fun hO2_239 eu_240 => ?_))))))))))))))
        clear hw hw1 hw2 hw3 hw4 hw5 hw6 hw7 hw8 hw9 hw10 hw11 hw12 hw13
        refine o_mgE (ws' := [(u0, .inr (8, [.ref (q 2), .int (nI kn)])), (q 2, .inr (6, [.ref (q 0), .int (nI xa2_226), .int xv2_227, .int (nI (xo + 1)), .int xt2_228, .int (nI xz2_229), .int xf2_230, .int xp2_231])), (q 0, .inr (10, [.ref (q 20), .int (nI tl)])), (q 20, .inl (cI, 1600, .inl (fun j => nI (tb j)))), (h0, .inr (0, [.ref k1, .ref k2, .ref k3, .ref k4, .int (nI c2_232), .int (nI w2_233)])), (k1, .inl (cI, 1600, .inl g1_234))]) eu_240 hP hD rfl (fun hP hD => ?_)
        have hL_241 := lenS_ap (len_sum (tb := tb) (n := tl) (len_part (tb := tb) (n := tl) (kind := kn) (dd - 1))) hL_224
        refine lv_aload_n hx hb dX8_readPart_55 rfl (lv_at hl 1 rfl) ?_
        refine sk_get (v := .ref (q 2)) (C := RX8) (T := TX8) (N := 2) hx hb hts inlX8 hown hK hP 0 rfl rfl 0 (by decide) w_1_100 rfl dX8_readPart_56 ?_
        refine sk_Vv (q0 := 0) (n := 0) (rest := []) (wr := fmR om_6_10 _) ⟨hx, hb, hml, hown, hts⟩ hl.1 (c_erd_shuts l D cI cJ cC cZ cS q xa2_226 xv2_227 (xo + 1) xt2_228 xz2_229 xf2_230 xp2_231 (by omega) (by omega)) w_3_105 w_3_106 w_3_107 w_1_4 w_3_108 hd_X6_shuts_0 ⟨⟨(by dsimp only; omega), (by dsimp only; omega)⟩, (by dsimp only; omega), (by dsimp only; omega)⟩ hK hP hD hS hA (fmT om_6_10 0) (fmF om_6_10 0) (fm_C1 rfl rfl) (fm_R rfl rfl) (fm_nT om_6_10 0) (fm_nF om_6_10 0) (fm_di om_6_10 0) rfl rfl rfl rfl (Nat.le_of_ble_eq_true rfl) dX8_readPart_59 (fun u H locs hw hP hD hS => ?_)
        refine o_mgE (ws' := [(u0, .inr (8, [.ref (q 2), .int (nI kn)])), (q 2, .inr (6, [.ref (q 0), .int (nI xa2_226), .int xv2_227, .int (nI ((xo + 1) - 1)), .int xt2_228, .int (nI xz2_229), .int xf2_230, .int xp2_231])), (q 0, .inr (10, [.ref (q 20), .int (nI tl)])), (q 20, .inl (cI, 1600, .inl (fun j => nI (tb j)))), (h0, .inr (0, [.ref k1, .ref k2, .ref k3, .ref k4, .int (nI c2_232), .int (nI w2_233)])), (k1, .inl (cI, 1600, .inl g1_234))]) hw hP hD rfl (fun hP hD => ?_)
        refine lv_aload_n hx hb dX8_readPart_62 rfl (lv_at hl 1 rfl) ?_
        refine sk_get (v := .ref (q 2)) (C := RX8) (T := TX8) (N := 2) hx hb hts inlX8 hown hK hP 0 rfl rfl 0 (by decide) w_1_100 rfl dX8_readPart_63 ?_
        refine lv_bipush (v := 41) hx hb dX8_readPart_66 (by decide) ?_
        refine sk_VvZ (q0 := 0) (n := 1) (rest := []) (wr := fmR om_6_1c _) ⟨hx, hb, hml, hown, hts⟩ hl.1 (c_erd_needs l D cI cJ cC cZ cS zk zv zf q xa2_226 xv2_227 ((xo + 1) - 1) xt2_228 xz2_229 xf2_230 xp2_231 tl tb 41 (rc (bindR (bd og (opF tb tl 40 xo)) (apF (sumOf tb tl (rdPart tb tl kn (dd - 1)))))) (by omega) (by omega) (by omega) htb (by decide) (hO2_239).1) w_3_109 w_3_51 w_3_52 w_1_4 w_3_53 hd_X6_needs_1 ⟨⟨(by dsimp only; omega), (by dsimp only; omega)⟩, (by dsimp only; omega), (by dsimp only; omega)⟩ hK hP hD hS hZ hA (fmT om_6_1c 0) (fmF om_6_1c 0) (fm_C1 rfl rfl) (fm_R rfl rfl) (fm_nT om_6_1c 0) (fm_nF om_6_1c 0) (fm_di om_6_1c 0) rfl rfl rfl rfl (Nat.le_of_ble_eq_true rfl) dX8_readPart_68 (fun u H locs hw hP hD hS => ?_)
        refine exE hw (fun xa2_242 hw1 => exE hw1 (fun xv2_243 hw2 => exE hw2 (fun xt2_244 hw3 => exE hw3 (fun xz2_245 hw4 => exE hw4 (fun xf2_246 hw5 => exE hw5 (fun xp2_247 hw6 => anE hw6 (fun hxa2_248 hw7 => anE hw7 (fun hxz2_249 hw8 => anE hw8 (fun hO2_250 eu_251 => ?_)))))))))
        clear hw hw1 hw2 hw3 hw4 hw5 hw6 hw7 hw8
        refine o_mgE (ws' := [(u0, .inr (8, [.ref (q 2), .int (nI kn)])), (q 2, .inr (6, [.ref (q 0), .int (nI xa2_242), .int xv2_243, .int (nI ((xo + 1) - 1)), .int xt2_244, .int (nI xz2_245), .int xf2_246, .int xp2_247])), (q 0, .inr (10, [.ref (q 20), .int (nI tl)])), (q 20, .inl (cI, 1600, .inl (fun j => nI (tb j)))), (h0, .inr (0, [.ref k1, .ref k2, .ref k3, .ref k4, .int (nI c2_232), .int (nI w2_233)])), (k1, .inl (cI, 1600, .inl g1_234))]) eu_251 hP hD rfl (fun hP hD => ?_)
        have hO_252 := rs_bd hO2_239 hO2_250
        have hL_253 := lenS_bd (fwd_tk (tb := tb) (n := tl) (w := 41)) hL_241
        refine lv_goto (tgt := 217) hx hb dX8_readPart_71 (by decide) ?_
        exact sk_vret hx hb hr hlocks hK hP hD hS (⟨xa2_242, xv2_243, xt2_244, xz2_245, xf2_246, xp2_247, c2_232, w2_233, g1_234, by omega, by omega, by omega, by omega, by rw [← p_round (xo := xo) htb hO c_2 (by omega) (by omega)]; exact hO_252, rfl⟩) (Nat.le_of_ble_eq_true rfl) (Nat.le_of_ble_eq_true rfl) dX8_readPart_217
  · skip
    refine lv_aload_n hx hb dX8_readPart_14 rfl (lv_at hl 2 rfl) ?_
    refine lv_aload_n hx hb dX8_readPart_15 rfl (lv_at hl 1 rfl) ?_
    refine sk_get (v := .ref (q 2)) (C := RX8) (T := TX8) (N := 2) hx hb hts inlX8 hown hK hP 0 rfl rfl 0 (by decide) w_1_100 rfl dX8_readPart_16 ?_
    refine lv_iconst (v := 0) hx hb dX8_readPart_19 (by decide) ?_
    refine lv_sipush (v := 9999) hx hb dX8_readPart_20 (by decide) ?_
    refine sk_ViZ (q0 := 0) (n := 2) (rest := [.ref h0]) (wr := fmR om_6_1c _) ⟨hx, hb, hml, hown, hts⟩ hl.1 (c_erd_takeNumber l D cI cJ cC cZ cS zk zv zf q xa xv xo xt xz xf xp tl tb 0 9999 (rc og) (by omega) (by omega) (by omega) htb (by omega) (by omega) (hO).1) w_3_96 w_3_63 w_3_64 w_1_4 w_3_65 hd_X6_takeNumber_2 ⟨⟨(by dsimp only; omega), (by dsimp only; omega)⟩, (by dsimp only; omega), (by dsimp only; omega)⟩ hK hP hD hS hZ hA (fmT om_6_1c 0) (fmF om_6_1c 0) (fm_C1 rfl rfl) (fm_R rfl rfl) (fm_nT om_6_1c 0) (fm_nF om_6_1c 0) (fm_di om_6_1c 0) rfl rfl rfl rfl (Nat.le_of_ble_eq_true rfl) dX8_readPart_23 (fun r_261 u H locs hw hP hD hS => ?_)
    refine exE hw (fun xa2_254 hw1 => exE hw1 (fun xv2_255 hw2 => exE hw2 (fun xt2_256 hw3 => exE hw3 (fun xz2_257 hw4 => exE hw4 (fun xf2_258 hw5 => exE hw5 (fun xp2_259 hw6 => exE hw6 (fun v_260 hw7 => anE hw7 (fun hxa2_262 hw8 => anE hw8 (fun hxz2_263 hw9 => anE hw9 (fun hv1_264 hw10 => anE hw10 (fun hv2_265 hw11 => anE hw11 (fun hnv_266 hw12 => anE hw12 (fun hO2_267 hw13 => anE hw13 (fun er_269 eu_268 => ?_))))))))))))))
    clear hw hw1 hw2 hw3 hw4 hw5 hw6 hw7 hw8 hw9 hw10 hw11 hw12 hw13
    subst er_269
    refine o_mgE (ws' := [(u0, .inr (8, [.ref (q 2), .int (nI kn)])), (q 2, .inr (6, [.ref (q 0), .int (nI xa2_254), .int xv2_255, .int (nI xo), .int xt2_256, .int (nI xz2_257), .int xf2_258, .int xp2_259])), (q 0, .inr (10, [.ref (q 20), .int (nI tl)])), (q 20, .inl (cI, 1600, .inl (fun j => nI (tb j)))), (h0, .inr (0, [.ref k1, .ref k2, .ref k3, .ref k4, .int (nI cl), .int (nI mw)])), (k1, .inl (cI, 1600, .inl f1))]) eu_268 hP hD rfl (fun hP hD => ?_)
    have hO_270 := rs_bd hO hO2_267
    have hL_271 := lenS_nm (tb := tb) (n := tl) (lo := 0) (hi := 9999) hlen
    refine sk_Vv (q0 := 0) (n := 1) (rest := []) (wr := fmR om_6_3 _) ⟨hx, hb, hml, hown, hts⟩ hl.1 (c_eCode_addX l D cI cJ cC cZ cS h0 k1 k2 k3 k4 cl mw f1 (nI v_260) (bd og (nmF tb tl 0 9999)) (1000 + v_260) (by omega) (by omega) (cm_num v_260) (by omega) (hO_270).2 (rm_S hO_270 htl hL_271)) w_3_97 w_3_98 w_3_99 w_1_8 w_3_100 hd_X0_add_1 ⟨⟨(by dsimp only; omega), (by dsimp only; omega)⟩, (by dsimp only; omega), (by dsimp only; omega)⟩ hK hP hD hS hA (fmT om_6_3 0) (fmF om_6_3 0) (fm_C1 rfl rfl) (fm_R rfl rfl) (fm_nT om_6_3 0) (fm_nF om_6_3 0) (fm_di om_6_3 0) rfl rfl rfl rfl (Nat.le_of_ble_eq_true rfl) dX8_readPart_26 (fun u H locs hw hP hD hS => ?_)
    refine exE hw (fun c2_272 hw1 => exE hw1 (fun w2_273 hw2 => exE hw2 (fun g1_274 hw3 => anE hw3 (fun hc2_275 hw4 => anE hw4 (fun hw2_276 hw5 => anE hw5 (fun hO2_277 eu_278 => ?_))))))
    clear hw hw1 hw2 hw3 hw4 hw5
    refine o_mgE (ws' := [(u0, .inr (8, [.ref (q 2), .int (nI kn)])), (q 2, .inr (6, [.ref (q 0), .int (nI xa2_254), .int xv2_255, .int (nI xo), .int xt2_256, .int (nI xz2_257), .int xf2_258, .int xp2_259])), (q 0, .inr (10, [.ref (q 20), .int (nI tl)])), (q 20, .inl (cI, 1600, .inl (fun j => nI (tb j)))), (h0, .inr (0, [.ref k1, .ref k2, .ref k3, .ref k4, .int (nI c2_272), .int (nI w2_273)])), (k1, .inl (cI, 1600, .inl g1_274))]) eu_278 hP hD rfl (fun hP hD => ?_)
    have hO_279 := rs_ad hO_270 hO2_277
    have hL_280 := lenO_ad (v := 1000 + v_260) hL_271
    refine lv_goto (tgt := 217) hx hb dX8_readPart_29 (by decide) ?_
    exact sk_vret hx hb hr hlocks hK hP hD hS (⟨xa2_254, xv2_255, xt2_256, xz2_257, xf2_258, xp2_259, c2_272, w2_273, g1_274, by omega, by omega, by omega, by omega, by rw [← p_num (v := v_260) htb hO c_1 hnv_266]; exact hO_279, rfl⟩) (Nat.le_of_ble_eq_true rfl) (Nat.le_of_ble_eq_true rfl) dX8_readPart_217
