set_option maxHeartbeats 4000000 in
set_option maxRecDepth 100000 in
theorem c_kfillWords (l : Launch) (D : va_G) (cI cJ cC cZ cS : ClassId) (q : Nat → Nat) (dh : Nat) (mh : Nat) (uh : Int32) (rh : Int32) (nh : Nat) (ch : Nat) (wh : Nat) (y1 : Nat → Int32) (y2 : Nat → Int64) (y3 : Nat → Int64) (y4 : Nat → Int64) (yf : Nat → Int32) (yt : Nat → Int32) (sa : Nat → Nat) (fg : Nat → Int64) (d : Nat) (wk : Nat) (b : Nat) (w : Nat) (L : LkS) (hsa : ∀ j, sa j ≤ 9) (hch : ch ≤ 1600) (hwh : wh ≤ 1) (hd : d < 9) (hLk : kcLk L) (hcd : cdK (lK (lkF L)) ch wh y1) (hsg : ∀ v, v < 3 → sgO (lG (lkF L) v) (yf v) (yt v)) (hdy3 : kcDy y3 wk b w d) : skM l yX9_fillWords cX9_fillWords 6 none 3 75 0 0 D (skT cI cJ cC cZ cS) [.ref (q 10), .ref (q 5), .int (nI d)] [(q 10, .inr (9, [.ref (q 61), .ref (q 62), .ref (q 63), .ref (q 64), .ref (q 65), .ref (q 66)])), (q 61, .inl (cI, 90, .inl (fun j => nI (sa j)))), (q 65, .inl (cJ, 90, .inr (.inl fg))), (q 5, .inr (2, [.ref (q 44), .ref (q 45), .ref (q 46), .ref (q 47), .ref (q 48), .int (nI dh), .int (nI mh), .int uh, .int rh, .int (nI nh)])), (q 44, .inr (0, [.ref (q 49), .ref (q 50), .ref (q 51), .ref (q 52), .int (nI ch), .int (nI wh)])), (q 49, .inl (cI, 1600, .inl y1)), (q 50, .inl (cJ, 64, .inr (.inl y2))), (q 51, .inl (cJ, 9, .inr (.inl y3))), (q 52, .inl (cJ, 10, .inr (.inl y4))), (q 47, .inl (cI, 3, .inl yf)), (q 48, .inl (cI, 3, .inl yt))] (skV D (skT cI cJ cC cZ cS) (fun (u : va_W) => ∃ (sa2 : Nat → Nat), ∃ (fg2 : Nat → Int64), ∃ (z2 : Nat → Int64), ∃ (z3 : Nat → Int64), (∀ j, sa2 j ≤ 9) ∧ kfw L wk b w d 10 sa sa2 fg fg2 ∧ kcDy z3 wk b w d ∧ u = [(q 10, .inr (9, [.ref (q 61), .ref (q 62), .ref (q 63), .ref (q 64), .ref (q 65), .ref (q 66)])), (q 61, .inl (cI, 90, .inl (fun j => nI (sa2 j)))), (q 65, .inl (cJ, 90, .inr (.inl fg2))), (q 5, .inr (2, [.ref (q 44), .ref (q 45), .ref (q 46), .ref (q 47), .ref (q 48), .int (nI dh), .int (nI mh), .int uh, .int rh, .int (nI nh)])), (q 44, .inr (0, [.ref (q 49), .ref (q 50), .ref (q 51), .ref (q 52), .int (nI ch), .int (nI wh)])), (q 49, .inl (cI, 1600, .inl y1)), (q 50, .inl (cJ, 64, .inr (.inl z2))), (q 51, .inl (cJ, 9, .inr (.inl z3))), (q 52, .inl (cJ, 10, .inr (.inl y4))), (q 47, .inl (cI, 3, .inl yf)), (q 48, .inl (cI, 3, .inl yt))])) := by
  refine skM_of pf_X9_fillWords (Nat.le_of_ble_eq_true rfl) ?_
  intro p e s m below meth c A ls E hP hD hl
  refine skE_el E (fun hx hb hr hml hlocks hin hown hts hK hA => ?_)
  have hown : s.vm.findClass RX9 = some m.cls := hown
  have hS : va_S A s.heap s.heap [] := va_S.rf
  have hl : lv_has ls 6 [(0, .ref (q 10)), (1, .ref (q 5)), (2, .int (nI d))] := hl
  refine lv_aload_n hx hb dX9_fillWords_0 rfl (lv_at hl 1 rfl) ?_
  refine sk_get (v := .ref (q 44)) (C := RX2) (T := TX2) (N := 10) hx hb hts inlX2 hown hK hP 3 rfl rfl 0 (by decide) w_1_176 rfl dX9_fillWords_1 ?_
  refine lv_astore_n (lv' := [(3, .ref (q 44)), (0, .ref (q 10)), (1, .ref (q 5)), (2, .int (nI d))]) hx hb dX9_fillWords_4 rfl hl (by decide) rfl (fun ls hl => ?_)
  obtain ⟨p0, hp0⟩ := untN_some (L := L) 3 0 (by decide)
  have hbp0 := kx_bk hLk hp0
  have hsp0 := kx_sg (hsg 0 (by decide)) hp0
  have hlp0 := hsp0.2.2
  obtain ⟨p2, hp2⟩ := untN_some (L := L) 3 2 (by decide)
  have hbp2 := kx_bk hLk hp2
  have hsp2 := kx_sg (hsg 2 (by decide)) hp2
  have hlp2 := hsp2.2.2
  refine lv_iconst (v := 0) hx hb dX9_fillWords_5 (by decide) ?_
  refine lv_istore (lv' := [(4, .int 0), (3, .ref (q 44)), (0, .ref (q 10)), (1, .ref (q 5)), (2, .int (nI d))]) hx hb dX9_fillWords_6 hl (by decide) rfl (fun ls hl => ?_)
  have lp_1 : ∀ (n_2 : Nat) (i : Nat) (sb : Nat → Nat) (gb : Nat → Int64) (u2 : Nat → Int64) (u3 : Nat → Int64) (H : Heap) (locs : List Loc) (ls : Array Slot), 10 - i < n_2 → (∀ j, sb j ≤ 9) → (i ≤ 10) → (kfw L wk b w d i sa sb fg gb) → (kcDy u3 wk b w d) → va_P D vwCl [(q 10, .inr (9, [.ref (q 61), .ref (q 62), .ref (q 63), .ref (q 64), .ref (q 65), .ref (q 66)])), (q 61, .inl (cI, 90, .inl (fun j => nI (sb j)))), (q 65, .inl (cJ, 90, .inr (.inl gb))), (q 5, .inr (2, [.ref (q 44), .ref (q 45), .ref (q 46), .ref (q 47), .ref (q 48), .int (nI dh), .int (nI mh), .int uh, .int rh, .int (nI nh)])), (q 44, .inr (0, [.ref (q 49), .ref (q 50), .ref (q 51), .ref (q 52), .int (nI ch), .int (nI wh)])), (q 49, .inl (cI, 1600, .inl y1)), (q 50, .inl (cJ, 64, .inr (.inl u2))), (q 51, .inl (cJ, 9, .inr (.inl u3))), (q 52, .inl (cJ, 10, .inr (.inl y4))), (q 47, .inl (cI, 3, .inl yf)), (q 48, .inl (cI, 3, .inl yt))] H → va_D A [(q 10, .inr (9, [.ref (q 61), .ref (q 62), .ref (q 63), .ref (q 64), .ref (q 65), .ref (q 66)])), (q 61, .inl (cI, 90, .inl (fun j => nI (sb j)))), (q 65, .inl (cJ, 90, .inr (.inl gb))), (q 5, .inr (2, [.ref (q 44), .ref (q 45), .ref (q 46), .ref (q 47), .ref (q 48), .int (nI dh), .int (nI mh), .int uh, .int rh, .int (nI nh)])), (q 44, .inr (0, [.ref (q 49), .ref (q 50), .ref (q 51), .ref (q 52), .int (nI ch), .int (nI wh)])), (q 49, .inl (cI, 1600, .inl y1)), (q 50, .inl (cJ, 64, .inr (.inl u2))), (q 51, .inl (cJ, 9, .inr (.inl u3))), (q 52, .inl (cJ, 10, .inr (.inl y4))), (q 47, .inl (cI, 3, .inl yf)), (q 48, .inl (cI, 3, .inl yt))] → va_S A s.heap H locs → lv_has ls 6 [(4, .int (nI i)), (3, .ref (q 44)), (0, .ref (q 10)), (1, .ref (q 5)), (2, .int (nI d))] → W p l e { frames := 3, cells := 0, slots := 0, locals := 75 } s m ([.ref (q 10), .ref (q 5), .int (nI d)] : List Value).toArray below meth c H locs 0 0 (MQ below (skV D (skT cI cJ cC cZ cS) (fun (u : va_W) => ∃ (sa2 : Nat → Nat), ∃ (fg2 : Nat → Int64), ∃ (z2 : Nat → Int64), ∃ (z3 : Nat → Int64), (∀ j, sa2 j ≤ 9) ∧ kfw L wk b w d 10 sa sa2 fg fg2 ∧ kcDy z3 wk b w d ∧ u = [(q 10, .inr (9, [.ref (q 61), .ref (q 62), .ref (q 63), .ref (q 64), .ref (q 65), .ref (q 66)])), (q 61, .inl (cI, 90, .inl (fun j => nI (sa2 j)))), (q 65, .inl (cJ, 90, .inr (.inl fg2))), (q 5, .inr (2, [.ref (q 44), .ref (q 45), .ref (q 46), .ref (q 47), .ref (q 48), .int (nI dh), .int (nI mh), .int uh, .int rh, .int (nI nh)])), (q 44, .inr (0, [.ref (q 49), .ref (q 50), .ref (q 51), .ref (q 52), .int (nI ch), .int (nI wh)])), (q 49, .inl (cI, 1600, .inl y1)), (q 50, .inl (cJ, 64, .inr (.inl z2))), (q 51, .inl (cJ, 9, .inr (.inl z3))), (q 52, .inl (cJ, 10, .inr (.inl y4))), (q 47, .inl (cI, 3, .inl yf)), (q 48, .inl (cI, 3, .inl yt))]) A) ([.ref (q 10), .ref (q 5), .int (nI d)] : List Value).toArray s 0 0 A) (F0 m 8 ls []) := by
    intro n_2
    induction n_2 with
    | zero => intro i sb gb u2 u3 H locs ls hm; exact absurd hm (Nat.not_lt_zero _)
    | succ n_2 ih_lp_1 =>
      intro i sb gb u2 u3 H locs ls hm hsb hi hfi hdi hP hD hS hl
      refine lv_iload hx hb dX9_fillWords_8 (lv_at hl 0 rfl) ?_
      refine lv_bipush (v := 10) hx hb dX9_fillWords_10 (by decide) ?_
      refine lv_icmp_ge (tgt := 91) hx hb dX9_fillWords_12 (by decide) (fun c_3 => ?_) (fun c_3 => ?_)
      · have c_3 : 10 ≤ i := (nle 10 i (by omega) (by omega)).mp c_3
        exact sk_vret hx hb hr hlocks hK hP hD hS (⟨sb, gb, u2, u3, hsb, (show kfw L wk b w d 10 sa sb fg gb by rw [show 10 = i by omega]; exact hfi), hdi, rfl⟩) (Nat.le_of_ble_eq_true rfl) (Nat.le_of_ble_eq_true rfl) dX9_fillWords_91
      · have c_3 : ¬ (10 ≤ i) := fun h => c_3 ((nle 10 i (by omega) (by omega)).mpr h)
        refine lv_iload_n hx hb dX9_fillWords_15 rfl (lv_at hl 4 rfl) ?_
        refine lv_bipush (v := 10) hx hb dX9_fillWords_16 (by decide) ?_
        refine lv_imul hx hb dX9_fillWords_18 ?_
        refine sk_top (nI (d * 10)) (nmul d 10) ?_
        refine lv_iload hx hb dX9_fillWords_19 (lv_at hl 0 rfl) ?_
        refine lv_iadd hx hb dX9_fillWords_21 ?_
        refine sk_top (nI (d * 10 + i)) (nI_add (d * 10) i) ?_
        refine lv_istore (lv' := [(5, .int (nI (d * 10 + i))), (4, .int (nI i)), (3, .ref (q 44)), (0, .ref (q 10)), (1, .ref (q 5)), (2, .int (nI d))]) hx hb dX9_fillWords_22 hl (by decide) rfl (fun ls hl => ?_)
        refine lv_aload_n hx hb dX9_fillWords_24 rfl (lv_at hl 2 rfl) ?_
        refine lv_sipush (v := 10000) hx hb dX9_fillWords_25 (by decide) ?_
        refine lv_iload hx hb dX9_fillWords_28 (lv_at hl 1 rfl) ?_
        refine lv_i2l hx hb dX9_fillWords_30 rfl ?_
        refine sk_Vv (q0 := 0) (n := 2) (rest := []) (wr := fmR om_11_48 _) ⟨hx, hb, hml, hown, hts⟩ hl.1 (c_kCode_name l D cI cJ cC cZ cS (q 44) (q 49) (q 50) (q 51) (q 52) ch wh u3 10000 0 (Int32.toInt64 (nI i)) (by decide) (by decide)) w_3_212 w_3_213 w_3_214 w_1_8 w_3_215 hd_X0_name_2 ⟨⟨(Nat.le_of_ble_eq_true rfl), (Nat.le_of_ble_eq_true rfl)⟩, (Nat.le_of_ble_eq_true rfl), (Nat.le_of_ble_eq_true rfl)⟩ hK hP hD hS hA (fmT om_11_48 0) (fmF om_11_48 0) (fm_C1 rfl rfl) (fm_R rfl rfl) (fm_nT om_11_48 0) (fm_nF om_11_48 0) (fm_di om_11_48 0) rfl rfl rfl rfl (Nat.le_of_ble_eq_true rfl) dX9_fillWords_31 (fun u H locs hw hP hD hS => ?_)
        refine exE hw (fun g3_4 hw1 => anE hw1 (fun hg3_5 eu_6 => ?_))
        clear hw hw1
        refine o_mgE (ws' := [(q 10, .inr (9, [.ref (q 61), .ref (q 62), .ref (q 63), .ref (q 64), .ref (q 65), .ref (q 66)])), (q 61, .inl (cI, 90, .inl (fun j => nI (sb j)))), (q 65, .inl (cJ, 90, .inr (.inl gb))), (q 5, .inr (2, [.ref (q 44), .ref (q 45), .ref (q 46), .ref (q 47), .ref (q 48), .int (nI dh), .int (nI mh), .int uh, .int rh, .int (nI nh)])), (q 44, .inr (0, [.ref (q 49), .ref (q 50), .ref (q 51), .ref (q 52), .int (nI ch), .int (nI wh)])), (q 49, .inl (cI, 1600, .inl y1)), (q 50, .inl (cJ, 64, .inr (.inl u2))), (q 51, .inl (cJ, 9, .inr (.inl g3_4))), (q 52, .inl (cJ, 10, .inr (.inl y4))), (q 47, .inl (cI, 3, .inl yf)), (q 48, .inl (cI, 3, .inl yt))]) eu_6 hP hD rfl (fun hP hD => ?_)
        have hd_7 := kdy_up hdi hg3_5 (by decide)
        have hn_8 := (kup_s hg3_5).trans (kx_i2l (by omega))
        refine lv_aload_n hx hb dX9_fillWords_34 rfl (lv_at hl 3 rfl) ?_
        refine sk_get (v := .ref (q 61)) (C := RX9) (T := TX9) (N := 6) hx hb hts inlX9 hown hK hP 0 rfl rfl 0 (by decide) w_2_63 rfl dX9_fillWords_35 ?_
        refine lv_iload hx hb dX9_fillWords_38 (lv_at hl 0 rfl) ?_
        refine lv_aload_n hx hb dX9_fillWords_40 rfl (lv_at hl 2 rfl) ?_
        refine lv_aload_n hx hb dX9_fillWords_41 rfl (lv_at hl 4 rfl) ?_
        refine sk_get (v := .ref (q 47)) (C := RX2) (T := TX2) (N := 10) hx hb hts inlX2 hown hK hP 3 rfl rfl 3 (by decide) w_1_185 rfl dX9_fillWords_42 ?_
        refine lv_iconst (v := 0) hx hb dX9_fillWords_45 (by decide) ?_
        refine va_iald hx hb hK.1 hP 9 0 rfl rfl (by unfold vp_in; decide) dX9_fillWords_46 ?_
        refine sk_top (nI p0.1) (hsp0.1) ?_
        refine lv_aload_n hx hb dX9_fillWords_47 rfl (lv_at hl 4 rfl) ?_
        refine sk_get (v := .ref (q 48)) (C := RX2) (T := TX2) (N := 10) hx hb hts inlX2 hown hK hP 3 rfl rfl 4 (by decide) w_1_187 rfl dX9_fillWords_48 ?_
        refine lv_iconst (v := 0) hx hb dX9_fillWords_51 (by decide) ?_
        refine va_iald hx hb hK.1 hP 10 0 rfl rfl (by unfold vp_in; decide) dX9_fillWords_52 ?_
        refine sk_top (nI p0.2) (hsp0.2.1) ?_
        refine sk_Vl (q0 := 0) (n := 2) (rest := [.int (nI (d * 10 + i)), .ref (q 61)]) (wr := fmR om_11_7c _) ⟨hx, hb, hml, hown, hts⟩ hl.1 (c_kCode_run l D cI cJ cC cZ cS (q 44) (q 49) (q 50) (q 51) (q 52) ch wh y1 u2 g3_4 y4 p0.1 p0.2 (lK (lkF L)) g3_4 (kcV L 0 g3_4) 0 (by omega) (by omega) hcd.1 hcd (Nat.le_of_lt hbp0.1) hbp0.2 (by omega) (kx_ns hLk rfl hp0) (fun _ _ => rfl) (kx_ex hLk (by decide) hp0 _)) w_3_220 w_3_221 w_3_222 w_1_8 w_3_223 hd_X0_run_2 ⟨⟨(Nat.le_of_ble_eq_true rfl), (Nat.le_of_ble_eq_true rfl)⟩, (Nat.le_of_ble_eq_true rfl), (Nat.le_of_ble_eq_true rfl)⟩ hK hP hD hS hA (fmT om_11_7c 0) (fmF om_11_7c 0) (fm_C1 rfl rfl) (fm_R rfl rfl) (fm_nT om_11_7c 0) (fm_nF om_11_7c 0) (fm_di om_11_7c 0) rfl rfl rfl rfl (Nat.le_of_ble_eq_true rfl) dX9_fillWords_53 (fun r_10 u H locs hw hP hD hS => ?_)
        refine exE hw (fun g2_9 hw1 => anE hw1 (fun er_12 eu_11 => ?_))
        clear hw hw1
        subst er_12
        refine o_mgE (ws' := [(q 10, .inr (9, [.ref (q 61), .ref (q 62), .ref (q 63), .ref (q 64), .ref (q 65), .ref (q 66)])), (q 61, .inl (cI, 90, .inl (fun j => nI (sb j)))), (q 65, .inl (cJ, 90, .inr (.inl gb))), (q 5, .inr (2, [.ref (q 44), .ref (q 45), .ref (q 46), .ref (q 47), .ref (q 48), .int (nI dh), .int (nI mh), .int uh, .int rh, .int (nI nh)])), (q 44, .inr (0, [.ref (q 49), .ref (q 50), .ref (q 51), .ref (q 52), .int (nI ch), .int (nI wh)])), (q 49, .inl (cI, 1600, .inl y1)), (q 50, .inl (cJ, 64, .inr (.inl g2_9))), (q 51, .inl (cJ, 9, .inr (.inl g3_4))), (q 52, .inl (cJ, 10, .inr (.inl y4))), (q 47, .inl (cI, 3, .inl yf)), (q 48, .inl (cI, 3, .inl yt))]) eu_11 hP hD rfl (fun hP hD => ?_)
        refine lv_bipush (v := 10) hx hb dX9_fillWords_56 (by decide) ?_
        refine sk_Si (n := 2) (rest := [.int (nI (d * 10 + i)), .ref (q 61)]) (wr := [(q 10, .inr (9, [.ref (q 61), .ref (q 62), .ref (q 63), .ref (q 64), .ref (q 65), .ref (q 66)])), (q 61, .inl (cI, 90, .inl (fun j => nI (sb j)))), (q 65, .inl (cJ, 90, .inr (.inl gb))), (q 5, .inr (2, [.ref (q 44), .ref (q 45), .ref (q 46), .ref (q 47), .ref (q 48), .int (nI dh), .int (nI mh), .int uh, .int rh, .int (nI nh)])), (q 44, .inr (0, [.ref (q 49), .ref (q 50), .ref (q 51), .ref (q 52), .int (nI ch), .int (nI wh)])), (q 49, .inl (cI, 1600, .inl y1)), (q 50, .inl (cJ, 64, .inr (.inl g2_9))), (q 51, .inl (cJ, 9, .inr (.inl g3_4))), (q 52, .inl (cJ, 10, .inr (.inl y4))), (q 47, .inl (cI, 3, .inl yf)), (q 48, .inl (cI, 3, .inl yt))]) ⟨hx, hb, hml, hown, hts⟩ hl.1 (c_kfloorMod l D cI cJ cC cZ cS (kcV L 0 g3_4)) w_4_7 w_4_8 w_1_3 w_4_9 hd_J9_floorMod_1978a_2 ⟨⟨(Nat.le_of_ble_eq_true rfl), (Nat.le_of_ble_eq_true rfl)⟩, (Nat.le_of_ble_eq_true rfl), (Nat.le_of_ble_eq_true rfl)⟩ hK hP hD hS hA [] [0, 1, 2, 3, 4, 5, 6, 7, 8, 9, 10] rfl rfl (by decide +kernel) (by decide +kernel) (by decide +kernel) rfl rfl (Nat.le_of_ble_eq_true rfl) dX9_fillWords_58 (fun r_13 u H locs hw hP hD hS => ?_)
        obtain ⟨rfl, rfl⟩ := hw
        refine o_re (ws' := [(q 10, .inr (9, [.ref (q 61), .ref (q 62), .ref (q 63), .ref (q 64), .ref (q 65), .ref (q 66)])), (q 61, .inl (cI, 90, .inl (fun j => nI (sb j)))), (q 65, .inl (cJ, 90, .inr (.inl gb))), (q 5, .inr (2, [.ref (q 44), .ref (q 45), .ref (q 46), .ref (q 47), .ref (q 48), .int (nI dh), .int (nI mh), .int uh, .int rh, .int (nI nh)])), (q 44, .inr (0, [.ref (q 49), .ref (q 50), .ref (q 51), .ref (q 52), .int (nI ch), .int (nI wh)])), (q 49, .inl (cI, 1600, .inl y1)), (q 50, .inl (cJ, 64, .inr (.inl g2_9))), (q 51, .inl (cJ, 9, .inr (.inl g3_4))), (q 52, .inl (cJ, 10, .inr (.inl y4))), (q 47, .inl (cI, 3, .inl yf)), (q 48, .inl (cI, 3, .inl yt))]) hP hD rfl (fun hP hD => ?_)
        have hk_14 := kcTen_lt (kcV L 0 g3_4)
        refine sk_iastNE (k := (d * 10 + i)) (v := (kcTen (kcV L 0 g3_4))) (B := 9) (ws' := fun f_15 => [(q 10, .inr (9, [.ref (q 61), .ref (q 62), .ref (q 63), .ref (q 64), .ref (q 65), .ref (q 66)])), (q 61, .inl (cI, 90, .inl (fun j => nI (f_15 j)))), (q 65, .inl (cJ, 90, .inr (.inl gb))), (q 5, .inr (2, [.ref (q 44), .ref (q 45), .ref (q 46), .ref (q 47), .ref (q 48), .int (nI dh), .int (nI mh), .int uh, .int rh, .int (nI nh)])), (q 44, .inr (0, [.ref (q 49), .ref (q 50), .ref (q 51), .ref (q 52), .int (nI ch), .int (nI wh)])), (q 49, .inl (cI, 1600, .inl y1)), (q 50, .inl (cJ, 64, .inr (.inl g2_9))), (q 51, .inl (cJ, 9, .inr (.inl g3_4))), (q 52, .inl (cJ, 10, .inr (.inl y4))), (q 47, .inl (cI, 3, .inl yf)), (q 48, .inl (cI, 3, .inl yt))]) hx hb hK hP hD hS 1 0 rfl rfl (by omega) (by omega) hsb (by omega) (fun _ => rfl) dX9_fillWords_61 (fun f_15 H locs hf_17 ef_16 hP hD hS => ?_)
        refine lv_aload_n hx hb dX9_fillWords_62 rfl (lv_at hl 3 rfl) ?_
        refine sk_get (v := .ref (q 65)) (C := RX9) (T := TX9) (N := 6) hx hb hts inlX9 hown hK hP 0 rfl rfl 4 (by decide) w_2_72 rfl dX9_fillWords_63 ?_
        refine lv_iload hx hb dX9_fillWords_66 (lv_at hl 0 rfl) ?_
        refine lv_aload_n hx hb dX9_fillWords_68 rfl (lv_at hl 2 rfl) ?_
        refine lv_aload_n hx hb dX9_fillWords_69 rfl (lv_at hl 4 rfl) ?_
        refine sk_get (v := .ref (q 47)) (C := RX2) (T := TX2) (N := 10) hx hb hts inlX2 hown hK hP 3 rfl rfl 3 (by decide) w_1_185 rfl dX9_fillWords_70 ?_
        refine lv_iconst (v := 2) hx hb dX9_fillWords_73 (by decide) ?_
        refine va_iald hx hb hK.1 hP 9 0 rfl rfl (by unfold vp_in; decide) dX9_fillWords_74 ?_
        refine sk_top (nI p2.1) (hsp2.1) ?_
        refine lv_aload_n hx hb dX9_fillWords_75 rfl (lv_at hl 4 rfl) ?_
        refine sk_get (v := .ref (q 48)) (C := RX2) (T := TX2) (N := 10) hx hb hts inlX2 hown hK hP 3 rfl rfl 4 (by decide) w_1_187 rfl dX9_fillWords_76 ?_
        refine lv_iconst (v := 2) hx hb dX9_fillWords_79 (by decide) ?_
        refine va_iald hx hb hK.1 hP 10 0 rfl rfl (by unfold vp_in; decide) dX9_fillWords_80 ?_
        refine sk_top (nI p2.2) (hsp2.2.1) ?_
        refine sk_Vl (q0 := 0) (n := 2) (rest := [.int (nI (d * 10 + i)), .ref (q 65)]) (wr := fmR om_11_7c _) ⟨hx, hb, hml, hown, hts⟩ hl.1 (c_kCode_run l D cI cJ cC cZ cS (q 44) (q 49) (q 50) (q 51) (q 52) ch wh y1 g2_9 g3_4 y4 p2.1 p2.2 (lK (lkF L)) g3_4 (kcV L 2 g3_4) 0 (by omega) (by omega) hcd.1 hcd (Nat.le_of_lt hbp2.1) hbp2.2 (by omega) (kx_ns hLk rfl hp2) (fun _ _ => rfl) (kx_ex hLk (by decide) hp2 _)) w_3_220 w_3_221 w_3_222 w_1_8 w_3_223 hd_X0_run_2 ⟨⟨(Nat.le_of_ble_eq_true rfl), (Nat.le_of_ble_eq_true rfl)⟩, (Nat.le_of_ble_eq_true rfl), (Nat.le_of_ble_eq_true rfl)⟩ hK hP hD hS hA (fmT om_11_7c 0) (fmF om_11_7c 0) (fm_C1 rfl rfl) (fm_R rfl rfl) (fm_nT om_11_7c 0) (fm_nF om_11_7c 0) (fm_di om_11_7c 0) rfl rfl rfl rfl (Nat.le_of_ble_eq_true rfl) dX9_fillWords_81 (fun r_19 u H locs hw hP hD hS => ?_)
        refine exE hw (fun g2_18 hw1 => anE hw1 (fun er_21 eu_20 => ?_))
        clear hw hw1
        subst er_21
        refine o_mgE (ws' := [(q 10, .inr (9, [.ref (q 61), .ref (q 62), .ref (q 63), .ref (q 64), .ref (q 65), .ref (q 66)])), (q 61, .inl (cI, 90, .inl (fun j => nI (f_15 j)))), (q 65, .inl (cJ, 90, .inr (.inl gb))), (q 5, .inr (2, [.ref (q 44), .ref (q 45), .ref (q 46), .ref (q 47), .ref (q 48), .int (nI dh), .int (nI mh), .int uh, .int rh, .int (nI nh)])), (q 44, .inr (0, [.ref (q 49), .ref (q 50), .ref (q 51), .ref (q 52), .int (nI ch), .int (nI wh)])), (q 49, .inl (cI, 1600, .inl y1)), (q 50, .inl (cJ, 64, .inr (.inl g2_18))), (q 51, .inl (cJ, 9, .inr (.inl g3_4))), (q 52, .inl (cJ, 10, .inr (.inl y4))), (q 47, .inl (cI, 3, .inl yf)), (q 48, .inl (cI, 3, .inl yt))]) eu_20 hP hD rfl (fun hP hD => ?_)
        refine sk_lastE (k := (d * 10 + i)) (ws' := fun f_22 => [(q 10, .inr (9, [.ref (q 61), .ref (q 62), .ref (q 63), .ref (q 64), .ref (q 65), .ref (q 66)])), (q 61, .inl (cI, 90, .inl (fun j => nI (f_15 j)))), (q 65, .inl (cJ, 90, .inr (.inl f_22))), (q 5, .inr (2, [.ref (q 44), .ref (q 45), .ref (q 46), .ref (q 47), .ref (q 48), .int (nI dh), .int (nI mh), .int uh, .int rh, .int (nI nh)])), (q 44, .inr (0, [.ref (q 49), .ref (q 50), .ref (q 51), .ref (q 52), .int (nI ch), .int (nI wh)])), (q 49, .inl (cI, 1600, .inl y1)), (q 50, .inl (cJ, 64, .inr (.inl g2_18))), (q 51, .inl (cJ, 9, .inr (.inl g3_4))), (q 52, .inl (cJ, 10, .inr (.inl y4))), (q 47, .inl (cI, 3, .inl yf)), (q 48, .inl (cI, 3, .inl yt))]) hx hb hK hP hD hS 2 1 rfl rfl (by omega) (by omega) (fun _ => rfl) dX9_fillWords_84 (fun f_22 H locs ef_23 hP hD hS => ?_)
        refine lv_iinc (v := nI (i + 1)) (lv' := [(4, .int (nI (i + 1))), (5, .int (nI (d * 10 + i))), (3, .ref (q 44)), (0, .ref (q 10)), (1, .ref (q 5)), (2, .int (nI d))]) hx hb dX9_fillWords_85 hl (k := 1) rfl (ninc i 1 (by decide)) (by decide) rfl (fun ls hl => ?_)
        refine lv_goto (tgt := 8) hx hb dX9_fillWords_88 (by decide) ?_
        exact ih_lp_1 (i + 1) f_15 f_22 g2_18 g3_4 _ _ _ (by omega) hf_17 (by omega) (kfw_s hfi ef_16 ef_23 (by omega) (kx_said hLk hd_7 hn_8) (kx_wage hLk hd_7 hn_8)) hd_7 hP hD hS (lv_sub hl [0, 2, 3, 4, 5] rfl)
  exact lp_1 (10 - 0 + 1) 0 sa fg y2 y3 _ _ _ (Nat.lt_succ_self _) hsa (by omega) (kfw_0 _ _ _ _ _ _ _) hdy3 hP hD hS (lv_sub hl [0, 1, 2, 3, 4] rfl)

