theorem w_5_129 : (Cond.instanceMethod yX10_checkOf) ∈ wsL_law := sk_mem (ck_5 _ (List.mem_of_getElem? (i := 129) rfl)) rfl
theorem w_5_130 : (Cond.selects RX10 yX10_checkOf yX10_checkOf) ∈ wsL_law := sk_mem (ck_5 _ (List.mem_of_getElem? (i := 130) rfl)) rfl
theorem w_5_144 : (Cond.code yX11_tellsImage cX11_tellsImage 3 (some .boolean)) ∈ wsL_law := sk_mem (ck_5 _ (List.mem_of_getElem? (i := 144) rfl)) rfl
def om_4_6 : List Bool := false :: true :: true :: false :: []
theorem hd_X10_checkOf_1 : skD yX10_checkOf 1 := by decide +kernel
set_option maxHeartbeats 4000000 in
set_option maxRecDepth 100000 in
theorem c_x_tellsImage (l : Launch) (D : va_G) (cI cJ cC cZ cS : ClassId) (x0 : Nat) (q : Nat → Nat) (hc : Int32) (dr : Int64) (tl : Nat) (tb : Nat → Nat) (dy : Nat) (mo : Nat) (wk : Int32) (mu : Int32) (ke : Int32) (fb : Nat → Int32) (fw : Nat → Int32) (htl : tl ≤ 1600) (htb : ∀ j, tb j ≤ 255) (hdy : dy ≤ 9) (hmo : mo ≤ 9) : skM l yX11_tellsImage cX11_tellsImage 3 (some .boolean) 2 44 0 0 D (skT cI cJ cC cZ cS) [.ref x0] [(x0, .inr (11, [.ref (q 0), .ref (q 1), .ref (q 2), .ref (q 3), .ref (q 4), .ref (q 5), .ref (q 6), .ref (q 7), .ref (q 8), .ref (q 9), .ref (q 10), .ref (q 11), .ref (q 12), .ref (q 13), .ref (q 14), .int hc, .ref (q 16), .long dr])), (q 0, .inr (10, [.ref (q 20), .int (nI tl)])), (q 20, .inl (cI, 1600, .inl (fun j => nI (tb j)))), (q 7, .inr (7, [.ref (q 33), .ref (q 34), .int (nI dy), .int wk, .int (nI mo), .int mu, .int ke]))] (skI D (skT cI cJ cC cZ cS) (fun (r : Int32) (u : va_W) => ∃ (b : Nat), b ≤ 1 ∧ (b = 1 → tb 2 ≤ 9) ∧ ((b = 0 ∧ ¬ imgO tb tl dy) ∨ (b = 1 ∧ imgO tb tl dy)) ∧ r = nI b ∧ u = [(x0, .inr (11, [.ref (q 0), .ref (q 1), .ref (q 2), .ref (q 3), .ref (q 4), .ref (q 5), .ref (q 6), .ref (q 7), .ref (q 8), .ref (q 9), .ref (q 10), .ref (q 11), .ref (q 12), .ref (q 13), .ref (q 14), .int hc, .ref (q 16), .long dr])), (q 0, .inr (10, [.ref (q 20), .int (nI tl)])), (q 20, .inl (cI, 1600, .inl (fun j => nI (tb j)))), (q 7, .inr (7, [.ref (q 33), .ref (q 34), .int (nI dy), .int wk, .int (nI mo), .int mu, .int ke]))])) := by
  refine skM_of pf_X11_tellsImage (Nat.le_of_ble_eq_true rfl) ?_
  intro p e s m below meth c A ls E hP hD hl
  refine skE_el E (fun hx hb hr hml hlocks hin hown hts hK hA => ?_)
  have hown : s.vm.findClass RX11 = some m.cls := hown
  have hS : va_S A s.heap s.heap [] := va_S.rf
  have hl : lv_has ls 3 [(0, .ref x0)] := hl
  refine lv_iconst (v := 3) hx hb dX11_tellsImage_0 (by decide) ?_
  refine lv_aload_n hx hb dX11_tellsImage_1 rfl (lv_at hl 0 rfl) ?_
  refine sk_get (v := .ref (q 7)) (C := RX11) (T := TX11) (N := 18) hx hb hts inlX11 hown hK hP 0 rfl rfl 7 (by decide) w_2_130 rfl dX11_tellsImage_2 ?_
  refine sk_get (v := .int (nI dy)) (C := RX7) (T := TX7) (N := 7) hx hb hts inlX7 hown hK hP 3 rfl rfl 2 (by decide) w_2_1 rfl dX11_tellsImage_5 ?_
  refine lv_imul hx hb dX11_tellsImage_8 ?_
  refine sk_top (nI (3 * dy)) (nmul 3 dy) ?_
  refine lv_iconst (v := 3) hx hb dX11_tellsImage_9 (by decide) ?_
  refine lv_iadd hx hb dX11_tellsImage_10 ?_
  refine sk_top (nI (3 * dy + 3)) (nI_add (3 * dy) 3) ?_
  refine lv_istore_n (lv' := [(1, .int (nI (3 * dy + 3))), (0, .ref x0)]) hx hb dX11_tellsImage_11 rfl hl (by decide) rfl (fun ls hl => ?_)
  refine lv_aload_n hx hb dX11_tellsImage_12 rfl (lv_at hl 1 rfl) ?_
  refine sk_get (v := .ref (q 0)) (C := RX11) (T := TX11) (N := 18) hx hb hts inlX11 hown hK hP 0 rfl rfl 0 (by decide) w_2_123 rfl dX11_tellsImage_13 ?_
  refine sk_get (v := .int (nI tl)) (C := RX10) (T := TX10) (N := 2) hx hb hts inlX10 hown hK hP 1 rfl rfl 1 (by decide) w_1_42 rfl dX11_tellsImage_16 ?_
  refine lv_iload_n hx hb dX11_tellsImage_19 rfl (lv_at hl 0 rfl) ?_
  refine lv_iconst (v := 1) hx hb dX11_tellsImage_20 (by decide) ?_
  refine lv_iadd hx hb dX11_tellsImage_21 ?_
  refine sk_top (nI (3 * dy + 3 + 1)) (nI_add (3 * dy + 3) 1) ?_
  refine lv_icmp_ne (tgt := 44) hx hb dX11_tellsImage_22 (by decide) (fun c_1 => ?_) (fun c_1 => ?_)
  · have c_1 : ¬ (tl = 3 * dy + 3 + 1) := fun h => c_1 ((neq tl (3 * dy + 3 + 1) (by omega) (by omega)).mpr h)
    refine lv_iconst (v := 0) hx hb dX11_tellsImage_44 (by decide) ?_
    exact sk_iret hx hb hr rfl hlocks hK hP hD hS (⟨0, by omega, by omega, (Or.inl ⟨rfl, fun hq => absurd hq.1 (by omega)⟩), rfl, rfl⟩) (Nat.le_of_ble_eq_true rfl) (Nat.le_of_ble_eq_true rfl) dX11_tellsImage_45
  · have c_1 : tl = 3 * dy + 3 + 1 := (neq tl (3 * dy + 3 + 1) (by omega) (by omega)).mp c_1
    refine lv_aload_n hx hb dX11_tellsImage_25 rfl (lv_at hl 1 rfl) ?_
    refine sk_get (v := .ref (q 0)) (C := RX11) (T := TX11) (N := 18) hx hb hts inlX11 hown hK hP 0 rfl rfl 0 (by decide) w_2_123 rfl dX11_tellsImage_26 ?_
    refine lv_iload_n hx hb dX11_tellsImage_29 rfl (lv_at hl 0 rfl) ?_
    refine sk_Vi (q0 := 0) (n := 1) (rest := []) (wr := fmR om_4_6 _) ⟨hx, hb, hml, hown, hts⟩ hl.1 (c_eTape_left_1600 l D cI cJ cC cZ cS (q 0) (q 20) tl tb (3 * dy + 3) (by omega) htb (by omega)) w_4_214 w_4_215 w_4_216 w_1_2 w_4_217 hd_X10_left_1 ⟨⟨(Nat.le_of_ble_eq_true rfl), (Nat.le_of_ble_eq_true rfl)⟩, (Nat.le_of_ble_eq_true rfl), (Nat.le_of_ble_eq_true rfl)⟩ hK hP hD hS hA (fmT om_4_6 0) (fmF om_4_6 0) (fm_C1 rfl rfl) (fm_R rfl rfl) (fm_nT om_4_6 0) (fm_nF om_4_6 0) (fm_di om_4_6 0) rfl rfl rfl rfl (Nat.le_of_ble_eq_true rfl) dX11_tellsImage_30 (fun r_2 u H locs hw hP hD hS => ?_)
    refine anE hw (fun hv_3 hw1 => anE hw1 (fun er_5 eu_4 => ?_))
    clear hw hw1
    subst er_5
    refine o_mgE (ws' := [(x0, .inr (11, [.ref (q 0), .ref (q 1), .ref (q 2), .ref (q 3), .ref (q 4), .ref (q 5), .ref (q 6), .ref (q 7), .ref (q 8), .ref (q 9), .ref (q 10), .ref (q 11), .ref (q 12), .ref (q 13), .ref (q 14), .int hc, .ref (q 16), .long dr])), (q 0, .inr (10, [.ref (q 20), .int (nI tl)])), (q 20, .inl (cI, 1600, .inl (fun j => nI (tb j)))), (q 7, .inr (7, [.ref (q 33), .ref (q 34), .int (nI dy), .int wk, .int (nI mo), .int mu, .int ke]))]) eu_4 hP hD rfl (fun hP hD => ?_)
    refine lv_aload_n hx hb dX11_tellsImage_33 rfl (lv_at hl 1 rfl) ?_
    refine sk_get (v := .ref (q 0)) (C := RX11) (T := TX11) (N := 18) hx hb hts inlX11 hown hK hP 0 rfl rfl 0 (by decide) w_2_123 rfl dX11_tellsImage_34 ?_
    refine lv_iload_n hx hb dX11_tellsImage_37 rfl (lv_at hl 0 rfl) ?_
    refine sk_Vi (q0 := 0) (n := 1) (rest := [.int (nI (tb (3 * dy + 3)))]) (wr := fmR om_4_6 _) ⟨hx, hb, hml, hown, hts⟩ hl.1 (c_eTape_checkOf_1600 l D cI cJ cC cZ cS (q 0) (q 20) tl tb (3 * dy + 3) (by omega) htb (by omega)) w_5_128 w_5_129 w_5_130 w_1_2 w_5_131 hd_X10_checkOf_1 ⟨⟨(Nat.le_of_ble_eq_true rfl), (Nat.le_of_ble_eq_true rfl)⟩, (Nat.le_of_ble_eq_true rfl), (Nat.le_of_ble_eq_true rfl)⟩ hK hP hD hS hA (fmT om_4_6 0) (fmF om_4_6 0) (fm_C1 rfl rfl) (fm_R rfl rfl) (fm_nT om_4_6 0) (fm_nF om_4_6 0) (fm_di om_4_6 0) rfl rfl rfl rfl (Nat.le_of_ble_eq_true rfl) dX11_tellsImage_38 (fun r_7 u H locs hw hP hD hS => ?_)
    refine exE hw (fun ck2_6 hw1 => anE hw1 (fun hck_8 hw2 => anE hw2 (fun hck9_9 hw3 => anE hw3 (fun er_11 eu_10 => ?_))))
    clear hw hw1 hw2 hw3
    subst er_11
    refine o_mgE (ws' := [(x0, .inr (11, [.ref (q 0), .ref (q 1), .ref (q 2), .ref (q 3), .ref (q 4), .ref (q 5), .ref (q 6), .ref (q 7), .ref (q 8), .ref (q 9), .ref (q 10), .ref (q 11), .ref (q 12), .ref (q 13), .ref (q 14), .int hc, .ref (q 16), .long dr])), (q 0, .inr (10, [.ref (q 20), .int (nI tl)])), (q 20, .inl (cI, 1600, .inl (fun j => nI (tb j)))), (q 7, .inr (7, [.ref (q 33), .ref (q 34), .int (nI dy), .int wk, .int (nI mo), .int mu, .int ke]))]) eu_10 hP hD rfl (fun hP hD => ?_)
    refine lv_icmp_eq (tgt := 46) hx hb dX11_tellsImage_41 (by decide) (fun c_12 => ?_) (fun c_12 => ?_)
    · have c_12 : tb (3 * dy + 3) = ck2_6 := (neq (tb (3 * dy + 3)) ck2_6 (by omega) (by omega)).mp c_12
      refine lv_aload_n hx hb dX11_tellsImage_46 rfl (lv_at hl 1 rfl) ?_
      refine sk_get (v := .ref (q 0)) (C := RX11) (T := TX11) (N := 18) hx hb hts inlX11 hown hK hP 0 rfl rfl 0 (by decide) w_2_123 rfl dX11_tellsImage_47 ?_
      refine lv_iconst (v := 0) hx hb dX11_tellsImage_50 (by decide) ?_
      refine sk_Vi (q0 := 0) (n := 1) (rest := []) (wr := fmR om_4_6 _) ⟨hx, hb, hml, hown, hts⟩ hl.1 (c_eTape_left_1600 l D cI cJ cC cZ cS (q 0) (q 20) tl tb 0 (by omega) htb (by omega)) w_4_214 w_4_215 w_4_216 w_1_2 w_4_217 hd_X10_left_1 ⟨⟨(Nat.le_of_ble_eq_true rfl), (Nat.le_of_ble_eq_true rfl)⟩, (Nat.le_of_ble_eq_true rfl), (Nat.le_of_ble_eq_true rfl)⟩ hK hP hD hS hA (fmT om_4_6 0) (fmF om_4_6 0) (fm_C1 rfl rfl) (fm_R rfl rfl) (fm_nT om_4_6 0) (fm_nF om_4_6 0) (fm_di om_4_6 0) rfl rfl rfl rfl (Nat.le_of_ble_eq_true rfl) dX11_tellsImage_51 (fun r_13 u H locs hw hP hD hS => ?_)
      refine anE hw (fun hv_14 hw1 => anE hw1 (fun er_16 eu_15 => ?_))
      clear hw hw1
      subst er_16
      refine o_mgE (ws' := [(x0, .inr (11, [.ref (q 0), .ref (q 1), .ref (q 2), .ref (q 3), .ref (q 4), .ref (q 5), .ref (q 6), .ref (q 7), .ref (q 8), .ref (q 9), .ref (q 10), .ref (q 11), .ref (q 12), .ref (q 13), .ref (q 14), .int hc, .ref (q 16), .long dr])), (q 0, .inr (10, [.ref (q 20), .int (nI tl)])), (q 20, .inl (cI, 1600, .inl (fun j => nI (tb j)))), (q 7, .inr (7, [.ref (q 33), .ref (q 34), .int (nI dy), .int wk, .int (nI mo), .int mu, .int ke]))]) eu_15 hP hD rfl (fun hP hD => ?_)
      refine lv_sipush (v := 256) hx hb dX11_tellsImage_54 (by decide) ?_
      refine lv_imul hx hb dX11_tellsImage_57 ?_
      refine sk_top (nI ((tb 0) * 256)) (nmul (tb 0) 256) ?_
      refine lv_aload_n hx hb dX11_tellsImage_58 rfl (lv_at hl 1 rfl) ?_
      refine sk_get (v := .ref (q 0)) (C := RX11) (T := TX11) (N := 18) hx hb hts inlX11 hown hK hP 0 rfl rfl 0 (by decide) w_2_123 rfl dX11_tellsImage_59 ?_
      refine lv_iconst (v := 1) hx hb dX11_tellsImage_62 (by decide) ?_
      refine sk_Vi (q0 := 0) (n := 1) (rest := [.int (nI ((tb 0) * 256))]) (wr := fmR om_4_6 _) ⟨hx, hb, hml, hown, hts⟩ hl.1 (c_eTape_left_1600 l D cI cJ cC cZ cS (q 0) (q 20) tl tb 1 (by omega) htb (by omega)) w_4_214 w_4_215 w_4_216 w_1_2 w_4_217 hd_X10_left_1 ⟨⟨(Nat.le_of_ble_eq_true rfl), (Nat.le_of_ble_eq_true rfl)⟩, (Nat.le_of_ble_eq_true rfl), (Nat.le_of_ble_eq_true rfl)⟩ hK hP hD hS hA (fmT om_4_6 0) (fmF om_4_6 0) (fm_C1 rfl rfl) (fm_R rfl rfl) (fm_nT om_4_6 0) (fm_nF om_4_6 0) (fm_di om_4_6 0) rfl rfl rfl rfl (Nat.le_of_ble_eq_true rfl) dX11_tellsImage_63 (fun r_17 u H locs hw hP hD hS => ?_)
      refine anE hw (fun hv_18 hw1 => anE hw1 (fun er_20 eu_19 => ?_))
      clear hw hw1
      subst er_20
      refine o_mgE (ws' := [(x0, .inr (11, [.ref (q 0), .ref (q 1), .ref (q 2), .ref (q 3), .ref (q 4), .ref (q 5), .ref (q 6), .ref (q 7), .ref (q 8), .ref (q 9), .ref (q 10), .ref (q 11), .ref (q 12), .ref (q 13), .ref (q 14), .int hc, .ref (q 16), .long dr])), (q 0, .inr (10, [.ref (q 20), .int (nI tl)])), (q 20, .inl (cI, 1600, .inl (fun j => nI (tb j)))), (q 7, .inr (7, [.ref (q 33), .ref (q 34), .int (nI dy), .int wk, .int (nI mo), .int mu, .int ke]))]) eu_19 hP hD rfl (fun hP hD => ?_)
      refine lv_iadd hx hb dX11_tellsImage_66 ?_
      refine sk_top (nI ((tb 0) * 256 + (tb 1))) (nI_add ((tb 0) * 256) (tb 1)) ?_
      refine lv_sipush (v := 999) hx hb dX11_tellsImage_67 (by decide) ?_
      refine lv_icmp_gt (tgt := 86) hx hb dX11_tellsImage_70 (by decide) (fun c_21 => ?_) (fun c_21 => ?_)
      · have c_21 : 999 < (tb 0) * 256 + (tb 1) := (nlt 999 ((tb 0) * 256 + (tb 1)) (by omega) (by omega)).mp c_21
        refine lv_iconst (v := 0) hx hb dX11_tellsImage_86 (by decide) ?_
        exact sk_iret hx hb hr rfl hlocks hK hP hD hS (⟨0, by omega, by omega, (Or.inl ⟨rfl, fun hq => by have h9 := hq.2.2.1; have h8 := (hq.2.2.2 2 (by omega) (by omega)).1; omega⟩), rfl, rfl⟩) (Nat.le_of_ble_eq_true rfl) (Nat.le_of_ble_eq_true rfl) dX11_tellsImage_87
      · have c_21 : ¬ (999 < (tb 0) * 256 + (tb 1)) := fun h => c_21 ((nlt 999 ((tb 0) * 256 + (tb 1)) (by omega) (by omega)).mpr h)
        refine lv_aload_n hx hb dX11_tellsImage_73 rfl (lv_at hl 1 rfl) ?_
        refine sk_get (v := .ref (q 0)) (C := RX11) (T := TX11) (N := 18) hx hb hts inlX11 hown hK hP 0 rfl rfl 0 (by decide) w_2_123 rfl dX11_tellsImage_74 ?_
        refine lv_iconst (v := 2) hx hb dX11_tellsImage_77 (by decide) ?_
        refine sk_Vi (q0 := 0) (n := 1) (rest := []) (wr := fmR om_4_6 _) ⟨hx, hb, hml, hown, hts⟩ hl.1 (c_eTape_left_1600 l D cI cJ cC cZ cS (q 0) (q 20) tl tb 2 (by omega) htb (by omega)) w_4_214 w_4_215 w_4_216 w_1_2 w_4_217 hd_X10_left_1 ⟨⟨(Nat.le_of_ble_eq_true rfl), (Nat.le_of_ble_eq_true rfl)⟩, (Nat.le_of_ble_eq_true rfl), (Nat.le_of_ble_eq_true rfl)⟩ hK hP hD hS hA (fmT om_4_6 0) (fmF om_4_6 0) (fm_C1 rfl rfl) (fm_R rfl rfl) (fm_nT om_4_6 0) (fm_nF om_4_6 0) (fm_di om_4_6 0) rfl rfl rfl rfl (Nat.le_of_ble_eq_true rfl) dX11_tellsImage_78 (fun r_22 u H locs hw hP hD hS => ?_)
        refine anE hw (fun hv_23 hw1 => anE hw1 (fun er_25 eu_24 => ?_))
        clear hw hw1
        subst er_25
        refine o_mgE (ws' := [(x0, .inr (11, [.ref (q 0), .ref (q 1), .ref (q 2), .ref (q 3), .ref (q 4), .ref (q 5), .ref (q 6), .ref (q 7), .ref (q 8), .ref (q 9), .ref (q 10), .ref (q 11), .ref (q 12), .ref (q 13), .ref (q 14), .int hc, .ref (q 16), .long dr])), (q 0, .inr (10, [.ref (q 20), .int (nI tl)])), (q 20, .inl (cI, 1600, .inl (fun j => nI (tb j)))), (q 7, .inr (7, [.ref (q 33), .ref (q 34), .int (nI dy), .int wk, .int (nI mo), .int mu, .int ke]))]) eu_24 hP hD rfl (fun hP hD => ?_)
        refine lv_bipush (v := 10) hx hb dX11_tellsImage_81 (by decide) ?_
        refine lv_icmp_lt (tgt := 88) hx hb dX11_tellsImage_83 (by decide) (fun c_26 => ?_) (fun c_26 => ?_)
        · have c_26 : tb 2 < 10 := (nlt (tb 2) 10 (by omega) (by omega)).mp c_26
          refine lv_iconst (v := 3) hx hb dX11_tellsImage_88 (by decide) ?_
          refine lv_istore_n (lv' := [(2, .int 3), (1, .int (nI (3 * dy + 3))), (0, .ref x0)]) hx hb dX11_tellsImage_89 rfl hl (by decide) rfl (fun ls hl => ?_)
          have lp_27 : ∀ (n_28 : Nat) (i : Nat) (H : Heap) (locs : List Loc) (ls : Array Slot), 40 - i < n_28 → (i ≤ 3 * dy + 3) → (i % 3 = 0) → (3 ≤ i) → (imgK tb i) → va_P D vwCl [(x0, .inr (11, [.ref (q 0), .ref (q 1), .ref (q 2), .ref (q 3), .ref (q 4), .ref (q 5), .ref (q 6), .ref (q 7), .ref (q 8), .ref (q 9), .ref (q 10), .ref (q 11), .ref (q 12), .ref (q 13), .ref (q 14), .int hc, .ref (q 16), .long dr])), (q 0, .inr (10, [.ref (q 20), .int (nI tl)])), (q 20, .inl (cI, 1600, .inl (fun j => nI (tb j)))), (q 7, .inr (7, [.ref (q 33), .ref (q 34), .int (nI dy), .int wk, .int (nI mo), .int mu, .int ke]))] H → va_D A [(x0, .inr (11, [.ref (q 0), .ref (q 1), .ref (q 2), .ref (q 3), .ref (q 4), .ref (q 5), .ref (q 6), .ref (q 7), .ref (q 8), .ref (q 9), .ref (q 10), .ref (q 11), .ref (q 12), .ref (q 13), .ref (q 14), .int hc, .ref (q 16), .long dr])), (q 0, .inr (10, [.ref (q 20), .int (nI tl)])), (q 20, .inl (cI, 1600, .inl (fun j => nI (tb j)))), (q 7, .inr (7, [.ref (q 33), .ref (q 34), .int (nI dy), .int wk, .int (nI mo), .int mu, .int ke]))] → va_S A s.heap H locs → lv_has ls 3 [(2, .int (nI i)), (1, .int (nI (3 * dy + 3))), (0, .ref x0)] → W p l e { frames := 2, cells := 0, slots := 0, locals := 44 } s m ([.ref x0] : List Value).toArray below meth c H locs 0 0 (MQ below (skI D (skT cI cJ cC cZ cS) (fun (r : Int32) (u : va_W) => ∃ (b : Nat), b ≤ 1 ∧ (b = 1 → tb 2 ≤ 9) ∧ ((b = 0 ∧ ¬ imgO tb tl dy) ∨ (b = 1 ∧ imgO tb tl dy)) ∧ r = nI b ∧ u = [(x0, .inr (11, [.ref (q 0), .ref (q 1), .ref (q 2), .ref (q 3), .ref (q 4), .ref (q 5), .ref (q 6), .ref (q 7), .ref (q 8), .ref (q 9), .ref (q 10), .ref (q 11), .ref (q 12), .ref (q 13), .ref (q 14), .int hc, .ref (q 16), .long dr])), (q 0, .inr (10, [.ref (q 20), .int (nI tl)])), (q 20, .inl (cI, 1600, .inl (fun j => nI (tb j)))), (q 7, .inr (7, [.ref (q 33), .ref (q 34), .int (nI dy), .int wk, .int (nI mo), .int mu, .int ke]))]) A) ([.ref x0] : List Value).toArray s 0 0 A) (F0 m 90 ls []) := by
            intro n_28
            induction n_28 with
            | zero => intro i H locs ls hm; exact absurd hm (Nat.not_lt_zero _)
            | succ n_28 ih_lp_27 =>
              intro i H locs ls hm hi hi3 hi4 hal hP hD hS hl
              refine lv_iload_n hx hb dX11_tellsImage_90 rfl (lv_at hl 0 rfl) ?_
              refine lv_iload_n hx hb dX11_tellsImage_91 rfl (lv_at hl 1 rfl) ?_
              refine lv_icmp_ge (tgt := 145) hx hb dX11_tellsImage_92 (by decide) (fun c_29 => ?_) (fun c_29 => ?_)
              · have c_29 : 3 * dy + 3 ≤ i := (nle (3 * dy + 3) i (by omega) (by omega)).mp c_29
                refine lv_iconst (v := 1) hx hb dX11_tellsImage_145 (by decide) ?_
                exact sk_iret hx hb hr rfl hlocks hK hP hD hS (⟨1, by omega, by omega, (Or.inr ⟨rfl, by omega, by omega, by omega, fun k h1 h2 => hal k h1 (by omega)⟩), rfl, rfl⟩) (Nat.le_of_ble_eq_true rfl) (Nat.le_of_ble_eq_true rfl) dX11_tellsImage_146
              · have c_29 : ¬ (3 * dy + 3 ≤ i) := fun h => c_29 ((nle (3 * dy + 3) i (by omega) (by omega)).mpr h)
                refine lv_aload_n hx hb dX11_tellsImage_95 rfl (lv_at hl 2 rfl) ?_
                refine sk_get (v := .ref (q 0)) (C := RX11) (T := TX11) (N := 18) hx hb hts inlX11 hown hK hP 0 rfl rfl 0 (by decide) w_2_123 rfl dX11_tellsImage_96 ?_
                refine lv_iload_n hx hb dX11_tellsImage_99 rfl (lv_at hl 0 rfl) ?_
                refine sk_Vi (q0 := 0) (n := 1) (rest := []) (wr := fmR om_4_6 _) ⟨hx, hb, hml, hown, hts⟩ hl.1 (c_eTape_left_1600 l D cI cJ cC cZ cS (q 0) (q 20) tl tb i (by omega) htb (by omega)) w_4_214 w_4_215 w_4_216 w_1_2 w_4_217 hd_X10_left_1 ⟨⟨(Nat.le_of_ble_eq_true rfl), (Nat.le_of_ble_eq_true rfl)⟩, (Nat.le_of_ble_eq_true rfl), (Nat.le_of_ble_eq_true rfl)⟩ hK hP hD hS hA (fmT om_4_6 0) (fmF om_4_6 0) (fm_C1 rfl rfl) (fm_R rfl rfl) (fm_nT om_4_6 0) (fm_nF om_4_6 0) (fm_di om_4_6 0) rfl rfl rfl rfl (Nat.le_of_ble_eq_true rfl) dX11_tellsImage_100 (fun r_30 u H locs hw hP hD hS => ?_)
                refine anE hw (fun hv_31 hw1 => anE hw1 (fun er_33 eu_32 => ?_))
                clear hw hw1
                subst er_33
                refine o_mgE (ws' := [(x0, .inr (11, [.ref (q 0), .ref (q 1), .ref (q 2), .ref (q 3), .ref (q 4), .ref (q 5), .ref (q 6), .ref (q 7), .ref (q 8), .ref (q 9), .ref (q 10), .ref (q 11), .ref (q 12), .ref (q 13), .ref (q 14), .int hc, .ref (q 16), .long dr])), (q 0, .inr (10, [.ref (q 20), .int (nI tl)])), (q 20, .inl (cI, 1600, .inl (fun j => nI (tb j)))), (q 7, .inr (7, [.ref (q 33), .ref (q 34), .int (nI dy), .int wk, .int (nI mo), .int mu, .int ke]))]) eu_32 hP hD rfl (fun hP hD => ?_)
                refine lv_bipush (v := 10) hx hb dX11_tellsImage_103 (by decide) ?_
                refine lv_icmp_ge (tgt := 137) hx hb dX11_tellsImage_105 (by decide) (fun c_34 => ?_) (fun c_34 => ?_)
                · have c_34 : 10 ≤ tb i := (nle 10 (tb i) (by omega) (by omega)).mp c_34
                  refine lv_iconst (v := 0) hx hb dX11_tellsImage_137 (by decide) ?_
                  exact sk_iret hx hb hr rfl hlocks hK hP hD hS (⟨0, by omega, by omega, (Or.inl ⟨rfl, fun hq => by have h7 := (hq.2.2.2 i (by omega) (by omega)).1; have h8 := (hq.2.2.2 (i + 1) (by omega) (by omega)).1; have h9 := (hq.2.2.2 (i + 2) (by omega) (by omega)).2 (by omega) (by omega); omega⟩), rfl, rfl⟩) (Nat.le_of_ble_eq_true rfl) (Nat.le_of_ble_eq_true rfl) dX11_tellsImage_138
                · have c_34 : ¬ (10 ≤ tb i) := fun h => c_34 ((nle 10 (tb i) (by omega) (by omega)).mpr h)
                  refine lv_aload_n hx hb dX11_tellsImage_108 rfl (lv_at hl 2 rfl) ?_
                  refine sk_get (v := .ref (q 0)) (C := RX11) (T := TX11) (N := 18) hx hb hts inlX11 hown hK hP 0 rfl rfl 0 (by decide) w_2_123 rfl dX11_tellsImage_109 ?_
                  refine lv_iload_n hx hb dX11_tellsImage_112 rfl (lv_at hl 0 rfl) ?_
                  refine lv_iconst (v := 1) hx hb dX11_tellsImage_113 (by decide) ?_
                  refine lv_iadd hx hb dX11_tellsImage_114 ?_
                  refine sk_top (nI (i + 1)) (nI_add i 1) ?_
                  refine sk_Vi (q0 := 0) (n := 1) (rest := []) (wr := fmR om_4_6 _) ⟨hx, hb, hml, hown, hts⟩ hl.1 (c_eTape_left_1600 l D cI cJ cC cZ cS (q 0) (q 20) tl tb (i + 1) (by omega) htb (by omega)) w_4_214 w_4_215 w_4_216 w_1_2 w_4_217 hd_X10_left_1 ⟨⟨(Nat.le_of_ble_eq_true rfl), (Nat.le_of_ble_eq_true rfl)⟩, (Nat.le_of_ble_eq_true rfl), (Nat.le_of_ble_eq_true rfl)⟩ hK hP hD hS hA (fmT om_4_6 0) (fmF om_4_6 0) (fm_C1 rfl rfl) (fm_R rfl rfl) (fm_nT om_4_6 0) (fm_nF om_4_6 0) (fm_di om_4_6 0) rfl rfl rfl rfl (Nat.le_of_ble_eq_true rfl) dX11_tellsImage_115 (fun r_35 u H locs hw hP hD hS => ?_)
                  refine anE hw (fun hv_36 hw1 => anE hw1 (fun er_38 eu_37 => ?_))
                  clear hw hw1
                  subst er_38
                  refine o_mgE (ws' := [(x0, .inr (11, [.ref (q 0), .ref (q 1), .ref (q 2), .ref (q 3), .ref (q 4), .ref (q 5), .ref (q 6), .ref (q 7), .ref (q 8), .ref (q 9), .ref (q 10), .ref (q 11), .ref (q 12), .ref (q 13), .ref (q 14), .int hc, .ref (q 16), .long dr])), (q 0, .inr (10, [.ref (q 20), .int (nI tl)])), (q 20, .inl (cI, 1600, .inl (fun j => nI (tb j)))), (q 7, .inr (7, [.ref (q 33), .ref (q 34), .int (nI dy), .int wk, .int (nI mo), .int mu, .int ke]))]) eu_37 hP hD rfl (fun hP hD => ?_)
                  refine lv_bipush (v := 10) hx hb dX11_tellsImage_118 (by decide) ?_
                  refine lv_icmp_ge (tgt := 137) hx hb dX11_tellsImage_120 (by decide) (fun c_39 => ?_) (fun c_39 => ?_)
                  · have c_39 : 10 ≤ tb (i + 1) := (nle 10 (tb (i + 1)) (by omega) (by omega)).mp c_39
                    refine lv_iconst (v := 0) hx hb dX11_tellsImage_137 (by decide) ?_
                    exact sk_iret hx hb hr rfl hlocks hK hP hD hS (⟨0, by omega, by omega, (Or.inl ⟨rfl, fun hq => by have h7 := (hq.2.2.2 i (by omega) (by omega)).1; have h8 := (hq.2.2.2 (i + 1) (by omega) (by omega)).1; have h9 := (hq.2.2.2 (i + 2) (by omega) (by omega)).2 (by omega) (by omega); omega⟩), rfl, rfl⟩) (Nat.le_of_ble_eq_true rfl) (Nat.le_of_ble_eq_true rfl) dX11_tellsImage_138
                  · have c_39 : ¬ (10 ≤ tb (i + 1)) := fun h => c_39 ((nle 10 (tb (i + 1)) (by omega) (by omega)).mpr h)
                    refine lv_aload_n hx hb dX11_tellsImage_123 rfl (lv_at hl 2 rfl) ?_
                    refine sk_get (v := .ref (q 0)) (C := RX11) (T := TX11) (N := 18) hx hb hts inlX11 hown hK hP 0 rfl rfl 0 (by decide) w_2_123 rfl dX11_tellsImage_124 ?_
                    refine lv_iload_n hx hb dX11_tellsImage_127 rfl (lv_at hl 0 rfl) ?_
                    refine lv_iconst (v := 2) hx hb dX11_tellsImage_128 (by decide) ?_
                    refine lv_iadd hx hb dX11_tellsImage_129 ?_
                    refine sk_top (nI (i + 2)) (nI_add i 2) ?_
                    refine sk_Vi (q0 := 0) (n := 1) (rest := []) (wr := fmR om_4_6 _) ⟨hx, hb, hml, hown, hts⟩ hl.1 (c_eTape_left_1600 l D cI cJ cC cZ cS (q 0) (q 20) tl tb (i + 2) (by omega) htb (by omega)) w_4_214 w_4_215 w_4_216 w_1_2 w_4_217 hd_X10_left_1 ⟨⟨(Nat.le_of_ble_eq_true rfl), (Nat.le_of_ble_eq_true rfl)⟩, (Nat.le_of_ble_eq_true rfl), (Nat.le_of_ble_eq_true rfl)⟩ hK hP hD hS hA (fmT om_4_6 0) (fmF om_4_6 0) (fm_C1 rfl rfl) (fm_R rfl rfl) (fm_nT om_4_6 0) (fm_nF om_4_6 0) (fm_di om_4_6 0) rfl rfl rfl rfl (Nat.le_of_ble_eq_true rfl) dX11_tellsImage_130 (fun r_40 u H locs hw hP hD hS => ?_)
                    refine anE hw (fun hv_41 hw1 => anE hw1 (fun er_43 eu_42 => ?_))
                    clear hw hw1
                    subst er_43
                    refine o_mgE (ws' := [(x0, .inr (11, [.ref (q 0), .ref (q 1), .ref (q 2), .ref (q 3), .ref (q 4), .ref (q 5), .ref (q 6), .ref (q 7), .ref (q 8), .ref (q 9), .ref (q 10), .ref (q 11), .ref (q 12), .ref (q 13), .ref (q 14), .int hc, .ref (q 16), .long dr])), (q 0, .inr (10, [.ref (q 20), .int (nI tl)])), (q 20, .inl (cI, 1600, .inl (fun j => nI (tb j)))), (q 7, .inr (7, [.ref (q 33), .ref (q 34), .int (nI dy), .int wk, .int (nI mo), .int mu, .int ke]))]) eu_42 hP hD rfl (fun hP hD => ?_)
                    refine lv_iconst (v := 1) hx hb dX11_tellsImage_133 (by decide) ?_
                    refine lv_icmp_le (tgt := 139) hx hb dX11_tellsImage_134 (by decide) (fun c_44 => ?_) (fun c_44 => ?_)
                    · have c_44 : tb (i + 2) ≤ 1 := (nle (tb (i + 2)) 1 (by omega) (by omega)).mp c_44
                      refine lv_iinc (v := nI (i + 3)) (lv' := [(2, .int (nI (i + 3))), (1, .int (nI (3 * dy + 3))), (0, .ref x0)]) hx hb dX11_tellsImage_139 hl (k := 0) rfl (ninc i 3 (by decide)) (by decide) rfl (fun ls hl => ?_)
                      refine lv_goto (tgt := 90) hx hb dX11_tellsImage_142 (by decide) ?_
                      exact ih_lp_27 (i + 3) _ _ _ (by omega) (by omega) (by omega) (by omega) (imgK_s hal hi3 (by omega) (by omega) (by omega)) hP hD hS (lv_sub hl [0, 1, 2] rfl)
                    · have c_44 : ¬ (tb (i + 2) ≤ 1) := fun h => c_44 ((nle (tb (i + 2)) 1 (by omega) (by omega)).mpr h)
                      refine lv_iconst (v := 0) hx hb dX11_tellsImage_137 (by decide) ?_
                      exact sk_iret hx hb hr rfl hlocks hK hP hD hS (⟨0, by omega, by omega, (Or.inl ⟨rfl, fun hq => by have h7 := (hq.2.2.2 i (by omega) (by omega)).1; have h8 := (hq.2.2.2 (i + 1) (by omega) (by omega)).1; have h9 := (hq.2.2.2 (i + 2) (by omega) (by omega)).2 (by omega) (by omega); omega⟩), rfl, rfl⟩) (Nat.le_of_ble_eq_true rfl) (Nat.le_of_ble_eq_true rfl) dX11_tellsImage_138
          exact lp_27 (40 - 3 + 1) 3 _ _ _ (Nat.lt_succ_self _) (by omega) (by omega) (by omega) (imgK_0 (by omega)) hP hD hS (lv_sub hl [0, 1, 2] rfl)
        · have c_26 : ¬ (tb 2 < 10) := fun h => c_26 ((nlt (tb 2) 10 (by omega) (by omega)).mpr h)
          refine lv_iconst (v := 0) hx hb dX11_tellsImage_86 (by decide) ?_
          exact sk_iret hx hb hr rfl hlocks hK hP hD hS (⟨0, by omega, by omega, (Or.inl ⟨rfl, fun hq => by have h9 := hq.2.2.1; have h8 := (hq.2.2.2 2 (by omega) (by omega)).1; omega⟩), rfl, rfl⟩) (Nat.le_of_ble_eq_true rfl) (Nat.le_of_ble_eq_true rfl) dX11_tellsImage_87
    · have c_12 : ¬ (tb (3 * dy + 3) = ck2_6) := fun h => c_12 ((neq (tb (3 * dy + 3)) ck2_6 (by omega) (by omega)).mpr h)
      refine lv_iconst (v := 0) hx hb dX11_tellsImage_44 (by decide) ?_
      exact sk_iret hx hb hr rfl hlocks hK hP hD hS (⟨0, by omega, by omega, (Or.inl ⟨rfl, fun hq => by have h9 := hq.2.1; omega⟩), rfl, rfl⟩) (Nat.le_of_ble_eq_true rfl) (Nat.le_of_ble_eq_true rfl) dX11_tellsImage_45

