set_option maxHeartbeats 4000000 in
set_option maxRecDepth 100000 in
theorem c_kx_isWordOfN (l : Launch) (D : va_G) (cI cJ cC cZ cS : ClassId) (x0 : Nat) (q : Nat → Nat) (hc : Int32) (dr : Int64) (dy : Nat) (wn : Nat) (mo : Nat) (ke : Nat) (mu : Int32) (fb : Nat → Int32) (fw : Nat → Int32) (aw : Nat) (cw : Nat) (U : Nat → Bool) (hdy : dy ≤ 9) (hU : muO U mu) (ha9 : aw ≤ 255) (hc9 : cw ≤ 255) : skM l yX11_isWordOf cX11_isWordOf 3 (some .boolean) 1 21 0 0 D (skT cI cJ cC cZ cS) [.ref x0, .int (nI aw), .int (nI cw)] [(x0, .inr (11, [.ref (q 0), .ref (q 1), .ref (q 2), .ref (q 3), .ref (q 4), .ref (q 5), .ref (q 6), .ref (q 7), .ref (q 8), .ref (q 9), .ref (q 10), .ref (q 11), .ref (q 12), .ref (q 13), .ref (q 14), .int hc, .ref (q 16), .long dr])), (q 7, .inr (7, [.ref (q 33), .ref (q 34), .int (nI dy), .int (nI wn), .int (nI mo), .int mu, .int (nI ke)]))] (skI D (skT cI cJ cC cZ cS) (fun (r : Int32) (u : va_W) => ∃ (b : Nat), ((b = 0 ∧ ¬ (aw < dy ∧ ¬ U aw = true ∧ cw < 10)) ∨ (b = 1 ∧ aw < dy ∧ ¬ U aw = true ∧ cw < 10)) ∧ r = nI b ∧ u = [(x0, .inr (11, [.ref (q 0), .ref (q 1), .ref (q 2), .ref (q 3), .ref (q 4), .ref (q 5), .ref (q 6), .ref (q 7), .ref (q 8), .ref (q 9), .ref (q 10), .ref (q 11), .ref (q 12), .ref (q 13), .ref (q 14), .int hc, .ref (q 16), .long dr])), (q 7, .inr (7, [.ref (q 33), .ref (q 34), .int (nI dy), .int (nI wn), .int (nI mo), .int mu, .int (nI ke)]))])) := by
  refine skM_of (by decide +kernel) (Nat.le_of_ble_eq_true rfl) ?_
  intro p e s m below meth c A ls E hP hD hl
  obtain ⟨hx, hb, hr, hml, hlocks, hin, hown, hts, hK, hA⟩ := E
  have hown : s.vm.findClass RX11 = some m.cls := hown
  have hS : va_S A s.heap s.heap [] := va_S.rf
  have hl : lv_has ls 3 [(0, .ref x0), (1, .int (nI aw)), (2, .int (nI cw))] := hl
  refine lv_aload_n hx hb dX11_isWordOf_0 rfl (lv_at hl 0 rfl) ?_
  refine lv_iload_n hx hb dX11_isWordOf_1 rfl (lv_at hl 1 rfl) ?_
  refine sk_Vi (q0 := 0) (n := 1) (rest := []) (wr := []) ⟨hx, hb, hml, hown, hts⟩ hl.1 (c_kx_isDay l D cI cJ cC cZ cS x0 q hc dr dy wn mo ke mu fb fw (nI aw) (by omega)) w_3_190 w_3_192 w_0_14 w_1_1 w_3_193 (by decide +kernel) ⟨⟨(Nat.le_of_ble_eq_true rfl), (Nat.le_of_ble_eq_true rfl)⟩, (Nat.le_of_ble_eq_true rfl), (Nat.le_of_ble_eq_true rfl)⟩ hK hP hD hS hA [0, 1] [] rfl rfl (by decide +kernel) (by decide +kernel) (by decide +kernel) rfl rfl rfl rfl (Nat.le_of_ble_eq_true rfl) dX11_isWordOf_2 (fun r_2 u H locs hw hP hD hS => ?_)
  obtain ⟨b_1, hb1_3, rfl, rfl⟩ := hw
  have hP : va_P D vwCl [(x0, .inr (11, [.ref (q 0), .ref (q 1), .ref (q 2), .ref (q 3), .ref (q 4), .ref (q 5), .ref (q 6), .ref (q 7), .ref (q 8), .ref (q 9), .ref (q 10), .ref (q 11), .ref (q 12), .ref (q 13), .ref (q 14), .int hc, .ref (q 16), .long dr])), (q 7, .inr (7, [.ref (q 33), .ref (q 34), .int (nI dy), .int (nI wn), .int (nI mo), .int mu, .int (nI ke)]))] H := hP
  have hD : va_D A [(x0, .inr (11, [.ref (q 0), .ref (q 1), .ref (q 2), .ref (q 3), .ref (q 4), .ref (q 5), .ref (q 6), .ref (q 7), .ref (q 8), .ref (q 9), .ref (q 10), .ref (q 11), .ref (q 12), .ref (q 13), .ref (q 14), .int hc, .ref (q 16), .long dr])), (q 7, .inr (7, [.ref (q 33), .ref (q 34), .int (nI dy), .int (nI wn), .int (nI mo), .int mu, .int (nI ke)]))] := hD
  refine lv_if_eq (tgt := 30) hx hb dX11_isWordOf_5 (by decide) (fun c_4 => ?_) (fun c_4 => ?_)
  · have c_4 : b_1 = 0 := (neq b_1 0 (by omega) (by omega)).mp c_4
    refine lv_iconst (v := 0) hx hb dX11_isWordOf_30 (by decide) ?_
    exact sk_iret hx hb hr rfl hlocks hK hP hD hS (⟨0, Or.inl ⟨rfl, fun hq => (rr_0 hb1_3 (by omega)) ⟨aw, hq.1, rfl⟩⟩, rfl, rfl⟩) (Nat.le_of_ble_eq_true rfl) (Nat.le_of_ble_eq_true rfl) dX11_isWordOf_31
  · have c_4 : ¬ (b_1 = 0) := fun h => c_4 ((neq b_1 0 (by omega) (by omega)).mpr h)
    obtain ⟨kd_5, hkd_5, ekd_5⟩ := rr_1 hb1_3 (by omega)
    have ekd_5 := (neq aw kd_5 (by omega) (by omega)).mp ekd_5
    refine lv_aload_n hx hb dX11_isWordOf_8 rfl (lv_at hl 0 rfl) ?_
    refine sk_get (v := .ref (q 7)) (C := RX11) (T := TX11) (N := 18) hx hb hts inlX11 hown hK hP 0 rfl rfl 7 (by decide) w_2_130 rfl dX11_isWordOf_9 ?_
    refine lv_iload_n hx hb dX11_isWordOf_12 rfl (lv_at hl 1 rfl) ?_
    refine sk_Vi (q0 := 0) (n := 1) (rest := []) (wr := [(x0, .inr (11, [.ref (q 0), .ref (q 1), .ref (q 2), .ref (q 3), .ref (q 4), .ref (q 5), .ref (q 6), .ref (q 7), .ref (q 8), .ref (q 9), .ref (q 10), .ref (q 11), .ref (q 12), .ref (q 13), .ref (q 14), .int hc, .ref (q 16), .long dr]))]) ⟨hx, hb, hml, hown, hts⟩ hl.1 (c_kState_isMute l D cI cJ cC cZ cS (q 7) (q 33) (q 34) dy mo (nI wn) mu (nI ke) aw U (by omega) hU) w_3_194 w_3_195 w_3_196 w_1_10 w_3_197 (by decide +kernel) ⟨⟨(Nat.le_of_ble_eq_true rfl), (Nat.le_of_ble_eq_true rfl)⟩, (Nat.le_of_ble_eq_true rfl), (Nat.le_of_ble_eq_true rfl)⟩ hK hP hD hS hA [1] [0] rfl rfl (by decide +kernel) (by decide +kernel) (by decide +kernel) rfl rfl rfl rfl (Nat.le_of_ble_eq_true rfl) dX11_isWordOf_13 (fun r_7 u H locs hw hP hD hS => ?_)
    obtain ⟨b_6, hb1_8, rfl, rfl⟩ := hw
    have hP : va_P D vwCl [(x0, .inr (11, [.ref (q 0), .ref (q 1), .ref (q 2), .ref (q 3), .ref (q 4), .ref (q 5), .ref (q 6), .ref (q 7), .ref (q 8), .ref (q 9), .ref (q 10), .ref (q 11), .ref (q 12), .ref (q 13), .ref (q 14), .int hc, .ref (q 16), .long dr])), (q 7, .inr (7, [.ref (q 33), .ref (q 34), .int (nI dy), .int (nI wn), .int (nI mo), .int mu, .int (nI ke)]))] H := hP
    have hD : va_D A [(x0, .inr (11, [.ref (q 0), .ref (q 1), .ref (q 2), .ref (q 3), .ref (q 4), .ref (q 5), .ref (q 6), .ref (q 7), .ref (q 8), .ref (q 9), .ref (q 10), .ref (q 11), .ref (q 12), .ref (q 13), .ref (q 14), .int hc, .ref (q 16), .long dr])), (q 7, .inr (7, [.ref (q 33), .ref (q 34), .int (nI dy), .int (nI wn), .int (nI mo), .int mu, .int (nI ke)]))] := hD
    refine lv_if_ne (tgt := 30) hx hb dX11_isWordOf_16 (by decide) (fun c_9 => ?_) (fun c_9 => ?_)
    · have c_9 : ¬ (b_6 = 0) := fun h => c_9 ((neq b_6 0 (by omega) (by omega)).mpr h)
      refine lv_iconst (v := 0) hx hb dX11_isWordOf_30 (by decide) ?_
      exact sk_iret hx hb hr rfl hlocks hK hP hD hS (⟨0, Or.inl ⟨rfl, fun hq => hq.2.1 (km_1 hb1_8 (by omega))⟩, rfl, rfl⟩) (Nat.le_of_ble_eq_true rfl) (Nat.le_of_ble_eq_true rfl) dX11_isWordOf_31
    · have c_9 : b_6 = 0 := (neq b_6 0 (by omega) (by omega)).mp c_9
      refine lv_iload_n hx hb dX11_isWordOf_19 rfl (lv_at hl 2 rfl) ?_
      refine sk_Si (n := 1) (rest := []) (wr := [(x0, .inr (11, [.ref (q 0), .ref (q 1), .ref (q 2), .ref (q 3), .ref (q 4), .ref (q 5), .ref (q 6), .ref (q 7), .ref (q 8), .ref (q 9), .ref (q 10), .ref (q 11), .ref (q 12), .ref (q 13), .ref (q 14), .int hc, .ref (q 16), .long dr])), (q 7, .inr (7, [.ref (q 33), .ref (q 34), .int (nI dy), .int (nI wn), .int (nI mo), .int mu, .int (nI ke)]))]) ⟨hx, hb, hml, hown, hts⟩ hl.1 (c_kx_isDigit l D cI cJ cC cZ cS (nI cw)) w_3_202 w_3_203 w_1_1 w_3_204 (by decide +kernel) ⟨⟨(Nat.le_of_ble_eq_true rfl), (Nat.le_of_ble_eq_true rfl)⟩, (Nat.le_of_ble_eq_true rfl), (Nat.le_of_ble_eq_true rfl)⟩ hK hP hD hS hA [] [0, 1] rfl rfl (by decide +kernel) (by decide +kernel) (by decide +kernel) rfl rfl (Nat.le_of_ble_eq_true rfl) dX11_isWordOf_20 (fun r_11 u H locs hw hP hD hS => ?_)
      obtain ⟨b_10, hb1_12, rfl, rfl⟩ := hw
      have hP : va_P D vwCl [(x0, .inr (11, [.ref (q 0), .ref (q 1), .ref (q 2), .ref (q 3), .ref (q 4), .ref (q 5), .ref (q 6), .ref (q 7), .ref (q 8), .ref (q 9), .ref (q 10), .ref (q 11), .ref (q 12), .ref (q 13), .ref (q 14), .int hc, .ref (q 16), .long dr])), (q 7, .inr (7, [.ref (q 33), .ref (q 34), .int (nI dy), .int (nI wn), .int (nI mo), .int mu, .int (nI ke)]))] H := hP
      have hD : va_D A [(x0, .inr (11, [.ref (q 0), .ref (q 1), .ref (q 2), .ref (q 3), .ref (q 4), .ref (q 5), .ref (q 6), .ref (q 7), .ref (q 8), .ref (q 9), .ref (q 10), .ref (q 11), .ref (q 12), .ref (q 13), .ref (q 14), .int hc, .ref (q 16), .long dr])), (q 7, .inr (7, [.ref (q 33), .ref (q 34), .int (nI dy), .int (nI wn), .int (nI mo), .int mu, .int (nI ke)]))] := hD
      refine lv_if_eq (tgt := 30) hx hb dX11_isWordOf_23 (by decide) (fun c_13 => ?_) (fun c_13 => ?_)
      · have c_13 : b_10 = 0 := (neq b_10 0 (by omega) (by omega)).mp c_13
        refine lv_iconst (v := 0) hx hb dX11_isWordOf_30 (by decide) ?_
        exact sk_iret hx hb hr rfl hlocks hK hP hD hS (⟨0, Or.inl ⟨rfl, fun hq => (rr_0 hb1_12 (by omega)) ⟨cw, hq.2.2, rfl⟩⟩, rfl, rfl⟩) (Nat.le_of_ble_eq_true rfl) (Nat.le_of_ble_eq_true rfl) dX11_isWordOf_31
      · have c_13 : ¬ (b_10 = 0) := fun h => c_13 ((neq b_10 0 (by omega) (by omega)).mpr h)
        obtain ⟨kd_14, hkd_14, ekd_14⟩ := rr_1 hb1_12 (by omega)
        have ekd_14 := (neq cw kd_14 (by omega) (by omega)).mp ekd_14
        refine lv_iconst (v := 1) hx hb dX11_isWordOf_26 (by decide) ?_
        refine lv_goto (tgt := 31) hx hb dX11_isWordOf_27 (by decide) ?_
        exact sk_iret hx hb hr rfl hlocks hK hP hD hS (⟨1, Or.inr ⟨rfl, by omega, km_0 hb1_8 (by omega), by omega⟩, rfl, rfl⟩) (Nat.le_of_ble_eq_true rfl) (Nat.le_of_ble_eq_true rfl) dX11_isWordOf_31
theorem dX11_tellsRows_0 : decode cX11_tellsRows 0 = .ok (.aload_n 0, 1) := by decide +kernel
theorem dX11_tellsRows_1 : decode cX11_tellsRows 1 = .ok (.getfield 12, 3) := by decide +kernel
theorem dX11_tellsRows_4 : decode cX11_tellsRows 4 = .ok (.getfield 110, 3) := by decide +kernel
theorem dX11_tellsRows_7 : decode cX11_tellsRows 7 = .ok (.iconst 2, 1) := by decide +kernel
theorem dX11_tellsRows_8 : decode cX11_tellsRows 8 = .ok (.if_icmp .lt 27, 3) := by decide +kernel
theorem dX11_tellsRows_35 : decode cX11_tellsRows 35 = .ok (.iconst 0, 1) := by decide +kernel
theorem dX11_tellsRows_36 : decode cX11_tellsRows 36 = .ok (.ireturn, 1) := by decide +kernel
theorem dX11_tellsRows_11 : decode cX11_tellsRows 11 = .ok (.aload_n 0, 1) := by decide +kernel
theorem dX11_tellsRows_12 : decode cX11_tellsRows 12 = .ok (.getfield 12, 3) := by decide +kernel
theorem dX11_tellsRows_15 : decode cX11_tellsRows 15 = .ok (.getfield 110, 3) := by decide +kernel
theorem dX11_tellsRows_18 : decode cX11_tellsRows 18 = .ok (.bipush 32, 2) := by decide +kernel
theorem dX11_tellsRows_20 : decode cX11_tellsRows 20 = .ok (.if_icmp .gt 15, 3) := by decide +kernel
theorem dX11_tellsRows_23 : decode cX11_tellsRows 23 = .ok (.aload_n 0, 1) := by decide +kernel
theorem dX11_tellsRows_24 : decode cX11_tellsRows 24 = .ok (.getfield 12, 3) := by decide +kernel
theorem dX11_tellsRows_27 : decode cX11_tellsRows 27 = .ok (.getfield 110, 3) := by decide +kernel
theorem dX11_tellsRows_30 : decode cX11_tellsRows 30 = .ok (.iconst 2, 1) := by decide +kernel
theorem dX11_tellsRows_31 : decode cX11_tellsRows 31 = .ok (.irem, 1) := by decide +kernel
theorem dX11_tellsRows_32 : decode cX11_tellsRows 32 = .ok (.ifCond .eq 5, 3) := by decide +kernel
theorem dX11_tellsRows_37 : decode cX11_tellsRows 37 = .ok (.iconst 0, 1) := by decide +kernel
theorem dX11_tellsRows_38 : decode cX11_tellsRows 38 = .ok (.istore_n 1, 1) := by decide +kernel
theorem dX11_tellsRows_39 : decode cX11_tellsRows 39 = .ok (.iload_n 1, 1) := by decide +kernel
theorem dX11_tellsRows_40 : decode cX11_tellsRows 40 = .ok (.aload_n 0, 1) := by decide +kernel
theorem dX11_tellsRows_41 : decode cX11_tellsRows 41 = .ok (.getfield 12, 3) := by decide +kernel
theorem dX11_tellsRows_44 : decode cX11_tellsRows 44 = .ok (.getfield 110, 3) := by decide +kernel
theorem dX11_tellsRows_47 : decode cX11_tellsRows 47 = .ok (.if_icmp .ge 36, 3) := by decide +kernel
theorem dX11_tellsRows_83 : decode cX11_tellsRows 83 = .ok (.iconst 1, 1) := by decide +kernel
theorem dX11_tellsRows_84 : decode cX11_tellsRows 84 = .ok (.ireturn, 1) := by decide +kernel
theorem dX11_tellsRows_50 : decode cX11_tellsRows 50 = .ok (.aload_n 0, 1) := by decide +kernel
theorem dX11_tellsRows_51 : decode cX11_tellsRows 51 = .ok (.aload_n 0, 1) := by decide +kernel
theorem dX11_tellsRows_52 : decode cX11_tellsRows 52 = .ok (.getfield 12, 3) := by decide +kernel
theorem dX11_tellsRows_55 : decode cX11_tellsRows 55 = .ok (.iload_n 1, 1) := by decide +kernel
theorem dX11_tellsRows_56 : decode cX11_tellsRows 56 = .ok (.invokevirtual 268, 3) := by decide +kernel
theorem dX11_tellsRows_59 : decode cX11_tellsRows 59 = .ok (.aload_n 0, 1) := by decide +kernel
theorem dX11_tellsRows_60 : decode cX11_tellsRows 60 = .ok (.getfield 12, 3) := by decide +kernel
theorem dX11_tellsRows_63 : decode cX11_tellsRows 63 = .ok (.iload_n 1, 1) := by decide +kernel
theorem dX11_tellsRows_64 : decode cX11_tellsRows 64 = .ok (.iconst 1, 1) := by decide +kernel
theorem dX11_tellsRows_65 : decode cX11_tellsRows 65 = .ok (.iadd, 1) := by decide +kernel
theorem dX11_tellsRows_66 : decode cX11_tellsRows 66 = .ok (.invokevirtual 268, 3) := by decide +kernel
theorem dX11_tellsRows_69 : decode cX11_tellsRows 69 = .ok (.invokevirtual 255, 3) := by decide +kernel
theorem dX11_tellsRows_72 : decode cX11_tellsRows 72 = .ok (.ifCond .ne 5, 3) := by decide +kernel
theorem dX11_tellsRows_77 : decode cX11_tellsRows 77 = .ok (.iinc 1 2, 3) := by decide +kernel
theorem dX11_tellsRows_80 : decode cX11_tellsRows 80 = .ok (.goto (-41), 3) := by decide +kernel
theorem dX11_tellsRows_75 : decode cX11_tellsRows 75 = .ok (.iconst 0, 1) := by decide +kernel
theorem dX11_tellsRows_76 : decode cX11_tellsRows 76 = .ok (.ireturn, 1) := by decide +kernel
theorem w_4_213 : (Cond.code yX11_tellsRows cX11_tellsRows 2 (some .boolean)) ∈ wsL_law := sk_mem (ck_4 _ (List.mem_of_getElem? (i := 213) rfl)) rfl
set_option maxHeartbeats 4000000 in
set_option maxRecDepth 100000 in
theorem c_kx_tellsRows (l : Launch) (D : va_G) (cI cJ cC cZ cS : ClassId) (x0 : Nat) (q : Nat → Nat) (hc : Int32) (dr : Int64) (tl : Nat) (tb : Nat → Nat) (dy : Nat) (wn : Nat) (mo : Nat) (ke : Nat) (mu : Int32) (fb : Nat → Int32) (fw : Nat → Int32) (U : Nat → Bool) (htl : tl ≤ 1600) (htb : ∀ j, tb j ≤ 255) (hdy : dy ≤ 9) (hmo : mo ≤ 9) (hU : muO U mu) : skM l yX11_tellsRows cX11_tellsRows 2 (some .boolean) 2 43 0 0 D (skT cI cJ cC cZ cS) [.ref x0] [(x0, .inr (11, [.ref (q 0), .ref (q 1), .ref (q 2), .ref (q 3), .ref (q 4), .ref (q 5), .ref (q 6), .ref (q 7), .ref (q 8), .ref (q 9), .ref (q 10), .ref (q 11), .ref (q 12), .ref (q 13), .ref (q 14), .int hc, .ref (q 16), .long dr])), (q 0, .inr (10, [.ref (q 20), .int (nI tl)])), (q 20, .inl (cI, 1600, .inl (fun j => nI (tb j)))), (q 7, .inr (7, [.ref (q 33), .ref (q 34), .int (nI dy), .int (nI wn), .int (nI mo), .int mu, .int (nI ke)]))] (skI D (skT cI cJ cC cZ cS) (fun (r : Int32) (u : va_W) => ∃ (b : Nat), ((b = 0 ∧ ¬ (2 ≤ tl ∧ tl ≤ 32 ∧ tl % 2 = 0 ∧ hrC dy U tb tl)) ∨ (b = 1 ∧ 2 ≤ tl ∧ tl ≤ 32 ∧ tl % 2 = 0 ∧ hrC dy U tb tl)) ∧ r = nI b ∧ u = [(x0, .inr (11, [.ref (q 0), .ref (q 1), .ref (q 2), .ref (q 3), .ref (q 4), .ref (q 5), .ref (q 6), .ref (q 7), .ref (q 8), .ref (q 9), .ref (q 10), .ref (q 11), .ref (q 12), .ref (q 13), .ref (q 14), .int hc, .ref (q 16), .long dr])), (q 0, .inr (10, [.ref (q 20), .int (nI tl)])), (q 20, .inl (cI, 1600, .inl (fun j => nI (tb j)))), (q 7, .inr (7, [.ref (q 33), .ref (q 34), .int (nI dy), .int (nI wn), .int (nI mo), .int mu, .int (nI ke)]))])) := by
  refine skM_of (by decide +kernel) (Nat.le_of_ble_eq_true rfl) ?_
  intro p e s m below meth c A ls E hP hD hl
  obtain ⟨hx, hb, hr, hml, hlocks, hin, hown, hts, hK, hA⟩ := E
  have hown : s.vm.findClass RX11 = some m.cls := hown
  have hS : va_S A s.heap s.heap [] := va_S.rf
  have hl : lv_has ls 2 [(0, .ref x0)] := hl
  refine lv_aload_n hx hb dX11_tellsRows_0 rfl (lv_at hl 0 rfl) ?_
  refine sk_get (v := .ref (q 0)) (C := RX11) (T := TX11) (N := 18) hx hb hts inlX11 hown hK hP 0 rfl rfl 0 (by decide) w_2_123 rfl dX11_tellsRows_1 ?_
  refine sk_get (v := .int (nI tl)) (C := RX10) (T := TX10) (N := 2) hx hb hts inlX10 hown hK hP 1 rfl rfl 1 (by decide) w_1_42 rfl dX11_tellsRows_4 ?_
  refine lv_iconst (v := 2) hx hb dX11_tellsRows_7 (by decide) ?_
  refine lv_icmp_lt (tgt := 35) hx hb dX11_tellsRows_8 (by decide) (fun c_1 => ?_) (fun c_1 => ?_)
  · have c_1 : tl < 2 := (nlt tl 2 (by omega) (by omega)).mp c_1
    refine lv_iconst (v := 0) hx hb dX11_tellsRows_35 (by decide) ?_
    exact sk_iret hx hb hr rfl hlocks hK hP hD hS (⟨0, Or.inl ⟨rfl, fun hq => by have h1 := hq.1; have h2 := hq.2.1; have h3 := hq.2.2.1; omega⟩, rfl, rfl⟩) (Nat.le_of_ble_eq_true rfl) (Nat.le_of_ble_eq_true rfl) dX11_tellsRows_36
  · have c_1 : ¬ (tl < 2) := fun h => c_1 ((nlt tl 2 (by omega) (by omega)).mpr h)
    refine lv_aload_n hx hb dX11_tellsRows_11 rfl (lv_at hl 0 rfl) ?_
    refine sk_get (v := .ref (q 0)) (C := RX11) (T := TX11) (N := 18) hx hb hts inlX11 hown hK hP 0 rfl rfl 0 (by decide) w_2_123 rfl dX11_tellsRows_12 ?_
    refine sk_get (v := .int (nI tl)) (C := RX10) (T := TX10) (N := 2) hx hb hts inlX10 hown hK hP 1 rfl rfl 1 (by decide) w_1_42 rfl dX11_tellsRows_15 ?_
    refine lv_bipush (v := 32) hx hb dX11_tellsRows_18 (by decide) ?_
    refine lv_icmp_gt (tgt := 35) hx hb dX11_tellsRows_20 (by decide) (fun c_2 => ?_) (fun c_2 => ?_)
    · have c_2 : 32 < tl := (nlt 32 tl (by omega) (by omega)).mp c_2
      refine lv_iconst (v := 0) hx hb dX11_tellsRows_35 (by decide) ?_
      exact sk_iret hx hb hr rfl hlocks hK hP hD hS (⟨0, Or.inl ⟨rfl, fun hq => by have h1 := hq.1; have h2 := hq.2.1; have h3 := hq.2.2.1; omega⟩, rfl, rfl⟩) (Nat.le_of_ble_eq_true rfl) (Nat.le_of_ble_eq_true rfl) dX11_tellsRows_36
    · have c_2 : ¬ (32 < tl) := fun h => c_2 ((nlt 32 tl (by omega) (by omega)).mpr h)
      refine lv_aload_n hx hb dX11_tellsRows_23 rfl (lv_at hl 0 rfl) ?_
      refine sk_get (v := .ref (q 0)) (C := RX11) (T := TX11) (N := 18) hx hb hts inlX11 hown hK hP 0 rfl rfl 0 (by decide) w_2_123 rfl dX11_tellsRows_24 ?_
      refine sk_get (v := .int (nI tl)) (C := RX10) (T := TX10) (N := 2) hx hb hts inlX10 hown hK hP 1 rfl rfl 1 (by decide) w_1_42 rfl dX11_tellsRows_27 ?_
      refine lv_iconst (v := 2) hx hb dX11_tellsRows_30 (by decide) ?_
      refine lv_irem hx hb dX11_tellsRows_31 (by decide) ?_
      refine sk_top (nI (tl % 2)) (nrem tl 2 (by omega) (by omega) (by omega)) ?_
      refine lv_if_eq (tgt := 37) hx hb dX11_tellsRows_32 (by decide) (fun c_3 => ?_) (fun c_3 => ?_)
      · have c_3 : tl % 2 = 0 := (neq (tl % 2) 0 (by omega) (by omega)).mp c_3
        refine lv_iconst (v := 0) hx hb dX11_tellsRows_37 (by decide) ?_
        refine lv_istore_n (lv' := [(1, .int 0), (0, .ref x0)]) hx hb dX11_tellsRows_38 rfl hl (by decide) rfl (fun ls hl => ?_)
        have lp_4 : ∀ (n_5 : Nat) (i : Nat) (H : Heap) (locs : List Loc) (ls : Array Slot), 1602 - i < n_5 → (i ≤ 33) → (i % 2 = 0) → (hrC dy U tb i) → va_P D vwCl [(x0, .inr (11, [.ref (q 0), .ref (q 1), .ref (q 2), .ref (q 3), .ref (q 4), .ref (q 5), .ref (q 6), .ref (q 7), .ref (q 8), .ref (q 9), .ref (q 10), .ref (q 11), .ref (q 12), .ref (q 13), .ref (q 14), .int hc, .ref (q 16), .long dr])), (q 0, .inr (10, [.ref (q 20), .int (nI tl)])), (q 20, .inl (cI, 1600, .inl (fun j => nI (tb j)))), (q 7, .inr (7, [.ref (q 33), .ref (q 34), .int (nI dy), .int (nI wn), .int (nI mo), .int mu, .int (nI ke)]))] H → va_D A [(x0, .inr (11, [.ref (q 0), .ref (q 1), .ref (q 2), .ref (q 3), .ref (q 4), .ref (q 5), .ref (q 6), .ref (q 7), .ref (q 8), .ref (q 9), .ref (q 10), .ref (q 11), .ref (q 12), .ref (q 13), .ref (q 14), .int hc, .ref (q 16), .long dr])), (q 0, .inr (10, [.ref (q 20), .int (nI tl)])), (q 20, .inl (cI, 1600, .inl (fun j => nI (tb j)))), (q 7, .inr (7, [.ref (q 33), .ref (q 34), .int (nI dy), .int (nI wn), .int (nI mo), .int mu, .int (nI ke)]))] → va_S A s.heap H locs → lv_has ls 2 [(1, .int (nI i)), (0, .ref x0)] → W p l e { frames := 2, cells := 0, slots := 0, locals := 43 } s m ([.ref x0] : List Value).toArray below meth c H locs 0 0 (MQ below (skI D (skT cI cJ cC cZ cS) (fun (r : Int32) (u : va_W) => ∃ (b : Nat), ((b = 0 ∧ ¬ (2 ≤ tl ∧ tl ≤ 32 ∧ tl % 2 = 0 ∧ hrC dy U tb tl)) ∨ (b = 1 ∧ 2 ≤ tl ∧ tl ≤ 32 ∧ tl % 2 = 0 ∧ hrC dy U tb tl)) ∧ r = nI b ∧ u = [(x0, .inr (11, [.ref (q 0), .ref (q 1), .ref (q 2), .ref (q 3), .ref (q 4), .ref (q 5), .ref (q 6), .ref (q 7), .ref (q 8), .ref (q 9), .ref (q 10), .ref (q 11), .ref (q 12), .ref (q 13), .ref (q 14), .int hc, .ref (q 16), .long dr])), (q 0, .inr (10, [.ref (q 20), .int (nI tl)])), (q 20, .inl (cI, 1600, .inl (fun j => nI (tb j)))), (q 7, .inr (7, [.ref (q 33), .ref (q 34), .int (nI dy), .int (nI wn), .int (nI mo), .int mu, .int (nI ke)]))]) A) ([.ref x0] : List Value).toArray s 0 0 A) (F0 m 39 ls []) := by
          intro n_5
          induction n_5 with
          | zero => intro i H locs ls hm; exact absurd hm (Nat.not_lt_zero _)
          | succ n_5 ih_lp_4 =>
            intro i H locs ls hm hi hi2 hrc hP hD hS hl
            refine lv_iload_n hx hb dX11_tellsRows_39 rfl (lv_at hl 0 rfl) ?_
            refine lv_aload_n hx hb dX11_tellsRows_40 rfl (lv_at hl 1 rfl) ?_
            refine sk_get (v := .ref (q 0)) (C := RX11) (T := TX11) (N := 18) hx hb hts inlX11 hown hK hP 0 rfl rfl 0 (by decide) w_2_123 rfl dX11_tellsRows_41 ?_
            refine sk_get (v := .int (nI tl)) (C := RX10) (T := TX10) (N := 2) hx hb hts inlX10 hown hK hP 1 rfl rfl 1 (by decide) w_1_42 rfl dX11_tellsRows_44 ?_
            refine lv_icmp_ge (tgt := 83) hx hb dX11_tellsRows_47 (by decide) (fun c_6 => ?_) (fun c_6 => ?_)
            · have c_6 : tl ≤ i := (nle tl i (by omega) (by omega)).mp c_6
              refine lv_iconst (v := 1) hx hb dX11_tellsRows_83 (by decide) ?_
              exact sk_iret hx hb hr rfl hlocks hK hP hD hS (⟨1, Or.inr ⟨rfl, by omega, by omega, by omega, hrC_e hrc (by omega)⟩, rfl, rfl⟩) (Nat.le_of_ble_eq_true rfl) (Nat.le_of_ble_eq_true rfl) dX11_tellsRows_84
            · have c_6 : ¬ (tl ≤ i) := fun h => c_6 ((nle tl i (by omega) (by omega)).mpr h)
              refine lv_aload_n hx hb dX11_tellsRows_50 rfl (lv_at hl 1 rfl) ?_
              refine lv_aload_n hx hb dX11_tellsRows_51 rfl (lv_at hl 1 rfl) ?_
              refine sk_get (v := .ref (q 0)) (C := RX11) (T := TX11) (N := 18) hx hb hts inlX11 hown hK hP 0 rfl rfl 0 (by decide) w_2_123 rfl dX11_tellsRows_52 ?_
              refine lv_iload_n hx hb dX11_tellsRows_55 rfl (lv_at hl 0 rfl) ?_
              refine sk_Vi (q0 := 0) (n := 1) (rest := [.ref x0]) (wr := [(x0, .inr (11, [.ref (q 0), .ref (q 1), .ref (q 2), .ref (q 3), .ref (q 4), .ref (q 5), .ref (q 6), .ref (q 7), .ref (q 8), .ref (q 9), .ref (q 10), .ref (q 11), .ref (q 12), .ref (q 13), .ref (q 14), .int hc, .ref (q 16), .long dr])), (q 7, .inr (7, [.ref (q 33), .ref (q 34), .int (nI dy), .int (nI wn), .int (nI mo), .int mu, .int (nI ke)]))]) ⟨hx, hb, hml, hown, hts⟩ hl.1 (c_eTape_left_1600 l D cI cJ cC cZ cS (q 0) (q 20) tl tb i (by omega) htb (by omega)) w_4_214 w_4_215 w_4_216 w_1_2 w_4_217 (by decide +kernel) ⟨⟨(Nat.le_of_ble_eq_true rfl), (Nat.le_of_ble_eq_true rfl)⟩, (Nat.le_of_ble_eq_true rfl), (Nat.le_of_ble_eq_true rfl)⟩ hK hP hD hS hA [1, 2] [0, 3] rfl rfl (by decide +kernel) (by decide +kernel) (by decide +kernel) rfl rfl rfl rfl (Nat.le_of_ble_eq_true rfl) dX11_tellsRows_56 (fun r_7 u H locs hw hP hD hS => ?_)
              obtain ⟨hv_8, rfl, rfl⟩ := hw
              have hP : va_P D vwCl [(x0, .inr (11, [.ref (q 0), .ref (q 1), .ref (q 2), .ref (q 3), .ref (q 4), .ref (q 5), .ref (q 6), .ref (q 7), .ref (q 8), .ref (q 9), .ref (q 10), .ref (q 11), .ref (q 12), .ref (q 13), .ref (q 14), .int hc, .ref (q 16), .long dr])), (q 7, .inr (7, [.ref (q 33), .ref (q 34), .int (nI dy), .int (nI wn), .int (nI mo), .int mu, .int (nI ke)])), (q 0, .inr (10, [.ref (q 20), .int (nI tl)])), (q 20, .inl (cI, 1600, .inl (fun j => nI (tb j))))] H := hP
              have hD : va_D A [(x0, .inr (11, [.ref (q 0), .ref (q 1), .ref (q 2), .ref (q 3), .ref (q 4), .ref (q 5), .ref (q 6), .ref (q 7), .ref (q 8), .ref (q 9), .ref (q 10), .ref (q 11), .ref (q 12), .ref (q 13), .ref (q 14), .int hc, .ref (q 16), .long dr])), (q 7, .inr (7, [.ref (q 33), .ref (q 34), .int (nI dy), .int (nI wn), .int (nI mo), .int mu, .int (nI ke)])), (q 0, .inr (10, [.ref (q 20), .int (nI tl)])), (q 20, .inl (cI, 1600, .inl (fun j => nI (tb j))))] := hD
              refine lv_aload_n hx hb dX11_tellsRows_59 rfl (lv_at hl 1 rfl) ?_
              refine sk_get (v := .ref (q 0)) (C := RX11) (T := TX11) (N := 18) hx hb hts inlX11 hown hK hP 0 rfl rfl 0 (by decide) w_2_123 rfl dX11_tellsRows_60 ?_
              refine lv_iload_n hx hb dX11_tellsRows_63 rfl (lv_at hl 0 rfl) ?_
              refine lv_iconst (v := 1) hx hb dX11_tellsRows_64 (by decide) ?_
              refine lv_iadd hx hb dX11_tellsRows_65 ?_
              refine sk_top (nI (i + 1)) (nI_add i 1) ?_
              refine sk_Vi (q0 := 0) (n := 1) (rest := [.int (nI (tb i)), .ref x0]) (wr := [(x0, .inr (11, [.ref (q 0), .ref (q 1), .ref (q 2), .ref (q 3), .ref (q 4), .ref (q 5), .ref (q 6), .ref (q 7), .ref (q 8), .ref (q 9), .ref (q 10), .ref (q 11), .ref (q 12), .ref (q 13), .ref (q 14), .int hc, .ref (q 16), .long dr])), (q 7, .inr (7, [.ref (q 33), .ref (q 34), .int (nI dy), .int (nI wn), .int (nI mo), .int mu, .int (nI ke)]))]) ⟨hx, hb, hml, hown, hts⟩ hl.1 (c_eTape_left_1600 l D cI cJ cC cZ cS (q 0) (q 20) tl tb (i + 1) (by omega) htb (by omega)) w_4_214 w_4_215 w_4_216 w_1_2 w_4_217 (by decide +kernel) ⟨⟨(Nat.le_of_ble_eq_true rfl), (Nat.le_of_ble_eq_true rfl)⟩, (Nat.le_of_ble_eq_true rfl), (Nat.le_of_ble_eq_true rfl)⟩ hK hP hD hS hA [2, 3] [0, 1] rfl rfl (by decide +kernel) (by decide +kernel) (by decide +kernel) rfl rfl rfl rfl (Nat.le_of_ble_eq_true rfl) dX11_tellsRows_66 (fun r_9 u H locs hw hP hD hS => ?_)
              obtain ⟨hv_10, rfl, rfl⟩ := hw
              have hP : va_P D vwCl [(x0, .inr (11, [.ref (q 0), .ref (q 1), .ref (q 2), .ref (q 3), .ref (q 4), .ref (q 5), .ref (q 6), .ref (q 7), .ref (q 8), .ref (q 9), .ref (q 10), .ref (q 11), .ref (q 12), .ref (q 13), .ref (q 14), .int hc, .ref (q 16), .long dr])), (q 7, .inr (7, [.ref (q 33), .ref (q 34), .int (nI dy), .int (nI wn), .int (nI mo), .int mu, .int (nI ke)])), (q 0, .inr (10, [.ref (q 20), .int (nI tl)])), (q 20, .inl (cI, 1600, .inl (fun j => nI (tb j))))] H := hP
              have hD : va_D A [(x0, .inr (11, [.ref (q 0), .ref (q 1), .ref (q 2), .ref (q 3), .ref (q 4), .ref (q 5), .ref (q 6), .ref (q 7), .ref (q 8), .ref (q 9), .ref (q 10), .ref (q 11), .ref (q 12), .ref (q 13), .ref (q 14), .int hc, .ref (q 16), .long dr])), (q 7, .inr (7, [.ref (q 33), .ref (q 34), .int (nI dy), .int (nI wn), .int (nI mo), .int mu, .int (nI ke)])), (q 0, .inr (10, [.ref (q 20), .int (nI tl)])), (q 20, .inl (cI, 1600, .inl (fun j => nI (tb j))))] := hD
              refine sk_Vi (q0 := 0) (n := 2) (rest := []) (wr := [(q 0, .inr (10, [.ref (q 20), .int (nI tl)])), (q 20, .inl (cI, 1600, .inl (fun j => nI (tb j))))]) ⟨hx, hb, hml, hown, hts⟩ hl.1 (c_kx_isWordOfN l D cI cJ cC cZ cS x0 q hc dr dy wn mo ke mu fb fw (tb i) (tb (i + 1)) U (by omega) hU (by omega) (by omega)) w_4_186 w_4_188 w_0_27 w_1_1 w_4_189 (by decide +kernel) ⟨⟨(Nat.le_of_ble_eq_true rfl), (Nat.le_of_ble_eq_true rfl)⟩, (Nat.le_of_ble_eq_true rfl), (Nat.le_of_ble_eq_true rfl)⟩ hK hP hD hS hA [0, 1] [2, 3] rfl rfl (by decide +kernel) (by decide +kernel) (by decide +kernel) rfl rfl rfl rfl (Nat.le_of_ble_eq_true rfl) dX11_tellsRows_69 (fun r_12 u H locs hw hP hD hS => ?_)
              obtain ⟨b_11, hwo_13, rfl, rfl⟩ := hw
              have hP : va_P D vwCl [(q 0, .inr (10, [.ref (q 20), .int (nI tl)])), (q 20, .inl (cI, 1600, .inl (fun j => nI (tb j)))), (x0, .inr (11, [.ref (q 0), .ref (q 1), .ref (q 2), .ref (q 3), .ref (q 4), .ref (q 5), .ref (q 6), .ref (q 7), .ref (q 8), .ref (q 9), .ref (q 10), .ref (q 11), .ref (q 12), .ref (q 13), .ref (q 14), .int hc, .ref (q 16), .long dr])), (q 7, .inr (7, [.ref (q 33), .ref (q 34), .int (nI dy), .int (nI wn), .int (nI mo), .int mu, .int (nI ke)]))] H := hP
              have hD : va_D A [(q 0, .inr (10, [.ref (q 20), .int (nI tl)])), (q 20, .inl (cI, 1600, .inl (fun j => nI (tb j)))), (x0, .inr (11, [.ref (q 0), .ref (q 1), .ref (q 2), .ref (q 3), .ref (q 4), .ref (q 5), .ref (q 6), .ref (q 7), .ref (q 8), .ref (q 9), .ref (q 10), .ref (q 11), .ref (q 12), .ref (q 13), .ref (q 14), .int hc, .ref (q 16), .long dr])), (q 7, .inr (7, [.ref (q 33), .ref (q 34), .int (nI dy), .int (nI wn), .int (nI mo), .int mu, .int (nI ke)]))] := hD
              refine lv_if_ne (tgt := 77) hx hb dX11_tellsRows_72 (by decide) (fun c_14 => ?_) (fun c_14 => ?_)
              · have c_14 : ¬ (b_11 = 0) := fun h => c_14 ((neq b_11 0 (by omega) (by omega)).mpr h)
                refine lv_iinc (v := nI (i + 2)) (lv' := [(1, .int (nI (i + 2))), (0, .ref x0)]) hx hb dX11_tellsRows_77 hl (k := 0) rfl (ninc i 2 (by decide)) (by decide) rfl (fun ls hl => ?_)
                refine lv_goto (tgt := 39) hx hb dX11_tellsRows_80 (by decide) ?_
                have hP := hP.sub (ws' := [(x0, .inr (11, [.ref (q 0), .ref (q 1), .ref (q 2), .ref (q 3), .ref (q 4), .ref (q 5), .ref (q 6), .ref (q 7), .ref (q 8), .ref (q 9), .ref (q 10), .ref (q 11), .ref (q 12), .ref (q 13), .ref (q 14), .int hc, .ref (q 16), .long dr])), (q 0, .inr (10, [.ref (q 20), .int (nI tl)])), (q 20, .inl (cI, 1600, .inl (fun j => nI (tb j)))), (q 7, .inr (7, [.ref (q 33), .ref (q 34), .int (nI dy), .int (nI wn), .int (nI mo), .int mu, .int (nI ke)]))]) [2, 0, 1, 3] rfl
                have hD := hD.sub (ws' := [(x0, .inr (11, [.ref (q 0), .ref (q 1), .ref (q 2), .ref (q 3), .ref (q 4), .ref (q 5), .ref (q 6), .ref (q 7), .ref (q 8), .ref (q 9), .ref (q 10), .ref (q 11), .ref (q 12), .ref (q 13), .ref (q 14), .int hc, .ref (q 16), .long dr])), (q 0, .inr (10, [.ref (q 20), .int (nI tl)])), (q 20, .inl (cI, 1600, .inl (fun j => nI (tb j)))), (q 7, .inr (7, [.ref (q 33), .ref (q 34), .int (nI dy), .int (nI wn), .int (nI mo), .int mu, .int (nI ke)]))]) [2, 0, 1, 3] (by decide +kernel) rfl
                exact ih_lp_4 (i + 2) _ _ _ (by omega) (by omega) (by omega) (hrC_s hrc hi2 (rr_1 hwo_13 (by omega))) hP hD hS (lv_sub hl [0, 1] rfl)
              · have c_14 : b_11 = 0 := (neq b_11 0 (by omega) (by omega)).mp c_14
                refine lv_iconst (v := 0) hx hb dX11_tellsRows_75 (by decide) ?_
                have hP := hP.sub (ws' := [(x0, .inr (11, [.ref (q 0), .ref (q 1), .ref (q 2), .ref (q 3), .ref (q 4), .ref (q 5), .ref (q 6), .ref (q 7), .ref (q 8), .ref (q 9), .ref (q 10), .ref (q 11), .ref (q 12), .ref (q 13), .ref (q 14), .int hc, .ref (q 16), .long dr])), (q 0, .inr (10, [.ref (q 20), .int (nI tl)])), (q 20, .inl (cI, 1600, .inl (fun j => nI (tb j)))), (q 7, .inr (7, [.ref (q 33), .ref (q 34), .int (nI dy), .int (nI wn), .int (nI mo), .int mu, .int (nI ke)]))]) [2, 0, 1, 3] rfl
                have hD := hD.sub (ws' := [(x0, .inr (11, [.ref (q 0), .ref (q 1), .ref (q 2), .ref (q 3), .ref (q 4), .ref (q 5), .ref (q 6), .ref (q 7), .ref (q 8), .ref (q 9), .ref (q 10), .ref (q 11), .ref (q 12), .ref (q 13), .ref (q 14), .int hc, .ref (q 16), .long dr])), (q 0, .inr (10, [.ref (q 20), .int (nI tl)])), (q 20, .inl (cI, 1600, .inl (fun j => nI (tb j)))), (q 7, .inr (7, [.ref (q 33), .ref (q 34), .int (nI dy), .int (nI wn), .int (nI mo), .int mu, .int (nI ke)]))]) [2, 0, 1, 3] (by decide +kernel) rfl
                exact sk_iret hx hb hr rfl hlocks hK hP hD hS (⟨0, Or.inl ⟨rfl, fun hq => hrC_n hi2 (by omega) (rr_0 hwo_13 (by omega)) hq.2.2.2⟩, rfl, rfl⟩) (Nat.le_of_ble_eq_true rfl) (Nat.le_of_ble_eq_true rfl) dX11_tellsRows_76
        exact lp_4 (1602 - 0 + 1) 0 _ _ _ (Nat.lt_succ_self _) (by omega) (by omega) (hrC_0 _ _ _) hP hD hS (lv_sub hl [0, 1] rfl)
      · have c_3 : ¬ (tl % 2 = 0) := fun h => c_3 ((neq (tl % 2) 0 (by omega) (by omega)).mpr h)
        refine lv_iconst (v := 0) hx hb dX11_tellsRows_35 (by decide) ?_
        exact sk_iret hx hb hr rfl hlocks hK hP hD hS (⟨0, Or.inl ⟨rfl, fun hq => by have h1 := hq.1; have h2 := hq.2.1; have h3 := hq.2.2.1; omega⟩, rfl, rfl⟩) (Nat.le_of_ble_eq_true rfl) (Nat.le_of_ble_eq_true rfl) dX11_tellsRows_36
theorem dX11_hear_19 : decode cX11_hear 19 = .ok (.istore_n 1, 1) := by decide +kernel
theorem dX11_hear_20 : decode cX11_hear 20 = .ok (.aload_n 0, 1) := by decide +kernel
theorem dX11_hear_21 : decode cX11_hear 21 = .ok (.getfield 12, 3) := by decide +kernel
theorem dX11_hear_24 : decode cX11_hear 24 = .ok (.getfield 110, 3) := by decide +kernel
theorem dX11_hear_27 : decode cX11_hear 27 = .ok (.iconst 2, 1) := by decide +kernel
theorem dX11_hear_28 : decode cX11_hear 28 = .ok (.idiv, 1) := by decide +kernel
theorem dX11_hear_29 : decode cX11_hear 29 = .ok (.istore_n 2, 1) := by decide +kernel
theorem dX11_hear_30 : decode cX11_hear 30 = .ok (.aload_n 0, 1) := by decide +kernel
theorem dX11_hear_31 : decode cX11_hear 31 = .ok (.getfield 12, 3) := by decide +kernel
theorem dX11_hear_34 : decode cX11_hear 34 = .ok (.iconst 0, 1) := by decide +kernel
theorem dX11_hear_35 : decode cX11_hear 35 = .ok (.putfield 110, 3) := by decide +kernel
theorem dX11_hear_38 : decode cX11_hear 38 = .ok (.iload_n 1, 1) := by decide +kernel
theorem dX11_hear_39 : decode cX11_hear 39 = .ok (.ifCond .ne 9, 3) := by decide +kernel
theorem dX11_hear_48 : decode cX11_hear 48 = .ok (.iconst 0, 1) := by decide +kernel
theorem dX11_hear_49 : decode cX11_hear 49 = .ok (.istore_n 3, 1) := by decide +kernel
theorem dX11_hear_50 : decode cX11_hear 50 = .ok (.iload_n 3, 1) := by decide +kernel
theorem dX11_hear_51 : decode cX11_hear 51 = .ok (.iload_n 2, 1) := by decide +kernel
theorem dX11_hear_52 : decode cX11_hear 52 = .ok (.if_icmp .ge 47, 3) := by decide +kernel
theorem dX11_hear_99 : decode cX11_hear 99 = .ok (.aload_n 0, 1) := by decide +kernel
theorem dX11_hear_100 : decode cX11_hear 100 = .ok (.iload_n 2, 1) := by decide +kernel
theorem dX11_hear_101 : decode cX11_hear 101 = .ok (.putfield 99, 3) := by decide +kernel
theorem dX11_hear_104 : decode cX11_hear 104 = .ok (.iload_n 2, 1) := by decide +kernel
theorem dX11_hear_105 : decode cX11_hear 105 = .ok (.ireturn, 1) := by decide +kernel
theorem dX11_hear_55 : decode cX11_hear 55 = .ok (.iload_n 3, 1) := by decide +kernel
theorem dX11_hear_56 : decode cX11_hear 56 = .ok (.bipush 16, 2) := by decide +kernel
theorem dX11_hear_58 : decode cX11_hear 58 = .ok (.if_icmp .ge 41, 3) := by decide +kernel
theorem dX11_hear_61 : decode cX11_hear 61 = .ok (.aload_n 0, 1) := by decide +kernel
theorem dX11_hear_62 : decode cX11_hear 62 = .ok (.getfield 96, 3) := by decide +kernel
theorem dX11_hear_65 : decode cX11_hear 65 = .ok (.iload_n 3, 1) := by decide +kernel
theorem dX11_hear_66 : decode cX11_hear 66 = .ok (.aload_n 0, 1) := by decide +kernel
theorem dX11_hear_67 : decode cX11_hear 67 = .ok (.getfield 12, 3) := by decide +kernel
theorem dX11_hear_70 : decode cX11_hear 70 = .ok (.iconst 2, 1) := by decide +kernel
theorem dX11_hear_71 : decode cX11_hear 71 = .ok (.iload_n 3, 1) := by decide +kernel
theorem dX11_hear_72 : decode cX11_hear 72 = .ok (.imul, 1) := by decide +kernel
theorem dX11_hear_73 : decode cX11_hear 73 = .ok (.invokevirtual 268, 3) := by decide +kernel
theorem dX11_hear_76 : decode cX11_hear 76 = .ok (.bipush 10, 2) := by decide +kernel
theorem dX11_hear_78 : decode cX11_hear 78 = .ok (.imul, 1) := by decide +kernel
theorem dX11_hear_79 : decode cX11_hear 79 = .ok (.aload_n 0, 1) := by decide +kernel
theorem dX11_hear_80 : decode cX11_hear 80 = .ok (.getfield 12, 3) := by decide +kernel
theorem dX11_hear_83 : decode cX11_hear 83 = .ok (.iconst 2, 1) := by decide +kernel
theorem dX11_hear_84 : decode cX11_hear 84 = .ok (.iload_n 3, 1) := by decide +kernel
theorem dX11_hear_85 : decode cX11_hear 85 = .ok (.imul, 1) := by decide +kernel
theorem dX11_hear_86 : decode cX11_hear 86 = .ok (.iconst 1, 1) := by decide +kernel
theorem dX11_hear_87 : decode cX11_hear 87 = .ok (.iadd, 1) := by decide +kernel
theorem dX11_hear_88 : decode cX11_hear 88 = .ok (.invokevirtual 268, 3) := by decide +kernel
theorem dX11_hear_91 : decode cX11_hear 91 = .ok (.iadd, 1) := by decide +kernel
theorem dX11_hear_92 : decode cX11_hear 92 = .ok (.iastore, 1) := by decide +kernel
theorem dX11_hear_93 : decode cX11_hear 93 = .ok (.iinc 3 1, 3) := by decide +kernel
theorem dX11_hear_96 : decode cX11_hear 96 = .ok (.goto (-46), 3) := by decide +kernel
theorem dX11_hear_42 : decode cX11_hear 42 = .ok (.aload_n 0, 1) := by decide +kernel
theorem dX11_hear_43 : decode cX11_hear 43 = .ok (.iconst 1, 1) := by decide +kernel
theorem dX11_hear_44 : decode cX11_hear 44 = .ok (.invokevirtual 113, 3) := by decide +kernel
theorem dX11_hear_47 : decode cX11_hear 47 = .ok (.ireturn, 1) := by decide +kernel
theorem dX11_hear_0 : decode cX11_hear 0 = .ok (.aload_n 0, 1) := by decide +kernel
theorem dX11_hear_1 : decode cX11_hear 1 = .ok (.invokevirtual 204, 3) := by decide +kernel
theorem dX11_hear_4 : decode cX11_hear 4 = .ok (.ifCond .eq 14, 3) := by decide +kernel
theorem dX11_hear_18 : decode cX11_hear 18 = .ok (.iconst 0, 1) := by decide +kernel
theorem dX11_hear_7 : decode cX11_hear 7 = .ok (.aload_n 0, 1) := by decide +kernel
theorem dX11_hear_8 : decode cX11_hear 8 = .ok (.invokevirtual 265, 3) := by decide +kernel
theorem dX11_hear_11 : decode cX11_hear 11 = .ok (.ifCond .eq 7, 3) := by decide +kernel
theorem dX11_hear_14 : decode cX11_hear 14 = .ok (.iconst 1, 1) := by decide +kernel
theorem dX11_hear_15 : decode cX11_hear 15 = .ok (.goto 4, 3) := by decide +kernel
theorem w_4_210 : (Cond.methodLink RX11 265 yX11_tellsRows) ∈ wsL_law := sk_mem (ck_4 _ (List.mem_of_getElem? (i := 210) rfl)) rfl
theorem w_4_212 : (Cond.instanceMethod yX11_tellsRows) ∈ wsL_law := sk_mem (ck_4 _ (List.mem_of_getElem? (i := 212) rfl)) rfl
theorem w_0_29 : (Cond.selects RX11 yX11_tellsRows yX11_tellsRows) ∈ wsL_law := sk_mem (ck_0 _ (List.mem_of_getElem? (i := 29) rfl)) rfl
theorem w_4_209 : (Cond.code yX11_hear cX11_hear 4 (some .int)) ∈ wsL_law := sk_mem (ck_4 _ (List.mem_of_getElem? (i := 209) rfl)) rfl
set_option maxHeartbeats 4000000 in
set_option maxRecDepth 100000 in
theorem c_ky_hear (l : Launch) (D : va_G) (cI cJ cC cZ cS : ClassId) (x0 : Nat) (q : Nat → Nat) (dr : Int64) (hn : Nat) (tl : Nat) (tb : Nat → Nat) (dy : Nat) (wn : Nat) (mo : Nat) (ke : Nat) (mu : Int32) (fb : Nat → Int32) (fw : Nat → Int32) (U : Nat → Bool) (hr_ : Nat → Int32) (hR : Nat → Nat) (rf : Nat → Int32) (htl : tl ≤ 1600) (htb : ∀ j, tb j ≤ 255) (hdy : dy ≤ 9) (hmo : mo ≤ 9) (hU : muO U mu) (hhr : ∀ j, j < hn → hr_ j = nI (hR j)) : skM l yX11_hear cX11_hear 4 (some .int) 3 64 0 0 D (skT cI cJ cC cZ cS) [.ref x0] [(x0, .inr (11, [.ref (q 0), .ref (q 1), .ref (q 2), .ref (q 3), .ref (q 4), .ref (q 5), .ref (q 6), .ref (q 7), .ref (q 8), .ref (q 9), .ref (q 10), .ref (q 11), .ref (q 12), .ref (q 13), .ref (q 14), .int (nI hn), .ref (q 16), .long dr])), (q 0, .inr (10, [.ref (q 20), .int (nI tl)])), (q 20, .inl (cI, 1600, .inl (fun j => nI (tb j)))), (q 7, .inr (7, [.ref (q 33), .ref (q 34), .int (nI dy), .int (nI wn), .int (nI mo), .int mu, .int (nI ke)])), (q 14, .inl (cI, 16, .inl hr_)), (q 16, .inl (cI, 6, .inl rf))] (skI D (skT cI cJ cC cZ cS) (fun (r : Int32) (u : va_W) => ∃ (hn2 : Nat), ∃ (hr2 : Nat → Int32), ∃ (hR2 : Nat → Nat), ∃ (rf2 : Nat → Int32), (∀ j, j < hn2 → hr2 j = nI (hR2 j)) ∧ hearR dy U tb tl hn hR rf r hn2 hR2 rf2 ∧ u = [(x0, .inr (11, [.ref (q 0), .ref (q 1), .ref (q 2), .ref (q 3), .ref (q 4), .ref (q 5), .ref (q 6), .ref (q 7), .ref (q 8), .ref (q 9), .ref (q 10), .ref (q 11), .ref (q 12), .ref (q 13), .ref (q 14), .int (nI hn2), .ref (q 16), .long dr])), (q 0, .inr (10, [.ref (q 20), .int 0])), (q 20, .inl (cI, 1600, .inl (fun j => nI (tb j)))), (q 7, .inr (7, [.ref (q 33), .ref (q 34), .int (nI dy), .int (nI wn), .int (nI mo), .int mu, .int (nI ke)])), (q 14, .inl (cI, 16, .inl hr2)), (q 16, .inl (cI, 6, .inl rf2))])) := by
  refine skM_of (by decide +kernel) (Nat.le_of_ble_eq_true rfl) ?_
  intro p e s m below meth c A ls E hP hD hl
  obtain ⟨hx, hb, hr, hml, hlocks, hin, hown, hts, hK, hA⟩ := E
  have hown : s.vm.findClass RX11 = some m.cls := hown
  have hS : va_S A s.heap s.heap [] := va_S.rf
  have hl : lv_has ls 4 [(0, .ref x0)] := hl
  have jn_1 : ∀ (bq : Nat) (H : Heap) (locs : List Loc) (ls : Array Slot), (bq ≤ 1) → ((bq = 0 ∧ ¬ hearC dy U tb tl) ∨ (bq = 1 ∧ hearC dy U tb tl)) → va_P D vwCl [(x0, .inr (11, [.ref (q 0), .ref (q 1), .ref (q 2), .ref (q 3), .ref (q 4), .ref (q 5), .ref (q 6), .ref (q 7), .ref (q 8), .ref (q 9), .ref (q 10), .ref (q 11), .ref (q 12), .ref (q 13), .ref (q 14), .int (nI hn), .ref (q 16), .long dr])), (q 0, .inr (10, [.ref (q 20), .int (nI tl)])), (q 20, .inl (cI, 1600, .inl (fun j => nI (tb j)))), (q 7, .inr (7, [.ref (q 33), .ref (q 34), .int (nI dy), .int (nI wn), .int (nI mo), .int mu, .int (nI ke)])), (q 14, .inl (cI, 16, .inl hr_)), (q 16, .inl (cI, 6, .inl rf))] H → va_D A [(x0, .inr (11, [.ref (q 0), .ref (q 1), .ref (q 2), .ref (q 3), .ref (q 4), .ref (q 5), .ref (q 6), .ref (q 7), .ref (q 8), .ref (q 9), .ref (q 10), .ref (q 11), .ref (q 12), .ref (q 13), .ref (q 14), .int (nI hn), .ref (q 16), .long dr])), (q 0, .inr (10, [.ref (q 20), .int (nI tl)])), (q 20, .inl (cI, 1600, .inl (fun j => nI (tb j)))), (q 7, .inr (7, [.ref (q 33), .ref (q 34), .int (nI dy), .int (nI wn), .int (nI mo), .int mu, .int (nI ke)])), (q 14, .inl (cI, 16, .inl hr_)), (q 16, .inl (cI, 6, .inl rf))] → va_S A s.heap H locs → lv_has ls 4 [(0, .ref x0)] → W p l e { frames := 3, cells := 0, slots := 0, locals := 64 } s m ([.ref x0] : List Value).toArray below meth c H locs 0 0 (MQ below (skI D (skT cI cJ cC cZ cS) (fun (r : Int32) (u : va_W) => ∃ (hn2 : Nat), ∃ (hr2 : Nat → Int32), ∃ (hR2 : Nat → Nat), ∃ (rf2 : Nat → Int32), (∀ j, j < hn2 → hr2 j = nI (hR2 j)) ∧ hearR dy U tb tl hn hR rf r hn2 hR2 rf2 ∧ u = [(x0, .inr (11, [.ref (q 0), .ref (q 1), .ref (q 2), .ref (q 3), .ref (q 4), .ref (q 5), .ref (q 6), .ref (q 7), .ref (q 8), .ref (q 9), .ref (q 10), .ref (q 11), .ref (q 12), .ref (q 13), .ref (q 14), .int (nI hn2), .ref (q 16), .long dr])), (q 0, .inr (10, [.ref (q 20), .int 0])), (q 20, .inl (cI, 1600, .inl (fun j => nI (tb j)))), (q 7, .inr (7, [.ref (q 33), .ref (q 34), .int (nI dy), .int (nI wn), .int (nI mo), .int mu, .int (nI ke)])), (q 14, .inl (cI, 16, .inl hr2)), (q 16, .inl (cI, 6, .inl rf2))]) A) ([.ref x0] : List Value).toArray s 0 0 A) (F0 m 19 ls [.int (nI bq)]) := by
    intro bq H locs ls hbq1 hbq3 hP hD hS hl
    refine lv_istore_n (lv' := [(1, .int (nI bq)), (0, .ref x0)]) hx hb dX11_hear_19 rfl hl (by decide) rfl (fun ls hl => ?_)
    refine lv_aload_n hx hb dX11_hear_20 rfl (lv_at hl 1 rfl) ?_
    refine sk_get (v := .ref (q 0)) (C := RX11) (T := TX11) (N := 18) hx hb hts inlX11 hown hK hP 0 rfl rfl 0 (by decide) w_2_123 rfl dX11_hear_21 ?_
    refine sk_get (v := .int (nI tl)) (C := RX10) (T := TX10) (N := 2) hx hb hts inlX10 hown hK hP 1 rfl rfl 1 (by decide) w_1_42 rfl dX11_hear_24 ?_
    refine lv_iconst (v := 2) hx hb dX11_hear_27 (by decide) ?_
    refine lv_idiv hx hb dX11_hear_28 (by decide) ?_
    refine sk_top (nI (tl / 2)) (ndiv tl 2 (by omega) (by omega) (by omega)) ?_
    refine lv_istore_n (lv' := [(2, .int (nI (tl / 2))), (1, .int (nI bq)), (0, .ref x0)]) hx hb dX11_hear_29 rfl hl (by decide) rfl (fun ls hl => ?_)
    refine lv_aload_n hx hb dX11_hear_30 rfl (lv_at hl 2 rfl) ?_
    refine sk_get (v := .ref (q 0)) (C := RX11) (T := TX11) (N := 18) hx hb hts inlX11 hown hK hP 0 rfl rfl 0 (by decide) w_2_123 rfl dX11_hear_31 ?_
    refine lv_iconst (v := 0) hx hb dX11_hear_34 (by decide) ?_
    refine sk_put (ws' := [(x0, .inr (11, [.ref (q 0), .ref (q 1), .ref (q 2), .ref (q 3), .ref (q 4), .ref (q 5), .ref (q 6), .ref (q 7), .ref (q 8), .ref (q 9), .ref (q 10), .ref (q 11), .ref (q 12), .ref (q 13), .ref (q 14), .int (nI hn), .ref (q 16), .long dr])), (q 0, .inr (10, [.ref (q 20), .int 0])), (q 20, .inl (cI, 1600, .inl (fun j => nI (tb j)))), (q 7, .inr (7, [.ref (q 33), .ref (q 34), .int (nI dy), .int (nI wn), .int (nI mo), .int mu, .int (nI ke)])), (q 14, .inl (cI, 16, .inl hr_)), (q 16, .inl (cI, 6, .inl rf))]) (C := RX10) (T := TX10) (N := 2) (v := .int 0) hx hb hts inlX10 tyX10 tyX10_ok nmX10 hown hK hP hD hS 1 rfl rfl 1 (by decide) w_1_42 rfl rfl rfl (Nat.le_of_ble_eq_true rfl) rfl dX11_hear_35 (fun H locs hP hD hS => ?_)
    refine lv_iload_n hx hb dX11_hear_38 rfl (lv_at hl 1 rfl) ?_
    refine lv_if_ne (tgt := 48) hx hb dX11_hear_39 (by decide) (fun c_2 => ?_) (fun c_2 => ?_)
    · have c_2 : ¬ (bq = 0) := fun h => c_2 ((neq bq 0 (by omega) (by omega)).mpr h)
      have hcc := rr_1 hbq3 (by omega)
      have hl32 := hcc.2.2.1
      refine lv_iconst (v := 0) hx hb dX11_hear_48 (by decide) ?_
      refine lv_istore_n (lv' := [(3, .int 0), (2, .int (nI (tl / 2))), (1, .int (nI bq)), (0, .ref x0)]) hx hb dX11_hear_49 rfl hl (by decide) rfl (fun ls hl => ?_)
      have lp_3 : ∀ (n_4 : Nat) (i : Nat) (ch : Nat → Int32) (H : Heap) (locs : List Loc) (ls : Array Slot), 16 - i < n_4 → (i ≤ 16) → (∀ j, j < i → ch j = nI (hrR tb j)) → va_P D vwCl [(x0, .inr (11, [.ref (q 0), .ref (q 1), .ref (q 2), .ref (q 3), .ref (q 4), .ref (q 5), .ref (q 6), .ref (q 7), .ref (q 8), .ref (q 9), .ref (q 10), .ref (q 11), .ref (q 12), .ref (q 13), .ref (q 14), .int (nI hn), .ref (q 16), .long dr])), (q 0, .inr (10, [.ref (q 20), .int 0])), (q 20, .inl (cI, 1600, .inl (fun j => nI (tb j)))), (q 7, .inr (7, [.ref (q 33), .ref (q 34), .int (nI dy), .int (nI wn), .int (nI mo), .int mu, .int (nI ke)])), (q 14, .inl (cI, 16, .inl ch)), (q 16, .inl (cI, 6, .inl rf))] H → va_D A [(x0, .inr (11, [.ref (q 0), .ref (q 1), .ref (q 2), .ref (q 3), .ref (q 4), .ref (q 5), .ref (q 6), .ref (q 7), .ref (q 8), .ref (q 9), .ref (q 10), .ref (q 11), .ref (q 12), .ref (q 13), .ref (q 14), .int (nI hn), .ref (q 16), .long dr])), (q 0, .inr (10, [.ref (q 20), .int 0])), (q 20, .inl (cI, 1600, .inl (fun j => nI (tb j)))), (q 7, .inr (7, [.ref (q 33), .ref (q 34), .int (nI dy), .int (nI wn), .int (nI mo), .int mu, .int (nI ke)])), (q 14, .inl (cI, 16, .inl ch)), (q 16, .inl (cI, 6, .inl rf))] → va_S A s.heap H locs → lv_has ls 4 [(3, .int (nI i)), (2, .int (nI (tl / 2))), (1, .int (nI bq)), (0, .ref x0)] → W p l e { frames := 3, cells := 0, slots := 0, locals := 64 } s m ([.ref x0] : List Value).toArray below meth c H locs 0 0 (MQ below (skI D (skT cI cJ cC cZ cS) (fun (r : Int32) (u : va_W) => ∃ (hn2 : Nat), ∃ (hr2 : Nat → Int32), ∃ (hR2 : Nat → Nat), ∃ (rf2 : Nat → Int32), (∀ j, j < hn2 → hr2 j = nI (hR2 j)) ∧ hearR dy U tb tl hn hR rf r hn2 hR2 rf2 ∧ u = [(x0, .inr (11, [.ref (q 0), .ref (q 1), .ref (q 2), .ref (q 3), .ref (q 4), .ref (q 5), .ref (q 6), .ref (q 7), .ref (q 8), .ref (q 9), .ref (q 10), .ref (q 11), .ref (q 12), .ref (q 13), .ref (q 14), .int (nI hn2), .ref (q 16), .long dr])), (q 0, .inr (10, [.ref (q 20), .int 0])), (q 20, .inl (cI, 1600, .inl (fun j => nI (tb j)))), (q 7, .inr (7, [.ref (q 33), .ref (q 34), .int (nI dy), .int (nI wn), .int (nI mo), .int mu, .int (nI ke)])), (q 14, .inl (cI, 16, .inl hr2)), (q 16, .inl (cI, 6, .inl rf2))]) A) ([.ref x0] : List Value).toArray s 0 0 A) (F0 m 50 ls []) := by
        intro n_4
        induction n_4 with
        | zero => intro i ch H locs ls hm; exact absurd hm (Nat.not_lt_zero _)
        | succ n_4 ih_lp_3 =>
          intro i ch H locs ls hm hi hch hP hD hS hl
          refine lv_iload_n hx hb dX11_hear_50 rfl (lv_at hl 0 rfl) ?_
          refine lv_iload_n hx hb dX11_hear_51 rfl (lv_at hl 1 rfl) ?_
          refine lv_icmp_ge (tgt := 99) hx hb dX11_hear_52 (by decide) (fun c_5 => ?_) (fun c_5 => ?_)
          · have c_5 : tl / 2 ≤ i := (nle (tl / 2) i (by omega) (by omega)).mp c_5
            refine lv_aload_n hx hb dX11_hear_99 rfl (lv_at hl 3 rfl) ?_
            refine lv_iload_n hx hb dX11_hear_100 rfl (lv_at hl 1 rfl) ?_
            refine sk_put (ws' := [(x0, .inr (11, [.ref (q 0), .ref (q 1), .ref (q 2), .ref (q 3), .ref (q 4), .ref (q 5), .ref (q 6), .ref (q 7), .ref (q 8), .ref (q 9), .ref (q 10), .ref (q 11), .ref (q 12), .ref (q 13), .ref (q 14), .int (nI (tl / 2)), .ref (q 16), .long dr])), (q 0, .inr (10, [.ref (q 20), .int 0])), (q 20, .inl (cI, 1600, .inl (fun j => nI (tb j)))), (q 7, .inr (7, [.ref (q 33), .ref (q 34), .int (nI dy), .int (nI wn), .int (nI mo), .int mu, .int (nI ke)])), (q 14, .inl (cI, 16, .inl ch)), (q 16, .inl (cI, 6, .inl rf))]) (C := RX11) (T := TX11) (N := 18) (v := .int (nI (tl / 2))) hx hb hts inlX11 tyX11 tyX11_ok nmX11 hown hK hP hD hS 0 rfl rfl 15 (by decide) w_2_138 rfl rfl rfl (Nat.le_of_ble_eq_true rfl) rfl dX11_hear_101 (fun H locs hP hD hS => ?_)
            refine lv_iload_n hx hb dX11_hear_104 rfl (lv_at hl 1 rfl) ?_
            exact sk_iret hx hb hr rfl hlocks hK hP hD hS (⟨(tl / 2), ch, (hrR tb), rf, (fun j hj => hch j (by omega)), kB_1 hcc ⟨rfl, rfl, rfl, rfl⟩, rfl⟩) (Nat.le_of_ble_eq_true rfl) (Nat.le_of_ble_eq_true rfl) dX11_hear_105
          · have c_5 : ¬ (tl / 2 ≤ i) := fun h => c_5 ((nle (tl / 2) i (by omega) (by omega)).mpr h)
            refine lv_iload_n hx hb dX11_hear_55 rfl (lv_at hl 0 rfl) ?_
            refine lv_bipush (v := 16) hx hb dX11_hear_56 (by decide) ?_
            refine lv_icmp_ge (tgt := 99) hx hb dX11_hear_58 (by decide) (fun c_6 => ?_) (fun c_6 => ?_)
            · have c_6 : 16 ≤ i := (nle 16 i (by omega) (by omega)).mp c_6
              refine lv_aload_n hx hb dX11_hear_99 rfl (lv_at hl 3 rfl) ?_
              refine lv_iload_n hx hb dX11_hear_100 rfl (lv_at hl 1 rfl) ?_
              refine sk_put (ws' := [(x0, .inr (11, [.ref (q 0), .ref (q 1), .ref (q 2), .ref (q 3), .ref (q 4), .ref (q 5), .ref (q 6), .ref (q 7), .ref (q 8), .ref (q 9), .ref (q 10), .ref (q 11), .ref (q 12), .ref (q 13), .ref (q 14), .int (nI (tl / 2)), .ref (q 16), .long dr])), (q 0, .inr (10, [.ref (q 20), .int 0])), (q 20, .inl (cI, 1600, .inl (fun j => nI (tb j)))), (q 7, .inr (7, [.ref (q 33), .ref (q 34), .int (nI dy), .int (nI wn), .int (nI mo), .int mu, .int (nI ke)])), (q 14, .inl (cI, 16, .inl ch)), (q 16, .inl (cI, 6, .inl rf))]) (C := RX11) (T := TX11) (N := 18) (v := .int (nI (tl / 2))) hx hb hts inlX11 tyX11 tyX11_ok nmX11 hown hK hP hD hS 0 rfl rfl 15 (by decide) w_2_138 rfl rfl rfl (Nat.le_of_ble_eq_true rfl) rfl dX11_hear_101 (fun H locs hP hD hS => ?_)
              refine lv_iload_n hx hb dX11_hear_104 rfl (lv_at hl 1 rfl) ?_
              exact sk_iret hx hb hr rfl hlocks hK hP hD hS (⟨(tl / 2), ch, (hrR tb), rf, (fun j hj => hch j (by omega)), kB_1 hcc ⟨rfl, rfl, rfl, rfl⟩, rfl⟩) (Nat.le_of_ble_eq_true rfl) (Nat.le_of_ble_eq_true rfl) dX11_hear_105
            · have c_6 : ¬ (16 ≤ i) := fun h => c_6 ((nle 16 i (by omega) (by omega)).mpr h)
              refine lv_aload_n hx hb dX11_hear_61 rfl (lv_at hl 3 rfl) ?_
              refine sk_get (v := .ref (q 14)) (C := RX11) (T := TX11) (N := 18) hx hb hts inlX11 hown hK hP 0 rfl rfl 14 (by decide) w_2_137 rfl dX11_hear_62 ?_
              refine lv_iload_n hx hb dX11_hear_65 rfl (lv_at hl 0 rfl) ?_
              refine lv_aload_n hx hb dX11_hear_66 rfl (lv_at hl 3 rfl) ?_
              refine sk_get (v := .ref (q 0)) (C := RX11) (T := TX11) (N := 18) hx hb hts inlX11 hown hK hP 0 rfl rfl 0 (by decide) w_2_123 rfl dX11_hear_67 ?_
              refine lv_iconst (v := 2) hx hb dX11_hear_70 (by decide) ?_
              refine lv_iload_n hx hb dX11_hear_71 rfl (lv_at hl 0 rfl) ?_
              refine lv_imul hx hb dX11_hear_72 ?_
              refine sk_top (nI (2 * i)) (nmul 2 i) ?_
              refine sk_Vi (q0 := 0) (n := 1) (rest := [.int (nI i), .ref (q 14)]) (wr := [(x0, .inr (11, [.ref (q 0), .ref (q 1), .ref (q 2), .ref (q 3), .ref (q 4), .ref (q 5), .ref (q 6), .ref (q 7), .ref (q 8), .ref (q 9), .ref (q 10), .ref (q 11), .ref (q 12), .ref (q 13), .ref (q 14), .int (nI hn), .ref (q 16), .long dr])), (q 7, .inr (7, [.ref (q 33), .ref (q 34), .int (nI dy), .int (nI wn), .int (nI mo), .int mu, .int (nI ke)])), (q 14, .inl (cI, 16, .inl ch)), (q 16, .inl (cI, 6, .inl rf))]) ⟨hx, hb, hml, hown, hts⟩ hl.1 (c_Tape_leftN l D cI cJ cC cZ cS (q 0) (q 20) 0 tb (2 * i) (by omega) htb (by omega)) w_4_214 w_4_215 w_4_216 w_1_2 w_4_217 (by decide +kernel) ⟨⟨(Nat.le_of_ble_eq_true rfl), (Nat.le_of_ble_eq_true rfl)⟩, (Nat.le_of_ble_eq_true rfl), (Nat.le_of_ble_eq_true rfl)⟩ hK hP hD hS hA [1, 2] [0, 3, 4, 5] rfl rfl (by decide +kernel) (by decide +kernel) (by decide +kernel) rfl rfl rfl rfl (Nat.le_of_ble_eq_true rfl) dX11_hear_73 (fun r_7 u H locs hw hP hD hS => ?_)
              obtain ⟨hv_8, rfl, rfl⟩ := hw
              have hP : va_P D vwCl [(x0, .inr (11, [.ref (q 0), .ref (q 1), .ref (q 2), .ref (q 3), .ref (q 4), .ref (q 5), .ref (q 6), .ref (q 7), .ref (q 8), .ref (q 9), .ref (q 10), .ref (q 11), .ref (q 12), .ref (q 13), .ref (q 14), .int (nI hn), .ref (q 16), .long dr])), (q 7, .inr (7, [.ref (q 33), .ref (q 34), .int (nI dy), .int (nI wn), .int (nI mo), .int mu, .int (nI ke)])), (q 14, .inl (cI, 16, .inl ch)), (q 16, .inl (cI, 6, .inl rf)), (q 0, .inr (10, [.ref (q 20), .int 0])), (q 20, .inl (cI, 1600, .inl (fun j => nI (tb j))))] H := hP
              have hD : va_D A [(x0, .inr (11, [.ref (q 0), .ref (q 1), .ref (q 2), .ref (q 3), .ref (q 4), .ref (q 5), .ref (q 6), .ref (q 7), .ref (q 8), .ref (q 9), .ref (q 10), .ref (q 11), .ref (q 12), .ref (q 13), .ref (q 14), .int (nI hn), .ref (q 16), .long dr])), (q 7, .inr (7, [.ref (q 33), .ref (q 34), .int (nI dy), .int (nI wn), .int (nI mo), .int mu, .int (nI ke)])), (q 14, .inl (cI, 16, .inl ch)), (q 16, .inl (cI, 6, .inl rf)), (q 0, .inr (10, [.ref (q 20), .int 0])), (q 20, .inl (cI, 1600, .inl (fun j => nI (tb j))))] := hD
              refine lv_bipush (v := 10) hx hb dX11_hear_76 (by decide) ?_
              refine lv_imul hx hb dX11_hear_78 ?_
              refine sk_top (nI ((tb (2 * i)) * 10)) (nmul (tb (2 * i)) 10) ?_
              refine lv_aload_n hx hb dX11_hear_79 rfl (lv_at hl 3 rfl) ?_
              refine sk_get (v := .ref (q 0)) (C := RX11) (T := TX11) (N := 18) hx hb hts inlX11 hown hK hP 0 rfl rfl 0 (by decide) w_2_123 rfl dX11_hear_80 ?_
              refine lv_iconst (v := 2) hx hb dX11_hear_83 (by decide) ?_
              refine lv_iload_n hx hb dX11_hear_84 rfl (lv_at hl 0 rfl) ?_
              refine lv_imul hx hb dX11_hear_85 ?_
              refine sk_top (nI (2 * i)) (nmul 2 i) ?_
              refine lv_iconst (v := 1) hx hb dX11_hear_86 (by decide) ?_
              refine lv_iadd hx hb dX11_hear_87 ?_
              refine sk_top (nI (2 * i + 1)) (nI_add (2 * i) 1) ?_
              refine sk_Vi (q0 := 0) (n := 1) (rest := [.int (nI ((tb (2 * i)) * 10)), .int (nI i), .ref (q 14)]) (wr := [(x0, .inr (11, [.ref (q 0), .ref (q 1), .ref (q 2), .ref (q 3), .ref (q 4), .ref (q 5), .ref (q 6), .ref (q 7), .ref (q 8), .ref (q 9), .ref (q 10), .ref (q 11), .ref (q 12), .ref (q 13), .ref (q 14), .int (nI hn), .ref (q 16), .long dr])), (q 7, .inr (7, [.ref (q 33), .ref (q 34), .int (nI dy), .int (nI wn), .int (nI mo), .int mu, .int (nI ke)])), (q 14, .inl (cI, 16, .inl ch)), (q 16, .inl (cI, 6, .inl rf))]) ⟨hx, hb, hml, hown, hts⟩ hl.1 (c_Tape_leftN l D cI cJ cC cZ cS (q 0) (q 20) 0 tb (2 * i + 1) (by omega) htb (by omega)) w_4_214 w_4_215 w_4_216 w_1_2 w_4_217 (by decide +kernel) ⟨⟨(Nat.le_of_ble_eq_true rfl), (Nat.le_of_ble_eq_true rfl)⟩, (Nat.le_of_ble_eq_true rfl), (Nat.le_of_ble_eq_true rfl)⟩ hK hP hD hS hA [4, 5] [0, 1, 2, 3] rfl rfl (by decide +kernel) (by decide +kernel) (by decide +kernel) rfl rfl rfl rfl (Nat.le_of_ble_eq_true rfl) dX11_hear_88 (fun r_9 u H locs hw hP hD hS => ?_)
              obtain ⟨hv_10, rfl, rfl⟩ := hw
              have hP : va_P D vwCl [(x0, .inr (11, [.ref (q 0), .ref (q 1), .ref (q 2), .ref (q 3), .ref (q 4), .ref (q 5), .ref (q 6), .ref (q 7), .ref (q 8), .ref (q 9), .ref (q 10), .ref (q 11), .ref (q 12), .ref (q 13), .ref (q 14), .int (nI hn), .ref (q 16), .long dr])), (q 7, .inr (7, [.ref (q 33), .ref (q 34), .int (nI dy), .int (nI wn), .int (nI mo), .int mu, .int (nI ke)])), (q 14, .inl (cI, 16, .inl ch)), (q 16, .inl (cI, 6, .inl rf)), (q 0, .inr (10, [.ref (q 20), .int 0])), (q 20, .inl (cI, 1600, .inl (fun j => nI (tb j))))] H := hP
              have hD : va_D A [(x0, .inr (11, [.ref (q 0), .ref (q 1), .ref (q 2), .ref (q 3), .ref (q 4), .ref (q 5), .ref (q 6), .ref (q 7), .ref (q 8), .ref (q 9), .ref (q 10), .ref (q 11), .ref (q 12), .ref (q 13), .ref (q 14), .int (nI hn), .ref (q 16), .long dr])), (q 7, .inr (7, [.ref (q 33), .ref (q 34), .int (nI dy), .int (nI wn), .int (nI mo), .int mu, .int (nI ke)])), (q 14, .inl (cI, 16, .inl ch)), (q 16, .inl (cI, 6, .inl rf)), (q 0, .inr (10, [.ref (q 20), .int 0])), (q 20, .inl (cI, 1600, .inl (fun j => nI (tb j))))] := hD
              refine lv_iadd hx hb dX11_hear_91 ?_
              refine sk_top (nI ((tb (2 * i)) * 10 + (tb (2 * i + 1)))) (nI_add ((tb (2 * i)) * 10) (tb (2 * i + 1))) ?_
              refine sk_iastE (k := i) (ws' := fun f_11 => [(x0, .inr (11, [.ref (q 0), .ref (q 1), .ref (q 2), .ref (q 3), .ref (q 4), .ref (q 5), .ref (q 6), .ref (q 7), .ref (q 8), .ref (q 9), .ref (q 10), .ref (q 11), .ref (q 12), .ref (q 13), .ref (q 14), .int (nI hn), .ref (q 16), .long dr])), (q 7, .inr (7, [.ref (q 33), .ref (q 34), .int (nI dy), .int (nI wn), .int (nI mo), .int mu, .int (nI ke)])), (q 14, .inl (cI, 16, .inl f_11)), (q 16, .inl (cI, 6, .inl rf)), (q 0, .inr (10, [.ref (q 20), .int 0])), (q 20, .inl (cI, 1600, .inl (fun j => nI (tb j))))]) hx hb hK hP hD hS 2 0 rfl rfl (by omega) (by omega) (fun _ => rfl) dX11_hear_92 (fun f_11 H locs ef_12 hP hD hS => ?_)
              refine lv_iinc (v := nI (i + 1)) (lv' := [(3, .int (nI (i + 1))), (2, .int (nI (tl / 2))), (1, .int (nI bq)), (0, .ref x0)]) hx hb dX11_hear_93 hl (k := 0) rfl (ninc i 1 (by decide)) (by decide) rfl (fun ls hl => ?_)
              refine lv_goto (tgt := 50) hx hb dX11_hear_96 (by decide) ?_
              have hP := hP.sub (ws' := [(x0, .inr (11, [.ref (q 0), .ref (q 1), .ref (q 2), .ref (q 3), .ref (q 4), .ref (q 5), .ref (q 6), .ref (q 7), .ref (q 8), .ref (q 9), .ref (q 10), .ref (q 11), .ref (q 12), .ref (q 13), .ref (q 14), .int (nI hn), .ref (q 16), .long dr])), (q 0, .inr (10, [.ref (q 20), .int 0])), (q 20, .inl (cI, 1600, .inl (fun j => nI (tb j)))), (q 7, .inr (7, [.ref (q 33), .ref (q 34), .int (nI dy), .int (nI wn), .int (nI mo), .int mu, .int (nI ke)])), (q 14, .inl (cI, 16, .inl f_11)), (q 16, .inl (cI, 6, .inl rf))]) [0, 4, 5, 1, 2, 3] rfl
              have hD := hD.sub (ws' := [(x0, .inr (11, [.ref (q 0), .ref (q 1), .ref (q 2), .ref (q 3), .ref (q 4), .ref (q 5), .ref (q 6), .ref (q 7), .ref (q 8), .ref (q 9), .ref (q 10), .ref (q 11), .ref (q 12), .ref (q 13), .ref (q 14), .int (nI hn), .ref (q 16), .long dr])), (q 0, .inr (10, [.ref (q 20), .int 0])), (q 20, .inl (cI, 1600, .inl (fun j => nI (tb j)))), (q 7, .inr (7, [.ref (q 33), .ref (q 34), .int (nI dy), .int (nI wn), .int (nI mo), .int mu, .int (nI ke)])), (q 14, .inl (cI, 16, .inl f_11)), (q 16, .inl (cI, 6, .inl rf))]) [0, 4, 5, 1, 2, 3] (by decide +kernel) rfl
              exact ih_lp_3 (i + 1) f_11 _ _ _ (by omega) (by omega) (hr_s hch ef_12) hP hD hS (lv_sub hl [0, 1, 2, 3] rfl)
      exact lp_3 (16 - 0 + 1) 0 hr_ _ _ _ (Nat.lt_succ_self _) (by omega) (fun j hj => absurd hj (Nat.not_lt_zero j)) hP hD hS (lv_sub hl [0, 1, 2, 3] rfl)
    · have c_2 : bq = 0 := (neq bq 0 (by omega) (by omega)).mp c_2
      refine lv_aload_n hx hb dX11_hear_42 rfl (lv_at hl 2 rfl) ?_
      refine lv_iconst (v := 1) hx hb dX11_hear_43 (by decide) ?_
      refine sk_Vi (q0 := 0) (n := 1) (rest := []) (wr := [(q 0, .inr (10, [.ref (q 20), .int 0])), (q 20, .inl (cI, 1600, .inl (fun j => nI (tb j)))), (q 7, .inr (7, [.ref (q 33), .ref (q 34), .int (nI dy), .int (nI wn), .int (nI mo), .int mu, .int (nI ke)])), (q 14, .inl (cI, 16, .inl hr_))]) ⟨hx, hb, hml, hown, hts⟩ hl.1 (c_kx_refuse l D cI cJ cC cZ cS x0 q (nI hn) dr 1 rf (by omega)) w_2_182 w_2_184 w_0_0 w_1_1 w_2_185 (by decide +kernel) ⟨⟨(Nat.le_of_ble_eq_true rfl), (Nat.le_of_ble_eq_true rfl)⟩, (Nat.le_of_ble_eq_true rfl), (Nat.le_of_ble_eq_true rfl)⟩ hK hP hD hS hA [0, 5] [1, 2, 3, 4] rfl rfl (by decide +kernel) (by decide +kernel) (by decide +kernel) rfl rfl rfl rfl (Nat.le_of_ble_eq_true rfl) dX11_hear_44 (fun r_14 u H locs hw hP hD hS => ?_)
      obtain ⟨rf2_13, hrf_15, rfl, rfl⟩ := hw
      have hP : va_P D vwCl [(q 0, .inr (10, [.ref (q 20), .int 0])), (q 20, .inl (cI, 1600, .inl (fun j => nI (tb j)))), (q 7, .inr (7, [.ref (q 33), .ref (q 34), .int (nI dy), .int (nI wn), .int (nI mo), .int mu, .int (nI ke)])), (q 14, .inl (cI, 16, .inl hr_)), (x0, .inr (11, [.ref (q 0), .ref (q 1), .ref (q 2), .ref (q 3), .ref (q 4), .ref (q 5), .ref (q 6), .ref (q 7), .ref (q 8), .ref (q 9), .ref (q 10), .ref (q 11), .ref (q 12), .ref (q 13), .ref (q 14), .int (nI hn), .ref (q 16), .long dr])), (q 16, .inl (cI, 6, .inl rf2_13))] H := hP
      have hD : va_D A [(q 0, .inr (10, [.ref (q 20), .int 0])), (q 20, .inl (cI, 1600, .inl (fun j => nI (tb j)))), (q 7, .inr (7, [.ref (q 33), .ref (q 34), .int (nI dy), .int (nI wn), .int (nI mo), .int mu, .int (nI ke)])), (q 14, .inl (cI, 16, .inl hr_)), (x0, .inr (11, [.ref (q 0), .ref (q 1), .ref (q 2), .ref (q 3), .ref (q 4), .ref (q 5), .ref (q 6), .ref (q 7), .ref (q 8), .ref (q 9), .ref (q 10), .ref (q 11), .ref (q 12), .ref (q 13), .ref (q 14), .int (nI hn), .ref (q 16), .long dr])), (q 16, .inl (cI, 6, .inl rf2_13))] := hD
      have hP := hP.sub (ws' := [(x0, .inr (11, [.ref (q 0), .ref (q 1), .ref (q 2), .ref (q 3), .ref (q 4), .ref (q 5), .ref (q 6), .ref (q 7), .ref (q 8), .ref (q 9), .ref (q 10), .ref (q 11), .ref (q 12), .ref (q 13), .ref (q 14), .int (nI hn), .ref (q 16), .long dr])), (q 0, .inr (10, [.ref (q 20), .int 0])), (q 20, .inl (cI, 1600, .inl (fun j => nI (tb j)))), (q 7, .inr (7, [.ref (q 33), .ref (q 34), .int (nI dy), .int (nI wn), .int (nI mo), .int mu, .int (nI ke)])), (q 14, .inl (cI, 16, .inl hr_)), (q 16, .inl (cI, 6, .inl rf2_13))]) [4, 0, 1, 2, 3, 5] rfl
      have hD := hD.sub (ws' := [(x0, .inr (11, [.ref (q 0), .ref (q 1), .ref (q 2), .ref (q 3), .ref (q 4), .ref (q 5), .ref (q 6), .ref (q 7), .ref (q 8), .ref (q 9), .ref (q 10), .ref (q 11), .ref (q 12), .ref (q 13), .ref (q 14), .int (nI hn), .ref (q 16), .long dr])), (q 0, .inr (10, [.ref (q 20), .int 0])), (q 20, .inl (cI, 1600, .inl (fun j => nI (tb j)))), (q 7, .inr (7, [.ref (q 33), .ref (q 34), .int (nI dy), .int (nI wn), .int (nI mo), .int mu, .int (nI ke)])), (q 14, .inl (cI, 16, .inl hr_)), (q 16, .inl (cI, 6, .inl rf2_13))]) [4, 0, 1, 2, 3, 5] (by decide +kernel) rfl
      exact sk_iret hx hb hr rfl hlocks hK hP hD hS (⟨hn, hr_, hR, rf2_13, hhr, kB_0 (rr_0 hbq3 (by omega)) ⟨rfl, rfl, rfl, hrf_15⟩, rfl⟩) (Nat.le_of_ble_eq_true rfl) (Nat.le_of_ble_eq_true rfl) dX11_hear_47
  refine lv_aload_n hx hb dX11_hear_0 rfl (lv_at hl 0 rfl) ?_
  refine sk_Vi (q0 := 0) (n := 0) (rest := []) (wr := [(q 0, .inr (10, [.ref (q 20), .int (nI tl)])), (q 20, .inl (cI, 1600, .inl (fun j => nI (tb j)))), (q 14, .inl (cI, 16, .inl hr_)), (q 16, .inl (cI, 6, .inl rf))]) ⟨hx, hb, hml, hown, hts⟩ hl.1 (c_kx_isLocked l D cI cJ cC cZ cS x0 q (nI hn) dr dy wn mo ke mu fb fw (by omega)) w_4_39 w_4_41 w_0_18 w_1_1 w_4_42 (by decide +kernel) ⟨⟨(Nat.le_of_ble_eq_true rfl), (Nat.le_of_ble_eq_true rfl)⟩, (Nat.le_of_ble_eq_true rfl), (Nat.le_of_ble_eq_true rfl)⟩ hK hP hD hS hA [0, 3] [1, 2, 4, 5] rfl rfl (by decide +kernel) (by decide +kernel) (by decide +kernel) rfl rfl rfl rfl (Nat.le_of_ble_eq_true rfl) dX11_hear_1 (fun r_17 u H locs hw hP hD hS => ?_)
  obtain ⟨b_16, hb1_18, rfl, rfl⟩ := hw
  have hP : va_P D vwCl [(q 0, .inr (10, [.ref (q 20), .int (nI tl)])), (q 20, .inl (cI, 1600, .inl (fun j => nI (tb j)))), (q 14, .inl (cI, 16, .inl hr_)), (q 16, .inl (cI, 6, .inl rf)), (x0, .inr (11, [.ref (q 0), .ref (q 1), .ref (q 2), .ref (q 3), .ref (q 4), .ref (q 5), .ref (q 6), .ref (q 7), .ref (q 8), .ref (q 9), .ref (q 10), .ref (q 11), .ref (q 12), .ref (q 13), .ref (q 14), .int (nI hn), .ref (q 16), .long dr])), (q 7, .inr (7, [.ref (q 33), .ref (q 34), .int (nI dy), .int (nI wn), .int (nI mo), .int mu, .int (nI ke)]))] H := hP
  have hD : va_D A [(q 0, .inr (10, [.ref (q 20), .int (nI tl)])), (q 20, .inl (cI, 1600, .inl (fun j => nI (tb j)))), (q 14, .inl (cI, 16, .inl hr_)), (q 16, .inl (cI, 6, .inl rf)), (x0, .inr (11, [.ref (q 0), .ref (q 1), .ref (q 2), .ref (q 3), .ref (q 4), .ref (q 5), .ref (q 6), .ref (q 7), .ref (q 8), .ref (q 9), .ref (q 10), .ref (q 11), .ref (q 12), .ref (q 13), .ref (q 14), .int (nI hn), .ref (q 16), .long dr])), (q 7, .inr (7, [.ref (q 33), .ref (q 34), .int (nI dy), .int (nI wn), .int (nI mo), .int mu, .int (nI ke)]))] := hD
  refine lv_if_eq (tgt := 18) hx hb dX11_hear_4 (by decide) (fun c_19 => ?_) (fun c_19 => ?_)
  · have c_19 : b_16 = 0 := (neq b_16 0 (by omega) (by omega)).mp c_19
    refine lv_iconst (v := 0) hx hb dX11_hear_18 (by decide) ?_
    have hP := hP.sub (ws' := [(x0, .inr (11, [.ref (q 0), .ref (q 1), .ref (q 2), .ref (q 3), .ref (q 4), .ref (q 5), .ref (q 6), .ref (q 7), .ref (q 8), .ref (q 9), .ref (q 10), .ref (q 11), .ref (q 12), .ref (q 13), .ref (q 14), .int (nI hn), .ref (q 16), .long dr])), (q 0, .inr (10, [.ref (q 20), .int (nI tl)])), (q 20, .inl (cI, 1600, .inl (fun j => nI (tb j)))), (q 7, .inr (7, [.ref (q 33), .ref (q 34), .int (nI dy), .int (nI wn), .int (nI mo), .int mu, .int (nI ke)])), (q 14, .inl (cI, 16, .inl hr_)), (q 16, .inl (cI, 6, .inl rf))]) [4, 0, 1, 5, 2, 3] rfl
    have hD := hD.sub (ws' := [(x0, .inr (11, [.ref (q 0), .ref (q 1), .ref (q 2), .ref (q 3), .ref (q 4), .ref (q 5), .ref (q 6), .ref (q 7), .ref (q 8), .ref (q 9), .ref (q 10), .ref (q 11), .ref (q 12), .ref (q 13), .ref (q 14), .int (nI hn), .ref (q 16), .long dr])), (q 0, .inr (10, [.ref (q 20), .int (nI tl)])), (q 20, .inl (cI, 1600, .inl (fun j => nI (tb j)))), (q 7, .inr (7, [.ref (q 33), .ref (q 34), .int (nI dy), .int (nI wn), .int (nI mo), .int mu, .int (nI ke)])), (q 14, .inl (cI, 16, .inl hr_)), (q 16, .inl (cI, 6, .inl rf))]) [4, 0, 1, 5, 2, 3] (by decide +kernel) rfl
    exact jn_1 0 _ _ _ (by omega) (Or.inl ⟨rfl, fun hq => absurd hq.1 (by omega)⟩) hP hD hS (lv_sub hl [0] rfl)
  · have c_19 : ¬ (b_16 = 0) := fun h => c_19 ((neq b_16 0 (by omega) (by omega)).mpr h)
    refine lv_aload_n hx hb dX11_hear_7 rfl (lv_at hl 0 rfl) ?_
    refine sk_Vi (q0 := 0) (n := 0) (rest := []) (wr := [(q 14, .inl (cI, 16, .inl hr_)), (q 16, .inl (cI, 6, .inl rf))]) ⟨hx, hb, hml, hown, hts⟩ hl.1 (c_kx_tellsRows l D cI cJ cC cZ cS x0 q (nI hn) dr tl tb dy wn mo ke mu fb fw U (by omega) htb (by omega) (by omega) hU) w_4_210 w_4_212 w_0_29 w_1_1 w_4_213 (by decide +kernel) ⟨⟨(Nat.le_of_ble_eq_true rfl), (Nat.le_of_ble_eq_true rfl)⟩, (Nat.le_of_ble_eq_true rfl), (Nat.le_of_ble_eq_true rfl)⟩ hK hP hD hS hA [4, 0, 1, 5] [2, 3] rfl rfl (by decide +kernel) (by decide +kernel) (by decide +kernel) rfl rfl rfl rfl (Nat.le_of_ble_eq_true rfl) dX11_hear_8 (fun r_21 u H locs hw hP hD hS => ?_)
    obtain ⟨b_20, htr_22, rfl, rfl⟩ := hw
    have hP : va_P D vwCl [(q 14, .inl (cI, 16, .inl hr_)), (q 16, .inl (cI, 6, .inl rf)), (x0, .inr (11, [.ref (q 0), .ref (q 1), .ref (q 2), .ref (q 3), .ref (q 4), .ref (q 5), .ref (q 6), .ref (q 7), .ref (q 8), .ref (q 9), .ref (q 10), .ref (q 11), .ref (q 12), .ref (q 13), .ref (q 14), .int (nI hn), .ref (q 16), .long dr])), (q 0, .inr (10, [.ref (q 20), .int (nI tl)])), (q 20, .inl (cI, 1600, .inl (fun j => nI (tb j)))), (q 7, .inr (7, [.ref (q 33), .ref (q 34), .int (nI dy), .int (nI wn), .int (nI mo), .int mu, .int (nI ke)]))] H := hP
    have hD : va_D A [(q 14, .inl (cI, 16, .inl hr_)), (q 16, .inl (cI, 6, .inl rf)), (x0, .inr (11, [.ref (q 0), .ref (q 1), .ref (q 2), .ref (q 3), .ref (q 4), .ref (q 5), .ref (q 6), .ref (q 7), .ref (q 8), .ref (q 9), .ref (q 10), .ref (q 11), .ref (q 12), .ref (q 13), .ref (q 14), .int (nI hn), .ref (q 16), .long dr])), (q 0, .inr (10, [.ref (q 20), .int (nI tl)])), (q 20, .inl (cI, 1600, .inl (fun j => nI (tb j)))), (q 7, .inr (7, [.ref (q 33), .ref (q 34), .int (nI dy), .int (nI wn), .int (nI mo), .int mu, .int (nI ke)]))] := hD
    refine lv_if_eq (tgt := 18) hx hb dX11_hear_11 (by decide) (fun c_23 => ?_) (fun c_23 => ?_)
    · have c_23 : b_20 = 0 := (neq b_20 0 (by omega) (by omega)).mp c_23
      refine lv_iconst (v := 0) hx hb dX11_hear_18 (by decide) ?_
      have hP := hP.sub (ws' := [(x0, .inr (11, [.ref (q 0), .ref (q 1), .ref (q 2), .ref (q 3), .ref (q 4), .ref (q 5), .ref (q 6), .ref (q 7), .ref (q 8), .ref (q 9), .ref (q 10), .ref (q 11), .ref (q 12), .ref (q 13), .ref (q 14), .int (nI hn), .ref (q 16), .long dr])), (q 0, .inr (10, [.ref (q 20), .int (nI tl)])), (q 20, .inl (cI, 1600, .inl (fun j => nI (tb j)))), (q 7, .inr (7, [.ref (q 33), .ref (q 34), .int (nI dy), .int (nI wn), .int (nI mo), .int mu, .int (nI ke)])), (q 14, .inl (cI, 16, .inl hr_)), (q 16, .inl (cI, 6, .inl rf))]) [2, 3, 4, 5, 0, 1] rfl
      have hD := hD.sub (ws' := [(x0, .inr (11, [.ref (q 0), .ref (q 1), .ref (q 2), .ref (q 3), .ref (q 4), .ref (q 5), .ref (q 6), .ref (q 7), .ref (q 8), .ref (q 9), .ref (q 10), .ref (q 11), .ref (q 12), .ref (q 13), .ref (q 14), .int (nI hn), .ref (q 16), .long dr])), (q 0, .inr (10, [.ref (q 20), .int (nI tl)])), (q 20, .inl (cI, 1600, .inl (fun j => nI (tb j)))), (q 7, .inr (7, [.ref (q 33), .ref (q 34), .int (nI dy), .int (nI wn), .int (nI mo), .int mu, .int (nI ke)])), (q 14, .inl (cI, 16, .inl hr_)), (q 16, .inl (cI, 6, .inl rf))]) [2, 3, 4, 5, 0, 1] (by decide +kernel) rfl
      exact jn_1 0 _ _ _ (by omega) (Or.inl ⟨rfl, fun hq => rr_0 htr_22 (by omega) hq.2⟩) hP hD hS (lv_sub hl [0] rfl)
    · have c_23 : ¬ (b_20 = 0) := fun h => c_23 ((neq b_20 0 (by omega) (by omega)).mpr h)
      refine lv_iconst (v := 1) hx hb dX11_hear_14 (by decide) ?_
      refine lv_goto (tgt := 19) hx hb dX11_hear_15 (by decide) ?_
      have hP := hP.sub (ws' := [(x0, .inr (11, [.ref (q 0), .ref (q 1), .ref (q 2), .ref (q 3), .ref (q 4), .ref (q 5), .ref (q 6), .ref (q 7), .ref (q 8), .ref (q 9), .ref (q 10), .ref (q 11), .ref (q 12), .ref (q 13), .ref (q 14), .int (nI hn), .ref (q 16), .long dr])), (q 0, .inr (10, [.ref (q 20), .int (nI tl)])), (q 20, .inl (cI, 1600, .inl (fun j => nI (tb j)))), (q 7, .inr (7, [.ref (q 33), .ref (q 34), .int (nI dy), .int (nI wn), .int (nI mo), .int mu, .int (nI ke)])), (q 14, .inl (cI, 16, .inl hr_)), (q 16, .inl (cI, 6, .inl rf))]) [2, 3, 4, 5, 0, 1] rfl
      have hD := hD.sub (ws' := [(x0, .inr (11, [.ref (q 0), .ref (q 1), .ref (q 2), .ref (q 3), .ref (q 4), .ref (q 5), .ref (q 6), .ref (q 7), .ref (q 8), .ref (q 9), .ref (q 10), .ref (q 11), .ref (q 12), .ref (q 13), .ref (q 14), .int (nI hn), .ref (q 16), .long dr])), (q 0, .inr (10, [.ref (q 20), .int (nI tl)])), (q 20, .inl (cI, 1600, .inl (fun j => nI (tb j)))), (q 7, .inr (7, [.ref (q 33), .ref (q 34), .int (nI dy), .int (nI wn), .int (nI mo), .int mu, .int (nI ke)])), (q 14, .inl (cI, 16, .inl hr_)), (q 16, .inl (cI, 6, .inl rf))]) [2, 3, 4, 5, 0, 1] (by decide +kernel) rfl
      exact jn_1 1 _ _ _ (by omega) (Or.inr ⟨rfl, by omega, rr_1 htr_22 (by omega)⟩) hP hD hS (lv_sub hl [0] rfl)
