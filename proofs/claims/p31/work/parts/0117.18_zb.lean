set_option maxHeartbeats 4000000 in
set_option maxRecDepth 100000 in
theorem c_kState_isMute (l : Launch) (D : va_G) (cI cJ cC cZ cS : ClassId) (h0 : Nat) (k1 : Nat) (k2 : Nat) (dy : Nat) (mo : Nat) (wk : Int32) (mu : Int32) (ke : Int32) (d : Nat) (U : Nat → Bool) (hd : d < 9) (hU : muO U mu) : skM l yX7_isMute cX7_isMute 2 (some .boolean) 0 0 0 0 D (skT cI cJ cC cZ cS) [.ref h0, .int (nI d)] [(h0, .inr (7, [.ref k1, .ref k2, .int (nI dy), .int wk, .int (nI mo), .int mu, .int ke]))] (skI D (skT cI cJ cC cZ cS) (fun (r : Int32) (u : va_W) => ∃ (b : Nat), ((b = 1 ∧ U d = true) ∨ (b = 0 ∧ ¬ U d = true)) ∧ r = nI b ∧ u = [(h0, .inr (7, [.ref k1, .ref k2, .int (nI dy), .int wk, .int (nI mo), .int mu, .int ke]))])) := by
  refine skM_of pf_X7_isMute (Nat.le_of_ble_eq_true rfl) ?_
  intro p e s m below meth c A ls E hP hD hl
  refine skE_el E (fun hx hb hr hml hlocks hin hown hts hK hA => ?_)
  have hown : s.vm.findClass RX7 = some m.cls := hown
  have hS : va_S A s.heap s.heap [] := va_S.rf
  have hl : lv_has ls 2 [(0, .ref h0), (1, .int (nI d))] := hl
  refine lv_aload_n hx hb dX7_isMute_0 rfl (lv_at hl 0 rfl) ?_
  refine sk_get (v := .int mu) (C := RX7) (T := TX7) (N := 7) hx hb hts inlX7 hown hK hP 0 rfl rfl 5 (by decide) w_2_11 rfl dX7_isMute_1 ?_
  refine lv_iload_n hx hb dX7_isMute_4 rfl (lv_at hl 1 rfl) ?_
  refine lv_ishr hx hb dX7_isMute_5 ?_
  refine lv_iconst (v := 1) hx hb dX7_isMute_6 (by decide) ?_
  refine lv_iand hx hb dX7_isMute_7 ?_
  refine lv_iconst (v := 1) hx hb dX7_isMute_8 (by decide) ?_
  refine lv_icmp_ne (tgt := 16) hx hb dX7_isMute_9 (by decide) (fun c_1 => ?_) (fun c_1 => ?_)
  · skip
    refine lv_iconst (v := 0) hx hb dX7_isMute_16 (by decide) ?_
    exact sk_iret hx hb hr rfl hlocks hK hP hD hS (⟨0, Or.inr ⟨rfl, fun hq => c_1 ((muO_bit hU (by omega)).mpr hq)⟩, rfl, rfl⟩) (Nat.le_of_ble_eq_true rfl) (Nat.le_of_ble_eq_true rfl) dX7_isMute_17
  · skip
    refine lv_iconst (v := 1) hx hb dX7_isMute_12 (by decide) ?_
    refine lv_goto (tgt := 17) hx hb dX7_isMute_13 (by decide) ?_
    exact sk_iret hx hb hr rfl hlocks hK hP hD hS (⟨1, Or.inl ⟨rfl, (muO_bit hU (by omega)).mp c_1⟩, rfl, rfl⟩) (Nat.le_of_ble_eq_true rfl) (Nat.le_of_ble_eq_true rfl) dX7_isMute_17
set_option maxHeartbeats 4000000 in
set_option maxRecDepth 100000 in
theorem c_kState_amount (l : Launch) (D : va_G) (cI cJ cC cZ cS : ClassId) (h0 : Nat) (k1 : Nat) (k2 : Nat) (dy : Nat) (mo : Nat) (wk : Int32) (mu : Int32) (ke : Int32) (fb : Nat → Int32) (fw : Nat → Int32) (d : Nat) (w : Nat) (Ba : Nat → Nat) (We : Nat → Nat) (hd : d < 9) (hfb : ∀ j, j < 9 → fb j = nI (Ba j)) (hfw : ∀ j, j < 9 → fw j = nI (We j)) (hw : w ≤ 1) : skM l yX7_amount cX7_amount 3 (some .int) 0 0 0 0 D (skT cI cJ cC cZ cS) [.ref h0, .int (nI d), .int (nI w)] [(h0, .inr (7, [.ref k1, .ref k2, .int (nI dy), .int wk, .int (nI mo), .int mu, .int ke])), (k1, .inl (cI, 9, .inl fb)), (k2, .inl (cI, 9, .inl fw))] (skI D (skT cI cJ cC cZ cS) (fun (r : Int32) (u : va_W) => ∃ (v : Nat), v = (if w = 0 then Ba d else We d) ∧ r = nI v ∧ u = [(h0, .inr (7, [.ref k1, .ref k2, .int (nI dy), .int wk, .int (nI mo), .int mu, .int ke])), (k1, .inl (cI, 9, .inl fb)), (k2, .inl (cI, 9, .inl fw))])) := by
  refine skM_of pf_X7_amount (Nat.le_of_ble_eq_true rfl) ?_
  intro p e s m below meth c A ls E hP hD hl
  refine skE_el E (fun hx hb hr hml hlocks hin hown hts hK hA => ?_)
  have hown : s.vm.findClass RX7 = some m.cls := hown
  have hS : va_S A s.heap s.heap [] := va_S.rf
  have hl : lv_has ls 3 [(0, .ref h0), (1, .int (nI d)), (2, .int (nI w))] := hl
  refine lv_iload_n hx hb dX7_amount_0 rfl (lv_at hl 2 rfl) ?_
  refine lv_if_ne (tgt := 13) hx hb dX7_amount_1 (by decide) (fun c_1 => ?_) (fun c_1 => ?_)
  · have c_1 : ¬ (w = 0) := fun h => c_1 ((neq w 0 (by omega) (by omega)).mpr h)
    refine lv_aload_n hx hb dX7_amount_13 rfl (lv_at hl 0 rfl) ?_
    refine sk_get (v := .ref k2) (C := RX7) (T := TX7) (N := 7) hx hb hts inlX7 hown hK hP 0 rfl rfl 1 (by decide) w_1_234 rfl dX7_amount_14 ?_
    refine lv_iload_n hx hb dX7_amount_17 rfl (lv_at hl 1 rfl) ?_
    refine va_iald hx hb hK.1 hP 2 0 rfl rfl (vin d 9 (by omega) (by omega)) dX7_amount_18 ?_
    refine sk_top (nI (We d)) (by rw [nI_clamp (by omega)]; exact hfw d hd) ?_
    exact sk_iret hx hb hr rfl hlocks hK hP hD hS (⟨We d, (if_neg c_1).symm, rfl, rfl⟩) (Nat.le_of_ble_eq_true rfl) (Nat.le_of_ble_eq_true rfl) dX7_amount_19
  · have c_1 : w = 0 := (neq w 0 (by omega) (by omega)).mp c_1
    refine lv_aload_n hx hb dX7_amount_4 rfl (lv_at hl 0 rfl) ?_
    refine sk_get (v := .ref k1) (C := RX7) (T := TX7) (N := 7) hx hb hts inlX7 hown hK hP 0 rfl rfl 0 (by decide) w_1_230 rfl dX7_amount_5 ?_
    refine lv_iload_n hx hb dX7_amount_8 rfl (lv_at hl 1 rfl) ?_
    refine va_iald hx hb hK.1 hP 1 0 rfl rfl (vin d 9 (by omega) (by omega)) dX7_amount_9 ?_
    refine sk_top (nI (Ba d)) (by rw [nI_clamp (by omega)]; exact hfb d hd) ?_
    refine lv_goto (tgt := 19) hx hb dX7_amount_10 (by decide) ?_
    exact sk_iret hx hb hr rfl hlocks hK hP hD hS (⟨Ba d, (if_pos c_1).symm, rfl, rfl⟩) (Nat.le_of_ble_eq_true rfl) (Nat.le_of_ble_eq_true rfl) dX7_amount_19
set_option maxHeartbeats 4000000 in
set_option maxRecDepth 100000 in
theorem c_kState_put0 (l : Launch) (D : va_G) (cI cJ cC cZ cS : ClassId) (h0 : Nat) (k1 : Nat) (k2 : Nat) (dy : Nat) (mo : Nat) (wk : Int32) (mu : Int32) (ke : Int32) (fb : Nat → Int32) (fw : Nat → Int32) (d : Nat) (o : Int32) (hd : d < 9) : skM l yX7_put cX7_put 4 none 0 0 0 0 D (skT cI cJ cC cZ cS) [.ref h0, .int (nI d), .int 0, .int o] [(h0, .inr (7, [.ref k1, .ref k2, .int (nI dy), .int wk, .int (nI mo), .int mu, .int ke])), (k1, .inl (cI, 9, .inl fb)), (k2, .inl (cI, 9, .inl fw))] (skV D (skT cI cJ cC cZ cS) (fun (u : va_W) => ∃ (g1 : Nat → Int32), g1 = upd fb d o ∧ u = [(h0, .inr (7, [.ref k1, .ref k2, .int (nI dy), .int wk, .int (nI mo), .int mu, .int ke])), (k1, .inl (cI, 9, .inl g1)), (k2, .inl (cI, 9, .inl fw))])) := by
  refine skM_of pf_X7_put (Nat.le_of_ble_eq_true rfl) ?_
  intro p e s m below meth c A ls E hP hD hl
  refine skE_el E (fun hx hb hr hml hlocks hin hown hts hK hA => ?_)
  have hown : s.vm.findClass RX7 = some m.cls := hown
  have hS : va_S A s.heap s.heap [] := va_S.rf
  have hl : lv_has ls 4 [(0, .ref h0), (1, .int (nI d)), (2, .int 0), (3, .int o)] := hl
  refine lv_iload_n hx hb dX7_put_0 rfl (lv_at hl 2 rfl) ?_
  refine lv_if_ne (tgt := 14) hx hb dX7_put_1 (by decide) (fun c => absurd c (by decide)) (fun c_1 => ?_)
  refine lv_aload_n hx hb dX7_put_4 rfl (lv_at hl 0 rfl) ?_
  refine sk_get (v := .ref k1) (C := RX7) (T := TX7) (N := 7) hx hb hts inlX7 hown hK hP 0 rfl rfl 0 (by decide) w_1_230 rfl dX7_put_5 ?_
  refine lv_iload_n hx hb dX7_put_8 rfl (lv_at hl 1 rfl) ?_
  refine lv_iload_n hx hb dX7_put_9 rfl (lv_at hl 3 rfl) ?_
  refine sk_iastE (k := d) (ws' := fun f_2 => [(h0, .inr (7, [.ref k1, .ref k2, .int (nI dy), .int wk, .int (nI mo), .int mu, .int ke])), (k1, .inl (cI, 9, .inl f_2)), (k2, .inl (cI, 9, .inl fw))]) hx hb hK hP hD hS 1 0 rfl rfl (by omega) (by omega) (fun _ => rfl) dX7_put_10 (fun f_2 H locs ef_3 hP hD hS => ?_)
  refine lv_goto (tgt := 21) hx hb dX7_put_11 (by decide) ?_
  exact sk_vret hx hb hr hlocks hK hP hD hS (⟨f_2, ef_3, rfl⟩) (Nat.le_of_ble_eq_true rfl) (Nat.le_of_ble_eq_true rfl) dX7_put_21
set_option maxHeartbeats 4000000 in
set_option maxRecDepth 100000 in
theorem c_kState_put1 (l : Launch) (D : va_G) (cI cJ cC cZ cS : ClassId) (h0 : Nat) (k1 : Nat) (k2 : Nat) (dy : Nat) (mo : Nat) (wk : Int32) (mu : Int32) (ke : Int32) (fb : Nat → Int32) (fw : Nat → Int32) (d : Nat) (o : Int32) (hd : d < 9) : skM l yX7_put cX7_put 4 none 0 0 0 0 D (skT cI cJ cC cZ cS) [.ref h0, .int (nI d), .int 1, .int o] [(h0, .inr (7, [.ref k1, .ref k2, .int (nI dy), .int wk, .int (nI mo), .int mu, .int ke])), (k1, .inl (cI, 9, .inl fb)), (k2, .inl (cI, 9, .inl fw))] (skV D (skT cI cJ cC cZ cS) (fun (u : va_W) => ∃ (g1 : Nat → Int32), g1 = upd fw d o ∧ u = [(h0, .inr (7, [.ref k1, .ref k2, .int (nI dy), .int wk, .int (nI mo), .int mu, .int ke])), (k1, .inl (cI, 9, .inl fb)), (k2, .inl (cI, 9, .inl g1))])) := by
  refine skM_of pf_X7_put (Nat.le_of_ble_eq_true rfl) ?_
  intro p e s m below meth c A ls E hP hD hl
  refine skE_el E (fun hx hb hr hml hlocks hin hown hts hK hA => ?_)
  have hown : s.vm.findClass RX7 = some m.cls := hown
  have hS : va_S A s.heap s.heap [] := va_S.rf
  have hl : lv_has ls 4 [(0, .ref h0), (1, .int (nI d)), (2, .int 1), (3, .int o)] := hl
  refine lv_iload_n hx hb dX7_put_0 rfl (lv_at hl 2 rfl) ?_
  refine lv_if_ne (tgt := 14) hx hb dX7_put_1 (by decide) (fun c_1 => ?_) (fun c => absurd c (by decide))
  refine lv_aload_n hx hb dX7_put_14 rfl (lv_at hl 0 rfl) ?_
  refine sk_get (v := .ref k2) (C := RX7) (T := TX7) (N := 7) hx hb hts inlX7 hown hK hP 0 rfl rfl 1 (by decide) w_1_234 rfl dX7_put_15 ?_
  refine lv_iload_n hx hb dX7_put_18 rfl (lv_at hl 1 rfl) ?_
  refine lv_iload_n hx hb dX7_put_19 rfl (lv_at hl 3 rfl) ?_
  refine sk_iastE (k := d) (ws' := fun f_2 => [(h0, .inr (7, [.ref k1, .ref k2, .int (nI dy), .int wk, .int (nI mo), .int mu, .int ke])), (k1, .inl (cI, 9, .inl fb)), (k2, .inl (cI, 9, .inl f_2))]) hx hb hK hP hD hS 2 0 rfl rfl (by omega) (by omega) (fun _ => rfl) dX7_put_20 (fun f_2 H locs ef_3 hP hD hS => ?_)
  exact sk_vret hx hb hr hlocks hK hP hD hS (⟨f_2, ef_3, rfl⟩) (Nat.le_of_ble_eq_true rfl) (Nat.le_of_ble_eq_true rfl) dX7_put_21

