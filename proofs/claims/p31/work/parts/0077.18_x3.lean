set_option maxHeartbeats 4000000 in
set_option maxRecDepth 100000 in
theorem c_eCode_addX (l : Launch) (D : va_G) (cI cJ cC cZ cS : ClassId) (h0 : Nat) (k1 : Nat) (k2 : Nat) (k3 : Nat) (k4 : Nat) (cl : Nat) (mw : Nat) (f1 : Nat → Int32) (o : Int32) (og : Res) (v : Nat) (hcl : cl ≤ 1600) (hmw : mw ≤ 1) (hv : o = cm v) (hv2 : v ≤ 10999) (hC : coO og cl mw f1) (hroom : ∀ r, og = .ok r → r.2.length < 1600) : skM l yX0_add cX0_add 2 none 0 0 0 0 D (skT cI cJ cC cZ cS) [.ref h0, .int o] [(h0, .inr (0, [.ref k1, .ref k2, .ref k3, .ref k4, .int (nI cl), .int (nI mw)])), (k1, .inl (cI, 1600, .inl f1))] (skV D (skT cI cJ cC cZ cS) (fun (u : va_W) => ∃ (c2 : Nat), ∃ (w2 : Nat), ∃ (g1 : Nat → Int32), c2 ≤ 1600 ∧ w2 ≤ 1 ∧ coO (ad og v) c2 w2 g1 ∧ u = [(h0, .inr (0, [.ref k1, .ref k2, .ref k3, .ref k4, .int (nI c2), .int (nI w2)])), (k1, .inl (cI, 1600, .inl g1))])) := by
  refine skM_of pf_X0_add (Nat.le_of_ble_eq_true rfl) ?_
  intro p e s m below meth c A ls E hP hD hl
  refine skE_el E (fun hx hb hr hml hlocks hin hown hts hK hA => ?_)
  have hown : s.vm.findClass RX0 = some m.cls := hown
  have hS : va_S A s.heap s.heap [] := va_S.rf
  have hl : lv_has ls 2 [(0, .ref h0), (1, .int o)] := hl
  refine lv_aload_n hx hb dX0_add_0 rfl (lv_at hl 0 rfl) ?_
  refine sk_get (v := .int (nI cl)) (C := RX0) (T := TX0) (N := 6) hx hb hts inlX0 hown hK hP 0 rfl rfl 4 (by decide) w_1_133 rfl dX0_add_1 ?_
  refine lv_aload_n hx hb dX0_add_4 rfl (lv_at hl 0 rfl) ?_
  refine sk_get (v := .ref k1) (C := RX0) (T := TX0) (N := 6) hx hb hts inlX0 hown hK hP 0 rfl rfl 0 (by decide) w_1_129 rfl dX0_add_5 ?_
  refine va_alen (v := 1600) hx hb hK.1 hP 1 0 rfl rfl rfl dX0_add_8 ?_
  refine lv_icmp_ge (tgt := 32) hx hb dX0_add_9 (by decide) (fun c_1 => ?_) (fun c_1 => ?_)
  · have c_1 : 1600 ≤ cl := (nle 1600 cl (by omega) (by omega)).mp c_1
    refine lv_aload_n hx hb dX0_add_32 rfl (lv_at hl 0 rfl) ?_
    refine lv_dup hx hb dX0_add_33 rfl ?_
    refine sk_get (v := .int (nI mw)) (C := RX0) (T := TX0) (N := 6) hx hb hts inlX0 hown hK hP 0 rfl rfl 5 (by decide) w_1_136 rfl dX0_add_34 ?_
    refine lv_iload_n hx hb dX0_add_37 rfl (lv_at hl 1 rfl) ?_
    refine lv_sipush (v := 10004) hx hb dX0_add_38 (by decide) ?_
    refine lv_icmp_ne (tgt := 48) hx hb dX0_add_41 (by decide) (fun c_2 => ?_) (fun c_2 => ?_)
    · skip
      refine lv_iconst (v := 0) hx hb dX0_add_48 (by decide) ?_
      refine lv_ior hx hb dX0_add_49 ?_
      refine sk_top (nI (max mw 0)) (nor1 mw 0 (by omega) (by omega)) ?_
      refine sk_put (ws' := [(h0, .inr (0, [.ref k1, .ref k2, .ref k3, .ref k4, .int (nI cl), .int (nI (max mw 0))])), (k1, .inl (cI, 1600, .inl f1))]) (C := RX0) (T := TX0) (N := 6) (v := .int (nI (max mw 0))) hx hb hts inlX0 tyX0 tyX0_ok nmX0 hown hK hP hD hS 0 rfl rfl 5 (by decide) w_1_136 rfl (nbool (max mw 0) (by omega)) (nfitb (max mw 0) (by omega)) (Nat.le_of_ble_eq_true rfl) rfl dX0_add_50 (fun H locs hP hD hS => ?_)
      exact sk_vret hx hb hr hlocks hK hP hD hS (⟨cl, max mw 0, f1, by omega, by omega, co_full hC hroom (by omega), rfl⟩) (Nat.le_of_ble_eq_true rfl) (Nat.le_of_ble_eq_true rfl) dX0_add_53
    · skip
      refine lv_iconst (v := 1) hx hb dX0_add_44 (by decide) ?_
      refine lv_goto (tgt := 49) hx hb dX0_add_45 (by decide) ?_
      refine lv_ior hx hb dX0_add_49 ?_
      refine sk_top (nI (max mw 1)) (nor1 mw 1 (by omega) (by omega)) ?_
      refine sk_put (ws' := [(h0, .inr (0, [.ref k1, .ref k2, .ref k3, .ref k4, .int (nI cl), .int (nI (max mw 1))])), (k1, .inl (cI, 1600, .inl f1))]) (C := RX0) (T := TX0) (N := 6) (v := .int (nI (max mw 1))) hx hb hts inlX0 tyX0 tyX0_ok nmX0 hown hK hP hD hS 0 rfl rfl 5 (by decide) w_1_136 rfl (nbool (max mw 1) (by omega)) (nfitb (max mw 1) (by omega)) (Nat.le_of_ble_eq_true rfl) rfl dX0_add_50 (fun H locs hP hD hS => ?_)
      exact sk_vret hx hb hr hlocks hK hP hD hS (⟨cl, max mw 1, f1, by omega, by omega, co_full hC hroom (by omega), rfl⟩) (Nat.le_of_ble_eq_true rfl) (Nat.le_of_ble_eq_true rfl) dX0_add_53
  · have c_1 : ¬ (1600 ≤ cl) := fun h => c_1 ((nle 1600 cl (by omega) (by omega)).mpr h)
    refine lv_aload_n hx hb dX0_add_12 rfl (lv_at hl 0 rfl) ?_
    refine sk_get (v := .ref k1) (C := RX0) (T := TX0) (N := 6) hx hb hts inlX0 hown hK hP 0 rfl rfl 0 (by decide) w_1_129 rfl dX0_add_13 ?_
    refine lv_aload_n hx hb dX0_add_16 rfl (lv_at hl 0 rfl) ?_
    refine sk_get (v := .int (nI cl)) (C := RX0) (T := TX0) (N := 6) hx hb hts inlX0 hown hK hP 0 rfl rfl 4 (by decide) w_1_133 rfl dX0_add_17 ?_
    refine lv_iload_n hx hb dX0_add_20 rfl (lv_at hl 1 rfl) ?_
    refine sk_iast (ws' := [(h0, .inr (0, [.ref k1, .ref k2, .ref k3, .ref k4, .int (nI cl), .int (nI mw)])), (k1, .inl (cI, 1600, .inl (upd f1 (nI cl).toNatClampNeg o)))]) hx hb hK hP hD hS 1 0 rfl rfl (vin cl 1600 (by omega) (by omega)) rfl dX0_add_21 (fun H locs hP hD hS => ?_)
    refine lv_aload_n hx hb dX0_add_22 rfl (lv_at hl 0 rfl) ?_
    refine lv_dup hx hb dX0_add_23 rfl ?_
    refine sk_get (v := .int (nI cl)) (C := RX0) (T := TX0) (N := 6) hx hb hts inlX0 hown hK hP 0 rfl rfl 4 (by decide) w_1_133 rfl dX0_add_24 ?_
    refine lv_iconst (v := 1) hx hb dX0_add_27 (by decide) ?_
    refine lv_iadd hx hb dX0_add_28 ?_
    refine sk_top (nI (cl + 1)) (nI_add cl 1) ?_
    refine sk_put (ws' := [(h0, .inr (0, [.ref k1, .ref k2, .ref k3, .ref k4, .int (nI (cl + 1)), .int (nI mw)])), (k1, .inl (cI, 1600, .inl (upd f1 (nI cl).toNatClampNeg o)))]) (C := RX0) (T := TX0) (N := 6) (v := .int (nI (cl + 1))) hx hb hts inlX0 tyX0 tyX0_ok nmX0 hown hK hP hD hS 0 rfl rfl 4 (by decide) w_1_133 rfl rfl rfl (Nat.le_of_ble_eq_true rfl) rfl dX0_add_29 (fun H locs hP hD hS => ?_)
    refine lv_aload_n hx hb dX0_add_32 rfl (lv_at hl 0 rfl) ?_
    refine lv_dup hx hb dX0_add_33 rfl ?_
    refine sk_get (v := .int (nI mw)) (C := RX0) (T := TX0) (N := 6) hx hb hts inlX0 hown hK hP 0 rfl rfl 5 (by decide) w_1_136 rfl dX0_add_34 ?_
    refine lv_iload_n hx hb dX0_add_37 rfl (lv_at hl 1 rfl) ?_
    refine lv_sipush (v := 10004) hx hb dX0_add_38 (by decide) ?_
    refine lv_icmp_ne (tgt := 48) hx hb dX0_add_41 (by decide) (fun c_3 => ?_) (fun c_3 => ?_)
    · skip
      refine lv_iconst (v := 0) hx hb dX0_add_48 (by decide) ?_
      refine lv_ior hx hb dX0_add_49 ?_
      refine sk_top (nI (max mw 0)) (nor1 mw 0 (by omega) (by omega)) ?_
      refine sk_put (ws' := [(h0, .inr (0, [.ref k1, .ref k2, .ref k3, .ref k4, .int (nI (cl + 1)), .int (nI (max mw 0))])), (k1, .inl (cI, 1600, .inl (upd f1 (nI cl).toNatClampNeg o)))]) (C := RX0) (T := TX0) (N := 6) (v := .int (nI (max mw 0))) hx hb hts inlX0 tyX0 tyX0_ok nmX0 hown hK hP hD hS 0 rfl rfl 5 (by decide) w_1_136 rfl (nbool (max mw 0) (by omega)) (nfitb (max mw 0) (by omega)) (Nat.le_of_ble_eq_true rfl) rfl dX0_add_50 (fun H locs hP hD hS => ?_)
      exact sk_vret hx hb hr hlocks hK hP hD hS (⟨cl + 1, max mw 0, upd f1 (nI cl).toNatClampNeg o, by omega, by omega, co_ad hC hv hv2 (by omega) (or_n hmw c_3), rfl⟩) (Nat.le_of_ble_eq_true rfl) (Nat.le_of_ble_eq_true rfl) dX0_add_53
    · skip
      refine lv_iconst (v := 1) hx hb dX0_add_44 (by decide) ?_
      refine lv_goto (tgt := 49) hx hb dX0_add_45 (by decide) ?_
      refine lv_ior hx hb dX0_add_49 ?_
      refine sk_top (nI (max mw 1)) (nor1 mw 1 (by omega) (by omega)) ?_
      refine sk_put (ws' := [(h0, .inr (0, [.ref k1, .ref k2, .ref k3, .ref k4, .int (nI (cl + 1)), .int (nI (max mw 1))])), (k1, .inl (cI, 1600, .inl (upd f1 (nI cl).toNatClampNeg o)))]) (C := RX0) (T := TX0) (N := 6) (v := .int (nI (max mw 1))) hx hb hts inlX0 tyX0 tyX0_ok nmX0 hown hK hP hD hS 0 rfl rfl 5 (by decide) w_1_136 rfl (nbool (max mw 1) (by omega)) (nfitb (max mw 1) (by omega)) (Nat.le_of_ble_eq_true rfl) rfl dX0_add_50 (fun H locs hP hD hS => ?_)
      exact sk_vret hx hb hr hlocks hK hP hD hS (⟨cl + 1, max mw 1, upd f1 (nI cl).toNatClampNeg o, by omega, by omega, co_ad hC hv hv2 (by omega) (or_w hmw c_3), rfl⟩) (Nat.le_of_ble_eq_true rfl) (Nat.le_of_ble_eq_true rfl) dX0_add_53
set_option maxHeartbeats 4000000 in
set_option maxRecDepth 100000 in
theorem c_enameInLock (l : Launch) (D : va_G) (cI cJ cC cZ cS : ClassId) (u0 : Nat) (kn : Nat) (q : Nat → Nat) (o : Int32) (hkn1 : kn ≤ 1) : skM l yX8_nameInLock cX8_nameInLock 2 (some .int) 0 0 0 0 D (skT cI cJ cC cZ cS) [.ref u0, .int o] [(u0, .inr (8, [.ref (q 2), .int (nI kn)]))] (skI D (skT cI cJ cC cZ cS) (fun (r : Int32) (u : va_W) => nmO kn o r ∧ u = [(u0, .inr (8, [.ref (q 2), .int (nI kn)]))])) := by
  refine skM_of pf_X8_nameInLock (Nat.le_of_ble_eq_true rfl) ?_
  intro p e s m below meth c A ls E hP hD hl
  refine skE_el E (fun hx hb hr hml hlocks hin hown hts hK hA => ?_)
  have hown : s.vm.findClass RX8 = some m.cls := hown
  have hS : va_S A s.heap s.heap [] := va_S.rf
  have hl : lv_has ls 2 [(0, .ref u0), (1, .int o)] := hl
  refine lv_iload_n hx hb dX8_nameInLock_0 rfl (lv_at hl 1 rfl) ?_
  by_cases g_1 : o = 258
  · refine lv_tableIn (off := 67) (tgt := 68) hx hb dX8_nameInLock_1 (by rw [g_1]; decide) (by rw [g_1]; decide) (by rw [g_1]; rfl) (by decide) ?_
    refine lv_sipush (v := 10001) hx hb dX8_nameInLock_68 (by decide) ?_
    exact sk_iret hx hb hr rfl hlocks hK hP hD hS (⟨by rw [g_1]; exact nl_258 (by omega), rfl⟩) (Nat.le_of_ble_eq_true rfl) (Nat.le_of_ble_eq_true rfl) dX8_nameInLock_71
  by_cases g_2 : o = 259
  · refine lv_tableIn (off := 71) (tgt := 72) hx hb dX8_nameInLock_1 (by rw [g_2]; decide) (by rw [g_2]; decide) (by rw [g_2]; rfl) (by decide) ?_
    refine lv_sipush (v := 10002) hx hb dX8_nameInLock_72 (by decide) ?_
    exact sk_iret hx hb hr rfl hlocks hK hP hD hS (⟨by rw [g_2]; exact nl_259 (by omega), rfl⟩) (Nat.le_of_ble_eq_true rfl) (Nat.le_of_ble_eq_true rfl) dX8_nameInLock_75
  by_cases g_3 : o = 260
  · refine lv_tableIn (off := 115) (tgt := 116) hx hb dX8_nameInLock_1 (by rw [g_3]; decide) (by rw [g_3]; decide) (by rw [g_3]; rfl) (by decide) ?_
    refine lv_iconst (v := (-1)) hx hb dX8_nameInLock_116 (by decide) ?_
    exact sk_iret hx hb hr rfl hlocks hK hP hD hS (⟨by rw [g_3]; exact nl_260 (by omega), rfl⟩) (Nat.le_of_ble_eq_true rfl) (Nat.le_of_ble_eq_true rfl) dX8_nameInLock_117
  by_cases g_4 : o = 261
  · refine lv_tableIn (off := 115) (tgt := 116) hx hb dX8_nameInLock_1 (by rw [g_4]; decide) (by rw [g_4]; decide) (by rw [g_4]; rfl) (by decide) ?_
    refine lv_iconst (v := (-1)) hx hb dX8_nameInLock_116 (by decide) ?_
    exact sk_iret hx hb hr rfl hlocks hK hP hD hS (⟨by rw [g_4]; exact nl_261 (by omega), rfl⟩) (Nat.le_of_ble_eq_true rfl) (Nat.le_of_ble_eq_true rfl) dX8_nameInLock_117
  by_cases g_5 : o = 262
  · refine lv_tableIn (off := 115) (tgt := 116) hx hb dX8_nameInLock_1 (by rw [g_5]; decide) (by rw [g_5]; decide) (by rw [g_5]; rfl) (by decide) ?_
    refine lv_iconst (v := (-1)) hx hb dX8_nameInLock_116 (by decide) ?_
    exact sk_iret hx hb hr rfl hlocks hK hP hD hS (⟨by rw [g_5]; exact nl_262 (by omega), rfl⟩) (Nat.le_of_ble_eq_true rfl) (Nat.le_of_ble_eq_true rfl) dX8_nameInLock_117
  by_cases g_6 : o = 263
  · refine lv_tableIn (off := 115) (tgt := 116) hx hb dX8_nameInLock_1 (by rw [g_6]; decide) (by rw [g_6]; decide) (by rw [g_6]; rfl) (by decide) ?_
    refine lv_iconst (v := (-1)) hx hb dX8_nameInLock_116 (by decide) ?_
    exact sk_iret hx hb hr rfl hlocks hK hP hD hS (⟨by rw [g_6]; exact nl_263 (by omega), rfl⟩) (Nat.le_of_ble_eq_true rfl) (Nat.le_of_ble_eq_true rfl) dX8_nameInLock_117
  by_cases g_7 : o = 264
  · refine lv_tableIn (off := 115) (tgt := 116) hx hb dX8_nameInLock_1 (by rw [g_7]; decide) (by rw [g_7]; decide) (by rw [g_7]; rfl) (by decide) ?_
    refine lv_iconst (v := (-1)) hx hb dX8_nameInLock_116 (by decide) ?_
    exact sk_iret hx hb hr rfl hlocks hK hP hD hS (⟨by rw [g_7]; exact nl_264 (by omega), rfl⟩) (Nat.le_of_ble_eq_true rfl) (Nat.le_of_ble_eq_true rfl) dX8_nameInLock_117
  by_cases g_8 : o = 265
  · refine lv_tableIn (off := 63) (tgt := 64) hx hb dX8_nameInLock_1 (by rw [g_8]; decide) (by rw [g_8]; decide) (by rw [g_8]; rfl) (by decide) ?_
    refine lv_sipush (v := 10000) hx hb dX8_nameInLock_64 (by decide) ?_
    exact sk_iret hx hb hr rfl hlocks hK hP hD hS (⟨by rw [g_8]; exact nl_265 (by omega), rfl⟩) (Nat.le_of_ble_eq_true rfl) (Nat.le_of_ble_eq_true rfl) dX8_nameInLock_67
  by_cases g_9 : o = 266
  · refine lv_tableIn (off := 75) (tgt := 76) hx hb dX8_nameInLock_1 (by rw [g_9]; decide) (by rw [g_9]; decide) (by rw [g_9]; rfl) (by decide) ?_
    refine lv_sipush (v := 10003) hx hb dX8_nameInLock_76 (by decide) ?_
    exact sk_iret hx hb hr rfl hlocks hK hP hD hS (⟨by rw [g_9]; exact nl_266 (by omega), rfl⟩) (Nat.le_of_ble_eq_true rfl) (Nat.le_of_ble_eq_true rfl) dX8_nameInLock_79
  by_cases g_10 : o = 267
  · refine lv_tableIn (off := 79) (tgt := 80) hx hb dX8_nameInLock_1 (by rw [g_10]; decide) (by rw [g_10]; decide) (by rw [g_10]; rfl) (by decide) ?_
    refine lv_sipush (v := 10004) hx hb dX8_nameInLock_80 (by decide) ?_
    exact sk_iret hx hb hr rfl hlocks hK hP hD hS (⟨by rw [g_10]; exact nl_267 (by omega), rfl⟩) (Nat.le_of_ble_eq_true rfl) (Nat.le_of_ble_eq_true rfl) dX8_nameInLock_83
  by_cases g_11 : o = 268
  · refine lv_tableIn (off := 83) (tgt := 84) hx hb dX8_nameInLock_1 (by rw [g_11]; decide) (by rw [g_11]; decide) (by rw [g_11]; rfl) (by decide) ?_
    refine lv_aload_n hx hb dX8_nameInLock_84 rfl (lv_at hl 0 rfl) ?_
    refine sk_get (v := .int (nI kn)) (C := RX8) (T := TX8) (N := 2) hx hb hts inlX8 hown hK hP 0 rfl rfl 1 (by decide) w_1_101 rfl dX8_nameInLock_85 ?_
    refine lv_iconst (v := 1) hx hb dX8_nameInLock_88 (by decide) ?_
    refine lv_icmp_ne (tgt := 98) hx hb dX8_nameInLock_89 (by decide) (fun c_12 => ?_) (fun c_12 => ?_)
    · have c_12 : ¬ (kn = 1) := fun h => c_12 ((neq kn 1 (by omega) (by omega)).mpr h)
      refine lv_iconst (v := (-1)) hx hb dX8_nameInLock_98 (by decide) ?_
      exact sk_iret hx hb hr rfl hlocks hK hP hD hS (⟨by rw [g_11]; exact nl_268n (by omega), rfl⟩) (Nat.le_of_ble_eq_true rfl) (Nat.le_of_ble_eq_true rfl) dX8_nameInLock_99
    · have c_12 : kn = 1 := (neq kn 1 (by omega) (by omega)).mp c_12
      refine lv_sipush (v := 10005) hx hb dX8_nameInLock_92 (by decide) ?_
      refine lv_goto (tgt := 99) hx hb dX8_nameInLock_95 (by decide) ?_
      exact sk_iret hx hb hr rfl hlocks hK hP hD hS (⟨by rw [g_11]; exact nl_268y (by omega), rfl⟩) (Nat.le_of_ble_eq_true rfl) (Nat.le_of_ble_eq_true rfl) dX8_nameInLock_99
  by_cases g_13 : o = 269
  · refine lv_tableIn (off := 99) (tgt := 100) hx hb dX8_nameInLock_1 (by rw [g_13]; decide) (by rw [g_13]; decide) (by rw [g_13]; rfl) (by decide) ?_
    refine lv_aload_n hx hb dX8_nameInLock_100 rfl (lv_at hl 0 rfl) ?_
    refine sk_get (v := .int (nI kn)) (C := RX8) (T := TX8) (N := 2) hx hb hts inlX8 hown hK hP 0 rfl rfl 1 (by decide) w_1_101 rfl dX8_nameInLock_101 ?_
    refine lv_iconst (v := 1) hx hb dX8_nameInLock_104 (by decide) ?_
    refine lv_icmp_ne (tgt := 114) hx hb dX8_nameInLock_105 (by decide) (fun c_14 => ?_) (fun c_14 => ?_)
    · have c_14 : ¬ (kn = 1) := fun h => c_14 ((neq kn 1 (by omega) (by omega)).mpr h)
      refine lv_iconst (v := (-1)) hx hb dX8_nameInLock_114 (by decide) ?_
      exact sk_iret hx hb hr rfl hlocks hK hP hD hS (⟨by rw [g_13]; exact nl_269n (by omega), rfl⟩) (Nat.le_of_ble_eq_true rfl) (Nat.le_of_ble_eq_true rfl) dX8_nameInLock_115
    · have c_14 : kn = 1 := (neq kn 1 (by omega) (by omega)).mp c_14
      refine lv_sipush (v := 10006) hx hb dX8_nameInLock_108 (by decide) ?_
      refine lv_goto (tgt := 115) hx hb dX8_nameInLock_111 (by decide) ?_
      exact sk_iret hx hb hr rfl hlocks hK hP hD hS (⟨by rw [g_13]; exact nl_269y (by omega), rfl⟩) (Nat.le_of_ble_eq_true rfl) (Nat.le_of_ble_eq_true rfl) dX8_nameInLock_115
  refine lv_tableOut (tgt := 116) hx hb dX8_nameInLock_1 (sk_out2 258 269 (by intro k hk1 hk2; rcases (show k = 258 ∨ k = 259 ∨ k = 260 ∨ k = 261 ∨ k = 262 ∨ k = 263 ∨ k = 264 ∨ k = 265 ∨ k = 266 ∨ k = 267 ∨ k = 268 ∨ k = 269 by omega) with rfl | rfl | rfl | rfl | rfl | rfl | rfl | rfl | rfl | rfl | rfl | rfl <;> assumption)) (by decide) ?_
  refine lv_iconst (v := (-1)) hx hb dX8_nameInLock_116 (by decide) ?_
  exact sk_iret hx hb hr rfl hlocks hK hP hD hS (⟨nl_def (by omega) (by assumption) (by assumption) (by assumption) (by assumption) (by assumption) (by assumption) (by assumption), rfl⟩) (Nat.le_of_ble_eq_true rfl) (Nat.le_of_ble_eq_true rfl) dX8_nameInLock_117
