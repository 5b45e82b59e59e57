set_option maxHeartbeats 4000000 in
set_option maxRecDepth 100000 in
theorem c_eCode_addX (l : Launch) (D : va_G) (cI cJ cC cZ cS : ClassId) (h0 : Nat) (k1 : Nat) (k2 : Nat) (k3 : Nat) (k4 : Nat) (cl : Nat) (mw : Nat) (f1 : Nat → Int32) (o : Int32) (og : Res) (v : Nat) (hcl : cl ≤ 1600) (hmw : mw ≤ 1) (hv : o = cm v) (hv2 : v ≤ 10999) (hC : coO og cl mw f1) (hroom : ∀ r, og = .ok r → r.2.length < 1600) : skM l yX0_add cX0_add 2 none 0 0 0 0 D (skT cI cJ cC cZ cS) [.ref h0, .int o] [(h0, .inr (0, [.ref k1, .ref k2, .ref k3, .ref k4, .int (nI cl), .int (nI mw)])), (k1, .inl (cI, 1600, .inl f1))] (skV D (skT cI cJ cC cZ cS) (fun (u : va_W) => ∃ (c2 : Nat), ∃ (w2 : Nat), ∃ (g1 : Nat → Int32), c2 ≤ 1600 ∧ w2 ≤ 1 ∧ coO (ad og v) c2 w2 g1 ∧ u = [(h0, .inr (0, [.ref k1, .ref k2, .ref k3, .ref k4, .int (nI c2), .int (nI w2)])), (k1, .inl (cI, 1600, .inl g1))])) := by
  refine skM_of (by decide +kernel) (Nat.le_of_ble_eq_true rfl) ?_
  intro p e s m below meth c A ls E hP hD hl
  obtain ⟨hx, hb, hr, hml, hlocks, hin, hown, hts, hK, hA⟩ := E
  have hown : s.vm.findClass RX0 = some m.cls := hown
  have hS : va_S A s.heap s.heap [] := va_S.rf
  have hl : lv_has ls 2 [(0, .ref h0), (1, .int o)] := hl
  refine lv_aload_n hx hb dX0_add_0 rfl (lv_at hl 0 rfl) ?_
  refine sk_get (v := .int (nI cl)) (C := RX0) (T := TX0) (N := 6) hx hb hts inlX0 hown hK hP 0 rfl rfl 4 (by decide) w_1_133 rfl dX0_add_1 ?_
  refine lv_aload_n hx hb dX0_add_4 rfl (lv_at hl 0 rfl) ?_
  refine sk_get (v := .ref k1) (C := RX0) (T := TX0) (N := 6) hx hb hts inlX0 hown hK hP 0 rfl rfl 0 (by decide) w_1_129 rfl dX0_add_5 ?_
  refine va_alen (v := 1600) hx hb hK.1 hP 1 0 rfl rfl rfl dX0_add_8 ?_
  refine lv_icmp_ge (tgt := 32) hx hb dX0_add_9 (by decide) (fun c_1 => ?_) (fun c_1 => ?_)
  · have c_1 : 1600 ≤ cl := (nle 1600 cl (by omega) (by omega)).mp c_1
    refine lv_aload_n hx hb dX0_add_32 rfl (lv_at hl 0 rfl) ?_
    refine lv_dup hx hb dX0_add_33 rfl ?_
    refine sk_get (v := .int (nI mw)) (C := RX0) (T := TX0) (N := 6) hx hb hts inlX0 hown hK hP 0 rfl rfl 5 (by decide) w_1_136 rfl dX0_add_34 ?_
    refine lv_iload_n hx hb dX0_add_37 rfl (lv_at hl 1 rfl) ?_
    refine lv_sipush (v := 10004) hx hb dX0_add_38 (by decide) ?_
    refine lv_icmp_ne (tgt := 48) hx hb dX0_add_41 (by decide) (fun c_2 => ?_) (fun c_2 => ?_)
    · skip
      refine lv_iconst (v := 0) hx hb dX0_add_48 (by decide) ?_
      refine lv_ior hx hb dX0_add_49 ?_
      refine sk_top (nI (max mw 0)) (nor1 mw 0 (by omega) (by omega)) ?_
      refine sk_put (ws' := [(h0, .inr (0, [.ref k1, .ref k2, .ref k3, .ref k4, .int (nI cl), .int (nI (max mw 0))])), (k1, .inl (cI, 1600, .inl f1))]) (C := RX0) (T := TX0) (N := 6) (v := .int (nI (max mw 0))) hx hb hts inlX0 tyX0 tyX0_ok nmX0 hown hK hP hD hS 0 rfl rfl 5 (by decide) w_1_136 rfl (nbool (max mw 0) (by omega)) (nfitb (max mw 0) (by omega)) (Nat.le_of_ble_eq_true rfl) rfl dX0_add_50 (fun H locs hP hD hS => ?_)
      exact sk_vret hx hb hr hlocks hK hP hD hS (⟨cl, max mw 0, f1, by omega, by omega, co_full hC hroom (by omega), rfl⟩) (Nat.le_of_ble_eq_true rfl) (Nat.le_of_ble_eq_true rfl) dX0_add_53
    · skip
      refine lv_iconst (v := 1) hx hb dX0_add_44 (by decide) ?_
      refine lv_goto (tgt := 49) hx hb dX0_add_45 (by decide) ?_
      refine lv_ior hx hb dX0_add_49 ?_
      refine sk_top (nI (max mw 1)) (nor1 mw 1 (by omega) (by omega)) ?_
      refine sk_put (ws' := [(h0, .inr (0, [.ref k1, .ref k2, .ref k3, .ref k4, .int (nI cl), .int (nI (max mw 1))])), (k1, .inl (cI, 1600, .inl f1))]) (C := RX0) (T := TX0) (N := 6) (v := .int (nI (max mw 1))) hx hb hts inlX0 tyX0 tyX0_ok nmX0 hown hK hP hD hS 0 rfl rfl 5 (by decide) w_1_136 rfl (nbool (max mw 1) (by omega)) (nfitb (max mw 1) (by omega)) (Nat.le_of_ble_eq_true rfl) rfl dX0_add_50 (fun H locs hP hD hS => ?_)
      exact sk_vret hx hb hr hlocks hK hP hD hS (⟨cl, max mw 1, f1, by omega, by omega, co_full hC hroom (by omega), rfl⟩) (Nat.le_of_ble_eq_true rfl) (Nat.le_of_ble_eq_true rfl) dX0_add_53
  · have c_1 : ¬ (1600 ≤ cl) := fun h => c_1 ((nle 1600 cl (by omega) (by omega)).mpr h)
    refine lv_aload_n hx hb dX0_add_12 rfl (lv_at hl 0 rfl) ?_
    refine sk_get (v := .ref k1) (C := RX0) (T := TX0) (N := 6) hx hb hts inlX0 hown hK hP 0 rfl rfl 0 (by decide) w_1_129 rfl dX0_add_13 ?_
    refine lv_aload_n hx hb dX0_add_16 rfl (lv_at hl 0 rfl) ?_
    refine sk_get (v := .int (nI cl)) (C := RX0) (T := TX0) (N := 6) hx hb hts inlX0 hown hK hP 0 rfl rfl 4 (by decide) w_1_133 rfl dX0_add_17 ?_
    refine lv_iload_n hx hb dX0_add_20 rfl (lv_at hl 1 rfl) ?_
    refine sk_iast (ws' := [(h0, .inr (0, [.ref k1, .ref k2, .ref k3, .ref k4, .int (nI cl), .int (nI mw)])), (k1, .inl (cI, 1600, .inl (upd f1 (nI cl).toNatClampNeg o)))]) hx hb hK hP hD hS 1 0 rfl rfl (vin cl 1600 (by omega) (by omega)) rfl dX0_add_21 (fun H locs hP hD hS => ?_)
    refine lv_aload_n hx hb dX0_add_22 rfl (lv_at hl 0 rfl) ?_
    refine lv_dup hx hb dX0_add_23 rfl ?_
    refine sk_get (v := .int (nI cl)) (C := RX0) (T := TX0) (N := 6) hx hb hts inlX0 hown hK hP 0 rfl rfl 4 (by decide) w_1_133 rfl dX0_add_24 ?_
    refine lv_iconst (v := 1) hx hb dX0_add_27 (by decide) ?_
    refine lv_iadd hx hb dX0_add_28 ?_
    refine sk_top (nI (cl + 1)) (nI_add cl 1) ?_
    refine sk_put (ws' := [(h0, .inr (0, [.ref k1, .ref k2, .ref k3, .ref k4, .int (nI (cl + 1)), .int (nI mw)])), (k1, .inl (cI, 1600, .inl (upd f1 (nI cl).toNatClampNeg o)))]) (C := RX0) (T := TX0) (N := 6) (v := .int (nI (cl + 1))) hx hb hts inlX0 tyX0 tyX0_ok nmX0 hown hK hP hD hS 0 rfl rfl 4 (by decide) w_1_133 rfl rfl rfl (Nat.le_of_ble_eq_true rfl) rfl dX0_add_29 (fun H locs hP hD hS => ?_)
    refine lv_aload_n hx hb dX0_add_32 rfl (lv_at hl 0 rfl) ?_
    refine lv_dup hx hb dX0_add_33 rfl ?_
    refine sk_get (v := .int (nI mw)) (C := RX0) (T := TX0) (N := 6) hx hb hts inlX0 hown hK hP 0 rfl rfl 5 (by decide) w_1_136 rfl dX0_add_34 ?_
    refine lv_iload_n hx hb dX0_add_37 rfl (lv_at hl 1 rfl) ?_
    refine lv_sipush (v := 10004) hx hb dX0_add_38 (by decide) ?_
    refine lv_icmp_ne (tgt := 48) hx hb dX0_add_41 (by decide) (fun c_3 => ?_) (fun c_3 => ?_)
    · skip
      refine lv_iconst (v := 0) hx hb dX0_add_48 (by decide) ?_
      refine lv_ior hx hb dX0_add_49 ?_
      refine sk_top (nI (max mw 0)) (nor1 mw 0 (by omega) (by omega)) ?_
      refine sk_put (ws' := [(h0, .inr (0, [.ref k1, .ref k2, .ref k3, .ref k4, .int (nI (cl + 1)), .int (nI (max mw 0))])), (k1, .inl (cI, 1600, .inl (upd f1 (nI cl).toNatClampNeg o)))]) (C := RX0) (T := TX0) (N := 6) (v := .int (nI (max mw 0))) hx hb hts inlX0 tyX0 tyX0_ok nmX0 hown hK hP hD hS 0 rfl rfl 5 (by decide) w_1_136 rfl (nbool (max mw 0) (by omega)) (nfitb (max mw 0) (by omega)) (Nat.le_of_ble_eq_true rfl) rfl dX0_add_50 (fun H locs hP hD hS => ?_)
      exact sk_vret hx hb hr hlocks hK hP hD hS (⟨cl + 1, max mw 0, upd f1 (nI cl).toNatClampNeg o, by omega, by omega, co_ad hC hv hv2 (by omega) (or_n hmw c_3), rfl⟩) (Nat.le_of_ble_eq_true rfl) (Nat.le_of_ble_eq_true rfl) dX0_add_53
    · skip
      refine lv_iconst (v := 1) hx hb dX0_add_44 (by decide) ?_
      refine lv_goto (tgt := 49) hx hb dX0_add_45 (by decide) ?_
      refine lv_ior hx hb dX0_add_49 ?_
      refine sk_top (nI (max mw 1)) (nor1 mw 1 (by omega) (by omega)) ?_
      refine sk_put (ws' := [(h0, .inr (0, [.ref k1, .ref k2, .ref k3, .ref k4, .int (nI (cl + 1)), .int (nI (max mw 1))])), (k1, .inl (cI, 1600, .inl (upd f1 (nI cl).toNatClampNeg o)))]) (C := RX0) (T := TX0) (N := 6) (v := .int (nI (max mw 1))) hx hb hts inlX0 tyX0 tyX0_ok nmX0 hown hK hP hD hS 0 rfl rfl 5 (by decide) w_1_136 rfl (nbool (max mw 1) (by omega)) (nfitb (max mw 1) (by omega)) (Nat.le_of_ble_eq_true rfl) rfl dX0_add_50 (fun H locs hP hD hS => ?_)
      exact sk_vret hx hb hr hlocks hK hP hD hS (⟨cl + 1, max mw 1, upd f1 (nI cl).toNatClampNeg o, by omega, by omega, co_ad hC hv hv2 (by omega) (or_w hmw c_3), rfl⟩) (Nat.le_of_ble_eq_true rfl) (Nat.le_of_ble_eq_true rfl) dX0_add_53
set_option maxHeartbeats 4000000 in
set_option maxRecDepth 100000 in
theorem c_enameInLock (l : Launch) (D : va_G) (cI cJ cC cZ cS : ClassId) (u0 : Nat) (kn : Nat) (q : Nat → Nat) (o : Int32) (hkn1 : kn ≤ 1) : skM l yX8_nameInLock cX8_nameInLock 2 (some .int) 0 0 0 0 D (skT cI cJ cC cZ cS) [.ref u0, .int o] [(u0, .inr (8, [.ref (q 2), .int (nI kn)]))] (skI D (skT cI cJ cC cZ cS) (fun (r : Int32) (u : va_W) => nmO kn o r ∧ u = [(u0, .inr (8, [.ref (q 2), .int (nI kn)]))])) := by
  refine skM_of (by decide +kernel) (Nat.le_of_ble_eq_true rfl) ?_
  intro p e s m below meth c A ls E hP hD hl
  obtain ⟨hx, hb, hr, hml, hlocks, hin, hown, hts, hK, hA⟩ := E
  have hown : s.vm.findClass RX8 = some m.cls := hown
  have hS : va_S A s.heap s.heap [] := va_S.rf
  have hl : lv_has ls 2 [(0, .ref u0), (1, .int o)] := hl
  refine lv_iload_n hx hb dX8_nameInLock_0 rfl (lv_at hl 1 rfl) ?_
  by_cases g_1 : o = 258
  · refine lv_tableIn (off := 67) (tgt := 68) hx hb dX8_nameInLock_1 (by rw [g_1]; decide) (by rw [g_1]; decide) (by rw [g_1]; rfl) (by decide) ?_
    refine lv_sipush (v := 10001) hx hb dX8_nameInLock_68 (by decide) ?_
    exact sk_iret hx hb hr rfl hlocks hK hP hD hS (⟨by rw [g_1]; exact nl_258 (by omega), rfl⟩) (Nat.le_of_ble_eq_true rfl) (Nat.le_of_ble_eq_true rfl) dX8_nameInLock_71
  by_cases g_2 : o = 259
  · refine lv_tableIn (off := 71) (tgt := 72) hx hb dX8_nameInLock_1 (by rw [g_2]; decide) (by rw [g_2]; decide) (by rw [g_2]; rfl) (by decide) ?_
    refine lv_sipush (v := 10002) hx hb dX8_nameInLock_72 (by decide) ?_
    exact sk_iret hx hb hr rfl hlocks hK hP hD hS (⟨by rw [g_2]; exact nl_259 (by omega), rfl⟩) (Nat.le_of_ble_eq_true rfl) (Nat.le_of_ble_eq_true rfl) dX8_nameInLock_75
  by_cases g_3 : o = 260
  · refine lv_tableIn (off := 115) (tgt := 116) hx hb dX8_nameInLock_1 (by rw [g_3]; decide) (by rw [g_3]; decide) (by rw [g_3]; rfl) (by decide) ?_
    refine lv_iconst (v := (-1)) hx hb dX8_nameInLock_116 (by decide) ?_
    exact sk_iret hx hb hr rfl hlocks hK hP hD hS (⟨by rw [g_3]; exact nl_260 (by omega), rfl⟩) (Nat.le_of_ble_eq_true rfl) (Nat.le_of_ble_eq_true rfl) dX8_nameInLock_117
  by_cases g_4 : o = 261
  · refine lv_tableIn (off := 115) (tgt := 116) hx hb dX8_nameInLock_1 (by rw [g_4]; decide) (by rw [g_4]; decide) (by rw [g_4]; rfl) (by decide) ?_
    refine lv_iconst (v := (-1)) hx hb dX8_nameInLock_116 (by decide) ?_
    exact sk_iret hx hb hr rfl hlocks hK hP hD hS (⟨by rw [g_4]; exact nl_261 (by omega), rfl⟩) (Nat.le_of_ble_eq_true rfl) (Nat.le_of_ble_eq_true rfl) dX8_nameInLock_117
  by_cases g_5 : o = 262
  · refine lv_tableIn (off := 115) (tgt := 116) hx hb dX8_nameInLock_1 (by rw [g_5]; decide) (by rw [g_5]; decide) (by rw [g_5]; rfl) (by decide) ?_
    refine lv_iconst (v := (-1)) hx hb dX8_nameInLock_116 (by decide) ?_
    exact sk_iret hx hb hr rfl hlocks hK hP hD hS (⟨by rw [g_5]; exact nl_262 (by omega), rfl⟩) (Nat.le_of_ble_eq_true rfl) (Nat.le_of_ble_eq_true rfl) dX8_nameInLock_117
  by_cases g_6 : o = 263
  · refine lv_tableIn (off := 115) (tgt := 116) hx hb dX8_nameInLock_1 (by rw [g_6]; decide) (by rw [g_6]; decide) (by rw [g_6]; rfl) (by decide) ?_
    refine lv_iconst (v := (-1)) hx hb dX8_nameInLock_116 (by decide) ?_
    exact sk_iret hx hb hr rfl hlocks hK hP hD hS (⟨by rw [g_6]; exact nl_263 (by omega), rfl⟩) (Nat.le_of_ble_eq_true rfl) (Nat.le_of_ble_eq_true rfl) dX8_nameInLock_117
  by_cases g_7 : o = 264
  · refine lv_tableIn (off := 115) (tgt := 116) hx hb dX8_nameInLock_1 (by rw [g_7]; decide) (by rw [g_7]; decide) (by rw [g_7]; rfl) (by decide) ?_
    refine lv_iconst (v := (-1)) hx hb dX8_nameInLock_116 (by decide) ?_
    exact sk_iret hx hb hr rfl hlocks hK hP hD hS (⟨by rw [g_7]; exact nl_264 (by omega), rfl⟩) (Nat.le_of_ble_eq_true rfl) (Nat.le_of_ble_eq_true rfl) dX8_nameInLock_117
  by_cases g_8 : o = 265
  · refine lv_tableIn (off := 63) (tgt := 64) hx hb dX8_nameInLock_1 (by rw [g_8]; decide) (by rw [g_8]; decide) (by rw [g_8]; rfl) (by decide) ?_
    refine lv_sipush (v := 10000) hx hb dX8_nameInLock_64 (by decide) ?_
    exact sk_iret hx hb hr rfl hlocks hK hP hD hS (⟨by rw [g_8]; exact nl_265 (by omega), rfl⟩) (Nat.le_of_ble_eq_true rfl) (Nat.le_of_ble_eq_true rfl) dX8_nameInLock_67
  by_cases g_9 : o = 266
  · refine lv_tableIn (off := 75) (tgt := 76) hx hb dX8_nameInLock_1 (by rw [g_9]; decide) (by rw [g_9]; decide) (by rw [g_9]; rfl) (by decide) ?_
    refine lv_sipush (v := 10003) hx hb dX8_nameInLock_76 (by decide) ?_
    exact sk_iret hx hb hr rfl hlocks hK hP hD hS (⟨by rw [g_9]; exact nl_266 (by omega), rfl⟩) (Nat.le_of_ble_eq_true rfl) (Nat.le_of_ble_eq_true rfl) dX8_nameInLock_79
  by_cases g_10 : o = 267
  · refine lv_tableIn (off := 79) (tgt := 80) hx hb dX8_nameInLock_1 (by rw [g_10]; decide) (by rw [g_10]; decide) (by rw [g_10]; rfl) (by decide) ?_
    refine lv_sipush (v := 10004) hx hb dX8_nameInLock_80 (by decide) ?_
    exact sk_iret hx hb hr rfl hlocks hK hP hD hS (⟨by rw [g_10]; exact nl_267 (by omega), rfl⟩) (Nat.le_of_ble_eq_true rfl) (Nat.le_of_ble_eq_true rfl) dX8_nameInLock_83
  by_cases g_11 : o = 268
  · refine lv_tableIn (off := 83) (tgt := 84) hx hb dX8_nameInLock_1 (by rw [g_11]; decide) (by rw [g_11]; decide) (by rw [g_11]; rfl) (by decide) ?_
    refine lv_aload_n hx hb dX8_nameInLock_84 rfl (lv_at hl 0 rfl) ?_
    refine sk_get (v := .int (nI kn)) (C := RX8) (T := TX8) (N := 2) hx hb hts inlX8 hown hK hP 0 rfl rfl 1 (by decide) w_1_101 rfl dX8_nameInLock_85 ?_
    refine lv_iconst (v := 1) hx hb dX8_nameInLock_88 (by decide) ?_
    refine lv_icmp_ne (tgt := 98) hx hb dX8_nameInLock_89 (by decide) (fun c_12 => ?_) (fun c_12 => ?_)
    · have c_12 : ¬ (kn = 1) := fun h => c_12 ((neq kn 1 (by omega) (by omega)).mpr h)
      refine lv_iconst (v := (-1)) hx hb dX8_nameInLock_98 (by decide) ?_
      exact sk_iret hx hb hr rfl hlocks hK hP hD hS (⟨by rw [g_11]; exact nl_268n (by omega), rfl⟩) (Nat.le_of_ble_eq_true rfl) (Nat.le_of_ble_eq_true rfl) dX8_nameInLock_99
    · have c_12 : kn = 1 := (neq kn 1 (by omega) (by omega)).mp c_12
      refine lv_sipush (v := 10005) hx hb dX8_nameInLock_92 (by decide) ?_
      refine lv_goto (tgt := 99) hx hb dX8_nameInLock_95 (by decide) ?_
      exact sk_iret hx hb hr rfl hlocks hK hP hD hS (⟨by rw [g_11]; exact nl_268y (by omega), rfl⟩) (Nat.le_of_ble_eq_true rfl) (Nat.le_of_ble_eq_true rfl) dX8_nameInLock_99
  by_cases g_13 : o = 269
  · refine lv_tableIn (off := 99) (tgt := 100) hx hb dX8_nameInLock_1 (by rw [g_13]; decide) (by rw [g_13]; decide) (by rw [g_13]; rfl) (by decide) ?_
    refine lv_aload_n hx hb dX8_nameInLock_100 rfl (lv_at hl 0 rfl) ?_
    refine sk_get (v := .int (nI kn)) (C := RX8) (T := TX8) (N := 2) hx hb hts inlX8 hown hK hP 0 rfl rfl 1 (by decide) w_1_101 rfl dX8_nameInLock_101 ?_
    refine lv_iconst (v := 1) hx hb dX8_nameInLock_104 (by decide) ?_
    refine lv_icmp_ne (tgt := 114) hx hb dX8_nameInLock_105 (by decide) (fun c_14 => ?_) (fun c_14 => ?_)
    · have c_14 : ¬ (kn = 1) := fun h => c_14 ((neq kn 1 (by omega) (by omega)).mpr h)
      refine lv_iconst (v := (-1)) hx hb dX8_nameInLock_114 (by decide) ?_
      exact sk_iret hx hb hr rfl hlocks hK hP hD hS (⟨by rw [g_13]; exact nl_269n (by omega), rfl⟩) (Nat.le_of_ble_eq_true rfl) (Nat.le_of_ble_eq_true rfl) dX8_nameInLock_115
    · have c_14 : kn = 1 := (neq kn 1 (by omega) (by omega)).mp c_14
      refine lv_sipush (v := 10006) hx hb dX8_nameInLock_108 (by decide) ?_
      refine lv_goto (tgt := 115) hx hb dX8_nameInLock_111 (by decide) ?_
      exact sk_iret hx hb hr rfl hlocks hK hP hD hS (⟨by rw [g_13]; exact nl_269y (by omega), rfl⟩) (Nat.le_of_ble_eq_true rfl) (Nat.le_of_ble_eq_true rfl) dX8_nameInLock_115
  refine lv_tableOut (tgt := 116) hx hb dX8_nameInLock_1 (sk_out2 258 269 (by intro k hk1 hk2; rcases (show k = 258 ∨ k = 259 ∨ k = 260 ∨ k = 261 ∨ k = 262 ∨ k = 263 ∨ k = 264 ∨ k = 265 ∨ k = 266 ∨ k = 267 ∨ k = 268 ∨ k = 269 by omega) with rfl | rfl | rfl | rfl | rfl | rfl | rfl | rfl | rfl | rfl | rfl | rfl <;> assumption)) (by decide) ?_
  refine lv_iconst (v := (-1)) hx hb dX8_nameInLock_116 (by decide) ?_
  exact sk_iret hx hb hr rfl hlocks hK hP hD hS (⟨nl_def (by omega) (by assumption) (by assumption) (by assumption) (by assumption) (by assumption) (by assumption) (by assumption), rfl⟩) (Nat.le_of_ble_eq_true rfl) (Nat.le_of_ble_eq_true rfl) dX8_nameInLock_117
set_option maxHeartbeats 4000000 in
set_option maxRecDepth 100000 in
theorem c_enameInQuestion (l : Launch) (D : va_G) (cI cJ cC cZ cS : ClassId) (o : Int32)  : skM l yX8_nameInQuestion cX8_nameInQuestion 1 (some .int) 0 0 0 0 D (skT cI cJ cC cZ cS) [.int o] [] (skI D (skT cI cJ cC cZ cS) (fun (r : Int32) (u : va_W) => nmO 2 o r ∧ u = [])) := by
  refine skM_of (by decide +kernel) (Nat.le_of_ble_eq_true rfl) ?_
  intro p e s m below meth c A ls E hP hD hl
  obtain ⟨hx, hb, hr, hml, hlocks, hin, hown, hts, hK, hA⟩ := E
  have hown : s.vm.findClass RX8 = some m.cls := hown
  have hS : va_S A s.heap s.heap [] := va_S.rf
  have hl : lv_has ls 1 [(0, .int o)] := hl
  refine lv_iload_n hx hb dX8_nameInQuestion_0 rfl (lv_at hl 0 rfl) ?_
  by_cases g_1 : o = 258
  · refine lv_tableIn (off := 75) (tgt := 76) hx hb dX8_nameInQuestion_1 (by rw [g_1]; decide) (by rw [g_1]; decide) (by rw [g_1]; rfl) (by decide) ?_
    refine lv_sipush (v := 10001) hx hb dX8_nameInQuestion_76 (by decide) ?_
    exact sk_iret hx hb hr rfl hlocks hK hP hD hS (⟨by rw [g_1]; exact nq_258 rfl, rfl⟩) (Nat.le_of_ble_eq_true rfl) (Nat.le_of_ble_eq_true rfl) dX8_nameInQuestion_79
  by_cases g_2 : o = 259
  · refine lv_tableIn (off := 79) (tgt := 80) hx hb dX8_nameInQuestion_1 (by rw [g_2]; decide) (by rw [g_2]; decide) (by rw [g_2]; rfl) (by decide) ?_
    refine lv_sipush (v := 10002) hx hb dX8_nameInQuestion_80 (by decide) ?_
    exact sk_iret hx hb hr rfl hlocks hK hP hD hS (⟨by rw [g_2]; exact nq_259 rfl, rfl⟩) (Nat.le_of_ble_eq_true rfl) (Nat.le_of_ble_eq_true rfl) dX8_nameInQuestion_83
  by_cases g_3 : o = 260
  · refine lv_tableIn (off := 83) (tgt := 84) hx hb dX8_nameInQuestion_1 (by rw [g_3]; decide) (by rw [g_3]; decide) (by rw [g_3]; rfl) (by decide) ?_
    refine lv_sipush (v := 10007) hx hb dX8_nameInQuestion_84 (by decide) ?_
    exact sk_iret hx hb hr rfl hlocks hK hP hD hS (⟨by rw [g_3]; exact nq_260 rfl, rfl⟩) (Nat.le_of_ble_eq_true rfl) (Nat.le_of_ble_eq_true rfl) dX8_nameInQuestion_87
  by_cases g_4 : o = 261
  · refine lv_tableIn (off := 95) (tgt := 96) hx hb dX8_nameInQuestion_1 (by rw [g_4]; decide) (by rw [g_4]; decide) (by rw [g_4]; rfl) (by decide) ?_
    refine lv_iconst (v := (-1)) hx hb dX8_nameInQuestion_96 (by decide) ?_
    exact sk_iret hx hb hr rfl hlocks hK hP hD hS (⟨by rw [g_4]; exact nq_261 rfl, rfl⟩) (Nat.le_of_ble_eq_true rfl) (Nat.le_of_ble_eq_true rfl) dX8_nameInQuestion_97
  by_cases g_5 : o = 262
  · refine lv_tableIn (off := 95) (tgt := 96) hx hb dX8_nameInQuestion_1 (by rw [g_5]; decide) (by rw [g_5]; decide) (by rw [g_5]; rfl) (by decide) ?_
    refine lv_iconst (v := (-1)) hx hb dX8_nameInQuestion_96 (by decide) ?_
    exact sk_iret hx hb hr rfl hlocks hK hP hD hS (⟨by rw [g_5]; exact nq_262 rfl, rfl⟩) (Nat.le_of_ble_eq_true rfl) (Nat.le_of_ble_eq_true rfl) dX8_nameInQuestion_97
  by_cases g_6 : o = 263
  · refine lv_tableIn (off := 95) (tgt := 96) hx hb dX8_nameInQuestion_1 (by rw [g_6]; decide) (by rw [g_6]; decide) (by rw [g_6]; rfl) (by decide) ?_
    refine lv_iconst (v := (-1)) hx hb dX8_nameInQuestion_96 (by decide) ?_
    exact sk_iret hx hb hr rfl hlocks hK hP hD hS (⟨by rw [g_6]; exact nq_263 rfl, rfl⟩) (Nat.le_of_ble_eq_true rfl) (Nat.le_of_ble_eq_true rfl) dX8_nameInQuestion_97
  by_cases g_7 : o = 264
  · refine lv_tableIn (off := 95) (tgt := 96) hx hb dX8_nameInQuestion_1 (by rw [g_7]; decide) (by rw [g_7]; decide) (by rw [g_7]; rfl) (by decide) ?_
    refine lv_iconst (v := (-1)) hx hb dX8_nameInQuestion_96 (by decide) ?_
    exact sk_iret hx hb hr rfl hlocks hK hP hD hS (⟨by rw [g_7]; exact nq_264 rfl, rfl⟩) (Nat.le_of_ble_eq_true rfl) (Nat.le_of_ble_eq_true rfl) dX8_nameInQuestion_97
  by_cases g_8 : o = 265
  · refine lv_tableIn (off := 95) (tgt := 96) hx hb dX8_nameInQuestion_1 (by rw [g_8]; decide) (by rw [g_8]; decide) (by rw [g_8]; rfl) (by decide) ?_
    refine lv_iconst (v := (-1)) hx hb dX8_nameInQuestion_96 (by decide) ?_
    exact sk_iret hx hb hr rfl hlocks hK hP hD hS (⟨by rw [g_8]; exact nq_265 rfl, rfl⟩) (Nat.le_of_ble_eq_true rfl) (Nat.le_of_ble_eq_true rfl) dX8_nameInQuestion_97
  by_cases g_9 : o = 266
  · refine lv_tableIn (off := 95) (tgt := 96) hx hb dX8_nameInQuestion_1 (by rw [g_9]; decide) (by rw [g_9]; decide) (by rw [g_9]; rfl) (by decide) ?_
    refine lv_iconst (v := (-1)) hx hb dX8_nameInQuestion_96 (by decide) ?_
    exact sk_iret hx hb hr rfl hlocks hK hP hD hS (⟨by rw [g_9]; exact nq_266 rfl, rfl⟩) (Nat.le_of_ble_eq_true rfl) (Nat.le_of_ble_eq_true rfl) dX8_nameInQuestion_97
  by_cases g_10 : o = 267
  · refine lv_tableIn (off := 91) (tgt := 92) hx hb dX8_nameInQuestion_1 (by rw [g_10]; decide) (by rw [g_10]; decide) (by rw [g_10]; rfl) (by decide) ?_
    refine lv_sipush (v := 10004) hx hb dX8_nameInQuestion_92 (by decide) ?_
    exact sk_iret hx hb hr rfl hlocks hK hP hD hS (⟨by rw [g_10]; exact nq_267 rfl, rfl⟩) (Nat.le_of_ble_eq_true rfl) (Nat.le_of_ble_eq_true rfl) dX8_nameInQuestion_95
  by_cases g_11 : o = 268
  · refine lv_tableIn (off := 95) (tgt := 96) hx hb dX8_nameInQuestion_1 (by rw [g_11]; decide) (by rw [g_11]; decide) (by rw [g_11]; rfl) (by decide) ?_
    refine lv_iconst (v := (-1)) hx hb dX8_nameInQuestion_96 (by decide) ?_
    exact sk_iret hx hb hr rfl hlocks hK hP hD hS (⟨by rw [g_11]; exact nq_268 rfl, rfl⟩) (Nat.le_of_ble_eq_true rfl) (Nat.le_of_ble_eq_true rfl) dX8_nameInQuestion_97
  by_cases g_12 : o = 269
  · refine lv_tableIn (off := 95) (tgt := 96) hx hb dX8_nameInQuestion_1 (by rw [g_12]; decide) (by rw [g_12]; decide) (by rw [g_12]; rfl) (by decide) ?_
    refine lv_iconst (v := (-1)) hx hb dX8_nameInQuestion_96 (by decide) ?_
    exact sk_iret hx hb hr rfl hlocks hK hP hD hS (⟨by rw [g_12]; exact nq_269 rfl, rfl⟩) (Nat.le_of_ble_eq_true rfl) (Nat.le_of_ble_eq_true rfl) dX8_nameInQuestion_97
  by_cases g_13 : o = 270
  · refine lv_tableIn (off := 71) (tgt := 72) hx hb dX8_nameInQuestion_1 (by rw [g_13]; decide) (by rw [g_13]; decide) (by rw [g_13]; rfl) (by decide) ?_
    refine lv_sipush (v := 10003) hx hb dX8_nameInQuestion_72 (by decide) ?_
    exact sk_iret hx hb hr rfl hlocks hK hP hD hS (⟨by rw [g_13]; exact nq_270 rfl, rfl⟩) (Nat.le_of_ble_eq_true rfl) (Nat.le_of_ble_eq_true rfl) dX8_nameInQuestion_75
  by_cases g_14 : o = 271
  · refine lv_tableIn (off := 87) (tgt := 88) hx hb dX8_nameInQuestion_1 (by rw [g_14]; decide) (by rw [g_14]; decide) (by rw [g_14]; rfl) (by decide) ?_
    refine lv_sipush (v := 10008) hx hb dX8_nameInQuestion_88 (by decide) ?_
    exact sk_iret hx hb hr rfl hlocks hK hP hD hS (⟨by rw [g_14]; exact nq_271 rfl, rfl⟩) (Nat.le_of_ble_eq_true rfl) (Nat.le_of_ble_eq_true rfl) dX8_nameInQuestion_91
  refine lv_tableOut (tgt := 96) hx hb dX8_nameInQuestion_1 (sk_out2 258 271 (by intro k hk1 hk2; rcases (show k = 258 ∨ k = 259 ∨ k = 260 ∨ k = 261 ∨ k = 262 ∨ k = 263 ∨ k = 264 ∨ k = 265 ∨ k = 266 ∨ k = 267 ∨ k = 268 ∨ k = 269 ∨ k = 270 ∨ k = 271 by omega) with rfl | rfl | rfl | rfl | rfl | rfl | rfl | rfl | rfl | rfl | rfl | rfl | rfl | rfl <;> assumption)) (by decide) ?_
  refine lv_iconst (v := (-1)) hx hb dX8_nameInQuestion_96 (by decide) ?_
  exact sk_iret hx hb hr rfl hlocks hK hP hD hS (⟨nq_def (by assumption) (by assumption) (by assumption) (by assumption) (by assumption) (by assumption), rfl⟩) (Nat.le_of_ble_eq_true rfl) (Nat.le_of_ble_eq_true rfl) dX8_nameInQuestion_97
def CT_ereadSum (l : Launch) (D : va_G) (cI cJ cC cZ cS : ClassId) (zk zv : Nat) (zf : Value) (dd : Nat) : Prop := ∀ (q : Nat → Nat) (u0 : Nat) (kn : Nat) (xa : Nat) (xv : Int32) (xo : Nat) (xt : Int32) (xz : Nat) (xf : Int32) (xp : Int32) (tl : Nat) (tb : Nat → Nat) (h0 : Nat) (k1 : Nat) (k2 : Nat) (k3 : Nat) (k4 : Nat) (cl : Nat) (mw : Nat) (f1 : Nat → Int32) (og : Res) (hxa : xa ≤ 1600) (hxz : xz ≤ 1600) (htl : tl ≤ 1600) (htb : ∀ j, tb j ≤ 255) (hcl : cl ≤ 1600) (hmw : mw ≤ 1) (hkn : kn ≤ 2) (hdd : xo + dd = 6) (hO : rsO tb tl og xa xv xt xz xf xp cl mw f1) (hlen : lenO og), skMZ zk zv zf l yX8_readSum cX8_readSum 4 none (23 + 5 * dd) (675 + 100 * dd) 0 0 D (skT cI cJ cC cZ cS) [.ref u0, .ref h0] [(u0, .inr (8, [.ref (q 2), .int (nI kn)])), (q 2, .inr (6, [.ref (q 0), .int (nI xa), .int xv, .int (nI xo), .int xt, .int (nI xz), .int xf, .int xp])), (q 0, .inr (10, [.ref (q 20), .int (nI tl)])), (q 20, .inl (cI, 1600, .inl (fun j => nI (tb j)))), (h0, .inr (0, [.ref k1, .ref k2, .ref k3, .ref k4, .int (nI cl), .int (nI mw)])), (k1, .inl (cI, 1600, .inl f1))] (skV D (skT cI cJ cC cZ cS) (fun (u : va_W) => ∃ (xa2 : Nat), ∃ (xv2 : Int32), ∃ (xt2 : Int32), ∃ (xz2 : Nat), ∃ (xf2 : Int32), ∃ (xp2 : Int32), ∃ (c2 : Nat), ∃ (w2 : Nat), ∃ (g1 : Nat → Int32), xa2 ≤ 1600 ∧ xz2 ≤ 1600 ∧ c2 ≤ 1600 ∧ w2 ≤ 1 ∧ rsO tb tl (bindR og (apF (sumOf tb tl (rdPart tb tl kn dd)))) xa2 xv2 xt2 xz2 xf2 xp2 c2 w2 g1 ∧ u = [(u0, .inr (8, [.ref (q 2), .int (nI kn)])), (q 2, .inr (6, [.ref (q 0), .int (nI xa2), .int xv2, .int (nI xo), .int xt2, .int (nI xz2), .int xf2, .int xp2])), (q 0, .inr (10, [.ref (q 20), .int (nI tl)])), (q 20, .inl (cI, 1600, .inl (fun j => nI (tb j)))), (h0, .inr (0, [.ref k1, .ref k2, .ref k3, .ref k4, .int (nI c2), .int (nI w2)])), (k1, .inl (cI, 1600, .inl g1))]))
def CT_ereadPart (l : Launch) (D : va_G) (cI cJ cC cZ cS : ClassId) (zk zv : Nat) (zf : Value) (dd : Nat) : Prop := ∀ (q : Nat → Nat) (u0 : Nat) (kn : Nat) (xa : Nat) (xv : Int32) (xo : Nat) (xt : Int32) (xz : Nat) (xf : Int32) (xp : Int32) (tl : Nat) (tb : Nat → Nat) (h0 : Nat) (k1 : Nat) (k2 : Nat) (k3 : Nat) (k4 : Nat) (cl : Nat) (mw : Nat) (f1 : Nat → Int32) (og : Res) (hxa : xa ≤ 1600) (hxz : xz ≤ 1600) (htl : tl ≤ 1600) (htb : ∀ j, tb j ≤ 255) (hcl : cl ≤ 1600) (hmw : mw ≤ 1) (hkn : kn ≤ 2) (hdd : xo + dd = 6) (hO : rsO tb tl og xa xv xt xz xf xp cl mw f1) (hlen : lenO og), skMZ zk zv zf l yX8_readPart cX8_readPart 4 none (21 + 5 * dd) (625 + 100 * dd) 0 0 D (skT cI cJ cC cZ cS) [.ref u0, .ref h0] [(u0, .inr (8, [.ref (q 2), .int (nI kn)])), (q 2, .inr (6, [.ref (q 0), .int (nI xa), .int xv, .int (nI xo), .int xt, .int (nI xz), .int xf, .int xp])), (q 0, .inr (10, [.ref (q 20), .int (nI tl)])), (q 20, .inl (cI, 1600, .inl (fun j => nI (tb j)))), (h0, .inr (0, [.ref k1, .ref k2, .ref k3, .ref k4, .int (nI cl), .int (nI mw)])), (k1, .inl (cI, 1600, .inl f1))] (skV D (skT cI cJ cC cZ cS) (fun (u : va_W) => ∃ (xa2 : Nat), ∃ (xv2 : Int32), ∃ (xt2 : Int32), ∃ (xz2 : Nat), ∃ (xf2 : Int32), ∃ (xp2 : Int32), ∃ (c2 : Nat), ∃ (w2 : Nat), ∃ (g1 : Nat → Int32), xa2 ≤ 1600 ∧ xz2 ≤ 1600 ∧ c2 ≤ 1600 ∧ w2 ≤ 1 ∧ rsO tb tl (bindR og (apF (rdPart tb tl kn dd))) xa2 xv2 xt2 xz2 xf2 xp2 c2 w2 g1 ∧ u = [(u0, .inr (8, [.ref (q 2), .int (nI kn)])), (q 2, .inr (6, [.ref (q 0), .int (nI xa2), .int xv2, .int (nI xo), .int xt2, .int (nI xz2), .int xf2, .int xp2])), (q 0, .inr (10, [.ref (q 20), .int (nI tl)])), (q 20, .inl (cI, 1600, .inl (fun j => nI (tb j)))), (h0, .inr (0, [.ref k1, .ref k2, .ref k3, .ref k4, .int (nI c2), .int (nI w2)])), (k1, .inl (cI, 1600, .inl g1))]))
def CT_ereadPair (l : Launch) (D : va_G) (cI cJ cC cZ cS : ClassId) (zk zv : Nat) (zf : Value) (dd : Nat) : Prop := ∀ (q : Nat → Nat) (u0 : Nat) (kn : Nat) (xa : Nat) (xv : Int32) (xo : Nat) (xt : Int32) (xz : Nat) (xf : Int32) (xp : Int32) (tl : Nat) (tb : Nat → Nat) (h0 : Nat) (k1 : Nat) (k2 : Nat) (k3 : Nat) (k4 : Nat) (cl : Nat) (mw : Nat) (f1 : Nat → Int32) (og : Res) (o : Int32) (v : Nat) (hxa : xa ≤ 1600) (hxz : xz ≤ 1600) (htl : tl ≤ 1600) (htb : ∀ j, tb j ≤ 255) (hcl : cl ≤ 1600) (hmw : mw ≤ 1) (hkn : kn ≤ 2) (hdd : xo + dd = 6) (hO : rsO tb tl og xa xv xt xz xf xp cl mw f1) (hlen : lenO og) (hv : o = cm v) (hv2 : v ≤ 10999), skMZ zk zv zf l yX8_readPair cX8_readPair 3 none (20 + 5 * dd) (600 + 100 * dd) 0 0 D (skT cI cJ cC cZ cS) [.ref u0, .ref h0, .int o] [(u0, .inr (8, [.ref (q 2), .int (nI kn)])), (q 2, .inr (6, [.ref (q 0), .int (nI xa), .int xv, .int (nI xo), .int xt, .int (nI xz), .int xf, .int xp])), (q 0, .inr (10, [.ref (q 20), .int (nI tl)])), (q 20, .inl (cI, 1600, .inl (fun j => nI (tb j)))), (h0, .inr (0, [.ref k1, .ref k2, .ref k3, .ref k4, .int (nI cl), .int (nI mw)])), (k1, .inl (cI, 1600, .inl f1))] (skV D (skT cI cJ cC cZ cS) (fun (u : va_W) => ∃ (xa2 : Nat), ∃ (xv2 : Int32), ∃ (xt2 : Int32), ∃ (xz2 : Nat), ∃ (xf2 : Int32), ∃ (xp2 : Int32), ∃ (c2 : Nat), ∃ (w2 : Nat), ∃ (g1 : Nat → Int32), xa2 ≤ 1600 ∧ xz2 ≤ 1600 ∧ c2 ≤ 1600 ∧ w2 ≤ 1 ∧ rsO tb tl (bindR og (apF (pairP tb tl kn v dd))) xa2 xv2 xt2 xz2 xf2 xp2 c2 w2 g1 ∧ u = [(u0, .inr (8, [.ref (q 2), .int (nI kn)])), (q 2, .inr (6, [.ref (q 0), .int (nI xa2), .int xv2, .int (nI xo), .int xt2, .int (nI xz2), .int xf2, .int xp2])), (q 0, .inr (10, [.ref (q 20), .int (nI tl)])), (q 20, .inl (cI, 1600, .inl (fun j => nI (tb j)))), (h0, .inr (0, [.ref k1, .ref k2, .ref k3, .ref k4, .int (nI c2), .int (nI w2)])), (k1, .inl (cI, 1600, .inl g1))]))
def CT_ereadProduct (l : Launch) (D : va_G) (cI cJ cC cZ cS : ClassId) (zk zv : Nat) (zf : Value) (dd : Nat) : Prop := ∀ (q : Nat → Nat) (u0 : Nat) (kn : Nat) (xa : Nat) (xv : Int32) (xo : Nat) (xt : Int32) (xz : Nat) (xf : Int32) (xp : Int32) (tl : Nat) (tb : Nat → Nat) (h0 : Nat) (k1 : Nat) (k2 : Nat) (k3 : Nat) (k4 : Nat) (cl : Nat) (mw : Nat) (f1 : Nat → Int32) (og : Res) (hxa : xa ≤ 1600) (hxz : xz ≤ 1600) (htl : tl ≤ 1600) (htb : ∀ j, tb j ≤ 255) (hcl : cl ≤ 1600) (hmw : mw ≤ 1) (hkn : kn ≤ 2) (hdd : xo + dd = 6) (hO : rsO tb tl og xa xv xt xz xf xp cl mw f1) (hlen : lenO og), skMZ zk zv zf l yX8_readProduct cX8_readProduct 4 none (22 + 5 * dd) (650 + 100 * dd) 0 0 D (skT cI cJ cC cZ cS) [.ref u0, .ref h0] [(u0, .inr (8, [.ref (q 2), .int (nI kn)])), (q 2, .inr (6, [.ref (q 0), .int (nI xa), .int xv, .int (nI xo), .int xt, .int (nI xz), .int xf, .int xp])), (q 0, .inr (10, [.ref (q 20), .int (nI tl)])), (q 20, .inl (cI, 1600, .inl (fun j => nI (tb j)))), (h0, .inr (0, [.ref k1, .ref k2, .ref k3, .ref k4, .int (nI cl), .int (nI mw)])), (k1, .inl (cI, 1600, .inl f1))] (skV D (skT cI cJ cC cZ cS) (fun (u : va_W) => ∃ (xa2 : Nat), ∃ (xv2 : Int32), ∃ (xt2 : Int32), ∃ (xz2 : Nat), ∃ (xf2 : Int32), ∃ (xp2 : Int32), ∃ (c2 : Nat), ∃ (w2 : Nat), ∃ (g1 : Nat → Int32), xa2 ≤ 1600 ∧ xz2 ≤ 1600 ∧ c2 ≤ 1600 ∧ w2 ≤ 1 ∧ rsO tb tl (bindR og (apF (prodOf tb tl (rdPart tb tl kn dd)))) xa2 xv2 xt2 xz2 xf2 xp2 c2 w2 g1 ∧ u = [(u0, .inr (8, [.ref (q 2), .int (nI kn)])), (q 2, .inr (6, [.ref (q 0), .int (nI xa2), .int xv2, .int (nI xo), .int xt2, .int (nI xz2), .int xf2, .int xp2])), (q 0, .inr (10, [.ref (q 20), .int (nI tl)])), (q 20, .inl (cI, 1600, .inl (fun j => nI (tb j)))), (h0, .inr (0, [.ref k1, .ref k2, .ref k3, .ref k4, .int (nI c2), .int (nI w2)])), (k1, .inl (cI, 1600, .inl g1))]))
set_option maxHeartbeats 4000000 in
set_option maxRecDepth 100000 in
theorem c_ereadPair (l : Launch) (D : va_G) (cI cJ cC cZ cS : ClassId) (zk zv : Nat) (zf : Value) (dd : Nat) (hs : ∀ d, d + 1 = dd → CT_ereadSum l D cI cJ cC cZ cS zk zv zf d) : CT_ereadPair l D cI cJ cC cZ cS zk zv zf dd := by
  intro q u0 kn xa xv xo xt xz xf xp tl tb h0 k1 k2 k3 k4 cl mw f1 og o v hxa hxz htl htb hcl hmw hkn hdd hO hlen hv hv2
  refine skMZ_of (by decide +kernel) (Nat.le_of_ble_eq_true rfl) ?_
  intro p e s m below meth c A ls E hP hD hZ hl
  obtain ⟨hx, hb, hr, hml, hlocks, hin, hown, hts, hK, hA⟩ := E
  have hown : s.vm.findClass RX8 = some m.cls := hown
  have hS : va_S A s.heap s.heap [] := va_S.rf
  have hl : lv_has ls 3 [(0, .ref u0), (1, .ref h0), (2, .int o)] := hl
  refine lv_aload_n hx hb dX8_readPair_0 rfl (lv_at hl 0 rfl) ?_
  refine sk_get (v := .ref (q 2)) (C := RX8) (T := TX8) (N := 2) hx hb hts inlX8 hown hK hP 0 rfl rfl 0 (by decide) w_1_100 rfl dX8_readPair_1 ?_
  refine lv_bipush (v := 40) hx hb dX8_readPair_4 (by decide) ?_
  refine sk_ViZ (q0 := 0) (n := 1) (rest := []) (wr := [(u0, .inr (8, [.ref (q 2), .int (nI kn)])), (h0, .inr (0, [.ref k1, .ref k2, .ref k3, .ref k4, .int (nI cl), .int (nI mw)])), (k1, .inl (cI, 1600, .inl f1))]) ⟨hx, hb, hml, hown, hts⟩ hl.1 (c_erd_opens l D cI cJ cC cZ cS zk zv zf q xa xv xo xt xz xf xp tl tb 40 (rc og) (by omega) (by omega) (by omega) htb (by decide) (by omega) (hO).1) w_3_101 w_3_102 w_3_103 w_1_4 w_3_104 (by decide +kernel) ⟨⟨(by dsimp only; omega), (by dsimp only; omega)⟩, (by dsimp only; omega), (by dsimp only; omega)⟩ hK hP hD hS hZ hA [1, 2, 3] [0, 4, 5] rfl rfl (by decide +kernel) (by decide +kernel) (by decide +kernel) rfl rfl rfl rfl (Nat.le_of_ble_eq_true rfl) dX8_readPair_6 (fun r_8 u H locs hw hP hD hS => ?_)
  obtain ⟨xa2_1, xv2_2, xt2_3, xz2_4, xf2_5, xp2_6, b_7, hxa2_9, hxz2_10, hb1_11, hO2_12, rfl, rfl⟩ := hw
  have hP : va_P D vwCl [(u0, .inr (8, [.ref (q 2), .int (nI kn)])), (h0, .inr (0, [.ref k1, .ref k2, .ref k3, .ref k4, .int (nI cl), .int (nI mw)])), (k1, .inl (cI, 1600, .inl f1)), (q 2, .inr (6, [.ref (q 0), .int (nI xa2_1), .int xv2_2, .int (nI (xo + b_7)), .int xt2_3, .int (nI xz2_4), .int xf2_5, .int xp2_6])), (q 0, .inr (10, [.ref (q 20), .int (nI tl)])), (q 20, .inl (cI, 1600, .inl (fun j => nI (tb j))))] H := hP
  have hD : va_D A [(u0, .inr (8, [.ref (q 2), .int (nI kn)])), (h0, .inr (0, [.ref k1, .ref k2, .ref k3, .ref k4, .int (nI cl), .int (nI mw)])), (k1, .inl (cI, 1600, .inl f1)), (q 2, .inr (6, [.ref (q 0), .int (nI xa2_1), .int xv2_2, .int (nI (xo + b_7)), .int xt2_3, .int (nI xz2_4), .int xf2_5, .int xp2_6])), (q 0, .inr (10, [.ref (q 20), .int (nI tl)])), (q 20, .inl (cI, 1600, .inl (fun j => nI (tb j))))] := hD
  have hO_13 := rs_bd hO hO2_12
  have hL_14 := lenS_op (n := tl) (w := 40) (xo := xo) htb (by decide) hlen
  refine lv_if_eq (tgt := 52) hx hb dX8_readPair_9 (by decide) (fun c_15 => ?_) (fun c_15 => ?_)
  · have c_15 : b_7 = 0 := (neq b_7 0 (by omega) (by omega)).mp c_15
    obtain rfl : b_7 = 0 := by omega
    have hP := hP.sub (ws' := [(u0, .inr (8, [.ref (q 2), .int (nI kn)])), (q 2, .inr (6, [.ref (q 0), .int (nI xa2_1), .int xv2_2, .int (nI (xo + 0)), .int xt2_3, .int (nI xz2_4), .int xf2_5, .int xp2_6])), (q 0, .inr (10, [.ref (q 20), .int (nI tl)])), (q 20, .inl (cI, 1600, .inl (fun j => nI (tb j)))), (h0, .inr (0, [.ref k1, .ref k2, .ref k3, .ref k4, .int (nI cl), .int (nI mw)])), (k1, .inl (cI, 1600, .inl f1))]) [0, 3, 4, 5, 1, 2] rfl
    have hD := hD.sub (ws' := [(u0, .inr (8, [.ref (q 2), .int (nI kn)])), (q 2, .inr (6, [.ref (q 0), .int (nI xa2_1), .int xv2_2, .int (nI (xo + 0)), .int xt2_3, .int (nI xz2_4), .int xf2_5, .int xp2_6])), (q 0, .inr (10, [.ref (q 20), .int (nI tl)])), (q 20, .inl (cI, 1600, .inl (fun j => nI (tb j)))), (h0, .inr (0, [.ref k1, .ref k2, .ref k3, .ref k4, .int (nI cl), .int (nI mw)])), (k1, .inl (cI, 1600, .inl f1))]) [0, 3, 4, 5, 1, 2] (by decide +kernel) rfl
    exact sk_vret hx hb hr hlocks hK hP hD hS (⟨xa2_1, xv2_2, xt2_3, xz2_4, xf2_5, xp2_6, cl, mw, f1, by omega, by omega, by omega, by omega, by rw [← p_pair0 (v := v) (xo := xo) htb hO (rr_0 hb1_11 (by omega)) hdd]; exact hO_13, rfl⟩) (Nat.le_of_ble_eq_true rfl) (Nat.le_of_ble_eq_true rfl) dX8_readPair_52
  · have c_15 : ¬ (b_7 = 0) := fun h => c_15 ((neq b_7 0 (by omega) (by omega)).mpr h)
    have hxo1 := (rr_1 hb1_11 (by omega)).1
    obtain rfl : b_7 = 1 := by omega
    refine lv_aload_n hx hb dX8_readPair_12 rfl (lv_at hl 0 rfl) ?_
    refine lv_aload_n hx hb dX8_readPair_13 rfl (lv_at hl 1 rfl) ?_
    refine sk_VvZ (q0 := 0) (n := 1) (rest := []) (wr := []) ⟨hx, hb, hml, hown, hts⟩ hl.1 (hs (dd - 1) (by omega) q u0 kn xa2_1 xv2_2 (xo + 1) xt2_3 xz2_4 xf2_5 xp2_6 tl tb h0 k1 k2 k3 k4 cl mw f1 (bd og (opF tb tl 40 xo)) (by omega) (by omega) (by omega) htb (by omega) (by omega) (by omega) (by omega) hO_13 (lenO_S hL_14)) w_3_84 w_3_86 w_0_6 w_1_6 w_3_87 (by decide +kernel) ⟨⟨(by dsimp only; omega), (by dsimp only; omega)⟩, (by dsimp only; omega), (by dsimp only; omega)⟩ hK hP hD hS hZ hA [0, 3, 4, 5, 1, 2] [] rfl rfl (by decide +kernel) (by decide +kernel) (by decide +kernel) rfl rfl rfl rfl (Nat.le_of_ble_eq_true rfl) dX8_readPair_14 (fun u H locs hw hP hD hS => ?_)
    obtain ⟨xa2_16, xv2_17, xt2_18, xz2_19, xf2_20, xp2_21, c2_22, w2_23, g1_24, hxa2_25, hxz2_26, hc2_27, hw2_28, hO2_29, rfl⟩ := hw
    have hP : va_P D vwCl [(u0, .inr (8, [.ref (q 2), .int (nI kn)])), (q 2, .inr (6, [.ref (q 0), .int (nI xa2_16), .int xv2_17, .int (nI (xo + 1)), .int xt2_18, .int (nI xz2_19), .int xf2_20, .int xp2_21])), (q 0, .inr (10, [.ref (q 20), .int (nI tl)])), (q 20, .inl (cI, 1600, .inl (fun j => nI (tb j)))), (h0, .inr (0, [.ref k1, .ref k2, .ref k3, .ref k4, .int (nI c2_22), .int (nI w2_23)])), (k1, .inl (cI, 1600, .inl g1_24))] H := hP
    have hD : va_D A [(u0, .inr (8, [.ref (q 2), .int (nI kn)])), (q 2, .inr (6, [.ref (q 0), .int (nI xa2_16), .int xv2_17, .int (nI (xo + 1)), .int xt2_18, .int (nI xz2_19), .int xf2_20, .int xp2_21])), (q 0, .inr (10, [.ref (q 20), .int (nI tl)])), (q 20, .inl (cI, 1600, .inl (fun j => nI (tb j)))), (h0, .inr (0, [.ref k1, .ref k2, .ref k3, .ref k4, .int (nI c2_22), .int (nI w2_23)])), (k1, .inl (cI, 1600, .inl g1_24))] := hD
    have hL_30 := lenS_ap (len_sum (tb := tb) (n := tl) (len_part (tb := tb) (n := tl) (kind := kn) (dd - 1))) hL_14
    refine lv_aload_n hx hb dX8_readPair_17 rfl (lv_at hl 0 rfl) ?_
    refine sk_get (v := .ref (q 2)) (C := RX8) (T := TX8) (N := 2) hx hb hts inlX8 hown hK hP 0 rfl rfl 0 (by decide) w_1_100 rfl dX8_readPair_18 ?_
    refine lv_bipush (v := 44) hx hb dX8_readPair_21 (by decide) ?_
    refine sk_VvZ (q0 := 0) (n := 1) (rest := []) (wr := [(u0, .inr (8, [.ref (q 2), .int (nI kn)])), (h0, .inr (0, [.ref k1, .ref k2, .ref k3, .ref k4, .int (nI c2_22), .int (nI w2_23)])), (k1, .inl (cI, 1600, .inl g1_24))]) ⟨hx, hb, hml, hown, hts⟩ hl.1 (c_erd_needs l D cI cJ cC cZ cS zk zv zf q xa2_16 xv2_17 (xo + 1) xt2_18 xz2_19 xf2_20 xp2_21 tl tb 44 (rc (bindR (bd og (opF tb tl 40 xo)) (apF (sumOf tb tl (rdPart tb tl kn (dd - 1)))))) (by omega) (by omega) (by omega) htb (by decide) (hO2_29).1) w_3_109 w_3_51 w_3_52 w_1_4 w_3_53 (by decide +kernel) ⟨⟨(by dsimp only; omega), (by dsimp only; omega)⟩, (by dsimp only; omega), (by dsimp only; omega)⟩ hK hP hD hS hZ hA [1, 2, 3] [0, 4, 5] rfl rfl (by decide +kernel) (by decide +kernel) (by decide +kernel) rfl rfl rfl rfl (Nat.le_of_ble_eq_true rfl) dX8_readPair_23 (fun u H locs hw hP hD hS => ?_)
    obtain ⟨xa2_31, xv2_32, xt2_33, xz2_34, xf2_35, xp2_36, hxa2_37, hxz2_38, hO2_39, rfl⟩ := hw
    have hP : va_P D vwCl [(u0, .inr (8, [.ref (q 2), .int (nI kn)])), (h0, .inr (0, [.ref k1, .ref k2, .ref k3, .ref k4, .int (nI c2_22), .int (nI w2_23)])), (k1, .inl (cI, 1600, .inl g1_24)), (q 2, .inr (6, [.ref (q 0), .int (nI xa2_31), .int xv2_32, .int (nI (xo + 1)), .int xt2_33, .int (nI xz2_34), .int xf2_35, .int xp2_36])), (q 0, .inr (10, [.ref (q 20), .int (nI tl)])), (q 20, .inl (cI, 1600, .inl (fun j => nI (tb j))))] H := hP
    have hD : va_D A [(u0, .inr (8, [.ref (q 2), .int (nI kn)])), (h0, .inr (0, [.ref k1, .ref k2, .ref k3, .ref k4, .int (nI c2_22), .int (nI w2_23)])), (k1, .inl (cI, 1600, .inl g1_24)), (q 2, .inr (6, [.ref (q 0), .int (nI xa2_31), .int xv2_32, .int (nI (xo + 1)), .int xt2_33, .int (nI xz2_34), .int xf2_35, .int xp2_36])), (q 0, .inr (10, [.ref (q 20), .int (nI tl)])), (q 20, .inl (cI, 1600, .inl (fun j => nI (tb j))))] := hD
    have hO_40 := rs_bd hO2_29 hO2_39
    have hL_41 := lenS_bd (fwd_tk (tb := tb) (n := tl) (w := 44)) hL_30
    refine lv_aload_n hx hb dX8_readPair_26 rfl (lv_at hl 0 rfl) ?_
    refine lv_aload_n hx hb dX8_readPair_27 rfl (lv_at hl 1 rfl) ?_
    refine sk_VvZ (q0 := 0) (n := 1) (rest := []) (wr := []) ⟨hx, hb, hml, hown, hts⟩ hl.1 (hs (dd - 1) (by omega) q u0 kn xa2_31 xv2_32 (xo + 1) xt2_33 xz2_34 xf2_35 xp2_36 tl tb h0 k1 k2 k3 k4 c2_22 w2_23 g1_24 (bd (bindR (bd og (opF tb tl 40 xo)) (apF (sumOf tb tl (rdPart tb tl kn (dd - 1))))) (tkF tb tl 44)) (by omega) (by omega) (by omega) htb (by omega) (by omega) (by omega) (by omega) hO_40 (lenO_S hL_41)) w_3_84 w_3_86 w_0_6 w_1_6 w_3_87 (by decide +kernel) ⟨⟨(by dsimp only; omega), (by dsimp only; omega)⟩, (by dsimp only; omega), (by dsimp only; omega)⟩ hK hP hD hS hZ hA [0, 3, 4, 5, 1, 2] [] rfl rfl (by decide +kernel) (by decide +kernel) (by decide +kernel) rfl rfl rfl rfl (Nat.le_of_ble_eq_true rfl) dX8_readPair_28 (fun u H locs hw hP hD hS => ?_)
    obtain ⟨xa2_42, xv2_43, xt2_44, xz2_45, xf2_46, xp2_47, c2_48, w2_49, g1_50, hxa2_51, hxz2_52, hc2_53, hw2_54, hO2_55, rfl⟩ := hw
    have hP : va_P D vwCl [(u0, .inr (8, [.ref (q 2), .int (nI kn)])), (q 2, .inr (6, [.ref (q 0), .int (nI xa2_42), .int xv2_43, .int (nI (xo + 1)), .int xt2_44, .int (nI xz2_45), .int xf2_46, .int xp2_47])), (q 0, .inr (10, [.ref (q 20), .int (nI tl)])), (q 20, .inl (cI, 1600, .inl (fun j => nI (tb j)))), (h0, .inr (0, [.ref k1, .ref k2, .ref k3, .ref k4, .int (nI c2_48), .int (nI w2_49)])), (k1, .inl (cI, 1600, .inl g1_50))] H := hP
    have hD : va_D A [(u0, .inr (8, [.ref (q 2), .int (nI kn)])), (q 2, .inr (6, [.ref (q 0), .int (nI xa2_42), .int xv2_43, .int (nI (xo + 1)), .int xt2_44, .int (nI xz2_45), .int xf2_46, .int xp2_47])), (q 0, .inr (10, [.ref (q 20), .int (nI tl)])), (q 20, .inl (cI, 1600, .inl (fun j => nI (tb j)))), (h0, .inr (0, [.ref k1, .ref k2, .ref k3, .ref k4, .int (nI c2_48), .int (nI w2_49)])), (k1, .inl (cI, 1600, .inl g1_50))] := hD
    have hL_56 := lenS_ap (len_sum (tb := tb) (n := tl) (len_part (tb := tb) (n := tl) (kind := kn) (dd - 1))) hL_41
    refine lv_aload_n hx hb dX8_readPair_31 rfl (lv_at hl 0 rfl) ?_
    refine sk_get (v := .ref (q 2)) (C := RX8) (T := TX8) (N := 2) hx hb hts inlX8 hown hK hP 0 rfl rfl 0 (by decide) w_1_100 rfl dX8_readPair_32 ?_
    refine sk_Vv (q0 := 0) (n := 0) (rest := []) (wr := [(u0, .inr (8, [.ref (q 2), .int (nI kn)])), (q 0, .inr (10, [.ref (q 20), .int (nI tl)])), (q 20, .inl (cI, 1600, .inl (fun j => nI (tb j)))), (h0, .inr (0, [.ref k1, .ref k2, .ref k3, .ref k4, .int (nI c2_48), .int (nI w2_49)])), (k1, .inl (cI, 1600, .inl g1_50))]) ⟨hx, hb, hml, hown, hts⟩ hl.1 (c_erd_shuts l D cI cJ cC cZ cS q xa2_42 xv2_43 (xo + 1) xt2_44 xz2_45 xf2_46 xp2_47 (by omega) (by omega)) w_3_105 w_3_106 w_3_107 w_1_4 w_3_108 (by decide +kernel) ⟨⟨(by dsimp only; omega), (by dsimp only; omega)⟩, (by dsimp only; omega), (by dsimp only; omega)⟩ hK hP hD hS hA [1] [0, 2, 3, 4, 5] rfl rfl (by decide +kernel) (by decide +kernel) (by decide +kernel) rfl rfl rfl rfl (Nat.le_of_ble_eq_true rfl) dX8_readPair_35 (fun u H locs hw hP hD hS => ?_)
    obtain rfl := hw
    have hP : va_P D vwCl [(u0, .inr (8, [.ref (q 2), .int (nI kn)])), (q 0, .inr (10, [.ref (q 20), .int (nI tl)])), (q 20, .inl (cI, 1600, .inl (fun j => nI (tb j)))), (h0, .inr (0, [.ref k1, .ref k2, .ref k3, .ref k4, .int (nI c2_48), .int (nI w2_49)])), (k1, .inl (cI, 1600, .inl g1_50)), (q 2, .inr (6, [.ref (q 0), .int (nI xa2_42), .int xv2_43, .int (nI ((xo + 1) - 1)), .int xt2_44, .int (nI xz2_45), .int xf2_46, .int xp2_47]))] H := hP
    have hD : va_D A [(u0, .inr (8, [.ref (q 2), .int (nI kn)])), (q 0, .inr (10, [.ref (q 20), .int (nI tl)])), (q 20, .inl (cI, 1600, .inl (fun j => nI (tb j)))), (h0, .inr (0, [.ref k1, .ref k2, .ref k3, .ref k4, .int (nI c2_48), .int (nI w2_49)])), (k1, .inl (cI, 1600, .inl g1_50)), (q 2, .inr (6, [.ref (q 0), .int (nI xa2_42), .int xv2_43, .int (nI ((xo + 1) - 1)), .int xt2_44, .int (nI xz2_45), .int xf2_46, .int xp2_47]))] := hD
    refine lv_aload_n hx hb dX8_readPair_38 rfl (lv_at hl 0 rfl) ?_
    refine sk_get (v := .ref (q 2)) (C := RX8) (T := TX8) (N := 2) hx hb hts inlX8 hown hK hP 0 rfl rfl 0 (by decide) w_1_100 rfl dX8_readPair_39 ?_
    refine lv_bipush (v := 41) hx hb dX8_readPair_42 (by decide) ?_
    refine sk_VvZ (q0 := 0) (n := 1) (rest := []) (wr := [(u0, .inr (8, [.ref (q 2), .int (nI kn)])), (h0, .inr (0, [.ref k1, .ref k2, .ref k3, .ref k4, .int (nI c2_48), .int (nI w2_49)])), (k1, .inl (cI, 1600, .inl g1_50))]) ⟨hx, hb, hml, hown, hts⟩ hl.1 (c_erd_needs l D cI cJ cC cZ cS zk zv zf q xa2_42 xv2_43 ((xo + 1) - 1) xt2_44 xz2_45 xf2_46 xp2_47 tl tb 41 (rc (bindR (bd (bindR (bd og (opF tb tl 40 xo)) (apF (sumOf tb tl (rdPart tb tl kn (dd - 1))))) (tkF tb tl 44)) (apF (sumOf tb tl (rdPart tb tl kn (dd - 1)))))) (by omega) (by omega) (by omega) htb (by decide) (hO2_55).1) w_3_109 w_3_51 w_3_52 w_1_4 w_3_53 (by decide +kernel) ⟨⟨(by dsimp only; omega), (by dsimp only; omega)⟩, (by dsimp only; omega), (by dsimp only; omega)⟩ hK hP hD hS hZ hA [5, 1, 2] [0, 3, 4] rfl rfl (by decide +kernel) (by decide +kernel) (by decide +kernel) rfl rfl rfl rfl (Nat.le_of_ble_eq_true rfl) dX8_readPair_44 (fun u H locs hw hP hD hS => ?_)
    obtain ⟨xa2_57, xv2_58, xt2_59, xz2_60, xf2_61, xp2_62, hxa2_63, hxz2_64, hO2_65, rfl⟩ := hw
    have hP : va_P D vwCl [(u0, .inr (8, [.ref (q 2), .int (nI kn)])), (h0, .inr (0, [.ref k1, .ref k2, .ref k3, .ref k4, .int (nI c2_48), .int (nI w2_49)])), (k1, .inl (cI, 1600, .inl g1_50)), (q 2, .inr (6, [.ref (q 0), .int (nI xa2_57), .int xv2_58, .int (nI ((xo + 1) - 1)), .int xt2_59, .int (nI xz2_60), .int xf2_61, .int xp2_62])), (q 0, .inr (10, [.ref (q 20), .int (nI tl)])), (q 20, .inl (cI, 1600, .inl (fun j => nI (tb j))))] H := hP
    have hD : va_D A [(u0, .inr (8, [.ref (q 2), .int (nI kn)])), (h0, .inr (0, [.ref k1, .ref k2, .ref k3, .ref k4, .int (nI c2_48), .int (nI w2_49)])), (k1, .inl (cI, 1600, .inl g1_50)), (q 2, .inr (6, [.ref (q 0), .int (nI xa2_57), .int xv2_58, .int (nI ((xo + 1) - 1)), .int xt2_59, .int (nI xz2_60), .int xf2_61, .int xp2_62])), (q 0, .inr (10, [.ref (q 20), .int (nI tl)])), (q 20, .inl (cI, 1600, .inl (fun j => nI (tb j))))] := hD
    have hO_66 := rs_bd hO2_55 hO2_65
    have hL_67 := lenS_bd (fwd_tk (tb := tb) (n := tl) (w := 41)) hL_56
    refine lv_aload_n hx hb dX8_readPair_47 rfl (lv_at hl 1 rfl) ?_
    refine lv_iload_n hx hb dX8_readPair_48 rfl (lv_at hl 2 rfl) ?_
    refine sk_Vv (q0 := 0) (n := 1) (rest := []) (wr := [(u0, .inr (8, [.ref (q 2), .int (nI kn)])), (q 2, .inr (6, [.ref (q 0), .int (nI xa2_57), .int xv2_58, .int (nI ((xo + 1) - 1)), .int xt2_59, .int (nI xz2_60), .int xf2_61, .int xp2_62])), (q 0, .inr (10, [.ref (q 20), .int (nI tl)])), (q 20, .inl (cI, 1600, .inl (fun j => nI (tb j))))]) ⟨hx, hb, hml, hown, hts⟩ hl.1 (c_eCode_addX l D cI cJ cC cZ cS h0 k1 k2 k3 k4 c2_48 w2_49 g1_50 o (bd (bindR (bd (bindR (bd og (opF tb tl 40 xo)) (apF (sumOf tb tl (rdPart tb tl kn (dd - 1))))) (tkF tb tl 44)) (apF (sumOf tb tl (rdPart tb tl kn (dd - 1))))) (tkF tb tl 41)) v (by omega) (by omega) hv (by omega) (hO_66).2 (rm_S hO_66 htl hL_67)) w_3_97 w_3_98 w_3_99 w_1_8 w_3_100 (by decide +kernel) ⟨⟨(by dsimp only; omega), (by dsimp only; omega)⟩, (by dsimp only; omega), (by dsimp only; omega)⟩ hK hP hD hS hA [1, 2] [0, 3, 4, 5] rfl rfl (by decide +kernel) (by decide +kernel) (by decide +kernel) rfl rfl rfl rfl (Nat.le_of_ble_eq_true rfl) dX8_readPair_49 (fun u H locs hw hP hD hS => ?_)
    obtain ⟨c2_68, w2_69, g1_70, hc2_71, hw2_72, hO2_73, rfl⟩ := hw
    have hP : va_P D vwCl [(u0, .inr (8, [.ref (q 2), .int (nI kn)])), (q 2, .inr (6, [.ref (q 0), .int (nI xa2_57), .int xv2_58, .int (nI ((xo + 1) - 1)), .int xt2_59, .int (nI xz2_60), .int xf2_61, .int xp2_62])), (q 0, .inr (10, [.ref (q 20), .int (nI tl)])), (q 20, .inl (cI, 1600, .inl (fun j => nI (tb j)))), (h0, .inr (0, [.ref k1, .ref k2, .ref k3, .ref k4, .int (nI c2_68), .int (nI w2_69)])), (k1, .inl (cI, 1600, .inl g1_70))] H := hP
    have hD : va_D A [(u0, .inr (8, [.ref (q 2), .int (nI kn)])), (q 2, .inr (6, [.ref (q 0), .int (nI xa2_57), .int xv2_58, .int (nI ((xo + 1) - 1)), .int xt2_59, .int (nI xz2_60), .int xf2_61, .int xp2_62])), (q 0, .inr (10, [.ref (q 20), .int (nI tl)])), (q 20, .inl (cI, 1600, .inl (fun j => nI (tb j)))), (h0, .inr (0, [.ref k1, .ref k2, .ref k3, .ref k4, .int (nI c2_68), .int (nI w2_69)])), (k1, .inl (cI, 1600, .inl g1_70))] := hD
    have hO_74 := rs_ad hO_66 hO2_73
    have hL_75 := lenO_ad (v := v) hL_67
    exact sk_vret hx hb hr hlocks hK hP hD hS (⟨xa2_57, xv2_58, xt2_59, xz2_60, xf2_61, xp2_62, c2_68, w2_69, g1_70, by omega, by omega, by omega, by omega, by rw [← p_pair1 (xo := xo) htb hO (rr_1 hb1_11 (by omega)).2 (by omega) (by omega)]; exact hO_74, rfl⟩) (Nat.le_of_ble_eq_true rfl) (Nat.le_of_ble_eq_true rfl) dX8_readPair_52
theorem cm_m1 {k : Nat} (h : k < 10) : ¬ cm (40 + k) = -1 := by
  match k, h with
  | 0, _ => decide
  | 1, _ => decide
  | 2, _ => decide
  | 3, _ => decide
  | 4, _ => decide
  | 5, _ => decide
  | 6, _ => decide
  | 7, _ => decide
  | 8, _ => decide
  | 9, _ => decide
  | n + 10, h => exact absurd h (by omega)
set_option maxHeartbeats 4000000 in
set_option maxRecDepth 100000 in
theorem c_ereadPart (l : Launch) (D : va_G) (cI cJ cC cZ cS : ClassId) (zk zv : Nat) (zf : Value) (dd : Nat) (hs : ∀ d, d + 1 = dd → CT_ereadSum l D cI cJ cC cZ cS zk zv zf d) (hp : ∀ d, d + 1 = dd → CT_ereadPart l D cI cJ cC cZ cS zk zv zf d) (hq : CT_ereadPair l D cI cJ cC cZ cS zk zv zf dd) : CT_ereadPart l D cI cJ cC cZ cS zk zv zf dd := by
  intro q u0 kn xa xv xo xt xz xf xp tl tb h0 k1 k2 k3 k4 cl mw f1 og hxa hxz htl htb hcl hmw hkn hdd hO hlen
  refine skMZ_of (by decide +kernel) (Nat.le_of_ble_eq_true rfl) ?_
  intro p e s m below meth c A ls E hP hD hZ hl
  obtain ⟨hx, hb, hr, hml, hlocks, hin, hown, hts, hK, hA⟩ := E
  have hown : s.vm.findClass RX8 = some m.cls := hown
  have hS : va_S A s.heap s.heap [] := va_S.rf
  have hl : lv_has ls 4 [(0, .ref u0), (1, .ref h0)] := hl
  refine lv_aload_n hx hb dX8_readPart_0 rfl (lv_at hl 0 rfl) ?_
  refine sk_get (v := .ref (q 2)) (C := RX8) (T := TX8) (N := 2) hx hb hts inlX8 hown hK hP 0 rfl rfl 0 (by decide) w_1_100 rfl dX8_readPart_1 ?_
  refine sk_get (v := .int xt) (C := RX6) (T := TX6) (N := 8) hx hb hts inlX6 hown hK hP 1 rfl rfl 4 (by decide) w_1_63 rfl dX8_readPart_4 ?_
  refine lv_istore_n (lv' := [(2, .int xt), (0, .ref u0), (1, .ref h0)]) hx hb dX8_readPart_7 rfl hl (by decide) rfl (fun ls hl => ?_)
  refine lv_iload_n hx hb dX8_readPart_8 rfl (lv_at hl 0 rfl) ?_
  refine lv_bipush (v := (-3)) hx hb dX8_readPart_9 (by decide) ?_
  refine lv_icmp_ne (tgt := 32) hx hb dX8_readPart_11 (by decide) (fun c_1 => ?_) (fun c_1 => ?_)
  · skip
    refine lv_iload_n hx hb dX8_readPart_32 rfl (lv_at hl 0 rfl) ?_
    refine lv_bipush (v := 40) hx hb dX8_readPart_33 (by decide) ?_
    refine lv_icmp_ne (tgt := 74) hx hb dX8_readPart_35 (by decide) (fun c_2 => ?_) (fun c_2 => ?_)
    · skip
      refine lv_iload_n hx hb dX8_readPart_74 rfl (lv_at hl 0 rfl) ?_
      refine lv_sipush (v := 277) hx hb dX8_readPart_75 (by decide) ?_
      refine lv_icmp_eq (tgt := 88) hx hb dX8_readPart_78 (by decide) (fun c_3 => ?_) (fun c_3 => ?_)
      · skip
        refine lv_aload_n hx hb dX8_readPart_88 rfl (lv_at hl 1 rfl) ?_
        refine sk_get (v := .ref (q 2)) (C := RX8) (T := TX8) (N := 2) hx hb hts inlX8 hown hK hP 0 rfl rfl 0 (by decide) w_1_100 rfl dX8_readPart_89 ?_
        refine sk_VvZ (q0 := 0) (n := 0) (rest := []) (wr := [(u0, .inr (8, [.ref (q 2), .int (nI kn)])), (h0, .inr (0, [.ref k1, .ref k2, .ref k3, .ref k4, .int (nI cl), .int (nI mw)])), (k1, .inl (cI, 1600, .inl f1))]) ⟨hx, hb, hml, hown, hts⟩ hl.1 (c_erd_step l D cI cJ cC cZ cS zk zv zf q xa xv xo xt xz xf xp tl tb (bindR (rc og) (beF tb tl)) (by omega) (by omega) (by omega) htb (rd_st htb (hO).1 ⟨by rw [c_3]; decide, by rw [c_3]; decide⟩)) w_3_110 w_2_226 w_2_227 w_1_4 w_2_228 (by decide +kernel) ⟨⟨(by dsimp only; omega), (by dsimp only; omega)⟩, (by dsimp only; omega), (by dsimp only; omega)⟩ hK hP hD hS hZ hA [1, 2, 3] [0, 4, 5] rfl rfl (by decide +kernel) (by decide +kernel) (by decide +kernel) rfl rfl rfl rfl (Nat.le_of_ble_eq_true rfl) dX8_readPart_92 (fun u H locs hw hP hD hS => ?_)
        obtain ⟨xa2_4, xv2_5, xt2_6, xz2_7, hxa2_8, hxz2_9, hO2_10, rfl⟩ := hw
        have hP : va_P D vwCl [(u0, .inr (8, [.ref (q 2), .int (nI kn)])), (h0, .inr (0, [.ref k1, .ref k2, .ref k3, .ref k4, .int (nI cl), .int (nI mw)])), (k1, .inl (cI, 1600, .inl f1)), (q 2, .inr (6, [.ref (q 0), .int (nI xa2_4), .int xv2_5, .int (nI xo), .int xt2_6, .int (nI xz2_7), .int xf, .int xp])), (q 0, .inr (10, [.ref (q 20), .int (nI tl)])), (q 20, .inl (cI, 1600, .inl (fun j => nI (tb j))))] H := hP
        have hD : va_D A [(u0, .inr (8, [.ref (q 2), .int (nI kn)])), (h0, .inr (0, [.ref k1, .ref k2, .ref k3, .ref k4, .int (nI cl), .int (nI mw)])), (k1, .inl (cI, 1600, .inl f1)), (q 2, .inr (6, [.ref (q 0), .int (nI xa2_4), .int xv2_5, .int (nI xo), .int xt2_6, .int (nI xz2_7), .int xf, .int xp])), (q 0, .inr (10, [.ref (q 20), .int (nI tl)])), (q 20, .inl (cI, 1600, .inl (fun j => nI (tb j))))] := hD
        rw [stF_nx] at hO2_10
        have hO_11 := rs_bd hO hO2_10
        have hL_12 := lenS_nx htb hO ⟨by rw [c_3]; decide, by rw [c_3]; decide⟩ hlen
        refine lv_aload_n hx hb dX8_readPart_95 rfl (lv_at hl 1 rfl) ?_
        refine lv_aload_n hx hb dX8_readPart_96 rfl (lv_at hl 2 rfl) ?_
        refine lv_iload_n hx hb dX8_readPart_97 rfl (lv_at hl 0 rfl) ?_
        refine lv_sipush (v := 277) hx hb dX8_readPart_98 (by decide) ?_
        refine lv_icmp_ne (tgt := 110) hx hb dX8_readPart_101 (by decide) (fun c => absurd c_3 c) (fun c_13 => ?_)
        refine lv_sipush (v := 30004) hx hb dX8_readPart_104 (by decide) ?_
        refine lv_goto (tgt := 113) hx hb dX8_readPart_107 (by decide) ?_
        refine sk_VvZ (q0 := 0) (n := 2) (rest := []) (wr := []) ⟨hx, hb, hml, hown, hts⟩ hl.1 (hq q u0 kn xa2_4 xv2_5 xo xt2_6 xz2_7 xf xp tl tb h0 k1 k2 k3 k4 cl mw f1 (bd og (nxF tb tl)) 30004 5 (by omega) (by omega) (by omega) htb (by omega) (by omega) (by omega) (by omega) hO_11 (lenO_S hL_12) (by decide) (by omega)) w_3_111 w_3_113 w_0_9 w_1_6 w_3_114 (by decide +kernel) ⟨⟨(by dsimp only; omega), (by dsimp only; omega)⟩, (by dsimp only; omega), (by dsimp only; omega)⟩ hK hP hD hS hZ hA [0, 3, 4, 5, 1, 2] [] rfl rfl (by decide +kernel) (by decide +kernel) (by decide +kernel) rfl rfl rfl rfl (Nat.le_of_ble_eq_true rfl) dX8_readPart_113 (fun u H locs hw hP hD hS => ?_)
        obtain ⟨xa2_14, xv2_15, xt2_16, xz2_17, xf2_18, xp2_19, c2_20, w2_21, g1_22, hxa2_23, hxz2_24, hc2_25, hw2_26, hO2_27, rfl⟩ := hw
        have hP : va_P D vwCl [(u0, .inr (8, [.ref (q 2), .int (nI kn)])), (q 2, .inr (6, [.ref (q 0), .int (nI xa2_14), .int xv2_15, .int (nI xo), .int xt2_16, .int (nI xz2_17), .int xf2_18, .int xp2_19])), (q 0, .inr (10, [.ref (q 20), .int (nI tl)])), (q 20, .inl (cI, 1600, .inl (fun j => nI (tb j)))), (h0, .inr (0, [.ref k1, .ref k2, .ref k3, .ref k4, .int (nI c2_20), .int (nI w2_21)])), (k1, .inl (cI, 1600, .inl g1_22))] H := hP
        have hD : va_D A [(u0, .inr (8, [.ref (q 2), .int (nI kn)])), (q 2, .inr (6, [.ref (q 0), .int (nI xa2_14), .int xv2_15, .int (nI xo), .int xt2_16, .int (nI xz2_17), .int xf2_18, .int xp2_19])), (q 0, .inr (10, [.ref (q 20), .int (nI tl)])), (q 20, .inl (cI, 1600, .inl (fun j => nI (tb j)))), (h0, .inr (0, [.ref k1, .ref k2, .ref k3, .ref k4, .int (nI c2_20), .int (nI w2_21)])), (k1, .inl (cI, 1600, .inl g1_22))] := hD
        refine lv_goto (tgt := 217) hx hb dX8_readPart_116 (by decide) ?_
        exact sk_vret hx hb hr hlocks hK hP hD hS (⟨xa2_14, xv2_15, xt2_16, xz2_17, xf2_18, xp2_19, c2_20, w2_21, g1_22, by omega, by omega, by omega, by omega, by rw [← p_mm (v := 5) htb hO (Or.inl ⟨c_3, rfl⟩)]; exact hO2_27, rfl⟩) (Nat.le_of_ble_eq_true rfl) (Nat.le_of_ble_eq_true rfl) dX8_readPart_217
      · skip
        refine lv_iload_n hx hb dX8_readPart_81 rfl (lv_at hl 0 rfl) ?_
        refine lv_sipush (v := 278) hx hb dX8_readPart_82 (by decide) ?_
        refine lv_icmp_ne (tgt := 119) hx hb dX8_readPart_85 (by decide) (fun c_28 => ?_) (fun c_28 => ?_)
        · skip
          refine lv_iload_n hx hb dX8_readPart_119 rfl (lv_at hl 0 rfl) ?_
          refine lv_sipush (v := 272) hx hb dX8_readPart_120 (by decide) ?_
          refine lv_icmp_ne (tgt := 169) hx hb dX8_readPart_123 (by decide) (fun c_29 => ?_) (fun c_29 => ?_)
          · skip
            refine lv_aload_n hx hb dX8_readPart_169 rfl (lv_at hl 1 rfl) ?_
            refine sk_get (v := .int (nI kn)) (C := RX8) (T := TX8) (N := 2) hx hb hts inlX8 hown hK hP 0 rfl rfl 1 (by decide) w_1_101 rfl dX8_readPart_170 ?_
            refine lv_iconst (v := 2) hx hb dX8_readPart_173 (by decide) ?_
            refine lv_icmp_ne (tgt := 184) hx hb dX8_readPart_174 (by decide) (fun c_30 => ?_) (fun c_30 => ?_)
            · have c_30 : ¬ (kn = 2) := fun h => c_30 ((neq kn 2 (by omega) (by omega)).mpr h)
              refine lv_aload_n hx hb dX8_readPart_184 rfl (lv_at hl 1 rfl) ?_
              refine lv_iload_n hx hb dX8_readPart_185 rfl (lv_at hl 0 rfl) ?_
              refine sk_Vi (q0 := 0) (n := 1) (rest := []) (wr := [(q 2, .inr (6, [.ref (q 0), .int (nI xa), .int xv, .int (nI xo), .int xt, .int (nI xz), .int xf, .int xp])), (q 0, .inr (10, [.ref (q 20), .int (nI tl)])), (q 20, .inl (cI, 1600, .inl (fun j => nI (tb j)))), (h0, .inr (0, [.ref k1, .ref k2, .ref k3, .ref k4, .int (nI cl), .int (nI mw)])), (k1, .inl (cI, 1600, .inl f1))]) ⟨hx, hb, hml, hown, hts⟩ hl.1 (c_enameInLock l D cI cJ cC cZ cS u0 kn q xt (by omega)) w_3_118 w_3_120 w_0_10 w_1_6 w_3_121 (by decide +kernel) ⟨⟨(by dsimp only; omega), (by dsimp only; omega)⟩, (by dsimp only; omega), (by dsimp only; omega)⟩ hK hP hD hS hA [0] [1, 2, 3, 4, 5] rfl rfl (by decide +kernel) (by decide +kernel) (by decide +kernel) rfl rfl rfl rfl (Nat.le_of_ble_eq_true rfl) dX8_readPart_186 (fun r_31 u H locs hw hP hD hS => ?_)
              obtain ⟨hnm_32, rfl⟩ := hw
              have hP : va_P D vwCl [(q 2, .inr (6, [.ref (q 0), .int (nI xa), .int xv, .int (nI xo), .int xt, .int (nI xz), .int xf, .int xp])), (q 0, .inr (10, [.ref (q 20), .int (nI tl)])), (q 20, .inl (cI, 1600, .inl (fun j => nI (tb j)))), (h0, .inr (0, [.ref k1, .ref k2, .ref k3, .ref k4, .int (nI cl), .int (nI mw)])), (k1, .inl (cI, 1600, .inl f1)), (u0, .inr (8, [.ref (q 2), .int (nI kn)]))] H := hP
              have hD : va_D A [(q 2, .inr (6, [.ref (q 0), .int (nI xa), .int xv, .int (nI xo), .int xt, .int (nI xz), .int xf, .int xp])), (q 0, .inr (10, [.ref (q 20), .int (nI tl)])), (q 20, .inl (cI, 1600, .inl (fun j => nI (tb j)))), (h0, .inr (0, [.ref k1, .ref k2, .ref k3, .ref k4, .int (nI cl), .int (nI mw)])), (k1, .inl (cI, 1600, .inl f1)), (u0, .inr (8, [.ref (q 2), .int (nI kn)]))] := hD
              refine lv_istore_n (lv' := [(3, .int r_31), (2, .int xt), (0, .ref u0), (1, .ref h0)]) hx hb dX8_readPart_189 rfl hl (by decide) rfl (fun ls hl => ?_)
              refine lv_iload_n hx hb dX8_readPart_190 rfl (lv_at hl 0 rfl) ?_
              refine lv_iconst (v := (-1)) hx hb dX8_readPart_191 (by decide) ?_
              refine lv_icmp_ne (tgt := 205) hx hb dX8_readPart_192 (by decide) (fun c_33 => ?_) (fun c_33 => ?_)
              · obtain ⟨kx, hkxl, hkx, hkr⟩ := (hnm_32).resolve_left (fun hq => c_33 hq.1)
                refine lv_aload_n hx hb dX8_readPart_205 rfl (lv_at hl 3 rfl) ?_
                refine lv_iload_n hx hb dX8_readPart_206 rfl (lv_at hl 0 rfl) ?_
                refine sk_Vv (q0 := 0) (n := 1) (rest := []) (wr := [(q 2, .inr (6, [.ref (q 0), .int (nI xa), .int xv, .int (nI xo), .int xt, .int (nI xz), .int xf, .int xp])), (q 0, .inr (10, [.ref (q 20), .int (nI tl)])), (q 20, .inl (cI, 1600, .inl (fun j => nI (tb j)))), (u0, .inr (8, [.ref (q 2), .int (nI kn)]))]) ⟨hx, hb, hml, hown, hts⟩ hl.1 (c_eCode_addX l D cI cJ cC cZ cS h0 k1 k2 k3 k4 cl mw f1 r_31 og (40 + kx) (by omega) (by omega) hkr (by omega) (hO).2 (rm_w htb hO htl (nIx_real hkx) hlen)) w_3_97 w_3_98 w_3_99 w_1_8 w_3_100 (by decide +kernel) ⟨⟨(by dsimp only; omega), (by dsimp only; omega)⟩, (by dsimp only; omega), (by dsimp only; omega)⟩ hK hP hD hS hA [3, 4] [0, 1, 2, 5] rfl rfl (by decide +kernel) (by decide +kernel) (by decide +kernel) rfl rfl rfl rfl (Nat.le_of_ble_eq_true rfl) dX8_readPart_207 (fun u H locs hw hP hD hS => ?_)
                obtain ⟨c2_34, w2_35, g1_36, hc2_37, hw2_38, hO2_39, rfl⟩ := hw
                have hP : va_P D vwCl [(q 2, .inr (6, [.ref (q 0), .int (nI xa), .int xv, .int (nI xo), .int xt, .int (nI xz), .int xf, .int xp])), (q 0, .inr (10, [.ref (q 20), .int (nI tl)])), (q 20, .inl (cI, 1600, .inl (fun j => nI (tb j)))), (u0, .inr (8, [.ref (q 2), .int (nI kn)])), (h0, .inr (0, [.ref k1, .ref k2, .ref k3, .ref k4, .int (nI c2_34), .int (nI w2_35)])), (k1, .inl (cI, 1600, .inl g1_36))] H := hP
                have hD : va_D A [(q 2, .inr (6, [.ref (q 0), .int (nI xa), .int xv, .int (nI xo), .int xt, .int (nI xz), .int xf, .int xp])), (q 0, .inr (10, [.ref (q 20), .int (nI tl)])), (q 20, .inl (cI, 1600, .inl (fun j => nI (tb j)))), (u0, .inr (8, [.ref (q 2), .int (nI kn)])), (h0, .inr (0, [.ref k1, .ref k2, .ref k3, .ref k4, .int (nI c2_34), .int (nI w2_35)])), (k1, .inl (cI, 1600, .inl g1_36))] := hD
                have hO_40 := rs_ad hO hO2_39
                refine lv_aload_n hx hb dX8_readPart_210 rfl (lv_at hl 2 rfl) ?_
                refine sk_get (v := .ref (q 2)) (C := RX8) (T := TX8) (N := 2) hx hb hts inlX8 hown hK hP 3 rfl rfl 0 (by decide) w_1_100 rfl dX8_readPart_211 ?_
                refine sk_VvZ (q0 := 0) (n := 0) (rest := []) (wr := [(u0, .inr (8, [.ref (q 2), .int (nI kn)])), (h0, .inr (0, [.ref k1, .ref k2, .ref k3, .ref k4, .int (nI c2_34), .int (nI w2_35)])), (k1, .inl (cI, 1600, .inl g1_36))]) ⟨hx, hb, hml, hown, hts⟩ hl.1 (c_erd_step l D cI cJ cC cZ cS zk zv zf q xa xv xo xt xz xf xp tl tb (bindR (rc (ad og (40 + kx))) (beF tb tl)) (by omega) (by omega) (by omega) htb (rd_st htb (hO_40).1 (nIx_real hkx))) w_3_110 w_2_226 w_2_227 w_1_4 w_2_228 (by decide +kernel) ⟨⟨(by dsimp only; omega), (by dsimp only; omega)⟩, (by dsimp only; omega), (by dsimp only; omega)⟩ hK hP hD hS hZ hA [0, 1, 2] [3, 4, 5] rfl rfl (by decide +kernel) (by decide +kernel) (by decide +kernel) rfl rfl rfl rfl (Nat.le_of_ble_eq_true rfl) dX8_readPart_214 (fun u H locs hw hP hD hS => ?_)
                obtain ⟨xa2_41, xv2_42, xt2_43, xz2_44, hxa2_45, hxz2_46, hO2_47, rfl⟩ := hw
                have hP : va_P D vwCl [(u0, .inr (8, [.ref (q 2), .int (nI kn)])), (h0, .inr (0, [.ref k1, .ref k2, .ref k3, .ref k4, .int (nI c2_34), .int (nI w2_35)])), (k1, .inl (cI, 1600, .inl g1_36)), (q 2, .inr (6, [.ref (q 0), .int (nI xa2_41), .int xv2_42, .int (nI xo), .int xt2_43, .int (nI xz2_44), .int xf, .int xp])), (q 0, .inr (10, [.ref (q 20), .int (nI tl)])), (q 20, .inl (cI, 1600, .inl (fun j => nI (tb j))))] H := hP
                have hD : va_D A [(u0, .inr (8, [.ref (q 2), .int (nI kn)])), (h0, .inr (0, [.ref k1, .ref k2, .ref k3, .ref k4, .int (nI c2_34), .int (nI w2_35)])), (k1, .inl (cI, 1600, .inl g1_36)), (q 2, .inr (6, [.ref (q 0), .int (nI xa2_41), .int xv2_42, .int (nI xo), .int xt2_43, .int (nI xz2_44), .int xf, .int xp])), (q 0, .inr (10, [.ref (q 20), .int (nI tl)])), (q 20, .inl (cI, 1600, .inl (fun j => nI (tb j))))] := hD
                rw [stF_nx] at hO2_47
                have hO_48 := rs_bd hO_40 hO2_47
                have hP := hP.sub (ws' := [(u0, .inr (8, [.ref (q 2), .int (nI kn)])), (q 2, .inr (6, [.ref (q 0), .int (nI xa2_41), .int xv2_42, .int (nI xo), .int xt2_43, .int (nI xz2_44), .int xf, .int xp])), (q 0, .inr (10, [.ref (q 20), .int (nI tl)])), (q 20, .inl (cI, 1600, .inl (fun j => nI (tb j)))), (h0, .inr (0, [.ref k1, .ref k2, .ref k3, .ref k4, .int (nI c2_34), .int (nI w2_35)])), (k1, .inl (cI, 1600, .inl g1_36))]) [0, 3, 4, 5, 1, 2] rfl
                have hD := hD.sub (ws' := [(u0, .inr (8, [.ref (q 2), .int (nI kn)])), (q 2, .inr (6, [.ref (q 0), .int (nI xa2_41), .int xv2_42, .int (nI xo), .int xt2_43, .int (nI xz2_44), .int xf, .int xp])), (q 0, .inr (10, [.ref (q 20), .int (nI tl)])), (q 20, .inl (cI, 1600, .inl (fun j => nI (tb j)))), (h0, .inr (0, [.ref k1, .ref k2, .ref k3, .ref k4, .int (nI c2_34), .int (nI w2_35)])), (k1, .inl (cI, 1600, .inl g1_36))]) [0, 3, 4, 5, 1, 2] (by decide +kernel) rfl
                exact sk_vret hx hb hr hlocks hK hP hD hS (⟨xa2_41, xv2_42, xt2_43, xz2_44, xf, xp, c2_34, w2_35, g1_36, by omega, by omega, by omega, by omega, by rw [← p_name htb hO c_2 c_3 c_28 (fun hq => c_29 hq.2) hkx]; exact hO_48, rfl⟩) (Nat.le_of_ble_eq_true rfl) (Nat.le_of_ble_eq_true rfl) dX8_readPart_217
              · have hkx := ((hnm_32).resolve_right (fun hq => by obtain ⟨k9, h9, -, e9⟩ := hq; exact cm_m1 h9 (e9.symm.trans c_33))).2
                refine lv_aload_n hx hb dX8_readPart_195 rfl (lv_at hl 2 rfl) ?_
                refine sk_get (v := .ref (q 2)) (C := RX8) (T := TX8) (N := 2) hx hb hts inlX8 hown hK hP 5 rfl rfl 0 (by decide) w_1_100 rfl dX8_readPart_196 ?_
                refine sk_Vv (q0 := 0) (n := 0) (rest := []) (wr := [(q 0, .inr (10, [.ref (q 20), .int (nI tl)])), (q 20, .inl (cI, 1600, .inl (fun j => nI (tb j)))), (h0, .inr (0, [.ref k1, .ref k2, .ref k3, .ref k4, .int (nI cl), .int (nI mw)])), (k1, .inl (cI, 1600, .inl f1)), (u0, .inr (8, [.ref (q 2), .int (nI kn)]))]) ⟨hx, hb, hml, hown, hts⟩ hl.1 (c_erd_failHere l D cI cJ cC cZ cS q xa xv xo xt xz xf xp tl tb (rc og) (by omega) (hO).1) w_3_122 w_3_55 w_3_56 w_1_4 w_3_57 (by decide +kernel) ⟨⟨(by dsimp only; omega), (by dsimp only; omega)⟩, (by dsimp only; omega), (by dsimp only; omega)⟩ hK hP hD hS hA [0] [1, 2, 3, 4, 5] rfl rfl (by decide +kernel) (by decide +kernel) (by decide +kernel) rfl rfl rfl rfl (Nat.le_of_ble_eq_true rfl) dX8_readPart_199 (fun u H locs hw hP hD hS => ?_)
                obtain ⟨xf2_49, xp2_50, hO2_51, rfl⟩ := hw
                have hP : va_P D vwCl [(q 0, .inr (10, [.ref (q 20), .int (nI tl)])), (q 20, .inl (cI, 1600, .inl (fun j => nI (tb j)))), (h0, .inr (0, [.ref k1, .ref k2, .ref k3, .ref k4, .int (nI cl), .int (nI mw)])), (k1, .inl (cI, 1600, .inl f1)), (u0, .inr (8, [.ref (q 2), .int (nI kn)])), (q 2, .inr (6, [.ref (q 0), .int (nI xa), .int xv, .int (nI xo), .int (-2), .int (nI xz), .int xf2_49, .int xp2_50]))] H := hP
                have hD : va_D A [(q 0, .inr (10, [.ref (q 20), .int (nI tl)])), (q 20, .inl (cI, 1600, .inl (fun j => nI (tb j)))), (h0, .inr (0, [.ref k1, .ref k2, .ref k3, .ref k4, .int (nI cl), .int (nI mw)])), (k1, .inl (cI, 1600, .inl f1)), (u0, .inr (8, [.ref (q 2), .int (nI kn)])), (q 2, .inr (6, [.ref (q 0), .int (nI xa), .int xv, .int (nI xo), .int (-2), .int (nI xz), .int xf2_49, .int xp2_50]))] := hD
                have hO_52 := rs_bd hO hO2_51
                have hL_53 := lenO_bd (fwd_here (k := 1)) hlen
                refine lv_goto (tgt := 217) hx hb dX8_readPart_202 (by decide) ?_
                have hP := hP.sub (ws' := [(u0, .inr (8, [.ref (q 2), .int (nI kn)])), (q 2, .inr (6, [.ref (q 0), .int (nI xa), .int xv, .int (nI xo), .int (-2), .int (nI xz), .int xf2_49, .int xp2_50])), (q 0, .inr (10, [.ref (q 20), .int (nI tl)])), (q 20, .inl (cI, 1600, .inl (fun j => nI (tb j)))), (h0, .inr (0, [.ref k1, .ref k2, .ref k3, .ref k4, .int (nI cl), .int (nI mw)])), (k1, .inl (cI, 1600, .inl f1))]) [4, 5, 0, 1, 2, 3] rfl
                have hD := hD.sub (ws' := [(u0, .inr (8, [.ref (q 2), .int (nI kn)])), (q 2, .inr (6, [.ref (q 0), .int (nI xa), .int xv, .int (nI xo), .int (-2), .int (nI xz), .int xf2_49, .int xp2_50])), (q 0, .inr (10, [.ref (q 20), .int (nI tl)])), (q 20, .inl (cI, 1600, .inl (fun j => nI (tb j)))), (h0, .inr (0, [.ref k1, .ref k2, .ref k3, .ref k4, .int (nI cl), .int (nI mw)])), (k1, .inl (cI, 1600, .inl f1))]) [4, 5, 0, 1, 2, 3] (by decide +kernel) rfl
                exact sk_vret hx hb hr hlocks hK hP hD hS (⟨xa, xv, (-2), xz, xf2_49, xp2_50, cl, mw, f1, by omega, by omega, by omega, by omega, by rw [← p_none htb hO c_1 c_2 c_3 c_28 (fun hq => c_29 hq.2) hkx]; exact hO_52, rfl⟩) (Nat.le_of_ble_eq_true rfl) (Nat.le_of_ble_eq_true rfl) dX8_readPart_217
            · have c_30 : kn = 2 := (neq kn 2 (by omega) (by omega)).mp c_30
              refine lv_iload_n hx hb dX8_readPart_177 rfl (lv_at hl 0 rfl) ?_
              refine sk_Si (n := 1) (rest := []) (wr := [(u0, .inr (8, [.ref (q 2), .int (nI kn)])), (q 2, .inr (6, [.ref (q 0), .int (nI xa), .int xv, .int (nI xo), .int xt, .int (nI xz), .int xf, .int xp])), (q 0, .inr (10, [.ref (q 20), .int (nI tl)])), (q 20, .inl (cI, 1600, .inl (fun j => nI (tb j)))), (h0, .inr (0, [.ref k1, .ref k2, .ref k3, .ref k4, .int (nI cl), .int (nI mw)])), (k1, .inl (cI, 1600, .inl f1))]) ⟨hx, hb, hml, hown, hts⟩ hl.1 (c_enameInQuestion l D cI cJ cC cZ cS xt) w_3_115 w_3_116 w_1_6 w_3_117 (by decide +kernel) ⟨⟨(by dsimp only; omega), (by dsimp only; omega)⟩, (by dsimp only; omega), (by dsimp only; omega)⟩ hK hP hD hS hA [] [0, 1, 2, 3, 4, 5] rfl rfl (by decide +kernel) (by decide +kernel) (by decide +kernel) rfl rfl (Nat.le_of_ble_eq_true rfl) dX8_readPart_178 (fun r_54 u H locs hw hP hD hS => ?_)
              obtain ⟨hnm_55, rfl⟩ := hw
              have hP : va_P D vwCl [(u0, .inr (8, [.ref (q 2), .int (nI kn)])), (q 2, .inr (6, [.ref (q 0), .int (nI xa), .int xv, .int (nI xo), .int xt, .int (nI xz), .int xf, .int xp])), (q 0, .inr (10, [.ref (q 20), .int (nI tl)])), (q 20, .inl (cI, 1600, .inl (fun j => nI (tb j)))), (h0, .inr (0, [.ref k1, .ref k2, .ref k3, .ref k4, .int (nI cl), .int (nI mw)])), (k1, .inl (cI, 1600, .inl f1))] H := hP
              have hD : va_D A [(u0, .inr (8, [.ref (q 2), .int (nI kn)])), (q 2, .inr (6, [.ref (q 0), .int (nI xa), .int xv, .int (nI xo), .int xt, .int (nI xz), .int xf, .int xp])), (q 0, .inr (10, [.ref (q 20), .int (nI tl)])), (q 20, .inl (cI, 1600, .inl (fun j => nI (tb j)))), (h0, .inr (0, [.ref k1, .ref k2, .ref k3, .ref k4, .int (nI cl), .int (nI mw)])), (k1, .inl (cI, 1600, .inl f1))] := hD
              obtain rfl : kn = 2 := by omega
              refine lv_goto (tgt := 189) hx hb dX8_readPart_181 (by decide) ?_
              refine lv_istore_n (lv' := [(3, .int r_54), (2, .int xt), (0, .ref u0), (1, .ref h0)]) hx hb dX8_readPart_189 rfl hl (by decide) rfl (fun ls hl => ?_)
              refine lv_iload_n hx hb dX8_readPart_190 rfl (lv_at hl 0 rfl) ?_
              refine lv_iconst (v := (-1)) hx hb dX8_readPart_191 (by decide) ?_
              refine lv_icmp_ne (tgt := 205) hx hb dX8_readPart_192 (by decide) (fun c_56 => ?_) (fun c_56 => ?_)
              · obtain ⟨kx, hkxl, hkx, hkr⟩ := (hnm_55).resolve_left (fun hq => c_56 hq.1)
                refine lv_aload_n hx hb dX8_readPart_205 rfl (lv_at hl 3 rfl) ?_
                refine lv_iload_n hx hb dX8_readPart_206 rfl (lv_at hl 0 rfl) ?_
                refine sk_Vv (q0 := 0) (n := 1) (rest := []) (wr := [(u0, .inr (8, [.ref (q 2), .int 2])), (q 2, .inr (6, [.ref (q 0), .int (nI xa), .int xv, .int (nI xo), .int xt, .int (nI xz), .int xf, .int xp])), (q 0, .inr (10, [.ref (q 20), .int (nI tl)])), (q 20, .inl (cI, 1600, .inl (fun j => nI (tb j))))]) ⟨hx, hb, hml, hown, hts⟩ hl.1 (c_eCode_addX l D cI cJ cC cZ cS h0 k1 k2 k3 k4 cl mw f1 r_54 og (40 + kx) (by omega) (by omega) hkr (by omega) (hO).2 (rm_w htb hO htl (nIx_real hkx) hlen)) w_3_97 w_3_98 w_3_99 w_1_8 w_3_100 (by decide +kernel) ⟨⟨(by dsimp only; omega), (by dsimp only; omega)⟩, (by dsimp only; omega), (by dsimp only; omega)⟩ hK hP hD hS hA [4, 5] [0, 1, 2, 3] rfl rfl (by decide +kernel) (by decide +kernel) (by decide +kernel) rfl rfl rfl rfl (Nat.le_of_ble_eq_true rfl) dX8_readPart_207 (fun u H locs hw hP hD hS => ?_)
                obtain ⟨c2_57, w2_58, g1_59, hc2_60, hw2_61, hO2_62, rfl⟩ := hw
                have hP : va_P D vwCl [(u0, .inr (8, [.ref (q 2), .int 2])), (q 2, .inr (6, [.ref (q 0), .int (nI xa), .int xv, .int (nI xo), .int xt, .int (nI xz), .int xf, .int xp])), (q 0, .inr (10, [.ref (q 20), .int (nI tl)])), (q 20, .inl (cI, 1600, .inl (fun j => nI (tb j)))), (h0, .inr (0, [.ref k1, .ref k2, .ref k3, .ref k4, .int (nI c2_57), .int (nI w2_58)])), (k1, .inl (cI, 1600, .inl g1_59))] H := hP
                have hD : va_D A [(u0, .inr (8, [.ref (q 2), .int 2])), (q 2, .inr (6, [.ref (q 0), .int (nI xa), .int xv, .int (nI xo), .int xt, .int (nI xz), .int xf, .int xp])), (q 0, .inr (10, [.ref (q 20), .int (nI tl)])), (q 20, .inl (cI, 1600, .inl (fun j => nI (tb j)))), (h0, .inr (0, [.ref k1, .ref k2, .ref k3, .ref k4, .int (nI c2_57), .int (nI w2_58)])), (k1, .inl (cI, 1600, .inl g1_59))] := hD
                have hO_63 := rs_ad hO hO2_62
                refine lv_aload_n hx hb dX8_readPart_210 rfl (lv_at hl 2 rfl) ?_
                refine sk_get (v := .ref (q 2)) (C := RX8) (T := TX8) (N := 2) hx hb hts inlX8 hown hK hP 0 rfl rfl 0 (by decide) w_1_100 rfl dX8_readPart_211 ?_
                refine sk_VvZ (q0 := 0) (n := 0) (rest := []) (wr := [(u0, .inr (8, [.ref (q 2), .int 2])), (h0, .inr (0, [.ref k1, .ref k2, .ref k3, .ref k4, .int (nI c2_57), .int (nI w2_58)])), (k1, .inl (cI, 1600, .inl g1_59))]) ⟨hx, hb, hml, hown, hts⟩ hl.1 (c_erd_step l D cI cJ cC cZ cS zk zv zf q xa xv xo xt xz xf xp tl tb (bindR (rc (ad og (40 + kx))) (beF tb tl)) (by omega) (by omega) (by omega) htb (rd_st htb (hO_63).1 (nIx_real hkx))) w_3_110 w_2_226 w_2_227 w_1_4 w_2_228 (by decide +kernel) ⟨⟨(by dsimp only; omega), (by dsimp only; omega)⟩, (by dsimp only; omega), (by dsimp only; omega)⟩ hK hP hD hS hZ hA [1, 2, 3] [0, 4, 5] rfl rfl (by decide +kernel) (by decide +kernel) (by decide +kernel) rfl rfl rfl rfl (Nat.le_of_ble_eq_true rfl) dX8_readPart_214 (fun u H locs hw hP hD hS => ?_)
                obtain ⟨xa2_64, xv2_65, xt2_66, xz2_67, hxa2_68, hxz2_69, hO2_70, rfl⟩ := hw
                have hP : va_P D vwCl [(u0, .inr (8, [.ref (q 2), .int 2])), (h0, .inr (0, [.ref k1, .ref k2, .ref k3, .ref k4, .int (nI c2_57), .int (nI w2_58)])), (k1, .inl (cI, 1600, .inl g1_59)), (q 2, .inr (6, [.ref (q 0), .int (nI xa2_64), .int xv2_65, .int (nI xo), .int xt2_66, .int (nI xz2_67), .int xf, .int xp])), (q 0, .inr (10, [.ref (q 20), .int (nI tl)])), (q 20, .inl (cI, 1600, .inl (fun j => nI (tb j))))] H := hP
                have hD : va_D A [(u0, .inr (8, [.ref (q 2), .int 2])), (h0, .inr (0, [.ref k1, .ref k2, .ref k3, .ref k4, .int (nI c2_57), .int (nI w2_58)])), (k1, .inl (cI, 1600, .inl g1_59)), (q 2, .inr (6, [.ref (q 0), .int (nI xa2_64), .int xv2_65, .int (nI xo), .int xt2_66, .int (nI xz2_67), .int xf, .int xp])), (q 0, .inr (10, [.ref (q 20), .int (nI tl)])), (q 20, .inl (cI, 1600, .inl (fun j => nI (tb j))))] := hD
                rw [stF_nx] at hO2_70
                have hO_71 := rs_bd hO_63 hO2_70
                have hP := hP.sub (ws' := [(u0, .inr (8, [.ref (q 2), .int 2])), (q 2, .inr (6, [.ref (q 0), .int (nI xa2_64), .int xv2_65, .int (nI xo), .int xt2_66, .int (nI xz2_67), .int xf, .int xp])), (q 0, .inr (10, [.ref (q 20), .int (nI tl)])), (q 20, .inl (cI, 1600, .inl (fun j => nI (tb j)))), (h0, .inr (0, [.ref k1, .ref k2, .ref k3, .ref k4, .int (nI c2_57), .int (nI w2_58)])), (k1, .inl (cI, 1600, .inl g1_59))]) [0, 3, 4, 5, 1, 2] rfl
                have hD := hD.sub (ws' := [(u0, .inr (8, [.ref (q 2), .int 2])), (q 2, .inr (6, [.ref (q 0), .int (nI xa2_64), .int xv2_65, .int (nI xo), .int xt2_66, .int (nI xz2_67), .int xf, .int xp])), (q 0, .inr (10, [.ref (q 20), .int (nI tl)])), (q 20, .inl (cI, 1600, .inl (fun j => nI (tb j)))), (h0, .inr (0, [.ref k1, .ref k2, .ref k3, .ref k4, .int (nI c2_57), .int (nI w2_58)])), (k1, .inl (cI, 1600, .inl g1_59))]) [0, 3, 4, 5, 1, 2] (by decide +kernel) rfl
                exact sk_vret hx hb hr hlocks hK hP hD hS (⟨xa2_64, xv2_65, xt2_66, xz2_67, xf, xp, c2_57, w2_58, g1_59, by omega, by omega, by omega, by omega, by rw [← p_name htb hO c_2 c_3 c_28 (fun hq => c_29 hq.2) hkx]; exact hO_71, rfl⟩) (Nat.le_of_ble_eq_true rfl) (Nat.le_of_ble_eq_true rfl) dX8_readPart_217
              · have hkx := ((hnm_55).resolve_right (fun hq => by obtain ⟨k9, h9, -, e9⟩ := hq; exact cm_m1 h9 (e9.symm.trans c_56))).2
                refine lv_aload_n hx hb dX8_readPart_195 rfl (lv_at hl 2 rfl) ?_
                refine sk_get (v := .ref (q 2)) (C := RX8) (T := TX8) (N := 2) hx hb hts inlX8 hown hK hP 0 rfl rfl 0 (by decide) w_1_100 rfl dX8_readPart_196 ?_
                refine sk_Vv (q0 := 0) (n := 0) (rest := []) (wr := [(u0, .inr (8, [.ref (q 2), .int 2])), (q 0, .inr (10, [.ref (q 20), .int (nI tl)])), (q 20, .inl (cI, 1600, .inl (fun j => nI (tb j)))), (h0, .inr (0, [.ref k1, .ref k2, .ref k3, .ref k4, .int (nI cl), .int (nI mw)])), (k1, .inl (cI, 1600, .inl f1))]) ⟨hx, hb, hml, hown, hts⟩ hl.1 (c_erd_failHere l D cI cJ cC cZ cS q xa xv xo xt xz xf xp tl tb (rc og) (by omega) (hO).1) w_3_122 w_3_55 w_3_56 w_1_4 w_3_57 (by decide +kernel) ⟨⟨(by dsimp only; omega), (by dsimp only; omega)⟩, (by dsimp only; omega), (by dsimp only; omega)⟩ hK hP hD hS hA [1] [0, 2, 3, 4, 5] rfl rfl (by decide +kernel) (by decide +kernel) (by decide +kernel) rfl rfl rfl rfl (Nat.le_of_ble_eq_true rfl) dX8_readPart_199 (fun u H locs hw hP hD hS => ?_)
                obtain ⟨xf2_72, xp2_73, hO2_74, rfl⟩ := hw
                have hP : va_P D vwCl [(u0, .inr (8, [.ref (q 2), .int 2])), (q 0, .inr (10, [.ref (q 20), .int (nI tl)])), (q 20, .inl (cI, 1600, .inl (fun j => nI (tb j)))), (h0, .inr (0, [.ref k1, .ref k2, .ref k3, .ref k4, .int (nI cl), .int (nI mw)])), (k1, .inl (cI, 1600, .inl f1)), (q 2, .inr (6, [.ref (q 0), .int (nI xa), .int xv, .int (nI xo), .int (-2), .int (nI xz), .int xf2_72, .int xp2_73]))] H := hP
                have hD : va_D A [(u0, .inr (8, [.ref (q 2), .int 2])), (q 0, .inr (10, [.ref (q 20), .int (nI tl)])), (q 20, .inl (cI, 1600, .inl (fun j => nI (tb j)))), (h0, .inr (0, [.ref k1, .ref k2, .ref k3, .ref k4, .int (nI cl), .int (nI mw)])), (k1, .inl (cI, 1600, .inl f1)), (q 2, .inr (6, [.ref (q 0), .int (nI xa), .int xv, .int (nI xo), .int (-2), .int (nI xz), .int xf2_72, .int xp2_73]))] := hD
                have hO_75 := rs_bd hO hO2_74
                have hL_76 := lenO_bd (fwd_here (k := 1)) hlen
                refine lv_goto (tgt := 217) hx hb dX8_readPart_202 (by decide) ?_
                have hP := hP.sub (ws' := [(u0, .inr (8, [.ref (q 2), .int 2])), (q 2, .inr (6, [.ref (q 0), .int (nI xa), .int xv, .int (nI xo), .int (-2), .int (nI xz), .int xf2_72, .int xp2_73])), (q 0, .inr (10, [.ref (q 20), .int (nI tl)])), (q 20, .inl (cI, 1600, .inl (fun j => nI (tb j)))), (h0, .inr (0, [.ref k1, .ref k2, .ref k3, .ref k4, .int (nI cl), .int (nI mw)])), (k1, .inl (cI, 1600, .inl f1))]) [0, 5, 1, 2, 3, 4] rfl
                have hD := hD.sub (ws' := [(u0, .inr (8, [.ref (q 2), .int 2])), (q 2, .inr (6, [.ref (q 0), .int (nI xa), .int xv, .int (nI xo), .int (-2), .int (nI xz), .int xf2_72, .int xp2_73])), (q 0, .inr (10, [.ref (q 20), .int (nI tl)])), (q 20, .inl (cI, 1600, .inl (fun j => nI (tb j)))), (h0, .inr (0, [.ref k1, .ref k2, .ref k3, .ref k4, .int (nI cl), .int (nI mw)])), (k1, .inl (cI, 1600, .inl f1))]) [0, 5, 1, 2, 3, 4] (by decide +kernel) rfl
                exact sk_vret hx hb hr hlocks hK hP hD hS (⟨xa, xv, (-2), xz, xf2_72, xp2_73, cl, mw, f1, by omega, by omega, by omega, by omega, by rw [← p_none htb hO c_1 c_2 c_3 c_28 (fun hq => c_29 hq.2) hkx]; exact hO_75, rfl⟩) (Nat.le_of_ble_eq_true rfl) (Nat.le_of_ble_eq_true rfl) dX8_readPart_217
          · skip
            refine lv_aload_n hx hb dX8_readPart_126 rfl (lv_at hl 1 rfl) ?_
            refine sk_get (v := .int (nI kn)) (C := RX8) (T := TX8) (N := 2) hx hb hts inlX8 hown hK hP 0 rfl rfl 1 (by decide) w_1_101 rfl dX8_readPart_127 ?_
            refine lv_iconst (v := 2) hx hb dX8_readPart_130 (by decide) ?_
            refine lv_icmp_ne (tgt := 169) hx hb dX8_readPart_131 (by decide) (fun c_77 => ?_) (fun c_77 => ?_)
            · have c_77 : ¬ (kn = 2) := fun h => c_77 ((neq kn 2 (by omega) (by omega)).mpr h)
              refine lv_aload_n hx hb dX8_readPart_169 rfl (lv_at hl 1 rfl) ?_
              refine sk_get (v := .int (nI kn)) (C := RX8) (T := TX8) (N := 2) hx hb hts inlX8 hown hK hP 0 rfl rfl 1 (by decide) w_1_101 rfl dX8_readPart_170 ?_
              refine lv_iconst (v := 2) hx hb dX8_readPart_173 (by decide) ?_
              refine lv_icmp_ne (tgt := 184) hx hb dX8_readPart_174 (by decide) (fun c_78 => ?_) (fun c_78 => ?_)
              · have c_78 : ¬ (kn = 2) := fun h => c_78 ((neq kn 2 (by omega) (by omega)).mpr h)
                refine lv_aload_n hx hb dX8_readPart_184 rfl (lv_at hl 1 rfl) ?_
                refine lv_iload_n hx hb dX8_readPart_185 rfl (lv_at hl 0 rfl) ?_
                refine sk_Vi (q0 := 0) (n := 1) (rest := []) (wr := [(q 2, .inr (6, [.ref (q 0), .int (nI xa), .int xv, .int (nI xo), .int xt, .int (nI xz), .int xf, .int xp])), (q 0, .inr (10, [.ref (q 20), .int (nI tl)])), (q 20, .inl (cI, 1600, .inl (fun j => nI (tb j)))), (h0, .inr (0, [.ref k1, .ref k2, .ref k3, .ref k4, .int (nI cl), .int (nI mw)])), (k1, .inl (cI, 1600, .inl f1))]) ⟨hx, hb, hml, hown, hts⟩ hl.1 (c_enameInLock l D cI cJ cC cZ cS u0 kn q xt (by omega)) w_3_118 w_3_120 w_0_10 w_1_6 w_3_121 (by decide +kernel) ⟨⟨(by dsimp only; omega), (by dsimp only; omega)⟩, (by dsimp only; omega), (by dsimp only; omega)⟩ hK hP hD hS hA [0] [1, 2, 3, 4, 5] rfl rfl (by decide +kernel) (by decide +kernel) (by decide +kernel) rfl rfl rfl rfl (Nat.le_of_ble_eq_true rfl) dX8_readPart_186 (fun r_79 u H locs hw hP hD hS => ?_)
                obtain ⟨hnm_80, rfl⟩ := hw
                have hP : va_P D vwCl [(q 2, .inr (6, [.ref (q 0), .int (nI xa), .int xv, .int (nI xo), .int xt, .int (nI xz), .int xf, .int xp])), (q 0, .inr (10, [.ref (q 20), .int (nI tl)])), (q 20, .inl (cI, 1600, .inl (fun j => nI (tb j)))), (h0, .inr (0, [.ref k1, .ref k2, .ref k3, .ref k4, .int (nI cl), .int (nI mw)])), (k1, .inl (cI, 1600, .inl f1)), (u0, .inr (8, [.ref (q 2), .int (nI kn)]))] H := hP
                have hD : va_D A [(q 2, .inr (6, [.ref (q 0), .int (nI xa), .int xv, .int (nI xo), .int xt, .int (nI xz), .int xf, .int xp])), (q 0, .inr (10, [.ref (q 20), .int (nI tl)])), (q 20, .inl (cI, 1600, .inl (fun j => nI (tb j)))), (h0, .inr (0, [.ref k1, .ref k2, .ref k3, .ref k4, .int (nI cl), .int (nI mw)])), (k1, .inl (cI, 1600, .inl f1)), (u0, .inr (8, [.ref (q 2), .int (nI kn)]))] := hD
                refine lv_istore_n (lv' := [(3, .int r_79), (2, .int xt), (0, .ref u0), (1, .ref h0)]) hx hb dX8_readPart_189 rfl hl (by decide) rfl (fun ls hl => ?_)
                refine lv_iload_n hx hb dX8_readPart_190 rfl (lv_at hl 0 rfl) ?_
                refine lv_iconst (v := (-1)) hx hb dX8_readPart_191 (by decide) ?_
                refine lv_icmp_ne (tgt := 205) hx hb dX8_readPart_192 (by decide) (fun c_81 => ?_) (fun c_81 => ?_)
                · obtain ⟨kx, hkxl, hkx, hkr⟩ := (hnm_80).resolve_left (fun hq => c_81 hq.1)
                  refine lv_aload_n hx hb dX8_readPart_205 rfl (lv_at hl 3 rfl) ?_
                  refine lv_iload_n hx hb dX8_readPart_206 rfl (lv_at hl 0 rfl) ?_
                  refine sk_Vv (q0 := 0) (n := 1) (rest := []) (wr := [(q 2, .inr (6, [.ref (q 0), .int (nI xa), .int xv, .int (nI xo), .int xt, .int (nI xz), .int xf, .int xp])), (q 0, .inr (10, [.ref (q 20), .int (nI tl)])), (q 20, .inl (cI, 1600, .inl (fun j => nI (tb j)))), (u0, .inr (8, [.ref (q 2), .int (nI kn)]))]) ⟨hx, hb, hml, hown, hts⟩ hl.1 (c_eCode_addX l D cI cJ cC cZ cS h0 k1 k2 k3 k4 cl mw f1 r_79 og (40 + kx) (by omega) (by omega) hkr (by omega) (hO).2 (rm_w htb hO htl (nIx_real hkx) hlen)) w_3_97 w_3_98 w_3_99 w_1_8 w_3_100 (by decide +kernel) ⟨⟨(by dsimp only; omega), (by dsimp only; omega)⟩, (by dsimp only; omega), (by dsimp only; omega)⟩ hK hP hD hS hA [3, 4] [0, 1, 2, 5] rfl rfl (by decide +kernel) (by decide +kernel) (by decide +kernel) rfl rfl rfl rfl (Nat.le_of_ble_eq_true rfl) dX8_readPart_207 (fun u H locs hw hP hD hS => ?_)
                  obtain ⟨c2_82, w2_83, g1_84, hc2_85, hw2_86, hO2_87, rfl⟩ := hw
                  have hP : va_P D vwCl [(q 2, .inr (6, [.ref (q 0), .int (nI xa), .int xv, .int (nI xo), .int xt, .int (nI xz), .int xf, .int xp])), (q 0, .inr (10, [.ref (q 20), .int (nI tl)])), (q 20, .inl (cI, 1600, .inl (fun j => nI (tb j)))), (u0, .inr (8, [.ref (q 2), .int (nI kn)])), (h0, .inr (0, [.ref k1, .ref k2, .ref k3, .ref k4, .int (nI c2_82), .int (nI w2_83)])), (k1, .inl (cI, 1600, .inl g1_84))] H := hP
                  have hD : va_D A [(q 2, .inr (6, [.ref (q 0), .int (nI xa), .int xv, .int (nI xo), .int xt, .int (nI xz), .int xf, .int xp])), (q 0, .inr (10, [.ref (q 20), .int (nI tl)])), (q 20, .inl (cI, 1600, .inl (fun j => nI (tb j)))), (u0, .inr (8, [.ref (q 2), .int (nI kn)])), (h0, .inr (0, [.ref k1, .ref k2, .ref k3, .ref k4, .int (nI c2_82), .int (nI w2_83)])), (k1, .inl (cI, 1600, .inl g1_84))] := hD
                  have hO_88 := rs_ad hO hO2_87
                  refine lv_aload_n hx hb dX8_readPart_210 rfl (lv_at hl 2 rfl) ?_
                  refine sk_get (v := .ref (q 2)) (C := RX8) (T := TX8) (N := 2) hx hb hts inlX8 hown hK hP 3 rfl rfl 0 (by decide) w_1_100 rfl dX8_readPart_211 ?_
                  refine sk_VvZ (q0 := 0) (n := 0) (rest := []) (wr := [(u0, .inr (8, [.ref (q 2), .int (nI kn)])), (h0, .inr (0, [.ref k1, .ref k2, .ref k3, .ref k4, .int (nI c2_82), .int (nI w2_83)])), (k1, .inl (cI, 1600, .inl g1_84))]) ⟨hx, hb, hml, hown, hts⟩ hl.1 (c_erd_step l D cI cJ cC cZ cS zk zv zf q xa xv xo xt xz xf xp tl tb (bindR (rc (ad og (40 + kx))) (beF tb tl)) (by omega) (by omega) (by omega) htb (rd_st htb (hO_88).1 (nIx_real hkx))) w_3_110 w_2_226 w_2_227 w_1_4 w_2_228 (by decide +kernel) ⟨⟨(by dsimp only; omega), (by dsimp only; omega)⟩, (by dsimp only; omega), (by dsimp only; omega)⟩ hK hP hD hS hZ hA [0, 1, 2] [3, 4, 5] rfl rfl (by decide +kernel) (by decide +kernel) (by decide +kernel) rfl rfl rfl rfl (Nat.le_of_ble_eq_true rfl) dX8_readPart_214 (fun u H locs hw hP hD hS => ?_)
                  obtain ⟨xa2_89, xv2_90, xt2_91, xz2_92, hxa2_93, hxz2_94, hO2_95, rfl⟩ := hw
                  have hP : va_P D vwCl [(u0, .inr (8, [.ref (q 2), .int (nI kn)])), (h0, .inr (0, [.ref k1, .ref k2, .ref k3, .ref k4, .int (nI c2_82), .int (nI w2_83)])), (k1, .inl (cI, 1600, .inl g1_84)), (q 2, .inr (6, [.ref (q 0), .int (nI xa2_89), .int xv2_90, .int (nI xo), .int xt2_91, .int (nI xz2_92), .int xf, .int xp])), (q 0, .inr (10, [.ref (q 20), .int (nI tl)])), (q 20, .inl (cI, 1600, .inl (fun j => nI (tb j))))] H := hP
                  have hD : va_D A [(u0, .inr (8, [.ref (q 2), .int (nI kn)])), (h0, .inr (0, [.ref k1, .ref k2, .ref k3, .ref k4, .int (nI c2_82), .int (nI w2_83)])), (k1, .inl (cI, 1600, .inl g1_84)), (q 2, .inr (6, [.ref (q 0), .int (nI xa2_89), .int xv2_90, .int (nI xo), .int xt2_91, .int (nI xz2_92), .int xf, .int xp])), (q 0, .inr (10, [.ref (q 20), .int (nI tl)])), (q 20, .inl (cI, 1600, .inl (fun j => nI (tb j))))] := hD
                  rw [stF_nx] at hO2_95
                  have hO_96 := rs_bd hO_88 hO2_95
                  have hP := hP.sub (ws' := [(u0, .inr (8, [.ref (q 2), .int (nI kn)])), (q 2, .inr (6, [.ref (q 0), .int (nI xa2_89), .int xv2_90, .int (nI xo), .int xt2_91, .int (nI xz2_92), .int xf, .int xp])), (q 0, .inr (10, [.ref (q 20), .int (nI tl)])), (q 20, .inl (cI, 1600, .inl (fun j => nI (tb j)))), (h0, .inr (0, [.ref k1, .ref k2, .ref k3, .ref k4, .int (nI c2_82), .int (nI w2_83)])), (k1, .inl (cI, 1600, .inl g1_84))]) [0, 3, 4, 5, 1, 2] rfl
                  have hD := hD.sub (ws' := [(u0, .inr (8, [.ref (q 2), .int (nI kn)])), (q 2, .inr (6, [.ref (q 0), .int (nI xa2_89), .int xv2_90, .int (nI xo), .int xt2_91, .int (nI xz2_92), .int xf, .int xp])), (q 0, .inr (10, [.ref (q 20), .int (nI tl)])), (q 20, .inl (cI, 1600, .inl (fun j => nI (tb j)))), (h0, .inr (0, [.ref k1, .ref k2, .ref k3, .ref k4, .int (nI c2_82), .int (nI w2_83)])), (k1, .inl (cI, 1600, .inl g1_84))]) [0, 3, 4, 5, 1, 2] (by decide +kernel) rfl
                  exact sk_vret hx hb hr hlocks hK hP hD hS (⟨xa2_89, xv2_90, xt2_91, xz2_92, xf, xp, c2_82, w2_83, g1_84, by omega, by omega, by omega, by omega, by rw [← p_name htb hO c_2 c_3 c_28 (fun hq => absurd hq.1 (by omega)) hkx]; exact hO_96, rfl⟩) (Nat.le_of_ble_eq_true rfl) (Nat.le_of_ble_eq_true rfl) dX8_readPart_217
                · have hkx := ((hnm_80).resolve_right (fun hq => by obtain ⟨k9, h9, -, e9⟩ := hq; exact cm_m1 h9 (e9.symm.trans c_81))).2
                  refine lv_aload_n hx hb dX8_readPart_195 rfl (lv_at hl 2 rfl) ?_
                  refine sk_get (v := .ref (q 2)) (C := RX8) (T := TX8) (N := 2) hx hb hts inlX8 hown hK hP 5 rfl rfl 0 (by decide) w_1_100 rfl dX8_readPart_196 ?_
                  refine sk_Vv (q0 := 0) (n := 0) (rest := []) (wr := [(q 0, .inr (10, [.ref (q 20), .int (nI tl)])), (q 20, .inl (cI, 1600, .inl (fun j => nI (tb j)))), (h0, .inr (0, [.ref k1, .ref k2, .ref k3, .ref k4, .int (nI cl), .int (nI mw)])), (k1, .inl (cI, 1600, .inl f1)), (u0, .inr (8, [.ref (q 2), .int (nI kn)]))]) ⟨hx, hb, hml, hown, hts⟩ hl.1 (c_erd_failHere l D cI cJ cC cZ cS q xa xv xo xt xz xf xp tl tb (rc og) (by omega) (hO).1) w_3_122 w_3_55 w_3_56 w_1_4 w_3_57 (by decide +kernel) ⟨⟨(by dsimp only; omega), (by dsimp only; omega)⟩, (by dsimp only; omega), (by dsimp only; omega)⟩ hK hP hD hS hA [0] [1, 2, 3, 4, 5] rfl rfl (by decide +kernel) (by decide +kernel) (by decide +kernel) rfl rfl rfl rfl (Nat.le_of_ble_eq_true rfl) dX8_readPart_199 (fun u H locs hw hP hD hS => ?_)
                  obtain ⟨xf2_97, xp2_98, hO2_99, rfl⟩ := hw
                  have hP : va_P D vwCl [(q 0, .inr (10, [.ref (q 20), .int (nI tl)])), (q 20, .inl (cI, 1600, .inl (fun j => nI (tb j)))), (h0, .inr (0, [.ref k1, .ref k2, .ref k3, .ref k4, .int (nI cl), .int (nI mw)])), (k1, .inl (cI, 1600, .inl f1)), (u0, .inr (8, [.ref (q 2), .int (nI kn)])), (q 2, .inr (6, [.ref (q 0), .int (nI xa), .int xv, .int (nI xo), .int (-2), .int (nI xz), .int xf2_97, .int xp2_98]))] H := hP
                  have hD : va_D A [(q 0, .inr (10, [.ref (q 20), .int (nI tl)])), (q 20, .inl (cI, 1600, .inl (fun j => nI (tb j)))), (h0, .inr (0, [.ref k1, .ref k2, .ref k3, .ref k4, .int (nI cl), .int (nI mw)])), (k1, .inl (cI, 1600, .inl f1)), (u0, .inr (8, [.ref (q 2), .int (nI kn)])), (q 2, .inr (6, [.ref (q 0), .int (nI xa), .int xv, .int (nI xo), .int (-2), .int (nI xz), .int xf2_97, .int xp2_98]))] := hD
                  have hO_100 := rs_bd hO hO2_99
                  have hL_101 := lenO_bd (fwd_here (k := 1)) hlen
                  refine lv_goto (tgt := 217) hx hb dX8_readPart_202 (by decide) ?_
                  have hP := hP.sub (ws' := [(u0, .inr (8, [.ref (q 2), .int (nI kn)])), (q 2, .inr (6, [.ref (q 0), .int (nI xa), .int xv, .int (nI xo), .int (-2), .int (nI xz), .int xf2_97, .int xp2_98])), (q 0, .inr (10, [.ref (q 20), .int (nI tl)])), (q 20, .inl (cI, 1600, .inl (fun j => nI (tb j)))), (h0, .inr (0, [.ref k1, .ref k2, .ref k3, .ref k4, .int (nI cl), .int (nI mw)])), (k1, .inl (cI, 1600, .inl f1))]) [4, 5, 0, 1, 2, 3] rfl
                  have hD := hD.sub (ws' := [(u0, .inr (8, [.ref (q 2), .int (nI kn)])), (q 2, .inr (6, [.ref (q 0), .int (nI xa), .int xv, .int (nI xo), .int (-2), .int (nI xz), .int xf2_97, .int xp2_98])), (q 0, .inr (10, [.ref (q 20), .int (nI tl)])), (q 20, .inl (cI, 1600, .inl (fun j => nI (tb j)))), (h0, .inr (0, [.ref k1, .ref k2, .ref k3, .ref k4, .int (nI cl), .int (nI mw)])), (k1, .inl (cI, 1600, .inl f1))]) [4, 5, 0, 1, 2, 3] (by decide +kernel) rfl
                  exact sk_vret hx hb hr hlocks hK hP hD hS (⟨xa, xv, (-2), xz, xf2_97, xp2_98, cl, mw, f1, by omega, by omega, by omega, by omega, by rw [← p_none htb hO c_1 c_2 c_3 c_28 (fun hq => absurd hq.1 (by omega)) hkx]; exact hO_100, rfl⟩) (Nat.le_of_ble_eq_true rfl) (Nat.le_of_ble_eq_true rfl) dX8_readPart_217
              · have c_78 : kn = 2 := (neq kn 2 (by omega) (by omega)).mp c_78
                refine lv_iload_n hx hb dX8_readPart_177 rfl (lv_at hl 0 rfl) ?_
                refine sk_Si (n := 1) (rest := []) (wr := [(u0, .inr (8, [.ref (q 2), .int (nI kn)])), (q 2, .inr (6, [.ref (q 0), .int (nI xa), .int xv, .int (nI xo), .int xt, .int (nI xz), .int xf, .int xp])), (q 0, .inr (10, [.ref (q 20), .int (nI tl)])), (q 20, .inl (cI, 1600, .inl (fun j => nI (tb j)))), (h0, .inr (0, [.ref k1, .ref k2, .ref k3, .ref k4, .int (nI cl), .int (nI mw)])), (k1, .inl (cI, 1600, .inl f1))]) ⟨hx, hb, hml, hown, hts⟩ hl.1 (c_enameInQuestion l D cI cJ cC cZ cS xt) w_3_115 w_3_116 w_1_6 w_3_117 (by decide +kernel) ⟨⟨(by dsimp only; omega), (by dsimp only; omega)⟩, (by dsimp only; omega), (by dsimp only; omega)⟩ hK hP hD hS hA [] [0, 1, 2, 3, 4, 5] rfl rfl (by decide +kernel) (by decide +kernel) (by decide +kernel) rfl rfl (Nat.le_of_ble_eq_true rfl) dX8_readPart_178 (fun r_102 u H locs hw hP hD hS => ?_)
                obtain ⟨hnm_103, rfl⟩ := hw
                have hP : va_P D vwCl [(u0, .inr (8, [.ref (q 2), .int (nI kn)])), (q 2, .inr (6, [.ref (q 0), .int (nI xa), .int xv, .int (nI xo), .int xt, .int (nI xz), .int xf, .int xp])), (q 0, .inr (10, [.ref (q 20), .int (nI tl)])), (q 20, .inl (cI, 1600, .inl (fun j => nI (tb j)))), (h0, .inr (0, [.ref k1, .ref k2, .ref k3, .ref k4, .int (nI cl), .int (nI mw)])), (k1, .inl (cI, 1600, .inl f1))] H := hP
                have hD : va_D A [(u0, .inr (8, [.ref (q 2), .int (nI kn)])), (q 2, .inr (6, [.ref (q 0), .int (nI xa), .int xv, .int (nI xo), .int xt, .int (nI xz), .int xf, .int xp])), (q 0, .inr (10, [.ref (q 20), .int (nI tl)])), (q 20, .inl (cI, 1600, .inl (fun j => nI (tb j)))), (h0, .inr (0, [.ref k1, .ref k2, .ref k3, .ref k4, .int (nI cl), .int (nI mw)])), (k1, .inl (cI, 1600, .inl f1))] := hD
                obtain rfl : kn = 2 := by omega
                refine lv_goto (tgt := 189) hx hb dX8_readPart_181 (by decide) ?_
                refine lv_istore_n (lv' := [(3, .int r_102), (2, .int xt), (0, .ref u0), (1, .ref h0)]) hx hb dX8_readPart_189 rfl hl (by decide) rfl (fun ls hl => ?_)
                refine lv_iload_n hx hb dX8_readPart_190 rfl (lv_at hl 0 rfl) ?_
                refine lv_iconst (v := (-1)) hx hb dX8_readPart_191 (by decide) ?_
                refine lv_icmp_ne (tgt := 205) hx hb dX8_readPart_192 (by decide) (fun c_104 => ?_) (fun c_104 => ?_)
                · obtain ⟨kx, hkxl, hkx, hkr⟩ := (hnm_103).resolve_left (fun hq => c_104 hq.1)
                  refine lv_aload_n hx hb dX8_readPart_205 rfl (lv_at hl 3 rfl) ?_
                  refine lv_iload_n hx hb dX8_readPart_206 rfl (lv_at hl 0 rfl) ?_
                  refine sk_Vv (q0 := 0) (n := 1) (rest := []) (wr := [(u0, .inr (8, [.ref (q 2), .int 2])), (q 2, .inr (6, [.ref (q 0), .int (nI xa), .int xv, .int (nI xo), .int xt, .int (nI xz), .int xf, .int xp])), (q 0, .inr (10, [.ref (q 20), .int (nI tl)])), (q 20, .inl (cI, 1600, .inl (fun j => nI (tb j))))]) ⟨hx, hb, hml, hown, hts⟩ hl.1 (c_eCode_addX l D cI cJ cC cZ cS h0 k1 k2 k3 k4 cl mw f1 r_102 og (40 + kx) (by omega) (by omega) hkr (by omega) (hO).2 (rm_w htb hO htl (nIx_real hkx) hlen)) w_3_97 w_3_98 w_3_99 w_1_8 w_3_100 (by decide +kernel) ⟨⟨(by dsimp only; omega), (by dsimp only; omega)⟩, (by dsimp only; omega), (by dsimp only; omega)⟩ hK hP hD hS hA [4, 5] [0, 1, 2, 3] rfl rfl (by decide +kernel) (by decide +kernel) (by decide +kernel) rfl rfl rfl rfl (Nat.le_of_ble_eq_true rfl) dX8_readPart_207 (fun u H locs hw hP hD hS => ?_)
                  obtain ⟨c2_105, w2_106, g1_107, hc2_108, hw2_109, hO2_110, rfl⟩ := hw
                  have hP : va_P D vwCl [(u0, .inr (8, [.ref (q 2), .int 2])), (q 2, .inr (6, [.ref (q 0), .int (nI xa), .int xv, .int (nI xo), .int xt, .int (nI xz), .int xf, .int xp])), (q 0, .inr (10, [.ref (q 20), .int (nI tl)])), (q 20, .inl (cI, 1600, .inl (fun j => nI (tb j)))), (h0, .inr (0, [.ref k1, .ref k2, .ref k3, .ref k4, .int (nI c2_105), .int (nI w2_106)])), (k1, .inl (cI, 1600, .inl g1_107))] H := hP
                  have hD : va_D A [(u0, .inr (8, [.ref (q 2), .int 2])), (q 2, .inr (6, [.ref (q 0), .int (nI xa), .int xv, .int (nI xo), .int xt, .int (nI xz), .int xf, .int xp])), (q 0, .inr (10, [.ref (q 20), .int (nI tl)])), (q 20, .inl (cI, 1600, .inl (fun j => nI (tb j)))), (h0, .inr (0, [.ref k1, .ref k2, .ref k3, .ref k4, .int (nI c2_105), .int (nI w2_106)])), (k1, .inl (cI, 1600, .inl g1_107))] := hD
                  have hO_111 := rs_ad hO hO2_110
                  refine lv_aload_n hx hb dX8_readPart_210 rfl (lv_at hl 2 rfl) ?_
                  refine sk_get (v := .ref (q 2)) (C := RX8) (T := TX8) (N := 2) hx hb hts inlX8 hown hK hP 0 rfl rfl 0 (by decide) w_1_100 rfl dX8_readPart_211 ?_
                  refine sk_VvZ (q0 := 0) (n := 0) (rest := []) (wr := [(u0, .inr (8, [.ref (q 2), .int 2])), (h0, .inr (0, [.ref k1, .ref k2, .ref k3, .ref k4, .int (nI c2_105), .int (nI w2_106)])), (k1, .inl (cI, 1600, .inl g1_107))]) ⟨hx, hb, hml, hown, hts⟩ hl.1 (c_erd_step l D cI cJ cC cZ cS zk zv zf q xa xv xo xt xz xf xp tl tb (bindR (rc (ad og (40 + kx))) (beF tb tl)) (by omega) (by omega) (by omega) htb (rd_st htb (hO_111).1 (nIx_real hkx))) w_3_110 w_2_226 w_2_227 w_1_4 w_2_228 (by decide +kernel) ⟨⟨(by dsimp only; omega), (by dsimp only; omega)⟩, (by dsimp only; omega), (by dsimp only; omega)⟩ hK hP hD hS hZ hA [1, 2, 3] [0, 4, 5] rfl rfl (by decide +kernel) (by decide +kernel) (by decide +kernel) rfl rfl rfl rfl (Nat.le_of_ble_eq_true rfl) dX8_readPart_214 (fun u H locs hw hP hD hS => ?_)
                  obtain ⟨xa2_112, xv2_113, xt2_114, xz2_115, hxa2_116, hxz2_117, hO2_118, rfl⟩ := hw
                  have hP : va_P D vwCl [(u0, .inr (8, [.ref (q 2), .int 2])), (h0, .inr (0, [.ref k1, .ref k2, .ref k3, .ref k4, .int (nI c2_105), .int (nI w2_106)])), (k1, .inl (cI, 1600, .inl g1_107)), (q 2, .inr (6, [.ref (q 0), .int (nI xa2_112), .int xv2_113, .int (nI xo), .int xt2_114, .int (nI xz2_115), .int xf, .int xp])), (q 0, .inr (10, [.ref (q 20), .int (nI tl)])), (q 20, .inl (cI, 1600, .inl (fun j => nI (tb j))))] H := hP
                  have hD : va_D A [(u0, .inr (8, [.ref (q 2), .int 2])), (h0, .inr (0, [.ref k1, .ref k2, .ref k3, .ref k4, .int (nI c2_105), .int (nI w2_106)])), (k1, .inl (cI, 1600, .inl g1_107)), (q 2, .inr (6, [.ref (q 0), .int (nI xa2_112), .int xv2_113, .int (nI xo), .int xt2_114, .int (nI xz2_115), .int xf, .int xp])), (q 0, .inr (10, [.ref (q 20), .int (nI tl)])), (q 20, .inl (cI, 1600, .inl (fun j => nI (tb j))))] := hD
                  rw [stF_nx] at hO2_118
                  have hO_119 := rs_bd hO_111 hO2_118
                  have hP := hP.sub (ws' := [(u0, .inr (8, [.ref (q 2), .int 2])), (q 2, .inr (6, [.ref (q 0), .int (nI xa2_112), .int xv2_113, .int (nI xo), .int xt2_114, .int (nI xz2_115), .int xf, .int xp])), (q 0, .inr (10, [.ref (q 20), .int (nI tl)])), (q 20, .inl (cI, 1600, .inl (fun j => nI (tb j)))), (h0, .inr (0, [.ref k1, .ref k2, .ref k3, .ref k4, .int (nI c2_105), .int (nI w2_106)])), (k1, .inl (cI, 1600, .inl g1_107))]) [0, 3, 4, 5, 1, 2] rfl
                  have hD := hD.sub (ws' := [(u0, .inr (8, [.ref (q 2), .int 2])), (q 2, .inr (6, [.ref (q 0), .int (nI xa2_112), .int xv2_113, .int (nI xo), .int xt2_114, .int (nI xz2_115), .int xf, .int xp])), (q 0, .inr (10, [.ref (q 20), .int (nI tl)])), (q 20, .inl (cI, 1600, .inl (fun j => nI (tb j)))), (h0, .inr (0, [.ref k1, .ref k2, .ref k3, .ref k4, .int (nI c2_105), .int (nI w2_106)])), (k1, .inl (cI, 1600, .inl g1_107))]) [0, 3, 4, 5, 1, 2] (by decide +kernel) rfl
                  exact sk_vret hx hb hr hlocks hK hP hD hS (⟨xa2_112, xv2_113, xt2_114, xz2_115, xf, xp, c2_105, w2_106, g1_107, by omega, by omega, by omega, by omega, by rw [← p_name htb hO c_2 c_3 c_28 (fun hq => absurd hq.1 (by omega)) hkx]; exact hO_119, rfl⟩) (Nat.le_of_ble_eq_true rfl) (Nat.le_of_ble_eq_true rfl) dX8_readPart_217
                · have hkx := ((hnm_103).resolve_right (fun hq => by obtain ⟨k9, h9, -, e9⟩ := hq; exact cm_m1 h9 (e9.symm.trans c_104))).2
                  refine lv_aload_n hx hb dX8_readPart_195 rfl (lv_at hl 2 rfl) ?_
                  refine sk_get (v := .ref (q 2)) (C := RX8) (T := TX8) (N := 2) hx hb hts inlX8 hown hK hP 0 rfl rfl 0 (by decide) w_1_100 rfl dX8_readPart_196 ?_
                  refine sk_Vv (q0 := 0) (n := 0) (rest := []) (wr := [(u0, .inr (8, [.ref (q 2), .int 2])), (q 0, .inr (10, [.ref (q 20), .int (nI tl)])), (q 20, .inl (cI, 1600, .inl (fun j => nI (tb j)))), (h0, .inr (0, [.ref k1, .ref k2, .ref k3, .ref k4, .int (nI cl), .int (nI mw)])), (k1, .inl (cI, 1600, .inl f1))]) ⟨hx, hb, hml, hown, hts⟩ hl.1 (c_erd_failHere l D cI cJ cC cZ cS q xa xv xo xt xz xf xp tl tb (rc og) (by omega) (hO).1) w_3_122 w_3_55 w_3_56 w_1_4 w_3_57 (by decide +kernel) ⟨⟨(by dsimp only; omega), (by dsimp only; omega)⟩, (by dsimp only; omega), (by dsimp only; omega)⟩ hK hP hD hS hA [1] [0, 2, 3, 4, 5] rfl rfl (by decide +kernel) (by decide +kernel) (by decide +kernel) rfl rfl rfl rfl (Nat.le_of_ble_eq_true rfl) dX8_readPart_199 (fun u H locs hw hP hD hS => ?_)
                  obtain ⟨xf2_120, xp2_121, hO2_122, rfl⟩ := hw
                  have hP : va_P D vwCl [(u0, .inr (8, [.ref (q 2), .int 2])), (q 0, .inr (10, [.ref (q 20), .int (nI tl)])), (q 20, .inl (cI, 1600, .inl (fun j => nI (tb j)))), (h0, .inr (0, [.ref k1, .ref k2, .ref k3, .ref k4, .int (nI cl), .int (nI mw)])), (k1, .inl (cI, 1600, .inl f1)), (q 2, .inr (6, [.ref (q 0), .int (nI xa), .int xv, .int (nI xo), .int (-2), .int (nI xz), .int xf2_120, .int xp2_121]))] H := hP
                  have hD : va_D A [(u0, .inr (8, [.ref (q 2), .int 2])), (q 0, .inr (10, [.ref (q 20), .int (nI tl)])), (q 20, .inl (cI, 1600, .inl (fun j => nI (tb j)))), (h0, .inr (0, [.ref k1, .ref k2, .ref k3, .ref k4, .int (nI cl), .int (nI mw)])), (k1, .inl (cI, 1600, .inl f1)), (q 2, .inr (6, [.ref (q 0), .int (nI xa), .int xv, .int (nI xo), .int (-2), .int (nI xz), .int xf2_120, .int xp2_121]))] := hD
                  have hO_123 := rs_bd hO hO2_122
                  have hL_124 := lenO_bd (fwd_here (k := 1)) hlen
                  refine lv_goto (tgt := 217) hx hb dX8_readPart_202 (by decide) ?_
                  have hP := hP.sub (ws' := [(u0, .inr (8, [.ref (q 2), .int 2])), (q 2, .inr (6, [.ref (q 0), .int (nI xa), .int xv, .int (nI xo), .int (-2), .int (nI xz), .int xf2_120, .int xp2_121])), (q 0, .inr (10, [.ref (q 20), .int (nI tl)])), (q 20, .inl (cI, 1600, .inl (fun j => nI (tb j)))), (h0, .inr (0, [.ref k1, .ref k2, .ref k3, .ref k4, .int (nI cl), .int (nI mw)])), (k1, .inl (cI, 1600, .inl f1))]) [0, 5, 1, 2, 3, 4] rfl
                  have hD := hD.sub (ws' := [(u0, .inr (8, [.ref (q 2), .int 2])), (q 2, .inr (6, [.ref (q 0), .int (nI xa), .int xv, .int (nI xo), .int (-2), .int (nI xz), .int xf2_120, .int xp2_121])), (q 0, .inr (10, [.ref (q 20), .int (nI tl)])), (q 20, .inl (cI, 1600, .inl (fun j => nI (tb j)))), (h0, .inr (0, [.ref k1, .ref k2, .ref k3, .ref k4, .int (nI cl), .int (nI mw)])), (k1, .inl (cI, 1600, .inl f1))]) [0, 5, 1, 2, 3, 4] (by decide +kernel) rfl
                  exact sk_vret hx hb hr hlocks hK hP hD hS (⟨xa, xv, (-2), xz, xf2_120, xp2_121, cl, mw, f1, by omega, by omega, by omega, by omega, by rw [← p_none htb hO c_1 c_2 c_3 c_28 (fun hq => absurd hq.1 (by omega)) hkx]; exact hO_123, rfl⟩) (Nat.le_of_ble_eq_true rfl) (Nat.le_of_ble_eq_true rfl) dX8_readPart_217
            · have c_77 : kn = 2 := (neq kn 2 (by omega) (by omega)).mp c_77
              refine lv_aload_n hx hb dX8_readPart_134 rfl (lv_at hl 1 rfl) ?_
              refine sk_get (v := .ref (q 2)) (C := RX8) (T := TX8) (N := 2) hx hb hts inlX8 hown hK hP 0 rfl rfl 0 (by decide) w_1_100 rfl dX8_readPart_135 ?_
              refine lv_sipush (v := 272) hx hb dX8_readPart_138 (by decide) ?_
              refine sk_ViZ (q0 := 0) (n := 1) (rest := []) (wr := [(u0, .inr (8, [.ref (q 2), .int (nI kn)])), (h0, .inr (0, [.ref k1, .ref k2, .ref k3, .ref k4, .int (nI cl), .int (nI mw)])), (k1, .inl (cI, 1600, .inl f1))]) ⟨hx, hb, hml, hown, hts⟩ hl.1 (c_erd_opens l D cI cJ cC cZ cS zk zv zf q xa xv xo xt xz xf xp tl tb 272 (rc og) (by omega) (by omega) (by omega) htb (by decide) (by omega) (hO).1) w_3_101 w_3_102 w_3_103 w_1_4 w_3_104 (by decide +kernel) ⟨⟨(by dsimp only; omega), (by dsimp only; omega)⟩, (by dsimp only; omega), (by dsimp only; omega)⟩ hK hP hD hS hZ hA [1, 2, 3] [0, 4, 5] rfl rfl (by decide +kernel) (by decide +kernel) (by decide +kernel) rfl rfl rfl rfl (Nat.le_of_ble_eq_true rfl) dX8_readPart_141 (fun r_132 u H locs hw hP hD hS => ?_)
              obtain ⟨xa2_125, xv2_126, xt2_127, xz2_128, xf2_129, xp2_130, b_131, hxa2_133, hxz2_134, hb1_135, hO2_136, rfl, rfl⟩ := hw
              have hP : va_P D vwCl [(u0, .inr (8, [.ref (q 2), .int (nI kn)])), (h0, .inr (0, [.ref k1, .ref k2, .ref k3, .ref k4, .int (nI cl), .int (nI mw)])), (k1, .inl (cI, 1600, .inl f1)), (q 2, .inr (6, [.ref (q 0), .int (nI xa2_125), .int xv2_126, .int (nI (xo + b_131)), .int xt2_127, .int (nI xz2_128), .int xf2_129, .int xp2_130])), (q 0, .inr (10, [.ref (q 20), .int (nI tl)])), (q 20, .inl (cI, 1600, .inl (fun j => nI (tb j))))] H := hP
              have hD : va_D A [(u0, .inr (8, [.ref (q 2), .int (nI kn)])), (h0, .inr (0, [.ref k1, .ref k2, .ref k3, .ref k4, .int (nI cl), .int (nI mw)])), (k1, .inl (cI, 1600, .inl f1)), (q 2, .inr (6, [.ref (q 0), .int (nI xa2_125), .int xv2_126, .int (nI (xo + b_131)), .int xt2_127, .int (nI xz2_128), .int xf2_129, .int xp2_130])), (q 0, .inr (10, [.ref (q 20), .int (nI tl)])), (q 20, .inl (cI, 1600, .inl (fun j => nI (tb j))))] := hD
              have hO_137 := rs_bd hO hO2_136
              have hL_138 := lenS_op (n := tl) (w := 272) (xo := xo) htb (by decide) hlen
              refine lv_if_eq (tgt := 217) hx hb dX8_readPart_144 (by decide) (fun c_139 => ?_) (fun c_139 => ?_)
              · have c_139 : b_131 = 0 := (neq b_131 0 (by omega) (by omega)).mp c_139
                obtain rfl : b_131 = 0 := by omega
                have hP := hP.sub (ws' := [(u0, .inr (8, [.ref (q 2), .int (nI kn)])), (q 2, .inr (6, [.ref (q 0), .int (nI xa2_125), .int xv2_126, .int (nI (xo + 0)), .int xt2_127, .int (nI xz2_128), .int xf2_129, .int xp2_130])), (q 0, .inr (10, [.ref (q 20), .int (nI tl)])), (q 20, .inl (cI, 1600, .inl (fun j => nI (tb j)))), (h0, .inr (0, [.ref k1, .ref k2, .ref k3, .ref k4, .int (nI cl), .int (nI mw)])), (k1, .inl (cI, 1600, .inl f1))]) [0, 3, 4, 5, 1, 2] rfl
                have hD := hD.sub (ws' := [(u0, .inr (8, [.ref (q 2), .int (nI kn)])), (q 2, .inr (6, [.ref (q 0), .int (nI xa2_125), .int xv2_126, .int (nI (xo + 0)), .int xt2_127, .int (nI xz2_128), .int xf2_129, .int xp2_130])), (q 0, .inr (10, [.ref (q 20), .int (nI tl)])), (q 20, .inl (cI, 1600, .inl (fun j => nI (tb j)))), (h0, .inr (0, [.ref k1, .ref k2, .ref k3, .ref k4, .int (nI cl), .int (nI mw)])), (k1, .inl (cI, 1600, .inl f1))]) [0, 3, 4, 5, 1, 2] (by decide +kernel) rfl
                exact sk_vret hx hb hr hlocks hK hP hD hS (⟨xa2_125, xv2_126, xt2_127, xz2_128, xf2_129, xp2_130, cl, mw, f1, by omega, by omega, by omega, by omega, by (have hk2 : kn = 2 := by omega); subst hk2; rw [← p_weeks0 (xo := xo) htb hO c_29 (rr_0 hb1_135 (by omega) c_29) (by have := rr_0 hb1_135 (by omega) c_29; omega)]; exact hO_137, rfl⟩) (Nat.le_of_ble_eq_true rfl) (Nat.le_of_ble_eq_true rfl) dX8_readPart_217
              · have c_139 : ¬ (b_131 = 0) := fun h => c_139 ((neq b_131 0 (by omega) (by omega)).mpr h)
                have hxo1 := (rr_1 hb1_135 (by omega)).1
                obtain rfl : b_131 = 1 := by omega
                refine lv_aload_n hx hb dX8_readPart_147 rfl (lv_at hl 1 rfl) ?_
                refine lv_aload_n hx hb dX8_readPart_148 rfl (lv_at hl 2 rfl) ?_
                refine sk_VvZ (q0 := 0) (n := 1) (rest := []) (wr := []) ⟨hx, hb, hml, hown, hts⟩ hl.1 (hp (dd - 1) (by omega) q u0 kn xa2_125 xv2_126 (xo + 1) xt2_127 xz2_128 xf2_129 xp2_130 tl tb h0 k1 k2 k3 k4 cl mw f1 (bd og (opF tb tl 272 xo)) (by omega) (by omega) (by omega) htb (by omega) (by omega) (by omega) (by omega) hO_137 (lenO_S hL_138)) w_3_92 w_3_94 w_0_8 w_1_6 w_3_95 (by decide +kernel) ⟨⟨(by dsimp only; omega), (by dsimp only; omega)⟩, (by dsimp only; omega), (by dsimp only; omega)⟩ hK hP hD hS hZ hA [0, 3, 4, 5, 1, 2] [] rfl rfl (by decide +kernel) (by decide +kernel) (by decide +kernel) rfl rfl rfl rfl (Nat.le_of_ble_eq_true rfl) dX8_readPart_149 (fun u H locs hw hP hD hS => ?_)
                obtain ⟨xa2_140, xv2_141, xt2_142, xz2_143, xf2_144, xp2_145, c2_146, w2_147, g1_148, hxa2_149, hxz2_150, hc2_151, hw2_152, hO2_153, rfl⟩ := hw
                have hP : va_P D vwCl [(u0, .inr (8, [.ref (q 2), .int (nI kn)])), (q 2, .inr (6, [.ref (q 0), .int (nI xa2_140), .int xv2_141, .int (nI (xo + 1)), .int xt2_142, .int (nI xz2_143), .int xf2_144, .int xp2_145])), (q 0, .inr (10, [.ref (q 20), .int (nI tl)])), (q 20, .inl (cI, 1600, .inl (fun j => nI (tb j)))), (h0, .inr (0, [.ref k1, .ref k2, .ref k3, .ref k4, .int (nI c2_146), .int (nI w2_147)])), (k1, .inl (cI, 1600, .inl g1_148))] H := hP
                have hD : va_D A [(u0, .inr (8, [.ref (q 2), .int (nI kn)])), (q 2, .inr (6, [.ref (q 0), .int (nI xa2_140), .int xv2_141, .int (nI (xo + 1)), .int xt2_142, .int (nI xz2_143), .int xf2_144, .int xp2_145])), (q 0, .inr (10, [.ref (q 20), .int (nI tl)])), (q 20, .inl (cI, 1600, .inl (fun j => nI (tb j)))), (h0, .inr (0, [.ref k1, .ref k2, .ref k3, .ref k4, .int (nI c2_146), .int (nI w2_147)])), (k1, .inl (cI, 1600, .inl g1_148))] := hD
                have hL_154 := lenS_ap (len_part (tb := tb) (n := tl) (kind := kn) (dd - 1)) hL_138
                refine lv_aload_n hx hb dX8_readPart_152 rfl (lv_at hl 2 rfl) ?_
                refine lv_sipush (v := 20000) hx hb dX8_readPart_153 (by decide) ?_
                refine sk_Vv (q0 := 0) (n := 1) (rest := []) (wr := [(u0, .inr (8, [.ref (q 2), .int (nI kn)])), (q 2, .inr (6, [.ref (q 0), .int (nI xa2_140), .int xv2_141, .int (nI (xo + 1)), .int xt2_142, .int (nI xz2_143), .int xf2_144, .int xp2_145])), (q 0, .inr (10, [.ref (q 20), .int (nI tl)])), (q 20, .inl (cI, 1600, .inl (fun j => nI (tb j))))]) ⟨hx, hb, hml, hown, hts⟩ hl.1 (c_eCode_addX l D cI cJ cC cZ cS h0 k1 k2 k3 k4 c2_146 w2_147 g1_148 20000 (bindR (bd og (opF tb tl 272 xo)) (apF (rdPart tb tl kn (dd - 1)))) 60 (by omega) (by omega) (by decide) (by omega) (hO2_153).2 (rm_S hO2_153 htl hL_154)) w_3_97 w_3_98 w_3_99 w_1_8 w_3_100 (by decide +kernel) ⟨⟨(by dsimp only; omega), (by dsimp only; omega)⟩, (by dsimp only; omega), (by dsimp only; omega)⟩ hK hP hD hS hA [4, 5] [0, 1, 2, 3] rfl rfl (by decide +kernel) (by decide +kernel) (by decide +kernel) rfl rfl rfl rfl (Nat.le_of_ble_eq_true rfl) dX8_readPart_156 (fun u H locs hw hP hD hS => ?_)
                obtain ⟨c2_155, w2_156, g1_157, hc2_158, hw2_159, hO2_160, rfl⟩ := hw
                have hP : va_P D vwCl [(u0, .inr (8, [.ref (q 2), .int (nI kn)])), (q 2, .inr (6, [.ref (q 0), .int (nI xa2_140), .int xv2_141, .int (nI (xo + 1)), .int xt2_142, .int (nI xz2_143), .int xf2_144, .int xp2_145])), (q 0, .inr (10, [.ref (q 20), .int (nI tl)])), (q 20, .inl (cI, 1600, .inl (fun j => nI (tb j)))), (h0, .inr (0, [.ref k1, .ref k2, .ref k3, .ref k4, .int (nI c2_155), .int (nI w2_156)])), (k1, .inl (cI, 1600, .inl g1_157))] H := hP
                have hD : va_D A [(u0, .inr (8, [.ref (q 2), .int (nI kn)])), (q 2, .inr (6, [.ref (q 0), .int (nI xa2_140), .int xv2_141, .int (nI (xo + 1)), .int xt2_142, .int (nI xz2_143), .int xf2_144, .int xp2_145])), (q 0, .inr (10, [.ref (q 20), .int (nI tl)])), (q 20, .inl (cI, 1600, .inl (fun j => nI (tb j)))), (h0, .inr (0, [.ref k1, .ref k2, .ref k3, .ref k4, .int (nI c2_155), .int (nI w2_156)])), (k1, .inl (cI, 1600, .inl g1_157))] := hD
                have hO_161 := rs_ad hO2_153 hO2_160
                have hL_162 := lenO_ad (v := 60) hL_154
                refine lv_aload_n hx hb dX8_readPart_159 rfl (lv_at hl 1 rfl) ?_
                refine sk_get (v := .ref (q 2)) (C := RX8) (T := TX8) (N := 2) hx hb hts inlX8 hown hK hP 0 rfl rfl 0 (by decide) w_1_100 rfl dX8_readPart_160 ?_
                refine sk_Vv (q0 := 0) (n := 0) (rest := []) (wr := [(u0, .inr (8, [.ref (q 2), .int (nI kn)])), (q 0, .inr (10, [.ref (q 20), .int (nI tl)])), (q 20, .inl (cI, 1600, .inl (fun j => nI (tb j)))), (h0, .inr (0, [.ref k1, .ref k2, .ref k3, .ref k4, .int (nI c2_155), .int (nI w2_156)])), (k1, .inl (cI, 1600, .inl g1_157))]) ⟨hx, hb, hml, hown, hts⟩ hl.1 (c_erd_shuts l D cI cJ cC cZ cS q xa2_140 xv2_141 (xo + 1) xt2_142 xz2_143 xf2_144 xp2_145 (by omega) (by omega)) w_3_105 w_3_106 w_3_107 w_1_4 w_3_108 (by decide +kernel) ⟨⟨(by dsimp only; omega), (by dsimp only; omega)⟩, (by dsimp only; omega), (by dsimp only; omega)⟩ hK hP hD hS hA [1] [0, 2, 3, 4, 5] rfl rfl (by decide +kernel) (by decide +kernel) (by decide +kernel) rfl rfl rfl rfl (Nat.le_of_ble_eq_true rfl) dX8_readPart_163 (fun u H locs hw hP hD hS => ?_)
                obtain rfl := hw
                have hP : va_P D vwCl [(u0, .inr (8, [.ref (q 2), .int (nI kn)])), (q 0, .inr (10, [.ref (q 20), .int (nI tl)])), (q 20, .inl (cI, 1600, .inl (fun j => nI (tb j)))), (h0, .inr (0, [.ref k1, .ref k2, .ref k3, .ref k4, .int (nI c2_155), .int (nI w2_156)])), (k1, .inl (cI, 1600, .inl g1_157)), (q 2, .inr (6, [.ref (q 0), .int (nI xa2_140), .int xv2_141, .int (nI ((xo + 1) - 1)), .int xt2_142, .int (nI xz2_143), .int xf2_144, .int xp2_145]))] H := hP
                have hD : va_D A [(u0, .inr (8, [.ref (q 2), .int (nI kn)])), (q 0, .inr (10, [.ref (q 20), .int (nI tl)])), (q 20, .inl (cI, 1600, .inl (fun j => nI (tb j)))), (h0, .inr (0, [.ref k1, .ref k2, .ref k3, .ref k4, .int (nI c2_155), .int (nI w2_156)])), (k1, .inl (cI, 1600, .inl g1_157)), (q 2, .inr (6, [.ref (q 0), .int (nI xa2_140), .int xv2_141, .int (nI ((xo + 1) - 1)), .int xt2_142, .int (nI xz2_143), .int xf2_144, .int xp2_145]))] := hD
                refine lv_goto (tgt := 217) hx hb dX8_readPart_166 (by decide) ?_
                have hP := hP.sub (ws' := [(u0, .inr (8, [.ref (q 2), .int (nI kn)])), (q 2, .inr (6, [.ref (q 0), .int (nI xa2_140), .int xv2_141, .int (nI ((xo + 1) - 1)), .int xt2_142, .int (nI xz2_143), .int xf2_144, .int xp2_145])), (q 0, .inr (10, [.ref (q 20), .int (nI tl)])), (q 20, .inl (cI, 1600, .inl (fun j => nI (tb j)))), (h0, .inr (0, [.ref k1, .ref k2, .ref k3, .ref k4, .int (nI c2_155), .int (nI w2_156)])), (k1, .inl (cI, 1600, .inl g1_157))]) [0, 5, 1, 2, 3, 4] rfl
                have hD := hD.sub (ws' := [(u0, .inr (8, [.ref (q 2), .int (nI kn)])), (q 2, .inr (6, [.ref (q 0), .int (nI xa2_140), .int xv2_141, .int (nI ((xo + 1) - 1)), .int xt2_142, .int (nI xz2_143), .int xf2_144, .int xp2_145])), (q 0, .inr (10, [.ref (q 20), .int (nI tl)])), (q 20, .inl (cI, 1600, .inl (fun j => nI (tb j)))), (h0, .inr (0, [.ref k1, .ref k2, .ref k3, .ref k4, .int (nI c2_155), .int (nI w2_156)])), (k1, .inl (cI, 1600, .inl g1_157))]) [0, 5, 1, 2, 3, 4] (by decide +kernel) rfl
                exact sk_vret hx hb hr hlocks hK hP hD hS (⟨xa2_140, xv2_141, xt2_142, xz2_143, xf2_144, xp2_145, c2_155, w2_156, g1_157, by omega, by omega, by omega, by omega, by (have hk2 : kn = 2 := by omega); subst hk2; rw [← p_weeks (xo := xo) htb hO c_29 (by omega) (by omega)]; exact hO_161, rfl⟩) (Nat.le_of_ble_eq_true rfl) (Nat.le_of_ble_eq_true rfl) dX8_readPart_217
        · skip
          refine lv_aload_n hx hb dX8_readPart_88 rfl (lv_at hl 1 rfl) ?_
          refine sk_get (v := .ref (q 2)) (C := RX8) (T := TX8) (N := 2) hx hb hts inlX8 hown hK hP 0 rfl rfl 0 (by decide) w_1_100 rfl dX8_readPart_89 ?_
          refine sk_VvZ (q0 := 0) (n := 0) (rest := []) (wr := [(u0, .inr (8, [.ref (q 2), .int (nI kn)])), (h0, .inr (0, [.ref k1, .ref k2, .ref k3, .ref k4, .int (nI cl), .int (nI mw)])), (k1, .inl (cI, 1600, .inl f1))]) ⟨hx, hb, hml, hown, hts⟩ hl.1 (c_erd_step l D cI cJ cC cZ cS zk zv zf q xa xv xo xt xz xf xp tl tb (bindR (rc og) (beF tb tl)) (by omega) (by omega) (by omega) htb (rd_st htb (hO).1 ⟨by rw [c_28]; decide, by rw [c_28]; decide⟩)) w_3_110 w_2_226 w_2_227 w_1_4 w_2_228 (by decide +kernel) ⟨⟨(by dsimp only; omega), (by dsimp only; omega)⟩, (by dsimp only; omega), (by dsimp only; omega)⟩ hK hP hD hS hZ hA [1, 2, 3] [0, 4, 5] rfl rfl (by decide +kernel) (by decide +kernel) (by decide +kernel) rfl rfl rfl rfl (Nat.le_of_ble_eq_true rfl) dX8_readPart_92 (fun u H locs hw hP hD hS => ?_)
          obtain ⟨xa2_163, xv2_164, xt2_165, xz2_166, hxa2_167, hxz2_168, hO2_169, rfl⟩ := hw
          have hP : va_P D vwCl [(u0, .inr (8, [.ref (q 2), .int (nI kn)])), (h0, .inr (0, [.ref k1, .ref k2, .ref k3, .ref k4, .int (nI cl), .int (nI mw)])), (k1, .inl (cI, 1600, .inl f1)), (q 2, .inr (6, [.ref (q 0), .int (nI xa2_163), .int xv2_164, .int (nI xo), .int xt2_165, .int (nI xz2_166), .int xf, .int xp])), (q 0, .inr (10, [.ref (q 20), .int (nI tl)])), (q 20, .inl (cI, 1600, .inl (fun j => nI (tb j))))] H := hP
          have hD : va_D A [(u0, .inr (8, [.ref (q 2), .int (nI kn)])), (h0, .inr (0, [.ref k1, .ref k2, .ref k3, .ref k4, .int (nI cl), .int (nI mw)])), (k1, .inl (cI, 1600, .inl f1)), (q 2, .inr (6, [.ref (q 0), .int (nI xa2_163), .int xv2_164, .int (nI xo), .int xt2_165, .int (nI xz2_166), .int xf, .int xp])), (q 0, .inr (10, [.ref (q 20), .int (nI tl)])), (q 20, .inl (cI, 1600, .inl (fun j => nI (tb j))))] := hD
          rw [stF_nx] at hO2_169
          have hO_170 := rs_bd hO hO2_169
          have hL_171 := lenS_nx htb hO ⟨by rw [c_28]; decide, by rw [c_28]; decide⟩ hlen
          refine lv_aload_n hx hb dX8_readPart_95 rfl (lv_at hl 1 rfl) ?_
          refine lv_aload_n hx hb dX8_readPart_96 rfl (lv_at hl 2 rfl) ?_
          refine lv_iload_n hx hb dX8_readPart_97 rfl (lv_at hl 0 rfl) ?_
          refine lv_sipush (v := 277) hx hb dX8_readPart_98 (by decide) ?_
          refine lv_icmp_ne (tgt := 110) hx hb dX8_readPart_101 (by decide) (fun c_172 => ?_) (fun c => absurd c c_3)
          refine lv_sipush (v := 30005) hx hb dX8_readPart_110 (by decide) ?_
          refine sk_VvZ (q0 := 0) (n := 2) (rest := []) (wr := []) ⟨hx, hb, hml, hown, hts⟩ hl.1 (hq q u0 kn xa2_163 xv2_164 xo xt2_165 xz2_166 xf xp tl tb h0 k1 k2 k3 k4 cl mw f1 (bd og (nxF tb tl)) 30005 6 (by omega) (by omega) (by omega) htb (by omega) (by omega) (by omega) (by omega) hO_170 (lenO_S hL_171) (by decide) (by omega)) w_3_111 w_3_113 w_0_9 w_1_6 w_3_114 (by decide +kernel) ⟨⟨(by dsimp only; omega), (by dsimp only; omega)⟩, (by dsimp only; omega), (by dsimp only; omega)⟩ hK hP hD hS hZ hA [0, 3, 4, 5, 1, 2] [] rfl rfl (by decide +kernel) (by decide +kernel) (by decide +kernel) rfl rfl rfl rfl (Nat.le_of_ble_eq_true rfl) dX8_readPart_113 (fun u H locs hw hP hD hS => ?_)
          obtain ⟨xa2_173, xv2_174, xt2_175, xz2_176, xf2_177, xp2_178, c2_179, w2_180, g1_181, hxa2_182, hxz2_183, hc2_184, hw2_185, hO2_186, rfl⟩ := hw
          have hP : va_P D vwCl [(u0, .inr (8, [.ref (q 2), .int (nI kn)])), (q 2, .inr (6, [.ref (q 0), .int (nI xa2_173), .int xv2_174, .int (nI xo), .int xt2_175, .int (nI xz2_176), .int xf2_177, .int xp2_178])), (q 0, .inr (10, [.ref (q 20), .int (nI tl)])), (q 20, .inl (cI, 1600, .inl (fun j => nI (tb j)))), (h0, .inr (0, [.ref k1, .ref k2, .ref k3, .ref k4, .int (nI c2_179), .int (nI w2_180)])), (k1, .inl (cI, 1600, .inl g1_181))] H := hP
          have hD : va_D A [(u0, .inr (8, [.ref (q 2), .int (nI kn)])), (q 2, .inr (6, [.ref (q 0), .int (nI xa2_173), .int xv2_174, .int (nI xo), .int xt2_175, .int (nI xz2_176), .int xf2_177, .int xp2_178])), (q 0, .inr (10, [.ref (q 20), .int (nI tl)])), (q 20, .inl (cI, 1600, .inl (fun j => nI (tb j)))), (h0, .inr (0, [.ref k1, .ref k2, .ref k3, .ref k4, .int (nI c2_179), .int (nI w2_180)])), (k1, .inl (cI, 1600, .inl g1_181))] := hD
          refine lv_goto (tgt := 217) hx hb dX8_readPart_116 (by decide) ?_
          exact sk_vret hx hb hr hlocks hK hP hD hS (⟨xa2_173, xv2_174, xt2_175, xz2_176, xf2_177, xp2_178, c2_179, w2_180, g1_181, by omega, by omega, by omega, by omega, by rw [← p_mm (v := 6) htb hO (Or.inr ⟨c_28, rfl⟩)]; exact hO2_186, rfl⟩) (Nat.le_of_ble_eq_true rfl) (Nat.le_of_ble_eq_true rfl) dX8_readPart_217
    · skip
      refine lv_aload_n hx hb dX8_readPart_38 rfl (lv_at hl 1 rfl) ?_
      refine sk_get (v := .ref (q 2)) (C := RX8) (T := TX8) (N := 2) hx hb hts inlX8 hown hK hP 0 rfl rfl 0 (by decide) w_1_100 rfl dX8_readPart_39 ?_
      refine lv_bipush (v := 40) hx hb dX8_readPart_42 (by decide) ?_
      refine sk_ViZ (q0 := 0) (n := 1) (rest := []) (wr := [(u0, .inr (8, [.ref (q 2), .int (nI kn)])), (h0, .inr (0, [.ref k1, .ref k2, .ref k3, .ref k4, .int (nI cl), .int (nI mw)])), (k1, .inl (cI, 1600, .inl f1))]) ⟨hx, hb, hml, hown, hts⟩ hl.1 (c_erd_opens l D cI cJ cC cZ cS zk zv zf q xa xv xo xt xz xf xp tl tb 40 (rc og) (by omega) (by omega) (by omega) htb (by decide) (by omega) (hO).1) w_3_101 w_3_102 w_3_103 w_1_4 w_3_104 (by decide +kernel) ⟨⟨(by dsimp only; omega), (by dsimp only; omega)⟩, (by dsimp only; omega), (by dsimp only; omega)⟩ hK hP hD hS hZ hA [1, 2, 3] [0, 4, 5] rfl rfl (by decide +kernel) (by decide +kernel) (by decide +kernel) rfl rfl rfl rfl (Nat.le_of_ble_eq_true rfl) dX8_readPart_44 (fun r_194 u H locs hw hP hD hS => ?_)
      obtain ⟨xa2_187, xv2_188, xt2_189, xz2_190, xf2_191, xp2_192, b_193, hxa2_195, hxz2_196, hb1_197, hO2_198, rfl, rfl⟩ := hw
      have hP : va_P D vwCl [(u0, .inr (8, [.ref (q 2), .int (nI kn)])), (h0, .inr (0, [.ref k1, .ref k2, .ref k3, .ref k4, .int (nI cl), .int (nI mw)])), (k1, .inl (cI, 1600, .inl f1)), (q 2, .inr (6, [.ref (q 0), .int (nI xa2_187), .int xv2_188, .int (nI (xo + b_193)), .int xt2_189, .int (nI xz2_190), .int xf2_191, .int xp2_192])), (q 0, .inr (10, [.ref (q 20), .int (nI tl)])), (q 20, .inl (cI, 1600, .inl (fun j => nI (tb j))))] H := hP
      have hD : va_D A [(u0, .inr (8, [.ref (q 2), .int (nI kn)])), (h0, .inr (0, [.ref k1, .ref k2, .ref k3, .ref k4, .int (nI cl), .int (nI mw)])), (k1, .inl (cI, 1600, .inl f1)), (q 2, .inr (6, [.ref (q 0), .int (nI xa2_187), .int xv2_188, .int (nI (xo + b_193)), .int xt2_189, .int (nI xz2_190), .int xf2_191, .int xp2_192])), (q 0, .inr (10, [.ref (q 20), .int (nI tl)])), (q 20, .inl (cI, 1600, .inl (fun j => nI (tb j))))] := hD
      have hO_199 := rs_bd hO hO2_198
      have hL_200 := lenS_op (n := tl) (w := 40) (xo := xo) htb (by decide) hlen
      refine lv_if_eq (tgt := 217) hx hb dX8_readPart_47 (by decide) (fun c_201 => ?_) (fun c_201 => ?_)
      · have c_201 : b_193 = 0 := (neq b_193 0 (by omega) (by omega)).mp c_201
        obtain rfl : b_193 = 0 := by omega
        have hP := hP.sub (ws' := [(u0, .inr (8, [.ref (q 2), .int (nI kn)])), (q 2, .inr (6, [.ref (q 0), .int (nI xa2_187), .int xv2_188, .int (nI (xo + 0)), .int xt2_189, .int (nI xz2_190), .int xf2_191, .int xp2_192])), (q 0, .inr (10, [.ref (q 20), .int (nI tl)])), (q 20, .inl (cI, 1600, .inl (fun j => nI (tb j)))), (h0, .inr (0, [.ref k1, .ref k2, .ref k3, .ref k4, .int (nI cl), .int (nI mw)])), (k1, .inl (cI, 1600, .inl f1))]) [0, 3, 4, 5, 1, 2] rfl
        have hD := hD.sub (ws' := [(u0, .inr (8, [.ref (q 2), .int (nI kn)])), (q 2, .inr (6, [.ref (q 0), .int (nI xa2_187), .int xv2_188, .int (nI (xo + 0)), .int xt2_189, .int (nI xz2_190), .int xf2_191, .int xp2_192])), (q 0, .inr (10, [.ref (q 20), .int (nI tl)])), (q 20, .inl (cI, 1600, .inl (fun j => nI (tb j)))), (h0, .inr (0, [.ref k1, .ref k2, .ref k3, .ref k4, .int (nI cl), .int (nI mw)])), (k1, .inl (cI, 1600, .inl f1))]) [0, 3, 4, 5, 1, 2] (by decide +kernel) rfl
        exact sk_vret hx hb hr hlocks hK hP hD hS (⟨xa2_187, xv2_188, xt2_189, xz2_190, xf2_191, xp2_192, cl, mw, f1, by omega, by omega, by omega, by omega, by rw [← p_round0 (xo := xo) htb hO c_2 (rr_0 hb1_197 (by omega) c_2) (by have := rr_0 hb1_197 (by omega) c_2; omega)]; exact hO_199, rfl⟩) (Nat.le_of_ble_eq_true rfl) (Nat.le_of_ble_eq_true rfl) dX8_readPart_217
      · have c_201 : ¬ (b_193 = 0) := fun h => c_201 ((neq b_193 0 (by omega) (by omega)).mpr h)
        have hxo1 := (rr_1 hb1_197 (by omega)).1
        obtain rfl : b_193 = 1 := by omega
        refine lv_aload_n hx hb dX8_readPart_50 rfl (lv_at hl 1 rfl) ?_
        refine lv_aload_n hx hb dX8_readPart_51 rfl (lv_at hl 2 rfl) ?_
        refine sk_VvZ (q0 := 0) (n := 1) (rest := []) (wr := []) ⟨hx, hb, hml, hown, hts⟩ hl.1 (hs (dd - 1) (by omega) q u0 kn xa2_187 xv2_188 (xo + 1) xt2_189 xz2_190 xf2_191 xp2_192 tl tb h0 k1 k2 k3 k4 cl mw f1 (bd og (opF tb tl 40 xo)) (by omega) (by omega) (by omega) htb (by omega) (by omega) (by omega) (by omega) hO_199 (lenO_S hL_200)) w_3_84 w_3_86 w_0_6 w_1_6 w_3_87 (by decide +kernel) ⟨⟨(by dsimp only; omega), (by dsimp only; omega)⟩, (by dsimp only; omega), (by dsimp only; omega)⟩ hK hP hD hS hZ hA [0, 3, 4, 5, 1, 2] [] rfl rfl (by decide +kernel) (by decide +kernel) (by decide +kernel) rfl rfl rfl rfl (Nat.le_of_ble_eq_true rfl) dX8_readPart_52 (fun u H locs hw hP hD hS => ?_)
        obtain ⟨xa2_202, xv2_203, xt2_204, xz2_205, xf2_206, xp2_207, c2_208, w2_209, g1_210, hxa2_211, hxz2_212, hc2_213, hw2_214, hO2_215, rfl⟩ := hw
        have hP : va_P D vwCl [(u0, .inr (8, [.ref (q 2), .int (nI kn)])), (q 2, .inr (6, [.ref (q 0), .int (nI xa2_202), .int xv2_203, .int (nI (xo + 1)), .int xt2_204, .int (nI xz2_205), .int xf2_206, .int xp2_207])), (q 0, .inr (10, [.ref (q 20), .int (nI tl)])), (q 20, .inl (cI, 1600, .inl (fun j => nI (tb j)))), (h0, .inr (0, [.ref k1, .ref k2, .ref k3, .ref k4, .int (nI c2_208), .int (nI w2_209)])), (k1, .inl (cI, 1600, .inl g1_210))] H := hP
        have hD : va_D A [(u0, .inr (8, [.ref (q 2), .int (nI kn)])), (q 2, .inr (6, [.ref (q 0), .int (nI xa2_202), .int xv2_203, .int (nI (xo + 1)), .int xt2_204, .int (nI xz2_205), .int xf2_206, .int xp2_207])), (q 0, .inr (10, [.ref (q 20), .int (nI tl)])), (q 20, .inl (cI, 1600, .inl (fun j => nI (tb j)))), (h0, .inr (0, [.ref k1, .ref k2, .ref k3, .ref k4, .int (nI c2_208), .int (nI w2_209)])), (k1, .inl (cI, 1600, .inl g1_210))] := hD
        have hL_216 := lenS_ap (len_sum (tb := tb) (n := tl) (len_part (tb := tb) (n := tl) (kind := kn) (dd - 1))) hL_200
        refine lv_aload_n hx hb dX8_readPart_55 rfl (lv_at hl 1 rfl) ?_
        refine sk_get (v := .ref (q 2)) (C := RX8) (T := TX8) (N := 2) hx hb hts inlX8 hown hK hP 0 rfl rfl 0 (by decide) w_1_100 rfl dX8_readPart_56 ?_
        refine sk_Vv (q0 := 0) (n := 0) (rest := []) (wr := [(u0, .inr (8, [.ref (q 2), .int (nI kn)])), (q 0, .inr (10, [.ref (q 20), .int (nI tl)])), (q 20, .inl (cI, 1600, .inl (fun j => nI (tb j)))), (h0, .inr (0, [.ref k1, .ref k2, .ref k3, .ref k4, .int (nI c2_208), .int (nI w2_209)])), (k1, .inl (cI, 1600, .inl g1_210))]) ⟨hx, hb, hml, hown, hts⟩ hl.1 (c_erd_shuts l D cI cJ cC cZ cS q xa2_202 xv2_203 (xo + 1) xt2_204 xz2_205 xf2_206 xp2_207 (by omega) (by omega)) w_3_105 w_3_106 w_3_107 w_1_4 w_3_108 (by decide +kernel) ⟨⟨(by dsimp only; omega), (by dsimp only; omega)⟩, (by dsimp only; omega), (by dsimp only; omega)⟩ hK hP hD hS hA [1] [0, 2, 3, 4, 5] rfl rfl (by decide +kernel) (by decide +kernel) (by decide +kernel) rfl rfl rfl rfl (Nat.le_of_ble_eq_true rfl) dX8_readPart_59 (fun u H locs hw hP hD hS => ?_)
        obtain rfl := hw
        have hP : va_P D vwCl [(u0, .inr (8, [.ref (q 2), .int (nI kn)])), (q 0, .inr (10, [.ref (q 20), .int (nI tl)])), (q 20, .inl (cI, 1600, .inl (fun j => nI (tb j)))), (h0, .inr (0, [.ref k1, .ref k2, .ref k3, .ref k4, .int (nI c2_208), .int (nI w2_209)])), (k1, .inl (cI, 1600, .inl g1_210)), (q 2, .inr (6, [.ref (q 0), .int (nI xa2_202), .int xv2_203, .int (nI ((xo + 1) - 1)), .int xt2_204, .int (nI xz2_205), .int xf2_206, .int xp2_207]))] H := hP
        have hD : va_D A [(u0, .inr (8, [.ref (q 2), .int (nI kn)])), (q 0, .inr (10, [.ref (q 20), .int (nI tl)])), (q 20, .inl (cI, 1600, .inl (fun j => nI (tb j)))), (h0, .inr (0, [.ref k1, .ref k2, .ref k3, .ref k4, .int (nI c2_208), .int (nI w2_209)])), (k1, .inl (cI, 1600, .inl g1_210)), (q 2, .inr (6, [.ref (q 0), .int (nI xa2_202), .int xv2_203, .int (nI ((xo + 1) - 1)), .int xt2_204, .int (nI xz2_205), .int xf2_206, .int xp2_207]))] := hD
        refine lv_aload_n hx hb dX8_readPart_62 rfl (lv_at hl 1 rfl) ?_
        refine sk_get (v := .ref (q 2)) (C := RX8) (T := TX8) (N := 2) hx hb hts inlX8 hown hK hP 0 rfl rfl 0 (by decide) w_1_100 rfl dX8_readPart_63 ?_
        refine lv_bipush (v := 41) hx hb dX8_readPart_66 (by decide) ?_
        refine sk_VvZ (q0 := 0) (n := 1) (rest := []) (wr := [(u0, .inr (8, [.ref (q 2), .int (nI kn)])), (h0, .inr (0, [.ref k1, .ref k2, .ref k3, .ref k4, .int (nI c2_208), .int (nI w2_209)])), (k1, .inl (cI, 1600, .inl g1_210))]) ⟨hx, hb, hml, hown, hts⟩ hl.1 (c_erd_needs l D cI cJ cC cZ cS zk zv zf q xa2_202 xv2_203 ((xo + 1) - 1) xt2_204 xz2_205 xf2_206 xp2_207 tl tb 41 (rc (bindR (bd og (opF tb tl 40 xo)) (apF (sumOf tb tl (rdPart tb tl kn (dd - 1)))))) (by omega) (by omega) (by omega) htb (by decide) (hO2_215).1) w_3_109 w_3_51 w_3_52 w_1_4 w_3_53 (by decide +kernel) ⟨⟨(by dsimp only; omega), (by dsimp only; omega)⟩, (by dsimp only; omega), (by dsimp only; omega)⟩ hK hP hD hS hZ hA [5, 1, 2] [0, 3, 4] rfl rfl (by decide +kernel) (by decide +kernel) (by decide +kernel) rfl rfl rfl rfl (Nat.le_of_ble_eq_true rfl) dX8_readPart_68 (fun u H locs hw hP hD hS => ?_)
        obtain ⟨xa2_217, xv2_218, xt2_219, xz2_220, xf2_221, xp2_222, hxa2_223, hxz2_224, hO2_225, rfl⟩ := hw
        have hP : va_P D vwCl [(u0, .inr (8, [.ref (q 2), .int (nI kn)])), (h0, .inr (0, [.ref k1, .ref k2, .ref k3, .ref k4, .int (nI c2_208), .int (nI w2_209)])), (k1, .inl (cI, 1600, .inl g1_210)), (q 2, .inr (6, [.ref (q 0), .int (nI xa2_217), .int xv2_218, .int (nI ((xo + 1) - 1)), .int xt2_219, .int (nI xz2_220), .int xf2_221, .int xp2_222])), (q 0, .inr (10, [.ref (q 20), .int (nI tl)])), (q 20, .inl (cI, 1600, .inl (fun j => nI (tb j))))] H := hP
        have hD : va_D A [(u0, .inr (8, [.ref (q 2), .int (nI kn)])), (h0, .inr (0, [.ref k1, .ref k2, .ref k3, .ref k4, .int (nI c2_208), .int (nI w2_209)])), (k1, .inl (cI, 1600, .inl g1_210)), (q 2, .inr (6, [.ref (q 0), .int (nI xa2_217), .int xv2_218, .int (nI ((xo + 1) - 1)), .int xt2_219, .int (nI xz2_220), .int xf2_221, .int xp2_222])), (q 0, .inr (10, [.ref (q 20), .int (nI tl)])), (q 20, .inl (cI, 1600, .inl (fun j => nI (tb j))))] := hD
        have hO_226 := rs_bd hO2_215 hO2_225
        have hL_227 := lenS_bd (fwd_tk (tb := tb) (n := tl) (w := 41)) hL_216
        refine lv_goto (tgt := 217) hx hb dX8_readPart_71 (by decide) ?_
        have hP := hP.sub (ws' := [(u0, .inr (8, [.ref (q 2), .int (nI kn)])), (q 2, .inr (6, [.ref (q 0), .int (nI xa2_217), .int xv2_218, .int (nI ((xo + 1) - 1)), .int xt2_219, .int (nI xz2_220), .int xf2_221, .int xp2_222])), (q 0, .inr (10, [.ref (q 20), .int (nI tl)])), (q 20, .inl (cI, 1600, .inl (fun j => nI (tb j)))), (h0, .inr (0, [.ref k1, .ref k2, .ref k3, .ref k4, .int (nI c2_208), .int (nI w2_209)])), (k1, .inl (cI, 1600, .inl g1_210))]) [0, 3, 4, 5, 1, 2] rfl
        have hD := hD.sub (ws' := [(u0, .inr (8, [.ref (q 2), .int (nI kn)])), (q 2, .inr (6, [.ref (q 0), .int (nI xa2_217), .int xv2_218, .int (nI ((xo + 1) - 1)), .int xt2_219, .int (nI xz2_220), .int xf2_221, .int xp2_222])), (q 0, .inr (10, [.ref (q 20), .int (nI tl)])), (q 20, .inl (cI, 1600, .inl (fun j => nI (tb j)))), (h0, .inr (0, [.ref k1, .ref k2, .ref k3, .ref k4, .int (nI c2_208), .int (nI w2_209)])), (k1, .inl (cI, 1600, .inl g1_210))]) [0, 3, 4, 5, 1, 2] (by decide +kernel) rfl
        exact sk_vret hx hb hr hlocks hK hP hD hS (⟨xa2_217, xv2_218, xt2_219, xz2_220, xf2_221, xp2_222, c2_208, w2_209, g1_210, by omega, by omega, by omega, by omega, by rw [← p_round (xo := xo) htb hO c_2 (by omega) (by omega)]; exact hO_226, rfl⟩) (Nat.le_of_ble_eq_true rfl) (Nat.le_of_ble_eq_true rfl) dX8_readPart_217
  · skip
    refine lv_aload_n hx hb dX8_readPart_14 rfl (lv_at hl 2 rfl) ?_
    refine lv_aload_n hx hb dX8_readPart_15 rfl (lv_at hl 1 rfl) ?_
    refine sk_get (v := .ref (q 2)) (C := RX8) (T := TX8) (N := 2) hx hb hts inlX8 hown hK hP 0 rfl rfl 0 (by decide) w_1_100 rfl dX8_readPart_16 ?_
    refine lv_iconst (v := 0) hx hb dX8_readPart_19 (by decide) ?_
    refine lv_sipush (v := 9999) hx hb dX8_readPart_20 (by decide) ?_
    refine sk_ViZ (q0 := 0) (n := 2) (rest := [.ref h0]) (wr := [(u0, .inr (8, [.ref (q 2), .int (nI kn)])), (h0, .inr (0, [.ref k1, .ref k2, .ref k3, .ref k4, .int (nI cl), .int (nI mw)])), (k1, .inl (cI, 1600, .inl f1))]) ⟨hx, hb, hml, hown, hts⟩ hl.1 (c_erd_takeNumber l D cI cJ cC cZ cS zk zv zf q xa xv xo xt xz xf xp tl tb 0 9999 (rc og) (by omega) (by omega) (by omega) htb (by omega) (by omega) (hO).1) w_3_96 w_3_63 w_3_64 w_1_4 w_3_65 (by decide +kernel) ⟨⟨(by dsimp only; omega), (by dsimp only; omega)⟩, (by dsimp only; omega), (by dsimp only; omega)⟩ hK hP hD hS hZ hA [1, 2, 3] [0, 4, 5] rfl rfl (by decide +kernel) (by decide +kernel) (by decide +kernel) rfl rfl rfl rfl (Nat.le_of_ble_eq_true rfl) dX8_readPart_23 (fun r_235 u H locs hw hP hD hS => ?_)
    obtain ⟨xa2_228, xv2_229, xt2_230, xz2_231, xf2_232, xp2_233, v_234, hxa2_236, hxz2_237, hv1_238, hv2_239, hnv_240, hO2_241, rfl, rfl⟩ := hw
    have hP : va_P D vwCl [(u0, .inr (8, [.ref (q 2), .int (nI kn)])), (h0, .inr (0, [.ref k1, .ref k2, .ref k3, .ref k4, .int (nI cl), .int (nI mw)])), (k1, .inl (cI, 1600, .inl f1)), (q 2, .inr (6, [.ref (q 0), .int (nI xa2_228), .int xv2_229, .int (nI xo), .int xt2_230, .int (nI xz2_231), .int xf2_232, .int xp2_233])), (q 0, .inr (10, [.ref (q 20), .int (nI tl)])), (q 20, .inl (cI, 1600, .inl (fun j => nI (tb j))))] H := hP
    have hD : va_D A [(u0, .inr (8, [.ref (q 2), .int (nI kn)])), (h0, .inr (0, [.ref k1, .ref k2, .ref k3, .ref k4, .int (nI cl), .int (nI mw)])), (k1, .inl (cI, 1600, .inl f1)), (q 2, .inr (6, [.ref (q 0), .int (nI xa2_228), .int xv2_229, .int (nI xo), .int xt2_230, .int (nI xz2_231), .int xf2_232, .int xp2_233])), (q 0, .inr (10, [.ref (q 20), .int (nI tl)])), (q 20, .inl (cI, 1600, .inl (fun j => nI (tb j))))] := hD
    have hO_242 := rs_bd hO hO2_241
    have hL_243 := lenS_nm (tb := tb) (n := tl) (lo := 0) (hi := 9999) hlen
    refine sk_Vv (q0 := 0) (n := 1) (rest := []) (wr := [(u0, .inr (8, [.ref (q 2), .int (nI kn)])), (q 2, .inr (6, [.ref (q 0), .int (nI xa2_228), .int xv2_229, .int (nI xo), .int xt2_230, .int (nI xz2_231), .int xf2_232, .int xp2_233])), (q 0, .inr (10, [.ref (q 20), .int (nI tl)])), (q 20, .inl (cI, 1600, .inl (fun j => nI (tb j))))]) ⟨hx, hb, hml, hown, hts⟩ hl.1 (c_eCode_addX l D cI cJ cC cZ cS h0 k1 k2 k3 k4 cl mw f1 (nI v_234) (bd og (nmF tb tl 0 9999)) (1000 + v_234) (by omega) (by omega) (cm_num v_234) (by omega) (hO_242).2 (rm_S hO_242 htl hL_243)) w_3_97 w_3_98 w_3_99 w_1_8 w_3_100 (by decide +kernel) ⟨⟨(by dsimp only; omega), (by dsimp only; omega)⟩, (by dsimp only; omega), (by dsimp only; omega)⟩ hK hP hD hS hA [1, 2] [0, 3, 4, 5] rfl rfl (by decide +kernel) (by decide +kernel) (by decide +kernel) rfl rfl rfl rfl (Nat.le_of_ble_eq_true rfl) dX8_readPart_26 (fun u H locs hw hP hD hS => ?_)
    obtain ⟨c2_244, w2_245, g1_246, hc2_247, hw2_248, hO2_249, rfl⟩ := hw
    have hP : va_P D vwCl [(u0, .inr (8, [.ref (q 2), .int (nI kn)])), (q 2, .inr (6, [.ref (q 0), .int (nI xa2_228), .int xv2_229, .int (nI xo), .int xt2_230, .int (nI xz2_231), .int xf2_232, .int xp2_233])), (q 0, .inr (10, [.ref (q 20), .int (nI tl)])), (q 20, .inl (cI, 1600, .inl (fun j => nI (tb j)))), (h0, .inr (0, [.ref k1, .ref k2, .ref k3, .ref k4, .int (nI c2_244), .int (nI w2_245)])), (k1, .inl (cI, 1600, .inl g1_246))] H := hP
    have hD : va_D A [(u0, .inr (8, [.ref (q 2), .int (nI kn)])), (q 2, .inr (6, [.ref (q 0), .int (nI xa2_228), .int xv2_229, .int (nI xo), .int xt2_230, .int (nI xz2_231), .int xf2_232, .int xp2_233])), (q 0, .inr (10, [.ref (q 20), .int (nI tl)])), (q 20, .inl (cI, 1600, .inl (fun j => nI (tb j)))), (h0, .inr (0, [.ref k1, .ref k2, .ref k3, .ref k4, .int (nI c2_244), .int (nI w2_245)])), (k1, .inl (cI, 1600, .inl g1_246))] := hD
    have hO_250 := rs_ad hO_242 hO2_249
    have hL_251 := lenO_ad (v := 1000 + v_234) hL_243
    refine lv_goto (tgt := 217) hx hb dX8_readPart_29 (by decide) ?_
    exact sk_vret hx hb hr hlocks hK hP hD hS (⟨xa2_228, xv2_229, xt2_230, xz2_231, xf2_232, xp2_233, c2_244, w2_245, g1_246, by omega, by omega, by omega, by omega, by rw [← p_num (v := v_234) htb hO c_1 hnv_240]; exact hO_250, rfl⟩) (Nat.le_of_ble_eq_true rfl) (Nat.le_of_ble_eq_true rfl) dX8_readPart_217
set_option maxHeartbeats 4000000 in
set_option maxRecDepth 100000 in
theorem c_ereadProduct (l : Launch) (D : va_G) (cI cJ cC cZ cS : ClassId) (zk zv : Nat) (zf : Value) (dd : Nat) (hq : CT_ereadPart l D cI cJ cC cZ cS zk zv zf dd) : CT_ereadProduct l D cI cJ cC cZ cS zk zv zf dd := by
  intro q u0 kn xa xv xo xt xz xf xp tl tb h0 k1 k2 k3 k4 cl mw f1 og hxa hxz htl htb hcl hmw hkn hdd hO hlen
  refine skMZ_of (by decide +kernel) (Nat.le_of_ble_eq_true rfl) ?_
  intro p e s m below meth c A ls E hP hD hZ hl
  obtain ⟨hx, hb, hr, hml, hlocks, hin, hown, hts, hK, hA⟩ := E
  have hown : s.vm.findClass RX8 = some m.cls := hown
  have hS : va_S A s.heap s.heap [] := va_S.rf
  have hl : lv_has ls 4 [(0, .ref u0), (1, .ref h0)] := hl
  refine lv_aload_n hx hb dX8_readProduct_0 rfl (lv_at hl 0 rfl) ?_
  refine lv_aload_n hx hb dX8_readProduct_1 rfl (lv_at hl 1 rfl) ?_
  refine sk_VvZ (q0 := 0) (n := 1) (rest := []) (wr := []) ⟨hx, hb, hml, hown, hts⟩ hl.1 (hq q u0 kn xa xv xo xt xz xf xp tl tb h0 k1 k2 k3 k4 cl mw f1 og (by omega) (by omega) (by omega) htb (by omega) (by omega) (by omega) (by omega) hO hlen) w_3_92 w_3_94 w_0_8 w_1_6 w_3_95 (by decide +kernel) ⟨⟨(by dsimp only; omega), (by dsimp only; omega)⟩, (by dsimp only; omega), (by dsimp only; omega)⟩ hK hP hD hS hZ hA [0, 1, 2, 3, 4, 5] [] rfl rfl (by decide +kernel) (by decide +kernel) (by decide +kernel) rfl rfl rfl rfl (Nat.le_of_ble_eq_true rfl) dX8_readProduct_2 (fun u H locs hw hP hD hS => ?_)
  obtain ⟨xa2_1, xv2_2, xt2_3, xz2_4, xf2_5, xp2_6, c2_7, w2_8, g1_9, hxa2_10, hxz2_11, hc2_12, hw2_13, hO2_14, rfl⟩ := hw
  have hP : va_P D vwCl [(u0, .inr (8, [.ref (q 2), .int (nI kn)])), (q 2, .inr (6, [.ref (q 0), .int (nI xa2_1), .int xv2_2, .int (nI xo), .int xt2_3, .int (nI xz2_4), .int xf2_5, .int xp2_6])), (q 0, .inr (10, [.ref (q 20), .int (nI tl)])), (q 20, .inl (cI, 1600, .inl (fun j => nI (tb j)))), (h0, .inr (0, [.ref k1, .ref k2, .ref k3, .ref k4, .int (nI c2_7), .int (nI w2_8)])), (k1, .inl (cI, 1600, .inl g1_9))] H := hP
  have hD : va_D A [(u0, .inr (8, [.ref (q 2), .int (nI kn)])), (q 2, .inr (6, [.ref (q 0), .int (nI xa2_1), .int xv2_2, .int (nI xo), .int xt2_3, .int (nI xz2_4), .int xf2_5, .int xp2_6])), (q 0, .inr (10, [.ref (q 20), .int (nI tl)])), (q 20, .inl (cI, 1600, .inl (fun j => nI (tb j)))), (h0, .inr (0, [.ref k1, .ref k2, .ref k3, .ref k4, .int (nI c2_7), .int (nI w2_8)])), (k1, .inl (cI, 1600, .inl g1_9))] := hD
  have hL_15 := lenO_ap (len_part (tb := tb) (n := tl) (kind := kn) dd) hlen
  refine lv_iconst (v := 0) hx hb dX8_readProduct_5 (by decide) ?_
  refine lv_istore_n (lv' := [(2, .int 0), (0, .ref u0), (1, .ref h0)]) hx hb dX8_readProduct_6 rfl hl (by decide) rfl (fun ls hl => ?_)
  have lp_16 : ∀ (n_17 : Nat) (i : Nat) (za : Nat) (zw : Int32) (zt : Int32) (zz : Nat) (zg : Int32) (zp : Int32) (yc : Nat) (yw : Nat) (yf : Nat → Int32) (zo : Res) (H : Heap) (locs : List Loc) (ls : Array Slot), 1600 - i < n_17 → (rsO tb tl zo za zw zt zz zg zp yc yw yf) → (i ≤ 1600) → (za ≤ 1600) → (zz ≤ 1600) → (yc ≤ 1600) → (yw ≤ 1) → (lenO zo) → (iO i zo) → (bindR zo (fun r => mulLp tb tl (rdPart tb tl kn dd) (tl + 2) r.1 r.2) = bindR og (apF (prodOf tb tl (rdPart tb tl kn dd)))) → va_P D vwCl [(u0, .inr (8, [.ref (q 2), .int (nI kn)])), (q 2, .inr (6, [.ref (q 0), .int (nI za), .int zw, .int (nI xo), .int zt, .int (nI zz), .int zg, .int zp])), (q 0, .inr (10, [.ref (q 20), .int (nI tl)])), (q 20, .inl (cI, 1600, .inl (fun j => nI (tb j)))), (h0, .inr (0, [.ref k1, .ref k2, .ref k3, .ref k4, .int (nI yc), .int (nI yw)])), (k1, .inl (cI, 1600, .inl yf))] H → va_D A [(u0, .inr (8, [.ref (q 2), .int (nI kn)])), (q 2, .inr (6, [.ref (q 0), .int (nI za), .int zw, .int (nI xo), .int zt, .int (nI zz), .int zg, .int zp])), (q 0, .inr (10, [.ref (q 20), .int (nI tl)])), (q 20, .inl (cI, 1600, .inl (fun j => nI (tb j)))), (h0, .inr (0, [.ref k1, .ref k2, .ref k3, .ref k4, .int (nI yc), .int (nI yw)])), (k1, .inl (cI, 1600, .inl yf))] → va_S A s.heap H locs → lv_has ls 4 [(2, .int (nI i)), (0, .ref u0), (1, .ref h0)] → W p l e { frames := 22 + 5 * dd, cells := 0, slots := 0, locals := 650 + 100 * dd } s m ([.ref u0, .ref h0] : List Value).toArray below meth c H locs 0 0 (MQ below (skV D (skT cI cJ cC cZ cS) (fun (u : va_W) => ∃ (xa2 : Nat), ∃ (xv2 : Int32), ∃ (xt2 : Int32), ∃ (xz2 : Nat), ∃ (xf2 : Int32), ∃ (xp2 : Int32), ∃ (c2 : Nat), ∃ (w2 : Nat), ∃ (g1 : Nat → Int32), xa2 ≤ 1600 ∧ xz2 ≤ 1600 ∧ c2 ≤ 1600 ∧ w2 ≤ 1 ∧ rsO tb tl (bindR og (apF (prodOf tb tl (rdPart tb tl kn dd)))) xa2 xv2 xt2 xz2 xf2 xp2 c2 w2 g1 ∧ u = [(u0, .inr (8, [.ref (q 2), .int (nI kn)])), (q 2, .inr (6, [.ref (q 0), .int (nI xa2), .int xv2, .int (nI xo), .int xt2, .int (nI xz2), .int xf2, .int xp2])), (q 0, .inr (10, [.ref (q 20), .int (nI tl)])), (q 20, .inl (cI, 1600, .inl (fun j => nI (tb j)))), (h0, .inr (0, [.ref k1, .ref k2, .ref k3, .ref k4, .int (nI c2), .int (nI w2)])), (k1, .inl (cI, 1600, .inl g1))]) A) ([.ref u0, .ref h0] : List Value).toArray s 0 0 A) (F0 m 7 ls []) := by
    intro n_17
    induction n_17 with
    | zero => intro i za zw zt zz zg zp yc yw yf zo H locs ls hm; exact absurd hm (Nat.not_lt_zero _)
    | succ n_17 ih_lp_16 =>
      intro i za zw zt zz zg zp yc yw yf zo H locs ls hm hzO hi hza hzz hyc hyw hzl hiO hrem hP hD hS hl
      refine lv_iload_n hx hb dX8_readProduct_7 rfl (lv_at hl 0 rfl) ?_
      refine lv_sipush (v := 1600) hx hb dX8_readProduct_8 (by decide) ?_
      refine lv_icmp_ge (tgt := 83) hx hb dX8_readProduct_11 (by decide) (fun c_18 => ?_) (fun c_18 => ?_)
      · have c_18 : 1600 ≤ i := (nle 1600 i (by omega) (by omega)).mp c_18
        exact sk_vret hx hb hr hlocks hK hP hD hS (⟨za, zw, zt, zz, zg, zp, yc, yw, yf, by omega, by omega, by omega, by omega, prod_e htb hzO htl hiO (Or.inl (by omega)) hrem, rfl⟩) (Nat.le_of_ble_eq_true rfl) (Nat.le_of_ble_eq_true rfl) dX8_readProduct_83
      · have c_18 : ¬ (1600 ≤ i) := fun h => c_18 ((nle 1600 i (by omega) (by omega)).mpr h)
        refine lv_aload_n hx hb dX8_readProduct_14 rfl (lv_at hl 1 rfl) ?_
        refine sk_get (v := .ref (q 2)) (C := RX8) (T := TX8) (N := 2) hx hb hts inlX8 hown hK hP 0 rfl rfl 0 (by decide) w_1_100 rfl dX8_readProduct_15 ?_
        refine sk_get (v := .int zt) (C := RX6) (T := TX6) (N := 8) hx hb hts inlX6 hown hK hP 1 rfl rfl 4 (by decide) w_1_63 rfl dX8_readProduct_18 ?_
        refine lv_bipush (v := 42) hx hb dX8_readProduct_21 (by decide) ?_
        refine lv_icmp_eq (tgt := 38) hx hb dX8_readProduct_23 (by decide) (fun c_19 => ?_) (fun c_19 => ?_)
        · skip
          refine lv_aload_n hx hb dX8_readProduct_38 rfl (lv_at hl 1 rfl) ?_
          refine sk_get (v := .ref (q 2)) (C := RX8) (T := TX8) (N := 2) hx hb hts inlX8 hown hK hP 0 rfl rfl 0 (by decide) w_1_100 rfl dX8_readProduct_39 ?_
          refine sk_get (v := .int zt) (C := RX6) (T := TX6) (N := 8) hx hb hts inlX6 hown hK hP 1 rfl rfl 4 (by decide) w_1_63 rfl dX8_readProduct_42 ?_
          refine lv_bipush (v := 42) hx hb dX8_readProduct_45 (by decide) ?_
          refine lv_icmp_ne (tgt := 56) hx hb dX8_readProduct_47 (by decide) (fun c => absurd c_19 c) (fun c_20 => ?_)
          refine lv_sipush (v := 30002) hx hb dX8_readProduct_50 (by decide) ?_
          refine lv_goto (tgt := 59) hx hb dX8_readProduct_53 (by decide) ?_
          refine lv_istore_n (lv' := [(3, .int 30002), (2, .int (nI i)), (0, .ref u0), (1, .ref h0)]) hx hb dX8_readProduct_59 rfl hl (by decide) rfl (fun ls hl => ?_)
          refine lv_aload_n hx hb dX8_readProduct_60 rfl (lv_at hl 2 rfl) ?_
          refine sk_get (v := .ref (q 2)) (C := RX8) (T := TX8) (N := 2) hx hb hts inlX8 hown hK hP 0 rfl rfl 0 (by decide) w_1_100 rfl dX8_readProduct_61 ?_
          refine sk_VvZ (q0 := 0) (n := 0) (rest := []) (wr := [(u0, .inr (8, [.ref (q 2), .int (nI kn)])), (h0, .inr (0, [.ref k1, .ref k2, .ref k3, .ref k4, .int (nI yc), .int (nI yw)])), (k1, .inl (cI, 1600, .inl yf))]) ⟨hx, hb, hml, hown, hts⟩ hl.1 (c_erd_step l D cI cJ cC cZ cS zk zv zf q za zw xo zt zz zg zp tl tb (bindR (rc zo) (beF tb tl)) (by omega) (by omega) (by omega) htb (rd_st htb (hzO).1 ⟨by rw [c_19]; decide, by rw [c_19]; decide⟩)) w_3_110 w_2_226 w_2_227 w_1_4 w_2_228 (by decide +kernel) ⟨⟨(by dsimp only; omega), (by dsimp only; omega)⟩, (by dsimp only; omega), (by dsimp only; omega)⟩ hK hP hD hS hZ hA [1, 2, 3] [0, 4, 5] rfl rfl (by decide +kernel) (by decide +kernel) (by decide +kernel) rfl rfl rfl rfl (Nat.le_of_ble_eq_true rfl) dX8_readProduct_64 (fun u H locs hw hP hD hS => ?_)
          obtain ⟨xa2_21, xv2_22, xt2_23, xz2_24, hxa2_25, hxz2_26, hO2_27, rfl⟩ := hw
          have hP : va_P D vwCl [(u0, .inr (8, [.ref (q 2), .int (nI kn)])), (h0, .inr (0, [.ref k1, .ref k2, .ref k3, .ref k4, .int (nI yc), .int (nI yw)])), (k1, .inl (cI, 1600, .inl yf)), (q 2, .inr (6, [.ref (q 0), .int (nI xa2_21), .int xv2_22, .int (nI xo), .int xt2_23, .int (nI xz2_24), .int zg, .int zp])), (q 0, .inr (10, [.ref (q 20), .int (nI tl)])), (q 20, .inl (cI, 1600, .inl (fun j => nI (tb j))))] H := hP
          have hD : va_D A [(u0, .inr (8, [.ref (q 2), .int (nI kn)])), (h0, .inr (0, [.ref k1, .ref k2, .ref k3, .ref k4, .int (nI yc), .int (nI yw)])), (k1, .inl (cI, 1600, .inl yf)), (q 2, .inr (6, [.ref (q 0), .int (nI xa2_21), .int xv2_22, .int (nI xo), .int xt2_23, .int (nI xz2_24), .int zg, .int zp])), (q 0, .inr (10, [.ref (q 20), .int (nI tl)])), (q 20, .inl (cI, 1600, .inl (fun j => nI (tb j))))] := hD
          rw [stF_nx] at hO2_27
          have hO_28 := rs_bd hzO hO2_27
          have hL_29 := lenS_nx htb hzO ⟨by rw [c_19]; decide, by rw [c_19]; decide⟩ hzl
          refine lv_aload_n hx hb dX8_readProduct_67 rfl (lv_at hl 2 rfl) ?_
          refine lv_aload_n hx hb dX8_readProduct_68 rfl (lv_at hl 3 rfl) ?_
          refine sk_VvZ (q0 := 0) (n := 1) (rest := []) (wr := []) ⟨hx, hb, hml, hown, hts⟩ hl.1 (hq q u0 kn xa2_21 xv2_22 xo xt2_23 xz2_24 zg zp tl tb h0 k1 k2 k3 k4 yc yw yf (bd zo (nxF tb tl)) (by omega) (by omega) (by omega) htb (by omega) (by omega) (by omega) (by omega) hO_28 (lenO_S hL_29)) w_3_92 w_3_94 w_0_8 w_1_6 w_3_95 (by decide +kernel) ⟨⟨(by dsimp only; omega), (by dsimp only; omega)⟩, (by dsimp only; omega), (by dsimp only; omega)⟩ hK hP hD hS hZ hA [0, 3, 4, 5, 1, 2] [] rfl rfl (by decide +kernel) (by decide +kernel) (by decide +kernel) rfl rfl rfl rfl (Nat.le_of_ble_eq_true rfl) dX8_readProduct_69 (fun u H locs hw hP hD hS => ?_)
          obtain ⟨xa2_30, xv2_31, xt2_32, xz2_33, xf2_34, xp2_35, c2_36, w2_37, g1_38, hxa2_39, hxz2_40, hc2_41, hw2_42, hO2_43, rfl⟩ := hw
          have hP : va_P D vwCl [(u0, .inr (8, [.ref (q 2), .int (nI kn)])), (q 2, .inr (6, [.ref (q 0), .int (nI xa2_30), .int xv2_31, .int (nI xo), .int xt2_32, .int (nI xz2_33), .int xf2_34, .int xp2_35])), (q 0, .inr (10, [.ref (q 20), .int (nI tl)])), (q 20, .inl (cI, 1600, .inl (fun j => nI (tb j)))), (h0, .inr (0, [.ref k1, .ref k2, .ref k3, .ref k4, .int (nI c2_36), .int (nI w2_37)])), (k1, .inl (cI, 1600, .inl g1_38))] H := hP
          have hD : va_D A [(u0, .inr (8, [.ref (q 2), .int (nI kn)])), (q 2, .inr (6, [.ref (q 0), .int (nI xa2_30), .int xv2_31, .int (nI xo), .int xt2_32, .int (nI xz2_33), .int xf2_34, .int xp2_35])), (q 0, .inr (10, [.ref (q 20), .int (nI tl)])), (q 20, .inl (cI, 1600, .inl (fun j => nI (tb j)))), (h0, .inr (0, [.ref k1, .ref k2, .ref k3, .ref k4, .int (nI c2_36), .int (nI w2_37)])), (k1, .inl (cI, 1600, .inl g1_38))] := hD
          have hL_44 := lenS_ap (len_part (tb := tb) (n := tl) (kind := kn) dd) hL_29
          refine lv_aload_n hx hb dX8_readProduct_72 rfl (lv_at hl 3 rfl) ?_
          refine lv_iload_n hx hb dX8_readProduct_73 rfl (lv_at hl 0 rfl) ?_
          refine sk_Vv (q0 := 0) (n := 1) (rest := []) (wr := [(u0, .inr (8, [.ref (q 2), .int (nI kn)])), (q 2, .inr (6, [.ref (q 0), .int (nI xa2_30), .int xv2_31, .int (nI xo), .int xt2_32, .int (nI xz2_33), .int xf2_34, .int xp2_35])), (q 0, .inr (10, [.ref (q 20), .int (nI tl)])), (q 20, .inl (cI, 1600, .inl (fun j => nI (tb j))))]) ⟨hx, hb, hml, hown, hts⟩ hl.1 (c_eCode_addX l D cI cJ cC cZ cS h0 k1 k2 k3 k4 c2_36 w2_37 g1_38 30002 (bindR (bd zo (nxF tb tl)) (apF (rdPart tb tl kn dd))) 3 (by omega) (by omega) (by decide) (by omega) (hO2_43).2 (rm_S hO2_43 htl hL_44)) w_3_97 w_3_98 w_3_99 w_1_8 w_3_100 (by decide +kernel) ⟨⟨(by dsimp only; omega), (by dsimp only; omega)⟩, (by dsimp only; omega), (by dsimp only; omega)⟩ hK hP hD hS hA [4, 5] [0, 1, 2, 3] rfl rfl (by decide +kernel) (by decide +kernel) (by decide +kernel) rfl rfl rfl rfl (Nat.le_of_ble_eq_true rfl) dX8_readProduct_74 (fun u H locs hw hP hD hS => ?_)
          obtain ⟨c2_45, w2_46, g1_47, hc2_48, hw2_49, hO2_50, rfl⟩ := hw
          have hP : va_P D vwCl [(u0, .inr (8, [.ref (q 2), .int (nI kn)])), (q 2, .inr (6, [.ref (q 0), .int (nI xa2_30), .int xv2_31, .int (nI xo), .int xt2_32, .int (nI xz2_33), .int xf2_34, .int xp2_35])), (q 0, .inr (10, [.ref (q 20), .int (nI tl)])), (q 20, .inl (cI, 1600, .inl (fun j => nI (tb j)))), (h0, .inr (0, [.ref k1, .ref k2, .ref k3, .ref k4, .int (nI c2_45), .int (nI w2_46)])), (k1, .inl (cI, 1600, .inl g1_47))] H := hP
          have hD : va_D A [(u0, .inr (8, [.ref (q 2), .int (nI kn)])), (q 2, .inr (6, [.ref (q 0), .int (nI xa2_30), .int xv2_31, .int (nI xo), .int xt2_32, .int (nI xz2_33), .int xf2_34, .int xp2_35])), (q 0, .inr (10, [.ref (q 20), .int (nI tl)])), (q 20, .inl (cI, 1600, .inl (fun j => nI (tb j)))), (h0, .inr (0, [.ref k1, .ref k2, .ref k3, .ref k4, .int (nI c2_45), .int (nI w2_46)])), (k1, .inl (cI, 1600, .inl g1_47))] := hD
          have hO_51 := rs_ad hO2_43 hO2_50
          have hL_52 := lenO_ad (v := 3) hL_44
          refine lv_iinc (v := nI (i + 1)) (lv' := [(2, .int (nI (i + 1))), (3, .int 30002), (0, .ref u0), (1, .ref h0)]) hx hb dX8_readProduct_77 hl (k := 1) rfl (ninc i 1 (by decide)) (by decide) rfl (fun ls hl => ?_)
          refine lv_goto (tgt := 7) hx hb dX8_readProduct_80 (by decide) ?_
          exact ih_lp_16 (i + 1) xa2_30 xv2_31 xt2_32 xz2_33 xf2_34 xp2_35 c2_45 w2_46 g1_47 (ad (bindR (bd zo (nxF tb tl)) (apF (rdPart tb tl kn dd))) 3) _ _ _ (by omega) hO_51 (by omega) (by omega) (by omega) (by omega) (by omega) hL_52 (iO_s htb hzO ⟨by rw [c_19]; decide, by rw [c_19]; decide⟩ rdPart_mono hiO) (prod_s htb hzO rdPart_mono (Or.inl ⟨c_19, rfl⟩) hrem) hP hD hS (lv_sub hl [0, 2, 3] rfl)
        · skip
          refine lv_aload_n hx hb dX8_readProduct_26 rfl (lv_at hl 1 rfl) ?_
          refine sk_get (v := .ref (q 2)) (C := RX8) (T := TX8) (N := 2) hx hb hts inlX8 hown hK hP 0 rfl rfl 0 (by decide) w_1_100 rfl dX8_readProduct_27 ?_
          refine sk_get (v := .int zt) (C := RX6) (T := TX6) (N := 8) hx hb hts inlX6 hown hK hP 1 rfl rfl 4 (by decide) w_1_63 rfl dX8_readProduct_30 ?_
          refine lv_bipush (v := 47) hx hb dX8_readProduct_33 (by decide) ?_
          refine lv_icmp_ne (tgt := 83) hx hb dX8_readProduct_35 (by decide) (fun c_53 => ?_) (fun c_53 => ?_)
          · skip
            exact sk_vret hx hb hr hlocks hK hP hD hS (⟨za, zw, zt, zz, zg, zp, yc, yw, yf, by omega, by omega, by omega, by omega, prod_e htb hzO htl hiO (Or.inr ⟨c_19, c_53⟩) hrem, rfl⟩) (Nat.le_of_ble_eq_true rfl) (Nat.le_of_ble_eq_true rfl) dX8_readProduct_83
          · skip
            refine lv_aload_n hx hb dX8_readProduct_38 rfl (lv_at hl 1 rfl) ?_
            refine sk_get (v := .ref (q 2)) (C := RX8) (T := TX8) (N := 2) hx hb hts inlX8 hown hK hP 0 rfl rfl 0 (by decide) w_1_100 rfl dX8_readProduct_39 ?_
            refine sk_get (v := .int zt) (C := RX6) (T := TX6) (N := 8) hx hb hts inlX6 hown hK hP 1 rfl rfl 4 (by decide) w_1_63 rfl dX8_readProduct_42 ?_
            refine lv_bipush (v := 42) hx hb dX8_readProduct_45 (by decide) ?_
            refine lv_icmp_ne (tgt := 56) hx hb dX8_readProduct_47 (by decide) (fun c_54 => ?_) (fun c => absurd c c_19)
            refine lv_sipush (v := 30003) hx hb dX8_readProduct_56 (by decide) ?_
            refine lv_istore_n (lv' := [(3, .int 30003), (2, .int (nI i)), (0, .ref u0), (1, .ref h0)]) hx hb dX8_readProduct_59 rfl hl (by decide) rfl (fun ls hl => ?_)
            refine lv_aload_n hx hb dX8_readProduct_60 rfl (lv_at hl 2 rfl) ?_
            refine sk_get (v := .ref (q 2)) (C := RX8) (T := TX8) (N := 2) hx hb hts inlX8 hown hK hP 0 rfl rfl 0 (by decide) w_1_100 rfl dX8_readProduct_61 ?_
            refine sk_VvZ (q0 := 0) (n := 0) (rest := []) (wr := [(u0, .inr (8, [.ref (q 2), .int (nI kn)])), (h0, .inr (0, [.ref k1, .ref k2, .ref k3, .ref k4, .int (nI yc), .int (nI yw)])), (k1, .inl (cI, 1600, .inl yf))]) ⟨hx, hb, hml, hown, hts⟩ hl.1 (c_erd_step l D cI cJ cC cZ cS zk zv zf q za zw xo zt zz zg zp tl tb (bindR (rc zo) (beF tb tl)) (by omega) (by omega) (by omega) htb (rd_st htb (hzO).1 ⟨by rw [c_53]; decide, by rw [c_53]; decide⟩)) w_3_110 w_2_226 w_2_227 w_1_4 w_2_228 (by decide +kernel) ⟨⟨(by dsimp only; omega), (by dsimp only; omega)⟩, (by dsimp only; omega), (by dsimp only; omega)⟩ hK hP hD hS hZ hA [1, 2, 3] [0, 4, 5] rfl rfl (by decide +kernel) (by decide +kernel) (by decide +kernel) rfl rfl rfl rfl (Nat.le_of_ble_eq_true rfl) dX8_readProduct_64 (fun u H locs hw hP hD hS => ?_)
            obtain ⟨xa2_55, xv2_56, xt2_57, xz2_58, hxa2_59, hxz2_60, hO2_61, rfl⟩ := hw
            have hP : va_P D vwCl [(u0, .inr (8, [.ref (q 2), .int (nI kn)])), (h0, .inr (0, [.ref k1, .ref k2, .ref k3, .ref k4, .int (nI yc), .int (nI yw)])), (k1, .inl (cI, 1600, .inl yf)), (q 2, .inr (6, [.ref (q 0), .int (nI xa2_55), .int xv2_56, .int (nI xo), .int xt2_57, .int (nI xz2_58), .int zg, .int zp])), (q 0, .inr (10, [.ref (q 20), .int (nI tl)])), (q 20, .inl (cI, 1600, .inl (fun j => nI (tb j))))] H := hP
            have hD : va_D A [(u0, .inr (8, [.ref (q 2), .int (nI kn)])), (h0, .inr (0, [.ref k1, .ref k2, .ref k3, .ref k4, .int (nI yc), .int (nI yw)])), (k1, .inl (cI, 1600, .inl yf)), (q 2, .inr (6, [.ref (q 0), .int (nI xa2_55), .int xv2_56, .int (nI xo), .int xt2_57, .int (nI xz2_58), .int zg, .int zp])), (q 0, .inr (10, [.ref (q 20), .int (nI tl)])), (q 20, .inl (cI, 1600, .inl (fun j => nI (tb j))))] := hD
            rw [stF_nx] at hO2_61
            have hO_62 := rs_bd hzO hO2_61
            have hL_63 := lenS_nx htb hzO ⟨by rw [c_53]; decide, by rw [c_53]; decide⟩ hzl
            refine lv_aload_n hx hb dX8_readProduct_67 rfl (lv_at hl 2 rfl) ?_
            refine lv_aload_n hx hb dX8_readProduct_68 rfl (lv_at hl 3 rfl) ?_
            refine sk_VvZ (q0 := 0) (n := 1) (rest := []) (wr := []) ⟨hx, hb, hml, hown, hts⟩ hl.1 (hq q u0 kn xa2_55 xv2_56 xo xt2_57 xz2_58 zg zp tl tb h0 k1 k2 k3 k4 yc yw yf (bd zo (nxF tb tl)) (by omega) (by omega) (by omega) htb (by omega) (by omega) (by omega) (by omega) hO_62 (lenO_S hL_63)) w_3_92 w_3_94 w_0_8 w_1_6 w_3_95 (by decide +kernel) ⟨⟨(by dsimp only; omega), (by dsimp only; omega)⟩, (by dsimp only; omega), (by dsimp only; omega)⟩ hK hP hD hS hZ hA [0, 3, 4, 5, 1, 2] [] rfl rfl (by decide +kernel) (by decide +kernel) (by decide +kernel) rfl rfl rfl rfl (Nat.le_of_ble_eq_true rfl) dX8_readProduct_69 (fun u H locs hw hP hD hS => ?_)
            obtain ⟨xa2_64, xv2_65, xt2_66, xz2_67, xf2_68, xp2_69, c2_70, w2_71, g1_72, hxa2_73, hxz2_74, hc2_75, hw2_76, hO2_77, rfl⟩ := hw
            have hP : va_P D vwCl [(u0, .inr (8, [.ref (q 2), .int (nI kn)])), (q 2, .inr (6, [.ref (q 0), .int (nI xa2_64), .int xv2_65, .int (nI xo), .int xt2_66, .int (nI xz2_67), .int xf2_68, .int xp2_69])), (q 0, .inr (10, [.ref (q 20), .int (nI tl)])), (q 20, .inl (cI, 1600, .inl (fun j => nI (tb j)))), (h0, .inr (0, [.ref k1, .ref k2, .ref k3, .ref k4, .int (nI c2_70), .int (nI w2_71)])), (k1, .inl (cI, 1600, .inl g1_72))] H := hP
            have hD : va_D A [(u0, .inr (8, [.ref (q 2), .int (nI kn)])), (q 2, .inr (6, [.ref (q 0), .int (nI xa2_64), .int xv2_65, .int (nI xo), .int xt2_66, .int (nI xz2_67), .int xf2_68, .int xp2_69])), (q 0, .inr (10, [.ref (q 20), .int (nI tl)])), (q 20, .inl (cI, 1600, .inl (fun j => nI (tb j)))), (h0, .inr (0, [.ref k1, .ref k2, .ref k3, .ref k4, .int (nI c2_70), .int (nI w2_71)])), (k1, .inl (cI, 1600, .inl g1_72))] := hD
            have hL_78 := lenS_ap (len_part (tb := tb) (n := tl) (kind := kn) dd) hL_63
            refine lv_aload_n hx hb dX8_readProduct_72 rfl (lv_at hl 3 rfl) ?_
            refine lv_iload_n hx hb dX8_readProduct_73 rfl (lv_at hl 0 rfl) ?_
            refine sk_Vv (q0 := 0) (n := 1) (rest := []) (wr := [(u0, .inr (8, [.ref (q 2), .int (nI kn)])), (q 2, .inr (6, [.ref (q 0), .int (nI xa2_64), .int xv2_65, .int (nI xo), .int xt2_66, .int (nI xz2_67), .int xf2_68, .int xp2_69])), (q 0, .inr (10, [.ref (q 20), .int (nI tl)])), (q 20, .inl (cI, 1600, .inl (fun j => nI (tb j))))]) ⟨hx, hb, hml, hown, hts⟩ hl.1 (c_eCode_addX l D cI cJ cC cZ cS h0 k1 k2 k3 k4 c2_70 w2_71 g1_72 30003 (bindR (bd zo (nxF tb tl)) (apF (rdPart tb tl kn dd))) 4 (by omega) (by omega) (by decide) (by omega) (hO2_77).2 (rm_S hO2_77 htl hL_78)) w_3_97 w_3_98 w_3_99 w_1_8 w_3_100 (by decide +kernel) ⟨⟨(by dsimp only; omega), (by dsimp only; omega)⟩, (by dsimp only; omega), (by dsimp only; omega)⟩ hK hP hD hS hA [4, 5] [0, 1, 2, 3] rfl rfl (by decide +kernel) (by decide +kernel) (by decide +kernel) rfl rfl rfl rfl (Nat.le_of_ble_eq_true rfl) dX8_readProduct_74 (fun u H locs hw hP hD hS => ?_)
            obtain ⟨c2_79, w2_80, g1_81, hc2_82, hw2_83, hO2_84, rfl⟩ := hw
            have hP : va_P D vwCl [(u0, .inr (8, [.ref (q 2), .int (nI kn)])), (q 2, .inr (6, [.ref (q 0), .int (nI xa2_64), .int xv2_65, .int (nI xo), .int xt2_66, .int (nI xz2_67), .int xf2_68, .int xp2_69])), (q 0, .inr (10, [.ref (q 20), .int (nI tl)])), (q 20, .inl (cI, 1600, .inl (fun j => nI (tb j)))), (h0, .inr (0, [.ref k1, .ref k2, .ref k3, .ref k4, .int (nI c2_79), .int (nI w2_80)])), (k1, .inl (cI, 1600, .inl g1_81))] H := hP
            have hD : va_D A [(u0, .inr (8, [.ref (q 2), .int (nI kn)])), (q 2, .inr (6, [.ref (q 0), .int (nI xa2_64), .int xv2_65, .int (nI xo), .int xt2_66, .int (nI xz2_67), .int xf2_68, .int xp2_69])), (q 0, .inr (10, [.ref (q 20), .int (nI tl)])), (q 20, .inl (cI, 1600, .inl (fun j => nI (tb j)))), (h0, .inr (0, [.ref k1, .ref k2, .ref k3, .ref k4, .int (nI c2_79), .int (nI w2_80)])), (k1, .inl (cI, 1600, .inl g1_81))] := hD
            have hO_85 := rs_ad hO2_77 hO2_84
            have hL_86 := lenO_ad (v := 4) hL_78
            refine lv_iinc (v := nI (i + 1)) (lv' := [(2, .int (nI (i + 1))), (3, .int 30003), (0, .ref u0), (1, .ref h0)]) hx hb dX8_readProduct_77 hl (k := 1) rfl (ninc i 1 (by decide)) (by decide) rfl (fun ls hl => ?_)
            refine lv_goto (tgt := 7) hx hb dX8_readProduct_80 (by decide) ?_
            exact ih_lp_16 (i + 1) xa2_64 xv2_65 xt2_66 xz2_67 xf2_68 xp2_69 c2_79 w2_80 g1_81 (ad (bindR (bd zo (nxF tb tl)) (apF (rdPart tb tl kn dd))) 4) _ _ _ (by omega) hO_85 (by omega) (by omega) (by omega) (by omega) (by omega) hL_86 (iO_s htb hzO ⟨by rw [c_53]; decide, by rw [c_53]; decide⟩ rdPart_mono hiO) (prod_s htb hzO rdPart_mono (Or.inr ⟨c_53, rfl⟩) hrem) hP hD hS (lv_sub hl [0, 2, 3] rfl)
  exact lp_16 (1600 - 0 + 1) 0 xa2_1 xv2_2 xt2_3 xz2_4 xf2_5 xp2_6 c2_7 w2_8 g1_9 (bindR og (apF (rdPart tb tl kn dd))) _ _ _ (Nat.lt_succ_self _) hO2_14 (by omega) (by omega) (by omega) (by omega) (by omega) hL_15 (iO_0 _) (prod_0 _) hP hD hS (lv_sub hl [0, 1, 2] rfl)
set_option maxHeartbeats 4000000 in
set_option maxRecDepth 100000 in
theorem c_ereadSum (l : Launch) (D : va_G) (cI cJ cC cZ cS : ClassId) (zk zv : Nat) (zf : Value) (dd : Nat) (hq : CT_ereadProduct l D cI cJ cC cZ cS zk zv zf dd) : CT_ereadSum l D cI cJ cC cZ cS zk zv zf dd := by
  intro q u0 kn xa xv xo xt xz xf xp tl tb h0 k1 k2 k3 k4 cl mw f1 og hxa hxz htl htb hcl hmw hkn hdd hO hlen
  refine skMZ_of (by decide +kernel) (Nat.le_of_ble_eq_true rfl) ?_
  intro p e s m below meth c A ls E hP hD hZ hl
  obtain ⟨hx, hb, hr, hml, hlocks, hin, hown, hts, hK, hA⟩ := E
  have hown : s.vm.findClass RX8 = some m.cls := hown
  have hS : va_S A s.heap s.heap [] := va_S.rf
  have hl : lv_has ls 4 [(0, .ref u0), (1, .ref h0)] := hl
  refine lv_aload_n hx hb dX8_readSum_0 rfl (lv_at hl 0 rfl) ?_
  refine lv_aload_n hx hb dX8_readSum_1 rfl (lv_at hl 1 rfl) ?_
  refine sk_VvZ (q0 := 0) (n := 1) (rest := []) (wr := []) ⟨hx, hb, hml, hown, hts⟩ hl.1 (hq q u0 kn xa xv xo xt xz xf xp tl tb h0 k1 k2 k3 k4 cl mw f1 og (by omega) (by omega) (by omega) htb (by omega) (by omega) (by omega) (by omega) hO hlen) w_3_88 w_3_90 w_0_7 w_1_6 w_3_91 (by decide +kernel) ⟨⟨(by dsimp only; omega), (by dsimp only; omega)⟩, (by dsimp only; omega), (by dsimp only; omega)⟩ hK hP hD hS hZ hA [0, 1, 2, 3, 4, 5] [] rfl rfl (by decide +kernel) (by decide +kernel) (by decide +kernel) rfl rfl rfl rfl (Nat.le_of_ble_eq_true rfl) dX8_readSum_2 (fun u H locs hw hP hD hS => ?_)
  obtain ⟨xa2_1, xv2_2, xt2_3, xz2_4, xf2_5, xp2_6, c2_7, w2_8, g1_9, hxa2_10, hxz2_11, hc2_12, hw2_13, hO2_14, rfl⟩ := hw
  have hP : va_P D vwCl [(u0, .inr (8, [.ref (q 2), .int (nI kn)])), (q 2, .inr (6, [.ref (q 0), .int (nI xa2_1), .int xv2_2, .int (nI xo), .int xt2_3, .int (nI xz2_4), .int xf2_5, .int xp2_6])), (q 0, .inr (10, [.ref (q 20), .int (nI tl)])), (q 20, .inl (cI, 1600, .inl (fun j => nI (tb j)))), (h0, .inr (0, [.ref k1, .ref k2, .ref k3, .ref k4, .int (nI c2_7), .int (nI w2_8)])), (k1, .inl (cI, 1600, .inl g1_9))] H := hP
  have hD : va_D A [(u0, .inr (8, [.ref (q 2), .int (nI kn)])), (q 2, .inr (6, [.ref (q 0), .int (nI xa2_1), .int xv2_2, .int (nI xo), .int xt2_3, .int (nI xz2_4), .int xf2_5, .int xp2_6])), (q 0, .inr (10, [.ref (q 20), .int (nI tl)])), (q 20, .inl (cI, 1600, .inl (fun j => nI (tb j)))), (h0, .inr (0, [.ref k1, .ref k2, .ref k3, .ref k4, .int (nI c2_7), .int (nI w2_8)])), (k1, .inl (cI, 1600, .inl g1_9))] := hD
  have hL_15 := lenO_ap (len_prod (tb := tb) (n := tl) (len_part (tb := tb) (n := tl) (kind := kn) dd)) hlen
  refine lv_iconst (v := 0) hx hb dX8_readSum_5 (by decide) ?_
  refine lv_istore_n (lv' := [(2, .int 0), (0, .ref u0), (1, .ref h0)]) hx hb dX8_readSum_6 rfl hl (by decide) rfl (fun ls hl => ?_)
  have lp_16 : ∀ (n_17 : Nat) (i : Nat) (za : Nat) (zw : Int32) (zt : Int32) (zz : Nat) (zg : Int32) (zp : Int32) (yc : Nat) (yw : Nat) (yf : Nat → Int32) (zo : Res) (H : Heap) (locs : List Loc) (ls : Array Slot), 1600 - i < n_17 → (rsO tb tl zo za zw zt zz zg zp yc yw yf) → (i ≤ 1600) → (za ≤ 1600) → (zz ≤ 1600) → (yc ≤ 1600) → (yw ≤ 1) → (lenO zo) → (iO i zo) → (bindR zo (fun r => addLp tb tl (rdPart tb tl kn dd) (tl + 2) r.1 r.2) = bindR og (apF (sumOf tb tl (rdPart tb tl kn dd)))) → va_P D vwCl [(u0, .inr (8, [.ref (q 2), .int (nI kn)])), (q 2, .inr (6, [.ref (q 0), .int (nI za), .int zw, .int (nI xo), .int zt, .int (nI zz), .int zg, .int zp])), (q 0, .inr (10, [.ref (q 20), .int (nI tl)])), (q 20, .inl (cI, 1600, .inl (fun j => nI (tb j)))), (h0, .inr (0, [.ref k1, .ref k2, .ref k3, .ref k4, .int (nI yc), .int (nI yw)])), (k1, .inl (cI, 1600, .inl yf))] H → va_D A [(u0, .inr (8, [.ref (q 2), .int (nI kn)])), (q 2, .inr (6, [.ref (q 0), .int (nI za), .int zw, .int (nI xo), .int zt, .int (nI zz), .int zg, .int zp])), (q 0, .inr (10, [.ref (q 20), .int (nI tl)])), (q 20, .inl (cI, 1600, .inl (fun j => nI (tb j)))), (h0, .inr (0, [.ref k1, .ref k2, .ref k3, .ref k4, .int (nI yc), .int (nI yw)])), (k1, .inl (cI, 1600, .inl yf))] → va_S A s.heap H locs → lv_has ls 4 [(2, .int (nI i)), (0, .ref u0), (1, .ref h0)] → W p l e { frames := 23 + 5 * dd, cells := 0, slots := 0, locals := 675 + 100 * dd } s m ([.ref u0, .ref h0] : List Value).toArray below meth c H locs 0 0 (MQ below (skV D (skT cI cJ cC cZ cS) (fun (u : va_W) => ∃ (xa2 : Nat), ∃ (xv2 : Int32), ∃ (xt2 : Int32), ∃ (xz2 : Nat), ∃ (xf2 : Int32), ∃ (xp2 : Int32), ∃ (c2 : Nat), ∃ (w2 : Nat), ∃ (g1 : Nat → Int32), xa2 ≤ 1600 ∧ xz2 ≤ 1600 ∧ c2 ≤ 1600 ∧ w2 ≤ 1 ∧ rsO tb tl (bindR og (apF (sumOf tb tl (rdPart tb tl kn dd)))) xa2 xv2 xt2 xz2 xf2 xp2 c2 w2 g1 ∧ u = [(u0, .inr (8, [.ref (q 2), .int (nI kn)])), (q 2, .inr (6, [.ref (q 0), .int (nI xa2), .int xv2, .int (nI xo), .int xt2, .int (nI xz2), .int xf2, .int xp2])), (q 0, .inr (10, [.ref (q 20), .int (nI tl)])), (q 20, .inl (cI, 1600, .inl (fun j => nI (tb j)))), (h0, .inr (0, [.ref k1, .ref k2, .ref k3, .ref k4, .int (nI c2), .int (nI w2)])), (k1, .inl (cI, 1600, .inl g1))]) A) ([.ref u0, .ref h0] : List Value).toArray s 0 0 A) (F0 m 7 ls []) := by
    intro n_17
    induction n_17 with
    | zero => intro i za zw zt zz zg zp yc yw yf zo H locs ls hm; exact absurd hm (Nat.not_lt_zero _)
    | succ n_17 ih_lp_16 =>
      intro i za zw zt zz zg zp yc yw yf zo H locs ls hm hzO hi hza hzz hyc hyw hzl hiO hrem hP hD hS hl
      refine lv_iload_n hx hb dX8_readSum_7 rfl (lv_at hl 0 rfl) ?_
      refine lv_sipush (v := 1600) hx hb dX8_readSum_8 (by decide) ?_
      refine lv_icmp_ge (tgt := 83) hx hb dX8_readSum_11 (by decide) (fun c_18 => ?_) (fun c_18 => ?_)
      · have c_18 : 1600 ≤ i := (nle 1600 i (by omega) (by omega)).mp c_18
        exact sk_vret hx hb hr hlocks hK hP hD hS (⟨za, zw, zt, zz, zg, zp, yc, yw, yf, by omega, by omega, by omega, by omega, sum_e htb hzO htl hiO (Or.inl (by omega)) hrem, rfl⟩) (Nat.le_of_ble_eq_true rfl) (Nat.le_of_ble_eq_true rfl) dX8_readSum_83
      · have c_18 : ¬ (1600 ≤ i) := fun h => c_18 ((nle 1600 i (by omega) (by omega)).mpr h)
        refine lv_aload_n hx hb dX8_readSum_14 rfl (lv_at hl 1 rfl) ?_
        refine sk_get (v := .ref (q 2)) (C := RX8) (T := TX8) (N := 2) hx hb hts inlX8 hown hK hP 0 rfl rfl 0 (by decide) w_1_100 rfl dX8_readSum_15 ?_
        refine sk_get (v := .int zt) (C := RX6) (T := TX6) (N := 8) hx hb hts inlX6 hown hK hP 1 rfl rfl 4 (by decide) w_1_63 rfl dX8_readSum_18 ?_
        refine lv_bipush (v := 43) hx hb dX8_readSum_21 (by decide) ?_
        refine lv_icmp_eq (tgt := 38) hx hb dX8_readSum_23 (by decide) (fun c_19 => ?_) (fun c_19 => ?_)
        · skip
          refine lv_aload_n hx hb dX8_readSum_38 rfl (lv_at hl 1 rfl) ?_
          refine sk_get (v := .ref (q 2)) (C := RX8) (T := TX8) (N := 2) hx hb hts inlX8 hown hK hP 0 rfl rfl 0 (by decide) w_1_100 rfl dX8_readSum_39 ?_
          refine sk_get (v := .int zt) (C := RX6) (T := TX6) (N := 8) hx hb hts inlX6 hown hK hP 1 rfl rfl 4 (by decide) w_1_63 rfl dX8_readSum_42 ?_
          refine lv_bipush (v := 43) hx hb dX8_readSum_45 (by decide) ?_
          refine lv_icmp_ne (tgt := 56) hx hb dX8_readSum_47 (by decide) (fun c => absurd c_19 c) (fun c_20 => ?_)
          refine lv_sipush (v := 30000) hx hb dX8_readSum_50 (by decide) ?_
          refine lv_goto (tgt := 59) hx hb dX8_readSum_53 (by decide) ?_
          refine lv_istore_n (lv' := [(3, .int 30000), (2, .int (nI i)), (0, .ref u0), (1, .ref h0)]) hx hb dX8_readSum_59 rfl hl (by decide) rfl (fun ls hl => ?_)
          refine lv_aload_n hx hb dX8_readSum_60 rfl (lv_at hl 2 rfl) ?_
          refine sk_get (v := .ref (q 2)) (C := RX8) (T := TX8) (N := 2) hx hb hts inlX8 hown hK hP 0 rfl rfl 0 (by decide) w_1_100 rfl dX8_readSum_61 ?_
          refine sk_VvZ (q0 := 0) (n := 0) (rest := []) (wr := [(u0, .inr (8, [.ref (q 2), .int (nI kn)])), (h0, .inr (0, [.ref k1, .ref k2, .ref k3, .ref k4, .int (nI yc), .int (nI yw)])), (k1, .inl (cI, 1600, .inl yf))]) ⟨hx, hb, hml, hown, hts⟩ hl.1 (c_erd_step l D cI cJ cC cZ cS zk zv zf q za zw xo zt zz zg zp tl tb (bindR (rc zo) (beF tb tl)) (by omega) (by omega) (by omega) htb (rd_st htb (hzO).1 ⟨by rw [c_19]; decide, by rw [c_19]; decide⟩)) w_3_110 w_2_226 w_2_227 w_1_4 w_2_228 (by decide +kernel) ⟨⟨(by dsimp only; omega), (by dsimp only; omega)⟩, (by dsimp only; omega), (by dsimp only; omega)⟩ hK hP hD hS hZ hA [1, 2, 3] [0, 4, 5] rfl rfl (by decide +kernel) (by decide +kernel) (by decide +kernel) rfl rfl rfl rfl (Nat.le_of_ble_eq_true rfl) dX8_readSum_64 (fun u H locs hw hP hD hS => ?_)
          obtain ⟨xa2_21, xv2_22, xt2_23, xz2_24, hxa2_25, hxz2_26, hO2_27, rfl⟩ := hw
          have hP : va_P D vwCl [(u0, .inr (8, [.ref (q 2), .int (nI kn)])), (h0, .inr (0, [.ref k1, .ref k2, .ref k3, .ref k4, .int (nI yc), .int (nI yw)])), (k1, .inl (cI, 1600, .inl yf)), (q 2, .inr (6, [.ref (q 0), .int (nI xa2_21), .int xv2_22, .int (nI xo), .int xt2_23, .int (nI xz2_24), .int zg, .int zp])), (q 0, .inr (10, [.ref (q 20), .int (nI tl)])), (q 20, .inl (cI, 1600, .inl (fun j => nI (tb j))))] H := hP
          have hD : va_D A [(u0, .inr (8, [.ref (q 2), .int (nI kn)])), (h0, .inr (0, [.ref k1, .ref k2, .ref k3, .ref k4, .int (nI yc), .int (nI yw)])), (k1, .inl (cI, 1600, .inl yf)), (q 2, .inr (6, [.ref (q 0), .int (nI xa2_21), .int xv2_22, .int (nI xo), .int xt2_23, .int (nI xz2_24), .int zg, .int zp])), (q 0, .inr (10, [.ref (q 20), .int (nI tl)])), (q 20, .inl (cI, 1600, .inl (fun j => nI (tb j))))] := hD
          rw [stF_nx] at hO2_27
          have hO_28 := rs_bd hzO hO2_27
          have hL_29 := lenS_nx htb hzO ⟨by rw [c_19]; decide, by rw [c_19]; decide⟩ hzl
          refine lv_aload_n hx hb dX8_readSum_67 rfl (lv_at hl 2 rfl) ?_
          refine lv_aload_n hx hb dX8_readSum_68 rfl (lv_at hl 3 rfl) ?_
          refine sk_VvZ (q0 := 0) (n := 1) (rest := []) (wr := []) ⟨hx, hb, hml, hown, hts⟩ hl.1 (hq q u0 kn xa2_21 xv2_22 xo xt2_23 xz2_24 zg zp tl tb h0 k1 k2 k3 k4 yc yw yf (bd zo (nxF tb tl)) (by omega) (by omega) (by omega) htb (by omega) (by omega) (by omega) (by omega) hO_28 (lenO_S hL_29)) w_3_88 w_3_90 w_0_7 w_1_6 w_3_91 (by decide +kernel) ⟨⟨(by dsimp only; omega), (by dsimp only; omega)⟩, (by dsimp only; omega), (by dsimp only; omega)⟩ hK hP hD hS hZ hA [0, 3, 4, 5, 1, 2] [] rfl rfl (by decide +kernel) (by decide +kernel) (by decide +kernel) rfl rfl rfl rfl (Nat.le_of_ble_eq_true rfl) dX8_readSum_69 (fun u H locs hw hP hD hS => ?_)
          obtain ⟨xa2_30, xv2_31, xt2_32, xz2_33, xf2_34, xp2_35, c2_36, w2_37, g1_38, hxa2_39, hxz2_40, hc2_41, hw2_42, hO2_43, rfl⟩ := hw
          have hP : va_P D vwCl [(u0, .inr (8, [.ref (q 2), .int (nI kn)])), (q 2, .inr (6, [.ref (q 0), .int (nI xa2_30), .int xv2_31, .int (nI xo), .int xt2_32, .int (nI xz2_33), .int xf2_34, .int xp2_35])), (q 0, .inr (10, [.ref (q 20), .int (nI tl)])), (q 20, .inl (cI, 1600, .inl (fun j => nI (tb j)))), (h0, .inr (0, [.ref k1, .ref k2, .ref k3, .ref k4, .int (nI c2_36), .int (nI w2_37)])), (k1, .inl (cI, 1600, .inl g1_38))] H := hP
          have hD : va_D A [(u0, .inr (8, [.ref (q 2), .int (nI kn)])), (q 2, .inr (6, [.ref (q 0), .int (nI xa2_30), .int xv2_31, .int (nI xo), .int xt2_32, .int (nI xz2_33), .int xf2_34, .int xp2_35])), (q 0, .inr (10, [.ref (q 20), .int (nI tl)])), (q 20, .inl (cI, 1600, .inl (fun j => nI (tb j)))), (h0, .inr (0, [.ref k1, .ref k2, .ref k3, .ref k4, .int (nI c2_36), .int (nI w2_37)])), (k1, .inl (cI, 1600, .inl g1_38))] := hD
          have hL_44 := lenS_ap (len_prod (tb := tb) (n := tl) (len_part (tb := tb) (n := tl) (kind := kn) dd)) hL_29
          refine lv_aload_n hx hb dX8_readSum_72 rfl (lv_at hl 3 rfl) ?_
          refine lv_iload_n hx hb dX8_readSum_73 rfl (lv_at hl 0 rfl) ?_
          refine sk_Vv (q0 := 0) (n := 1) (rest := []) (wr := [(u0, .inr (8, [.ref (q 2), .int (nI kn)])), (q 2, .inr (6, [.ref (q 0), .int (nI xa2_30), .int xv2_31, .int (nI xo), .int xt2_32, .int (nI xz2_33), .int xf2_34, .int xp2_35])), (q 0, .inr (10, [.ref (q 20), .int (nI tl)])), (q 20, .inl (cI, 1600, .inl (fun j => nI (tb j))))]) ⟨hx, hb, hml, hown, hts⟩ hl.1 (c_eCode_addX l D cI cJ cC cZ cS h0 k1 k2 k3 k4 c2_36 w2_37 g1_38 30000 (bindR (bd zo (nxF tb tl)) (apF (prodOf tb tl (rdPart tb tl kn dd)))) 1 (by omega) (by omega) (by decide) (by omega) (hO2_43).2 (rm_S hO2_43 htl hL_44)) w_3_97 w_3_98 w_3_99 w_1_8 w_3_100 (by decide +kernel) ⟨⟨(by dsimp only; omega), (by dsimp only; omega)⟩, (by dsimp only; omega), (by dsimp only; omega)⟩ hK hP hD hS hA [4, 5] [0, 1, 2, 3] rfl rfl (by decide +kernel) (by decide +kernel) (by decide +kernel) rfl rfl rfl rfl (Nat.le_of_ble_eq_true rfl) dX8_readSum_74 (fun u H locs hw hP hD hS => ?_)
          obtain ⟨c2_45, w2_46, g1_47, hc2_48, hw2_49, hO2_50, rfl⟩ := hw
          have hP : va_P D vwCl [(u0, .inr (8, [.ref (q 2), .int (nI kn)])), (q 2, .inr (6, [.ref (q 0), .int (nI xa2_30), .int xv2_31, .int (nI xo), .int xt2_32, .int (nI xz2_33), .int xf2_34, .int xp2_35])), (q 0, .inr (10, [.ref (q 20), .int (nI tl)])), (q 20, .inl (cI, 1600, .inl (fun j => nI (tb j)))), (h0, .inr (0, [.ref k1, .ref k2, .ref k3, .ref k4, .int (nI c2_45), .int (nI w2_46)])), (k1, .inl (cI, 1600, .inl g1_47))] H := hP
          have hD : va_D A [(u0, .inr (8, [.ref (q 2), .int (nI kn)])), (q 2, .inr (6, [.ref (q 0), .int (nI xa2_30), .int xv2_31, .int (nI xo), .int xt2_32, .int (nI xz2_33), .int xf2_34, .int xp2_35])), (q 0, .inr (10, [.ref (q 20), .int (nI tl)])), (q 20, .inl (cI, 1600, .inl (fun j => nI (tb j)))), (h0, .inr (0, [.ref k1, .ref k2, .ref k3, .ref k4, .int (nI c2_45), .int (nI w2_46)])), (k1, .inl (cI, 1600, .inl g1_47))] := hD
          have hO_51 := rs_ad hO2_43 hO2_50
          have hL_52 := lenO_ad (v := 1) hL_44
          refine lv_iinc (v := nI (i + 1)) (lv' := [(2, .int (nI (i + 1))), (3, .int 30000), (0, .ref u0), (1, .ref h0)]) hx hb dX8_readSum_77 hl (k := 1) rfl (ninc i 1 (by decide)) (by decide) rfl (fun ls hl => ?_)
          refine lv_goto (tgt := 7) hx hb dX8_readSum_80 (by decide) ?_
          exact ih_lp_16 (i + 1) xa2_30 xv2_31 xt2_32 xz2_33 xf2_34 xp2_35 c2_45 w2_46 g1_47 (ad (bindR (bd zo (nxF tb tl)) (apF (prodOf tb tl (rdPart tb tl kn dd)))) 1) _ _ _ (by omega) hO_51 (by omega) (by omega) (by omega) (by omega) (by omega) hL_52 (iO_s htb hzO ⟨by rw [c_19]; decide, by rw [c_19]; decide⟩ (prodOf_mono rdPart_mono) hiO) (sum_s htb hzO rdPart_mono (Or.inl ⟨c_19, rfl⟩) hrem) hP hD hS (lv_sub hl [0, 2, 3] rfl)
        · skip
          refine lv_aload_n hx hb dX8_readSum_26 rfl (lv_at hl 1 rfl) ?_
          refine sk_get (v := .ref (q 2)) (C := RX8) (T := TX8) (N := 2) hx hb hts inlX8 hown hK hP 0 rfl rfl 0 (by decide) w_1_100 rfl dX8_readSum_27 ?_
          refine sk_get (v := .int zt) (C := RX6) (T := TX6) (N := 8) hx hb hts inlX6 hown hK hP 1 rfl rfl 4 (by decide) w_1_63 rfl dX8_readSum_30 ?_
          refine lv_bipush (v := 45) hx hb dX8_readSum_33 (by decide) ?_
          refine lv_icmp_ne (tgt := 83) hx hb dX8_readSum_35 (by decide) (fun c_53 => ?_) (fun c_53 => ?_)
          · skip
            exact sk_vret hx hb hr hlocks hK hP hD hS (⟨za, zw, zt, zz, zg, zp, yc, yw, yf, by omega, by omega, by omega, by omega, sum_e htb hzO htl hiO (Or.inr ⟨c_19, c_53⟩) hrem, rfl⟩) (Nat.le_of_ble_eq_true rfl) (Nat.le_of_ble_eq_true rfl) dX8_readSum_83
          · skip
            refine lv_aload_n hx hb dX8_readSum_38 rfl (lv_at hl 1 rfl) ?_
            refine sk_get (v := .ref (q 2)) (C := RX8) (T := TX8) (N := 2) hx hb hts inlX8 hown hK hP 0 rfl rfl 0 (by decide) w_1_100 rfl dX8_readSum_39 ?_
            refine sk_get (v := .int zt) (C := RX6) (T := TX6) (N := 8) hx hb hts inlX6 hown hK hP 1 rfl rfl 4 (by decide) w_1_63 rfl dX8_readSum_42 ?_
            refine lv_bipush (v := 43) hx hb dX8_readSum_45 (by decide) ?_
            refine lv_icmp_ne (tgt := 56) hx hb dX8_readSum_47 (by decide) (fun c_54 => ?_) (fun c => absurd c c_19)
            refine lv_sipush (v := 30001) hx hb dX8_readSum_56 (by decide) ?_
            refine lv_istore_n (lv' := [(3, .int 30001), (2, .int (nI i)), (0, .ref u0), (1, .ref h0)]) hx hb dX8_readSum_59 rfl hl (by decide) rfl (fun ls hl => ?_)
            refine lv_aload_n hx hb dX8_readSum_60 rfl (lv_at hl 2 rfl) ?_
            refine sk_get (v := .ref (q 2)) (C := RX8) (T := TX8) (N := 2) hx hb hts inlX8 hown hK hP 0 rfl rfl 0 (by decide) w_1_100 rfl dX8_readSum_61 ?_
            refine sk_VvZ (q0 := 0) (n := 0) (rest := []) (wr := [(u0, .inr (8, [.ref (q 2), .int (nI kn)])), (h0, .inr (0, [.ref k1, .ref k2, .ref k3, .ref k4, .int (nI yc), .int (nI yw)])), (k1, .inl (cI, 1600, .inl yf))]) ⟨hx, hb, hml, hown, hts⟩ hl.1 (c_erd_step l D cI cJ cC cZ cS zk zv zf q za zw xo zt zz zg zp tl tb (bindR (rc zo) (beF tb tl)) (by omega) (by omega) (by omega) htb (rd_st htb (hzO).1 ⟨by rw [c_53]; decide, by rw [c_53]; decide⟩)) w_3_110 w_2_226 w_2_227 w_1_4 w_2_228 (by decide +kernel) ⟨⟨(by dsimp only; omega), (by dsimp only; omega)⟩, (by dsimp only; omega), (by dsimp only; omega)⟩ hK hP hD hS hZ hA [1, 2, 3] [0, 4, 5] rfl rfl (by decide +kernel) (by decide +kernel) (by decide +kernel) rfl rfl rfl rfl (Nat.le_of_ble_eq_true rfl) dX8_readSum_64 (fun u H locs hw hP hD hS => ?_)
            obtain ⟨xa2_55, xv2_56, xt2_57, xz2_58, hxa2_59, hxz2_60, hO2_61, rfl⟩ := hw
            have hP : va_P D vwCl [(u0, .inr (8, [.ref (q 2), .int (nI kn)])), (h0, .inr (0, [.ref k1, .ref k2, .ref k3, .ref k4, .int (nI yc), .int (nI yw)])), (k1, .inl (cI, 1600, .inl yf)), (q 2, .inr (6, [.ref (q 0), .int (nI xa2_55), .int xv2_56, .int (nI xo), .int xt2_57, .int (nI xz2_58), .int zg, .int zp])), (q 0, .inr (10, [.ref (q 20), .int (nI tl)])), (q 20, .inl (cI, 1600, .inl (fun j => nI (tb j))))] H := hP
            have hD : va_D A [(u0, .inr (8, [.ref (q 2), .int (nI kn)])), (h0, .inr (0, [.ref k1, .ref k2, .ref k3, .ref k4, .int (nI yc), .int (nI yw)])), (k1, .inl (cI, 1600, .inl yf)), (q 2, .inr (6, [.ref (q 0), .int (nI xa2_55), .int xv2_56, .int (nI xo), .int xt2_57, .int (nI xz2_58), .int zg, .int zp])), (q 0, .inr (10, [.ref (q 20), .int (nI tl)])), (q 20, .inl (cI, 1600, .inl (fun j => nI (tb j))))] := hD
            rw [stF_nx] at hO2_61
            have hO_62 := rs_bd hzO hO2_61
            have hL_63 := lenS_nx htb hzO ⟨by rw [c_53]; decide, by rw [c_53]; decide⟩ hzl
            refine lv_aload_n hx hb dX8_readSum_67 rfl (lv_at hl 2 rfl) ?_
            refine lv_aload_n hx hb dX8_readSum_68 rfl (lv_at hl 3 rfl) ?_
            refine sk_VvZ (q0 := 0) (n := 1) (rest := []) (wr := []) ⟨hx, hb, hml, hown, hts⟩ hl.1 (hq q u0 kn xa2_55 xv2_56 xo xt2_57 xz2_58 zg zp tl tb h0 k1 k2 k3 k4 yc yw yf (bd zo (nxF tb tl)) (by omega) (by omega) (by omega) htb (by omega) (by omega) (by omega) (by omega) hO_62 (lenO_S hL_63)) w_3_88 w_3_90 w_0_7 w_1_6 w_3_91 (by decide +kernel) ⟨⟨(by dsimp only; omega), (by dsimp only; omega)⟩, (by dsimp only; omega), (by dsimp only; omega)⟩ hK hP hD hS hZ hA [0, 3, 4, 5, 1, 2] [] rfl rfl (by decide +kernel) (by decide +kernel) (by decide +kernel) rfl rfl rfl rfl (Nat.le_of_ble_eq_true rfl) dX8_readSum_69 (fun u H locs hw hP hD hS => ?_)
            obtain ⟨xa2_64, xv2_65, xt2_66, xz2_67, xf2_68, xp2_69, c2_70, w2_71, g1_72, hxa2_73, hxz2_74, hc2_75, hw2_76, hO2_77, rfl⟩ := hw
            have hP : va_P D vwCl [(u0, .inr (8, [.ref (q 2), .int (nI kn)])), (q 2, .inr (6, [.ref (q 0), .int (nI xa2_64), .int xv2_65, .int (nI xo), .int xt2_66, .int (nI xz2_67), .int xf2_68, .int xp2_69])), (q 0, .inr (10, [.ref (q 20), .int (nI tl)])), (q 20, .inl (cI, 1600, .inl (fun j => nI (tb j)))), (h0, .inr (0, [.ref k1, .ref k2, .ref k3, .ref k4, .int (nI c2_70), .int (nI w2_71)])), (k1, .inl (cI, 1600, .inl g1_72))] H := hP
            have hD : va_D A [(u0, .inr (8, [.ref (q 2), .int (nI kn)])), (q 2, .inr (6, [.ref (q 0), .int (nI xa2_64), .int xv2_65, .int (nI xo), .int xt2_66, .int (nI xz2_67), .int xf2_68, .int xp2_69])), (q 0, .inr (10, [.ref (q 20), .int (nI tl)])), (q 20, .inl (cI, 1600, .inl (fun j => nI (tb j)))), (h0, .inr (0, [.ref k1, .ref k2, .ref k3, .ref k4, .int (nI c2_70), .int (nI w2_71)])), (k1, .inl (cI, 1600, .inl g1_72))] := hD
            have hL_78 := lenS_ap (len_prod (tb := tb) (n := tl) (len_part (tb := tb) (n := tl) (kind := kn) dd)) hL_63
            refine lv_aload_n hx hb dX8_readSum_72 rfl (lv_at hl 3 rfl) ?_
            refine lv_iload_n hx hb dX8_readSum_73 rfl (lv_at hl 0 rfl) ?_
            refine sk_Vv (q0 := 0) (n := 1) (rest := []) (wr := [(u0, .inr (8, [.ref (q 2), .int (nI kn)])), (q 2, .inr (6, [.ref (q 0), .int (nI xa2_64), .int xv2_65, .int (nI xo), .int xt2_66, .int (nI xz2_67), .int xf2_68, .int xp2_69])), (q 0, .inr (10, [.ref (q 20), .int (nI tl)])), (q 20, .inl (cI, 1600, .inl (fun j => nI (tb j))))]) ⟨hx, hb, hml, hown, hts⟩ hl.1 (c_eCode_addX l D cI cJ cC cZ cS h0 k1 k2 k3 k4 c2_70 w2_71 g1_72 30001 (bindR (bd zo (nxF tb tl)) (apF (prodOf tb tl (rdPart tb tl kn dd)))) 2 (by omega) (by omega) (by decide) (by omega) (hO2_77).2 (rm_S hO2_77 htl hL_78)) w_3_97 w_3_98 w_3_99 w_1_8 w_3_100 (by decide +kernel) ⟨⟨(by dsimp only; omega), (by dsimp only; omega)⟩, (by dsimp only; omega), (by dsimp only; omega)⟩ hK hP hD hS hA [4, 5] [0, 1, 2, 3] rfl rfl (by decide +kernel) (by decide +kernel) (by decide +kernel) rfl rfl rfl rfl (Nat.le_of_ble_eq_true rfl) dX8_readSum_74 (fun u H locs hw hP hD hS => ?_)
            obtain ⟨c2_79, w2_80, g1_81, hc2_82, hw2_83, hO2_84, rfl⟩ := hw
            have hP : va_P D vwCl [(u0, .inr (8, [.ref (q 2), .int (nI kn)])), (q 2, .inr (6, [.ref (q 0), .int (nI xa2_64), .int xv2_65, .int (nI xo), .int xt2_66, .int (nI xz2_67), .int xf2_68, .int xp2_69])), (q 0, .inr (10, [.ref (q 20), .int (nI tl)])), (q 20, .inl (cI, 1600, .inl (fun j => nI (tb j)))), (h0, .inr (0, [.ref k1, .ref k2, .ref k3, .ref k4, .int (nI c2_79), .int (nI w2_80)])), (k1, .inl (cI, 1600, .inl g1_81))] H := hP
            have hD : va_D A [(u0, .inr (8, [.ref (q 2), .int (nI kn)])), (q 2, .inr (6, [.ref (q 0), .int (nI xa2_64), .int xv2_65, .int (nI xo), .int xt2_66, .int (nI xz2_67), .int xf2_68, .int xp2_69])), (q 0, .inr (10, [.ref (q 20), .int (nI tl)])), (q 20, .inl (cI, 1600, .inl (fun j => nI (tb j)))), (h0, .inr (0, [.ref k1, .ref k2, .ref k3, .ref k4, .int (nI c2_79), .int (nI w2_80)])), (k1, .inl (cI, 1600, .inl g1_81))] := hD
            have hO_85 := rs_ad hO2_77 hO2_84
            have hL_86 := lenO_ad (v := 2) hL_78
            refine lv_iinc (v := nI (i + 1)) (lv' := [(2, .int (nI (i + 1))), (3, .int 30001), (0, .ref u0), (1, .ref h0)]) hx hb dX8_readSum_77 hl (k := 1) rfl (ninc i 1 (by decide)) (by decide) rfl (fun ls hl => ?_)
            refine lv_goto (tgt := 7) hx hb dX8_readSum_80 (by decide) ?_
            exact ih_lp_16 (i + 1) xa2_64 xv2_65 xt2_66 xz2_67 xf2_68 xp2_69 c2_79 w2_80 g1_81 (ad (bindR (bd zo (nxF tb tl)) (apF (prodOf tb tl (rdPart tb tl kn dd)))) 2) _ _ _ (by omega) hO_85 (by omega) (by omega) (by omega) (by omega) (by omega) hL_86 (iO_s htb hzO ⟨by rw [c_53]; decide, by rw [c_53]; decide⟩ (prodOf_mono rdPart_mono) hiO) (sum_s htb hzO rdPart_mono (Or.inr ⟨c_53, rfl⟩) hrem) hP hD hS (lv_sub hl [0, 2, 3] rfl)
  exact lp_16 (1600 - 0 + 1) 0 xa2_1 xv2_2 xt2_3 xz2_4 xf2_5 xp2_6 c2_7 w2_8 g1_9 (bindR og (apF (prodOf tb tl (rdPart tb tl kn dd)))) _ _ _ (Nat.lt_succ_self _) hO2_14 (by omega) (by omega) (by omega) (by omega) (by omega) hL_15 (iO_0 _) (sum_0 _) hP hD hS (lv_sub hl [0, 1, 2] rfl)
theorem c_esums (l : Launch) (D : va_G) (cI cJ cC cZ cS : ClassId) (zk zv : Nat) (zf : Value) (dd : Nat) : CT_ereadSum l D cI cJ cC cZ cS zk zv zf dd ∧ CT_ereadPart l D cI cJ cC cZ cS zk zv zf dd := by
  induction dd with
  | zero =>
    have h1 := c_ereadPair l D cI cJ cC cZ cS zk zv zf 0 (fun d h => absurd h (by omega))
    have h2 := c_ereadPart l D cI cJ cC cZ cS zk zv zf 0 (fun d h => absurd h (by omega)) (fun d h => absurd h (by omega)) h1
    exact ⟨c_ereadSum l D cI cJ cC cZ cS zk zv zf 0 (c_ereadProduct l D cI cJ cC cZ cS zk zv zf 0 h2), h2⟩
  | succ n ih =>
    have hs : ∀ d, d + 1 = n + 1 → CT_ereadSum l D cI cJ cC cZ cS zk zv zf d := fun d h => by rw [show d = n by omega]; exact ih.1
    have hp : ∀ d, d + 1 = n + 1 → CT_ereadPart l D cI cJ cC cZ cS zk zv zf d := fun d h => by rw [show d = n by omega]; exact ih.2
    have h1 := c_ereadPair l D cI cJ cC cZ cS zk zv zf (n + 1) hs
    have h2 := c_ereadPart l D cI cJ cC cZ cS zk zv zf (n + 1) hs hp h1
    exact ⟨c_ereadSum l D cI cJ cC cZ cS zk zv zf (n + 1) (c_ereadProduct l D cI cJ cC cZ cS zk zv zf (n + 1) h2), h2⟩
