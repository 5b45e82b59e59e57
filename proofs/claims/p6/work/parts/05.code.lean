theorem dX0_clear_0 : decode cX0_clear 0 = .ok (.aload_n 0, 1) := by decide +kernel
theorem dX0_clear_1 : decode cX0_clear 1 = .ok (.iconst 0, 1) := by decide +kernel
theorem dX0_clear_2 : decode cX0_clear 2 = .ok (.putfield 27, 3) := by decide +kernel
theorem dX0_clear_5 : decode cX0_clear 5 = .ok (.aload_n 0, 1) := by decide +kernel
theorem dX0_clear_6 : decode cX0_clear 6 = .ok (.iconst 0, 1) := by decide +kernel
theorem dX0_clear_7 : decode cX0_clear 7 = .ok (.putfield 31, 3) := by decide +kernel
theorem dX0_clear_10 : decode cX0_clear 10 = .ok (.return_, 1) := by decide +kernel
theorem w_1_133 : (Cond.fieldLink RX0 27 "SameKeeper$Code" "length" "I") ∈ wsL_law := sk_mem (ck_1 _ (List.mem_of_getElem? (i := 133) rfl)) rfl
theorem w_1_136 : (Cond.fieldLink RX0 31 "SameKeeper$Code" "mindsWeek" "Z") ∈ wsL_law := sk_mem (ck_1 _ (List.mem_of_getElem? (i := 136) rfl)) rfl
theorem w_2_217 : (Cond.code yX0_clear cX0_clear 1 none) ∈ wsL_law := sk_mem (ck_2 _ (List.mem_of_getElem? (i := 217) rfl)) rfl
set_option maxHeartbeats 4000000 in
set_option maxRecDepth 100000 in
theorem c_Code_clear (l : Launch) (D : va_G) (cI cJ cC cZ cS : ClassId) (h0 : Nat) (k1 : Nat) (k2 : Nat) (k3 : Nat) (k4 : Nat) (cl : Nat) (mw : Nat)  : skM l yX0_clear cX0_clear 1 none 0 0 0 0 D (skT cI cJ cC cZ cS) [.ref h0] [(h0, .inr (0, [.ref k1, .ref k2, .ref k3, .ref k4, .int (nI cl), .int (nI mw)]))] (skV D (skT cI cJ cC cZ cS) (fun (u : va_W) => u = [(h0, .inr (0, [.ref k1, .ref k2, .ref k3, .ref k4, .int 0, .int 0]))])) := by
  refine skM_of (by decide +kernel) (Nat.le_of_ble_eq_true rfl) ?_
  intro p e s m below meth c A ls E hP hD hl
  obtain ⟨hx, hb, hr, hml, hlocks, hin, hown, hts, hK, hA⟩ := E
  have hown : s.vm.findClass RX0 = some m.cls := hown
  have hS : va_S A s.heap s.heap [] := va_S.rf
  have hl : lv_has ls 1 [(0, .ref h0)] := hl
  refine lv_aload_n hx hb dX0_clear_0 rfl (lv_at hl 0 rfl) ?_
  refine lv_iconst (v := 0) hx hb dX0_clear_1 (by decide) ?_
  refine sk_put (ws' := [(h0, .inr (0, [.ref k1, .ref k2, .ref k3, .ref k4, .int 0, .int (nI mw)]))]) (C := RX0) (T := TX0) (N := 6) (v := .int 0) hx hb hts inlX0 tyX0 tyX0_ok nmX0 hown hK hP hD hS 0 rfl rfl 4 (by decide) w_1_133 rfl rfl rfl (Nat.le_of_ble_eq_true rfl) rfl dX0_clear_2 (fun H locs hP hD hS => ?_)
  refine lv_aload_n hx hb dX0_clear_5 rfl (lv_at hl 0 rfl) ?_
  refine lv_iconst (v := 0) hx hb dX0_clear_6 (by decide) ?_
  refine sk_put (ws' := [(h0, .inr (0, [.ref k1, .ref k2, .ref k3, .ref k4, .int 0, .int 0]))]) (C := RX0) (T := TX0) (N := 6) (v := .int 0) hx hb hts inlX0 tyX0 tyX0_ok nmX0 hown hK hP hD hS 0 rfl rfl 5 (by decide) w_1_136 rfl rfl rfl (Nat.le_of_ble_eq_true rfl) rfl dX0_clear_7 (fun H locs hP hD hS => ?_)
  exact sk_vret hx hb hr hlocks hK hP hD hS rfl (Nat.le_of_ble_eq_true rfl) (Nat.le_of_ble_eq_true rfl) dX0_clear_10
theorem dX0_add_0 : decode cX0_add 0 = .ok (.aload_n 0, 1) := by decide +kernel
theorem dX0_add_1 : decode cX0_add 1 = .ok (.getfield 27, 3) := by decide +kernel
theorem dX0_add_4 : decode cX0_add 4 = .ok (.aload_n 0, 1) := by decide +kernel
theorem dX0_add_5 : decode cX0_add 5 = .ok (.getfield 11, 3) := by decide +kernel
theorem dX0_add_8 : decode cX0_add 8 = .ok (.arraylength, 1) := by decide +kernel
theorem dX0_add_9 : decode cX0_add 9 = .ok (.if_icmp .ge 23, 3) := by decide +kernel
theorem dX0_add_32 : decode cX0_add 32 = .ok (.aload_n 0, 1) := by decide +kernel
theorem dX0_add_33 : decode cX0_add 33 = .ok (.dup, 1) := by decide +kernel
theorem dX0_add_34 : decode cX0_add 34 = .ok (.getfield 31, 3) := by decide +kernel
theorem dX0_add_37 : decode cX0_add 37 = .ok (.iload_n 1, 1) := by decide +kernel
theorem dX0_add_38 : decode cX0_add 38 = .ok (.sipush 10004, 3) := by decide +kernel
theorem dX0_add_41 : decode cX0_add 41 = .ok (.if_icmp .ne 7, 3) := by decide +kernel
theorem dX0_add_48 : decode cX0_add 48 = .ok (.iconst 0, 1) := by decide +kernel
theorem dX0_add_49 : decode cX0_add 49 = .ok (.ior, 1) := by decide +kernel
theorem dX0_add_50 : decode cX0_add 50 = .ok (.putfield 31, 3) := by decide +kernel
theorem dX0_add_53 : decode cX0_add 53 = .ok (.return_, 1) := by decide +kernel
theorem dX0_add_44 : decode cX0_add 44 = .ok (.iconst 1, 1) := by decide +kernel
theorem dX0_add_45 : decode cX0_add 45 = .ok (.goto 4, 3) := by decide +kernel
theorem dX0_add_12 : decode cX0_add 12 = .ok (.aload_n 0, 1) := by decide +kernel
theorem dX0_add_13 : decode cX0_add 13 = .ok (.getfield 11, 3) := by decide +kernel
theorem dX0_add_16 : decode cX0_add 16 = .ok (.aload_n 0, 1) := by decide +kernel
theorem dX0_add_17 : decode cX0_add 17 = .ok (.getfield 27, 3) := by decide +kernel
theorem dX0_add_20 : decode cX0_add 20 = .ok (.iload_n 1, 1) := by decide +kernel
theorem dX0_add_21 : decode cX0_add 21 = .ok (.iastore, 1) := by decide +kernel
theorem dX0_add_22 : decode cX0_add 22 = .ok (.aload_n 0, 1) := by decide +kernel
theorem dX0_add_23 : decode cX0_add 23 = .ok (.dup, 1) := by decide +kernel
theorem dX0_add_24 : decode cX0_add 24 = .ok (.getfield 27, 3) := by decide +kernel
theorem dX0_add_27 : decode cX0_add 27 = .ok (.iconst 1, 1) := by decide +kernel
theorem dX0_add_28 : decode cX0_add 28 = .ok (.iadd, 1) := by decide +kernel
theorem dX0_add_29 : decode cX0_add 29 = .ok (.putfield 27, 3) := by decide +kernel
theorem w_1_129 : (Cond.fieldLink RX0 11 "SameKeeper$Code" "steps" "[I") ∈ wsL_law := sk_mem (ck_1 _ (List.mem_of_getElem? (i := 129) rfl)) rfl
theorem w_3_100 : (Cond.code yX0_add cX0_add 2 none) ∈ wsL_law := sk_mem (ck_3 _ (List.mem_of_getElem? (i := 100) rfl)) rfl
set_option maxHeartbeats 4000000 in
set_option maxRecDepth 100000 in
theorem c_Code_add (l : Launch) (D : va_G) (cI cJ cC cZ cS : ClassId) (h0 : Nat) (k1 : Nat) (k2 : Nat) (k3 : Nat) (k4 : Nat) (cl : Nat) (mw : Nat) (f1 : Nat → Int32) (o : Int32) (hcl : cl ≤ 1600) (hmw : mw ≤ 1) : skM l yX0_add cX0_add 2 none 0 0 0 0 D (skT cI cJ cC cZ cS) [.ref h0, .int o] [(h0, .inr (0, [.ref k1, .ref k2, .ref k3, .ref k4, .int (nI cl), .int (nI mw)])), (k1, .inl (cI, 1600, .inl f1))] (skV D (skT cI cJ cC cZ cS) (fun (u : va_W) => ∃ (c2 : Nat), ∃ (w2 : Nat), ∃ (g1 : Nat → Int32), c2 ≤ 1600 ∧ w2 ≤ 1 ∧ u = [(h0, .inr (0, [.ref k1, .ref k2, .ref k3, .ref k4, .int (nI c2), .int (nI w2)])), (k1, .inl (cI, 1600, .inl g1))])) := by
  refine skM_of (by decide +kernel) (Nat.le_of_ble_eq_true rfl) ?_
  intro p e s m below meth c A ls E hP hD hl
  obtain ⟨hx, hb, hr, hml, hlocks, hin, hown, hts, hK, hA⟩ := E
  have hown : s.vm.findClass RX0 = some m.cls := hown
  have hS : va_S A s.heap s.heap [] := va_S.rf
  have hl : lv_has ls 2 [(0, .ref h0), (1, .int o)] := hl
  refine lv_aload_n hx hb dX0_add_0 rfl (lv_at hl 0 rfl) ?_
  refine sk_get (v := .int (nI cl)) (C := RX0) (T := TX0) (N := 6) hx hb hts inlX0 hown hK hP 0 rfl rfl 4 (by decide) w_1_133 rfl dX0_add_1 ?_
  refine lv_aload_n hx hb dX0_add_4 rfl (lv_at hl 0 rfl) ?_
  refine sk_get (v := .ref k1) (C := RX0) (T := TX0) (N := 6) hx hb hts inlX0 hown hK hP 0 rfl rfl 0 (by decide) w_1_129 rfl dX0_add_5 ?_
  refine va_alen (v := 1600) hx hb hK.1 hP 1 0 rfl rfl rfl dX0_add_8 ?_
  refine lv_icmp_ge (tgt := 32) hx hb dX0_add_9 (by decide) (fun c_1 => ?_) (fun c_1 => ?_)
  · have c_1 : 1600 ≤ cl := (nle 1600 cl (by omega) (by omega)).mp c_1
    refine lv_aload_n hx hb dX0_add_32 rfl (lv_at hl 0 rfl) ?_
    refine lv_dup hx hb dX0_add_33 rfl ?_
    refine sk_get (v := .int (nI mw)) (C := RX0) (T := TX0) (N := 6) hx hb hts inlX0 hown hK hP 0 rfl rfl 5 (by decide) w_1_136 rfl dX0_add_34 ?_
    refine lv_iload_n hx hb dX0_add_37 rfl (lv_at hl 1 rfl) ?_
    refine lv_sipush (v := 10004) hx hb dX0_add_38 (by decide) ?_
    refine lv_icmp_ne (tgt := 48) hx hb dX0_add_41 (by decide) (fun c_2 => ?_) (fun c_2 => ?_)
    · skip
      refine lv_iconst (v := 0) hx hb dX0_add_48 (by decide) ?_
      refine lv_ior hx hb dX0_add_49 ?_
      obtain ⟨k_3, hk_3, ek_3⟩ := nor01 mw 0 (by omega) (by omega)
      refine sk_top (nI k_3) ek_3 ?_
      refine sk_put (ws' := [(h0, .inr (0, [.ref k1, .ref k2, .ref k3, .ref k4, .int (nI cl), .int (nI k_3)])), (k1, .inl (cI, 1600, .inl f1))]) (C := RX0) (T := TX0) (N := 6) (v := .int (nI k_3)) hx hb hts inlX0 tyX0 tyX0_ok nmX0 hown hK hP hD hS 0 rfl rfl 5 (by decide) w_1_136 rfl (nbool k_3 (by omega)) (nfitb k_3 (by omega)) (Nat.le_of_ble_eq_true rfl) rfl dX0_add_50 (fun H locs hP hD hS => ?_)
      exact sk_vret hx hb hr hlocks hK hP hD hS (⟨cl, k_3, f1, by omega, by omega, rfl⟩) (Nat.le_of_ble_eq_true rfl) (Nat.le_of_ble_eq_true rfl) dX0_add_53
    · skip
      refine lv_iconst (v := 1) hx hb dX0_add_44 (by decide) ?_
      refine lv_goto (tgt := 49) hx hb dX0_add_45 (by decide) ?_
      refine lv_ior hx hb dX0_add_49 ?_
      obtain ⟨k_4, hk_4, ek_4⟩ := nor01 mw 1 (by omega) (by omega)
      refine sk_top (nI k_4) ek_4 ?_
      refine sk_put (ws' := [(h0, .inr (0, [.ref k1, .ref k2, .ref k3, .ref k4, .int (nI cl), .int (nI k_4)])), (k1, .inl (cI, 1600, .inl f1))]) (C := RX0) (T := TX0) (N := 6) (v := .int (nI k_4)) hx hb hts inlX0 tyX0 tyX0_ok nmX0 hown hK hP hD hS 0 rfl rfl 5 (by decide) w_1_136 rfl (nbool k_4 (by omega)) (nfitb k_4 (by omega)) (Nat.le_of_ble_eq_true rfl) rfl dX0_add_50 (fun H locs hP hD hS => ?_)
      exact sk_vret hx hb hr hlocks hK hP hD hS (⟨cl, k_4, f1, by omega, by omega, rfl⟩) (Nat.le_of_ble_eq_true rfl) (Nat.le_of_ble_eq_true rfl) dX0_add_53
  · have c_1 : ¬ (1600 ≤ cl) := fun h => c_1 ((nle 1600 cl (by omega) (by omega)).mpr h)
    refine lv_aload_n hx hb dX0_add_12 rfl (lv_at hl 0 rfl) ?_
    refine sk_get (v := .ref k1) (C := RX0) (T := TX0) (N := 6) hx hb hts inlX0 hown hK hP 0 rfl rfl 0 (by decide) w_1_129 rfl dX0_add_13 ?_
    refine lv_aload_n hx hb dX0_add_16 rfl (lv_at hl 0 rfl) ?_
    refine sk_get (v := .int (nI cl)) (C := RX0) (T := TX0) (N := 6) hx hb hts inlX0 hown hK hP 0 rfl rfl 4 (by decide) w_1_133 rfl dX0_add_17 ?_
    refine lv_iload_n hx hb dX0_add_20 rfl (lv_at hl 1 rfl) ?_
    refine sk_iastO (ws' := fun f_5 => [(h0, .inr (0, [.ref k1, .ref k2, .ref k3, .ref k4, .int (nI cl), .int (nI mw)])), (k1, .inl (cI, 1600, .inl f_5))]) hx hb hK hP hD hS 1 0 rfl rfl (vin cl 1600 (by omega) (by omega)) (fun _ => rfl) dX0_add_21 (fun f_5 H locs hP hD hS => ?_)
    refine lv_aload_n hx hb dX0_add_22 rfl (lv_at hl 0 rfl) ?_
    refine lv_dup hx hb dX0_add_23 rfl ?_
    refine sk_get (v := .int (nI cl)) (C := RX0) (T := TX0) (N := 6) hx hb hts inlX0 hown hK hP 0 rfl rfl 4 (by decide) w_1_133 rfl dX0_add_24 ?_
    refine lv_iconst (v := 1) hx hb dX0_add_27 (by decide) ?_
    refine lv_iadd hx hb dX0_add_28 ?_
    refine sk_top (nI (cl + 1)) (nI_add cl 1) ?_
    refine sk_put (ws' := [(h0, .inr (0, [.ref k1, .ref k2, .ref k3, .ref k4, .int (nI (cl + 1)), .int (nI mw)])), (k1, .inl (cI, 1600, .inl f_5))]) (C := RX0) (T := TX0) (N := 6) (v := .int (nI (cl + 1))) hx hb hts inlX0 tyX0 tyX0_ok nmX0 hown hK hP hD hS 0 rfl rfl 4 (by decide) w_1_133 rfl rfl rfl (Nat.le_of_ble_eq_true rfl) rfl dX0_add_29 (fun H locs hP hD hS => ?_)
    refine lv_aload_n hx hb dX0_add_32 rfl (lv_at hl 0 rfl) ?_
    refine lv_dup hx hb dX0_add_33 rfl ?_
    refine sk_get (v := .int (nI mw)) (C := RX0) (T := TX0) (N := 6) hx hb hts inlX0 hown hK hP 0 rfl rfl 5 (by decide) w_1_136 rfl dX0_add_34 ?_
    refine lv_iload_n hx hb dX0_add_37 rfl (lv_at hl 1 rfl) ?_
    refine lv_sipush (v := 10004) hx hb dX0_add_38 (by decide) ?_
    refine lv_icmp_ne (tgt := 48) hx hb dX0_add_41 (by decide) (fun c_6 => ?_) (fun c_6 => ?_)
    · skip
      refine lv_iconst (v := 0) hx hb dX0_add_48 (by decide) ?_
      refine lv_ior hx hb dX0_add_49 ?_
      obtain ⟨k_7, hk_7, ek_7⟩ := nor01 mw 0 (by omega) (by omega)
      refine sk_top (nI k_7) ek_7 ?_
      refine sk_put (ws' := [(h0, .inr (0, [.ref k1, .ref k2, .ref k3, .ref k4, .int (nI (cl + 1)), .int (nI k_7)])), (k1, .inl (cI, 1600, .inl f_5))]) (C := RX0) (T := TX0) (N := 6) (v := .int (nI k_7)) hx hb hts inlX0 tyX0 tyX0_ok nmX0 hown hK hP hD hS 0 rfl rfl 5 (by decide) w_1_136 rfl (nbool k_7 (by omega)) (nfitb k_7 (by omega)) (Nat.le_of_ble_eq_true rfl) rfl dX0_add_50 (fun H locs hP hD hS => ?_)
      exact sk_vret hx hb hr hlocks hK hP hD hS (⟨cl + 1, k_7, f_5, by omega, by omega, rfl⟩) (Nat.le_of_ble_eq_true rfl) (Nat.le_of_ble_eq_true rfl) dX0_add_53
    · skip
      refine lv_iconst (v := 1) hx hb dX0_add_44 (by decide) ?_
      refine lv_goto (tgt := 49) hx hb dX0_add_45 (by decide) ?_
      refine lv_ior hx hb dX0_add_49 ?_
      obtain ⟨k_8, hk_8, ek_8⟩ := nor01 mw 1 (by omega) (by omega)
      refine sk_top (nI k_8) ek_8 ?_
      refine sk_put (ws' := [(h0, .inr (0, [.ref k1, .ref k2, .ref k3, .ref k4, .int (nI (cl + 1)), .int (nI k_8)])), (k1, .inl (cI, 1600, .inl f_5))]) (C := RX0) (T := TX0) (N := 6) (v := .int (nI k_8)) hx hb hts inlX0 tyX0 tyX0_ok nmX0 hown hK hP hD hS 0 rfl rfl 5 (by decide) w_1_136 rfl (nbool k_8 (by omega)) (nfitb k_8 (by omega)) (Nat.le_of_ble_eq_true rfl) rfl dX0_add_50 (fun H locs hP hD hS => ?_)
      exact sk_vret hx hb hr hlocks hK hP hD hS (⟨cl + 1, k_8, f_5, by omega, by omega, rfl⟩) (Nat.le_of_ble_eq_true rfl) (Nat.le_of_ble_eq_true rfl) dX0_add_53
theorem dX0_name_0 : decode cX0_name 0 = .ok (.iload_n 1, 1) := by decide +kernel
theorem dX0_name_1 : decode cX0_name 1 = .ok (.sipush 10000, 3) := by decide +kernel
theorem dX0_name_4 : decode cX0_name 4 = .ok (.isub, 1) := by decide +kernel
theorem dX0_name_5 : decode cX0_name 5 = .ok (.istore 4, 2) := by decide +kernel
theorem dX0_name_7 : decode cX0_name 7 = .ok (.iload 4, 2) := by decide +kernel
theorem dX0_name_9 : decode cX0_name 9 = .ok (.ifCond .lt 18, 3) := by decide +kernel
theorem dX0_name_27 : decode cX0_name 27 = .ok (.return_, 1) := by decide +kernel
theorem dX0_name_12 : decode cX0_name 12 = .ok (.iload 4, 2) := by decide +kernel
theorem dX0_name_14 : decode cX0_name 14 = .ok (.bipush 9, 2) := by decide +kernel
theorem dX0_name_16 : decode cX0_name 16 = .ok (.if_icmp .ge 11, 3) := by decide +kernel
theorem dX0_name_19 : decode cX0_name 19 = .ok (.aload_n 0, 1) := by decide +kernel
theorem dX0_name_20 : decode cX0_name 20 = .ok (.getfield 21, 3) := by decide +kernel
theorem dX0_name_23 : decode cX0_name 23 = .ok (.iload 4, 2) := by decide +kernel
theorem dX0_name_25 : decode cX0_name 25 = .ok (.lload_n 2, 1) := by decide +kernel
theorem dX0_name_26 : decode cX0_name 26 = .ok (.lastore, 1) := by decide +kernel
theorem w_1_131 : (Cond.fieldLink RX0 21 "SameKeeper$Code" "names" "[J") ∈ wsL_law := sk_mem (ck_1 _ (List.mem_of_getElem? (i := 131) rfl)) rfl
theorem w_3_215 : (Cond.code yX0_name cX0_name 5 none) ∈ wsL_law := sk_mem (ck_3 _ (List.mem_of_getElem? (i := 215) rfl)) rfl
set_option maxHeartbeats 4000000 in
set_option maxRecDepth 100000 in
theorem c_Code_name (l : Launch) (D : va_G) (cI cJ cC cZ cS : ClassId) (h0 : Nat) (k1 : Nat) (k2 : Nat) (k3 : Nat) (k4 : Nat) (cl : Nat) (mw : Nat) (f3 : Nat → Int64) (o : Int32) (x : Int64)  : skM l yX0_name cX0_name 5 none 0 0 0 0 D (skT cI cJ cC cZ cS) [.ref h0, .int o, .long x] [(h0, .inr (0, [.ref k1, .ref k2, .ref k3, .ref k4, .int (nI cl), .int (nI mw)])), (k3, .inl (cJ, 9, .inr (.inl f3)))] (skV D (skT cI cJ cC cZ cS) (fun (u : va_W) => ∃ (g3 : Nat → Int64), u = [(h0, .inr (0, [.ref k1, .ref k2, .ref k3, .ref k4, .int (nI cl), .int (nI mw)])), (k3, .inl (cJ, 9, .inr (.inl g3)))])) := by
  refine skM_of (by decide +kernel) (Nat.le_of_ble_eq_true rfl) ?_
  intro p e s m below meth c A ls E hP hD hl
  obtain ⟨hx, hb, hr, hml, hlocks, hin, hown, hts, hK, hA⟩ := E
  have hown : s.vm.findClass RX0 = some m.cls := hown
  have hS : va_S A s.heap s.heap [] := va_S.rf
  have hl : lv_has ls 5 [(0, .ref h0), (1, .int o), (2, .long x)] := hl
  refine lv_iload_n hx hb dX0_name_0 rfl (lv_at hl 1 rfl) ?_
  refine lv_sipush (v := 10000) hx hb dX0_name_1 (by decide) ?_
  refine lv_isub hx hb dX0_name_4 ?_
  refine lv_topi (fun v_1 ev_1 => ?_)
  refine lv_istore (lv' := [(4, .int v_1), (0, .ref h0), (1, .int o), (2, .long x)]) hx hb dX0_name_5 hl (by decide) rfl (fun ls hl => ?_)
  refine lv_iload hx hb dX0_name_7 (lv_at hl 0 rfl) ?_
  refine lv_if_lt (tgt := 27) hx hb dX0_name_9 (by decide) (fun c_2 => ?_) (fun c_2 => ?_)
  · skip
    exact sk_vret hx hb hr hlocks hK hP hD hS (⟨f3, rfl⟩) (Nat.le_of_ble_eq_true rfl) (Nat.le_of_ble_eq_true rfl) dX0_name_27
  · obtain ⟨k_3, hk_3, rfl⟩ := nof v_1 c_2
    refine lv_iload hx hb dX0_name_12 (lv_at hl 0 rfl) ?_
    refine lv_bipush (v := 9) hx hb dX0_name_14 (by decide) ?_
    refine lv_icmp_ge (tgt := 27) hx hb dX0_name_16 (by decide) (fun c_4 => ?_) (fun c_4 => ?_)
    · have c_4 : 9 ≤ k_3 := (nle 9 k_3 (by omega) (by omega)).mp c_4
      exact sk_vret hx hb hr hlocks hK hP hD hS (⟨f3, rfl⟩) (Nat.le_of_ble_eq_true rfl) (Nat.le_of_ble_eq_true rfl) dX0_name_27
    · have c_4 : ¬ (9 ≤ k_3) := fun h => c_4 ((nle 9 k_3 (by omega) (by omega)).mpr h)
      refine lv_aload_n hx hb dX0_name_19 rfl (lv_at hl 1 rfl) ?_
      refine sk_get (v := .ref k3) (C := RX0) (T := TX0) (N := 6) hx hb hts inlX0 hown hK hP 0 rfl rfl 2 (by decide) w_1_131 rfl dX0_name_20 ?_
      refine lv_iload hx hb dX0_name_23 (lv_at hl 0 rfl) ?_
      refine lv_lload_n hx hb dX0_name_25 rfl (lv_at hl 3 rfl) ?_
      refine sk_lastO (ws' := fun f_5 => [(h0, .inr (0, [.ref k1, .ref k2, .ref k3, .ref k4, .int (nI cl), .int (nI mw)])), (k3, .inl (cJ, 9, .inr (.inl f_5)))]) hx hb hK hP hD hS 1 1 rfl rfl (vin k_3 9 (by omega) (by omega)) (fun _ => rfl) dX0_name_26 (fun f_5 H locs hP hD hS => ?_)
      exact sk_vret hx hb hr hlocks hK hP hD hS (⟨f_5, rfl⟩) (Nat.le_of_ble_eq_true rfl) (Nat.le_of_ble_eq_true rfl) dX0_name_27
theorem dX0_nameCount_0 : decode cX0_nameCount 0 = .ok (.iload_n 1, 1) := by decide +kernel
theorem dX0_nameCount_1 : decode cX0_nameCount 1 = .ok (.ifCond .lt 16, 3) := by decide +kernel
theorem dX0_nameCount_17 : decode cX0_nameCount 17 = .ok (.return_, 1) := by decide +kernel
theorem dX0_nameCount_4 : decode cX0_nameCount 4 = .ok (.iload_n 1, 1) := by decide +kernel
theorem dX0_nameCount_5 : decode cX0_nameCount 5 = .ok (.bipush 10, 2) := by decide +kernel
theorem dX0_nameCount_7 : decode cX0_nameCount 7 = .ok (.if_icmp .ge 10, 3) := by decide +kernel
theorem dX0_nameCount_10 : decode cX0_nameCount 10 = .ok (.aload_n 0, 1) := by decide +kernel
theorem dX0_nameCount_11 : decode cX0_nameCount 11 = .ok (.getfield 24, 3) := by decide +kernel
theorem dX0_nameCount_14 : decode cX0_nameCount 14 = .ok (.iload_n 1, 1) := by decide +kernel
theorem dX0_nameCount_15 : decode cX0_nameCount 15 = .ok (.lload_n 2, 1) := by decide +kernel
theorem dX0_nameCount_16 : decode cX0_nameCount 16 = .ok (.lastore, 1) := by decide +kernel
theorem w_1_132 : (Cond.fieldLink RX0 24 "SameKeeper$Code" "counts" "[J") ∈ wsL_law := sk_mem (ck_1 _ (List.mem_of_getElem? (i := 132) rfl)) rfl
theorem w_5_115 : (Cond.code yX0_nameCount cX0_nameCount 4 none) ∈ wsL_law := sk_mem (ck_5 _ (List.mem_of_getElem? (i := 115) rfl)) rfl
set_option maxHeartbeats 4000000 in
set_option maxRecDepth 100000 in
theorem c_Code_nameCount (l : Launch) (D : va_G) (cI cJ cC cZ cS : ClassId) (h0 : Nat) (k1 : Nat) (k2 : Nat) (k3 : Nat) (k4 : Nat) (cl : Nat) (mw : Nat) (f4 : Nat → Int64) (o : Int32) (x : Int64)  : skM l yX0_nameCount cX0_nameCount 4 none 0 0 0 0 D (skT cI cJ cC cZ cS) [.ref h0, .int o, .long x] [(h0, .inr (0, [.ref k1, .ref k2, .ref k3, .ref k4, .int (nI cl), .int (nI mw)])), (k4, .inl (cJ, 10, .inr (.inl f4)))] (skV D (skT cI cJ cC cZ cS) (fun (u : va_W) => ∃ (g4 : Nat → Int64), u = [(h0, .inr (0, [.ref k1, .ref k2, .ref k3, .ref k4, .int (nI cl), .int (nI mw)])), (k4, .inl (cJ, 10, .inr (.inl g4)))])) := by
  refine skM_of (by decide +kernel) (Nat.le_of_ble_eq_true rfl) ?_
  intro p e s m below meth c A ls E hP hD hl
  obtain ⟨hx, hb, hr, hml, hlocks, hin, hown, hts, hK, hA⟩ := E
  have hown : s.vm.findClass RX0 = some m.cls := hown
  have hS : va_S A s.heap s.heap [] := va_S.rf
  have hl : lv_has ls 4 [(0, .ref h0), (1, .int o), (2, .long x)] := hl
  refine lv_iload_n hx hb dX0_nameCount_0 rfl (lv_at hl 1 rfl) ?_
  refine lv_if_lt (tgt := 17) hx hb dX0_nameCount_1 (by decide) (fun c_1 => ?_) (fun c_1 => ?_)
  · skip
    exact sk_vret hx hb hr hlocks hK hP hD hS (⟨f4, rfl⟩) (Nat.le_of_ble_eq_true rfl) (Nat.le_of_ble_eq_true rfl) dX0_nameCount_17
  · obtain ⟨k_2, hk_2, rfl⟩ := nof o c_1
    refine lv_iload_n hx hb dX0_nameCount_4 rfl (lv_at hl 1 rfl) ?_
    refine lv_bipush (v := 10) hx hb dX0_nameCount_5 (by decide) ?_
    refine lv_icmp_ge (tgt := 17) hx hb dX0_nameCount_7 (by decide) (fun c_3 => ?_) (fun c_3 => ?_)
    · have c_3 : 10 ≤ k_2 := (nle 10 k_2 (by omega) (by omega)).mp c_3
      exact sk_vret hx hb hr hlocks hK hP hD hS (⟨f4, rfl⟩) (Nat.le_of_ble_eq_true rfl) (Nat.le_of_ble_eq_true rfl) dX0_nameCount_17
    · have c_3 : ¬ (10 ≤ k_2) := fun h => c_3 ((nle 10 k_2 (by omega) (by omega)).mpr h)
      refine lv_aload_n hx hb dX0_nameCount_10 rfl (lv_at hl 0 rfl) ?_
      refine sk_get (v := .ref k4) (C := RX0) (T := TX0) (N := 6) hx hb hts inlX0 hown hK hP 0 rfl rfl 3 (by decide) w_1_132 rfl dX0_nameCount_11 ?_
      refine lv_iload_n hx hb dX0_nameCount_14 rfl (lv_at hl 1 rfl) ?_
      refine lv_lload_n hx hb dX0_nameCount_15 rfl (lv_at hl 2 rfl) ?_
      refine sk_lastO (ws' := fun f_4 => [(h0, .inr (0, [.ref k1, .ref k2, .ref k3, .ref k4, .int (nI cl), .int (nI mw)])), (k4, .inl (cJ, 10, .inr (.inl f_4)))]) hx hb hK hP hD hS 1 1 rfl rfl (vin k_2 10 (by omega) (by omega)) (fun _ => rfl) dX0_nameCount_16 (fun f_4 H locs hP hD hS => ?_)
      exact sk_vret hx hb hr hlocks hK hP hD hS (⟨f_4, rfl⟩) (Nat.le_of_ble_eq_true rfl) (Nat.le_of_ble_eq_true rfl) dX0_nameCount_17
theorem lg_nonneg {a : Int64} (h : ¬ lg_cmp a 0 < 0) : 0 ≤ a.toInt := by
  rw [lg_cmp_lt, Int64.lt_iff_toInt_lt] at h
  have e0 : (0 : Int64).toInt = 0 := rfl
  rw [e0] at h
  omega
theorem lg_below10 {a : Int64} (h : ¬ 0 ≤ lg_cmp a 10) : a.toInt < (10 : Nat) := by
  rw [lg_cmp_ge, Int64.le_iff_toInt_le] at h
  have e0 : (10 : Int64).toInt = 10 := rfl
  rw [e0] at h
  omega
theorem lg_ne0 {a : Int64} (h : ¬ lg_cmp a 0 = 0) : ¬ a = 0 := fun q => h ((lg_cmp_eq a 0).mpr q)
theorem dX0_ofOne_0 : decode cX0_ofOne 0 = .ok (.iload_n 1, 1) := by decide +kernel
theorem dX0_ofOne_1 : decode cX0_ofOne 1 = .ok (.sipush 20001, 3) := by decide +kernel
theorem dX0_ofOne_4 : decode cX0_ofOne 4 = .ok (.if_icmp .ne 15, 3) := by decide +kernel
theorem dX0_ofOne_19 : decode cX0_ofOne 19 = .ok (.lload_n 2, 1) := by decide +kernel
theorem dX0_ofOne_20 : decode cX0_ofOne 20 = .ok (.lconst 0, 1) := by decide +kernel
theorem dX0_ofOne_21 : decode cX0_ofOne 21 = .ok (.lcmp, 1) := by decide +kernel
theorem dX0_ofOne_22 : decode cX0_ofOne 22 = .ok (.ifCond .lt 21, 3) := by decide +kernel
theorem dX0_ofOne_43 : decode cX0_ofOne 43 = .ok (.lconst 0, 1) := by decide +kernel
theorem dX0_ofOne_44 : decode cX0_ofOne 44 = .ok (.lreturn, 1) := by decide +kernel
theorem dX0_ofOne_25 : decode cX0_ofOne 25 = .ok (.lload_n 2, 1) := by decide +kernel
theorem dX0_ofOne_26 : decode cX0_ofOne 26 = .ok (.ldc2_w 49, 3) := by decide +kernel
theorem dX0_ofOne_29 : decode cX0_ofOne 29 = .ok (.lcmp, 1) := by decide +kernel
theorem dX0_ofOne_30 : decode cX0_ofOne 30 = .ok (.ifCond .ge 13, 3) := by decide +kernel
theorem dX0_ofOne_33 : decode cX0_ofOne 33 = .ok (.aload_n 0, 1) := by decide +kernel
theorem dX0_ofOne_34 : decode cX0_ofOne 34 = .ok (.getfield 24, 3) := by decide +kernel
theorem dX0_ofOne_37 : decode cX0_ofOne 37 = .ok (.lload_n 2, 1) := by decide +kernel
theorem dX0_ofOne_38 : decode cX0_ofOne 38 = .ok (.l2i, 1) := by decide +kernel
theorem dX0_ofOne_39 : decode cX0_ofOne 39 = .ok (.laload, 1) := by decide +kernel
theorem dX0_ofOne_40 : decode cX0_ofOne 40 = .ok (.goto 4, 3) := by decide +kernel
theorem dX0_ofOne_7 : decode cX0_ofOne 7 = .ok (.lload_n 2, 1) := by decide +kernel
theorem dX0_ofOne_8 : decode cX0_ofOne 8 = .ok (.lconst 0, 1) := by decide +kernel
theorem dX0_ofOne_9 : decode cX0_ofOne 9 = .ok (.lcmp, 1) := by decide +kernel
theorem dX0_ofOne_10 : decode cX0_ofOne 10 = .ok (.ifCond .ne 7, 3) := by decide +kernel
theorem dX0_ofOne_17 : decode cX0_ofOne 17 = .ok (.lconst 0, 1) := by decide +kernel
theorem dX0_ofOne_18 : decode cX0_ofOne 18 = .ok (.lreturn, 1) := by decide +kernel
theorem dX0_ofOne_13 : decode cX0_ofOne 13 = .ok (.lconst 1, 1) := by decide +kernel
theorem dX0_ofOne_14 : decode cX0_ofOne 14 = .ok (.goto 4, 3) := by decide +kernel
theorem w_4_6 : (Cond.constantLong RX0 49 (10)) ∈ wsL_law := sk_mem (ck_4 _ (List.mem_of_getElem? (i := 6) rfl)) rfl
theorem w_4_5 : (Cond.code yX0_ofOne cX0_ofOne 4 (some .long)) ∈ wsL_law := sk_mem (ck_4 _ (List.mem_of_getElem? (i := 5) rfl)) rfl
set_option maxHeartbeats 4000000 in
set_option maxRecDepth 100000 in
theorem c_Code_ofOne (l : Launch) (D : va_G) (cI cJ cC cZ cS : ClassId) (h0 : Nat) (k1 : Nat) (k2 : Nat) (k3 : Nat) (k4 : Nat) (cl : Nat) (mw : Nat) (f4 : Nat → Int64) (o : Int32) (x : Int64)  : skM l yX0_ofOne cX0_ofOne 4 (some .long) 0 0 0 0 D (skT cI cJ cC cZ cS) [.ref h0, .int o, .long x] [(h0, .inr (0, [.ref k1, .ref k2, .ref k3, .ref k4, .int (nI cl), .int (nI mw)])), (k4, .inl (cJ, 10, .inr (.inl f4)))] (skL D (skT cI cJ cC cZ cS) (fun (r : Int64) (u : va_W) => u = [(h0, .inr (0, [.ref k1, .ref k2, .ref k3, .ref k4, .int (nI cl), .int (nI mw)])), (k4, .inl (cJ, 10, .inr (.inl f4)))])) := by
  refine skM_of (by decide +kernel) (Nat.le_of_ble_eq_true rfl) ?_
  intro p e s m below meth c A ls E hP hD hl
  obtain ⟨hx, hb, hr, hml, hlocks, hin, hown, hts, hK, hA⟩ := E
  have hown : s.vm.findClass RX0 = some m.cls := hown
  have hS : va_S A s.heap s.heap [] := va_S.rf
  have hl : lv_has ls 4 [(0, .ref h0), (1, .int o), (2, .long x)] := hl
  refine lv_iload_n hx hb dX0_ofOne_0 rfl (lv_at hl 1 rfl) ?_
  refine lv_sipush (v := 20001) hx hb dX0_ofOne_1 (by decide) ?_
  refine lv_icmp_ne (tgt := 19) hx hb dX0_ofOne_4 (by decide) (fun c_1 => ?_) (fun c_1 => ?_)
  · skip
    refine lv_lload_n hx hb dX0_ofOne_19 rfl (lv_at hl 2 rfl) ?_
    refine lv_lconst (v := 0) hx hb dX0_ofOne_20 (by decide) ?_
    refine W.lcmp hx hb dX0_ofOne_21 ?_
    refine lv_if_lt (tgt := 43) hx hb dX0_ofOne_22 (by decide) (fun c_2 => ?_) (fun c_2 => ?_)
    · skip
      refine lv_lconst (v := 0) hx hb dX0_ofOne_43 (by decide) ?_
      exact sk_lret hx hb hr hlocks hK hP hD hS rfl (Nat.le_of_ble_eq_true rfl) (Nat.le_of_ble_eq_true rfl) dX0_ofOne_44
    · skip
      refine lv_lload_n hx hb dX0_ofOne_25 rfl (lv_at hl 2 rfl) ?_
      refine lv_ldc2 (v := 10) hx hb hown (hts _ w_4_6) dX0_ofOne_26 ?_
      refine W.lcmp hx hb dX0_ofOne_29 ?_
      refine lv_if_ge (tgt := 43) hx hb dX0_ofOne_30 (by decide) (fun c_3 => ?_) (fun c_3 => ?_)
      · skip
        refine lv_lconst (v := 0) hx hb dX0_ofOne_43 (by decide) ?_
        exact sk_lret hx hb hr hlocks hK hP hD hS rfl (Nat.le_of_ble_eq_true rfl) (Nat.le_of_ble_eq_true rfl) dX0_ofOne_44
      · skip
        refine lv_aload_n hx hb dX0_ofOne_33 rfl (lv_at hl 0 rfl) ?_
        refine sk_get (v := .ref k4) (C := RX0) (T := TX0) (N := 6) hx hb hts inlX0 hown hK hP 0 rfl rfl 3 (by decide) w_1_132 rfl dX0_ofOne_34 ?_
        refine lv_lload_n hx hb dX0_ofOne_37 rfl (lv_at hl 2 rfl) ?_
        refine lv_l2i hx hb dX0_ofOne_38 rfl ?_
        obtain ⟨k_4, hk_4, ek_4⟩ := nl2i (a := x) (n := 10) (lg_nonneg c_2) (lg_below10 c_3) (by omega)
        refine sk_top (nI k_4) ek_4 ?_
        refine va_lald hx hb hK.1 hP 1 1 rfl rfl (vin k_4 10 (by omega) (by omega)) dX0_ofOne_39 ?_
        refine lv_topl (fun v_5 ev_5 => ?_)
        refine lv_goto (tgt := 44) hx hb dX0_ofOne_40 (by decide) ?_
        exact sk_lret hx hb hr hlocks hK hP hD hS rfl (Nat.le_of_ble_eq_true rfl) (Nat.le_of_ble_eq_true rfl) dX0_ofOne_44
  · skip
    refine lv_lload_n hx hb dX0_ofOne_7 rfl (lv_at hl 2 rfl) ?_
    refine lv_lconst (v := 0) hx hb dX0_ofOne_8 (by decide) ?_
    refine W.lcmp hx hb dX0_ofOne_9 ?_
    refine lv_if_ne (tgt := 17) hx hb dX0_ofOne_10 (by decide) (fun c_6 => ?_) (fun c_6 => ?_)
    · skip
      refine lv_lconst (v := 0) hx hb dX0_ofOne_17 (by decide) ?_
      exact sk_lret hx hb hr hlocks hK hP hD hS rfl (Nat.le_of_ble_eq_true rfl) (Nat.le_of_ble_eq_true rfl) dX0_ofOne_18
    · skip
      refine lv_lconst (v := 1) hx hb dX0_ofOne_13 (by decide) ?_
      refine lv_goto (tgt := 18) hx hb dX0_ofOne_14 (by decide) ?_
      exact sk_lret hx hb hr hlocks hK hP hD hS rfl (Nat.le_of_ble_eq_true rfl) (Nat.le_of_ble_eq_true rfl) dX0_ofOne_18
theorem dX0_bounded_0 : decode cX0_bounded 0 = .ok (.lload_n 0, 1) := by decide +kernel
theorem dX0_bounded_1 : decode cX0_bounded 1 = .ok (.ldc2_w 64, 3) := by decide +kernel
theorem dX0_bounded_4 : decode cX0_bounded 4 = .ok (.lcmp, 1) := by decide +kernel
theorem dX0_bounded_5 : decode cX0_bounded 5 = .ok (.ifCond .le 7, 3) := by decide +kernel
theorem dX0_bounded_12 : decode cX0_bounded 12 = .ok (.lload_n 0, 1) := by decide +kernel
theorem dX0_bounded_13 : decode cX0_bounded 13 = .ok (.ldc2_w 66, 3) := by decide +kernel
theorem dX0_bounded_16 : decode cX0_bounded 16 = .ok (.lcmp, 1) := by decide +kernel
theorem dX0_bounded_17 : decode cX0_bounded 17 = .ok (.ifCond .ge 9, 3) := by decide +kernel
theorem dX0_bounded_26 : decode cX0_bounded 26 = .ok (.lload_n 0, 1) := by decide +kernel
theorem dX0_bounded_27 : decode cX0_bounded 27 = .ok (.lreturn, 1) := by decide +kernel
theorem dX0_bounded_20 : decode cX0_bounded 20 = .ok (.ldc2_w 66, 3) := by decide +kernel
theorem dX0_bounded_23 : decode cX0_bounded 23 = .ok (.goto 4, 3) := by decide +kernel
theorem dX0_bounded_8 : decode cX0_bounded 8 = .ok (.ldc2_w 64, 3) := by decide +kernel
theorem dX0_bounded_11 : decode cX0_bounded 11 = .ok (.lreturn, 1) := by decide +kernel
theorem w_3_231 : (Cond.constantLong RX0 64 (1000000)) ∈ wsL_law := sk_mem (ck_3 _ (List.mem_of_getElem? (i := 231) rfl)) rfl
theorem w_3_232 : (Cond.constantLong RX0 66 (-1000000)) ∈ wsL_law := sk_mem (ck_3 _ (List.mem_of_getElem? (i := 232) rfl)) rfl
theorem w_3_230 : (Cond.code yX0_bounded cX0_bounded 2 (some .long)) ∈ wsL_law := sk_mem (ck_3 _ (List.mem_of_getElem? (i := 230) rfl)) rfl
set_option maxHeartbeats 4000000 in
set_option maxRecDepth 100000 in
theorem c_bounded (l : Launch) (D : va_G) (cI cJ cC cZ cS : ClassId) (x : Int64)  : skM l yX0_bounded cX0_bounded 2 (some .long) 0 0 0 0 D (skT cI cJ cC cZ cS) [.long x] [] (skL D (skT cI cJ cC cZ cS) (fun (r : Int64) (u : va_W) => u = [])) := by
  refine skM_of (by decide +kernel) (Nat.le_of_ble_eq_true rfl) ?_
  intro p e s m below meth c A ls E hP hD hl
  obtain ⟨hx, hb, hr, hml, hlocks, hin, hown, hts, hK, hA⟩ := E
  have hown : s.vm.findClass RX0 = some m.cls := hown
  have hS : va_S A s.heap s.heap [] := va_S.rf
  have hl : lv_has ls 2 [(0, .long x)] := hl
  refine lv_lload_n hx hb dX0_bounded_0 rfl (lv_at hl 0 rfl) ?_
  refine lv_ldc2 (v := 1000000) hx hb hown (hts _ w_3_231) dX0_bounded_1 ?_
  refine W.lcmp hx hb dX0_bounded_4 ?_
  refine lv_if_le (tgt := 12) hx hb dX0_bounded_5 (by decide) (fun c_1 => ?_) (fun c_1 => ?_)
  · skip
    refine lv_lload_n hx hb dX0_bounded_12 rfl (lv_at hl 0 rfl) ?_
    refine lv_ldc2 (v := (-1000000)) hx hb hown (hts _ w_3_232) dX0_bounded_13 ?_
    refine W.lcmp hx hb dX0_bounded_16 ?_
    refine lv_if_ge (tgt := 26) hx hb dX0_bounded_17 (by decide) (fun c_2 => ?_) (fun c_2 => ?_)
    · skip
      refine lv_lload_n hx hb dX0_bounded_26 rfl (lv_at hl 0 rfl) ?_
      exact sk_lret hx hb hr hlocks hK hP hD hS rfl (Nat.le_of_ble_eq_true rfl) (Nat.le_of_ble_eq_true rfl) dX0_bounded_27
    · skip
      refine lv_ldc2 (v := (-1000000)) hx hb hown (hts _ w_3_232) dX0_bounded_20 ?_
      refine lv_goto (tgt := 27) hx hb dX0_bounded_23 (by decide) ?_
      exact sk_lret hx hb hr hlocks hK hP hD hS rfl (Nat.le_of_ble_eq_true rfl) (Nat.le_of_ble_eq_true rfl) dX0_bounded_27
  · skip
    refine lv_ldc2 (v := 1000000) hx hb hown (hts _ w_3_231) dX0_bounded_8 ?_
    exact sk_lret hx hb hr hlocks hK hP hD hS rfl (Nat.le_of_ble_eq_true rfl) (Nat.le_of_ble_eq_true rfl) dX0_bounded_11
theorem dJ9_floorDiv_f86c9_0 : decode cJ9_floorDiv_f86c9 0 = .ok (.lload_n 0, 1) := by decide +kernel
theorem dJ9_floorDiv_f86c9_1 : decode cJ9_floorDiv_f86c9 1 = .ok (.lload_n 2, 1) := by decide +kernel
theorem dJ9_floorDiv_f86c9_2 : decode cJ9_floorDiv_f86c9 2 = .ok (.ldiv, 1) := by decide +kernel
theorem dJ9_floorDiv_f86c9_3 : decode cJ9_floorDiv_f86c9 3 = .ok (.lstore 4, 2) := by decide +kernel
theorem dJ9_floorDiv_f86c9_5 : decode cJ9_floorDiv_f86c9 5 = .ok (.lload_n 0, 1) := by decide +kernel
theorem dJ9_floorDiv_f86c9_6 : decode cJ9_floorDiv_f86c9 6 = .ok (.lload_n 2, 1) := by decide +kernel
theorem dJ9_floorDiv_f86c9_7 : decode cJ9_floorDiv_f86c9 7 = .ok (.lxor, 1) := by decide +kernel
theorem dJ9_floorDiv_f86c9_8 : decode cJ9_floorDiv_f86c9 8 = .ok (.lconst 0, 1) := by decide +kernel
theorem dJ9_floorDiv_f86c9_9 : decode cJ9_floorDiv_f86c9 9 = .ok (.lcmp, 1) := by decide +kernel
theorem dJ9_floorDiv_f86c9_10 : decode cJ9_floorDiv_f86c9 10 = .ok (.ifCond .ge 17, 3) := by decide +kernel
theorem dJ9_floorDiv_f86c9_27 : decode cJ9_floorDiv_f86c9 27 = .ok (.lload 4, 2) := by decide +kernel
theorem dJ9_floorDiv_f86c9_29 : decode cJ9_floorDiv_f86c9 29 = .ok (.lreturn, 1) := by decide +kernel
theorem dJ9_floorDiv_f86c9_13 : decode cJ9_floorDiv_f86c9 13 = .ok (.lload 4, 2) := by decide +kernel
theorem dJ9_floorDiv_f86c9_15 : decode cJ9_floorDiv_f86c9 15 = .ok (.lload_n 2, 1) := by decide +kernel
theorem dJ9_floorDiv_f86c9_16 : decode cJ9_floorDiv_f86c9 16 = .ok (.lmul, 1) := by decide +kernel
theorem dJ9_floorDiv_f86c9_17 : decode cJ9_floorDiv_f86c9 17 = .ok (.lload_n 0, 1) := by decide +kernel
theorem dJ9_floorDiv_f86c9_18 : decode cJ9_floorDiv_f86c9 18 = .ok (.lcmp, 1) := by decide +kernel
theorem dJ9_floorDiv_f86c9_19 : decode cJ9_floorDiv_f86c9 19 = .ok (.ifCond .eq 8, 3) := by decide +kernel
theorem dJ9_floorDiv_f86c9_22 : decode cJ9_floorDiv_f86c9 22 = .ok (.lload 4, 2) := by decide +kernel
theorem dJ9_floorDiv_f86c9_24 : decode cJ9_floorDiv_f86c9 24 = .ok (.lconst 1, 1) := by decide +kernel
theorem dJ9_floorDiv_f86c9_25 : decode cJ9_floorDiv_f86c9 25 = .ok (.lsub, 1) := by decide +kernel
theorem dJ9_floorDiv_f86c9_26 : decode cJ9_floorDiv_f86c9 26 = .ok (.lreturn, 1) := by decide +kernel
theorem w_3_235 : (Cond.code yJ9_floorDiv_f86c9 cJ9_floorDiv_f86c9 6 (some .long)) ∈ wsL_law := sk_mem (ck_3 _ (List.mem_of_getElem? (i := 235) rfl)) rfl
set_option maxHeartbeats 4000000 in
set_option maxRecDepth 100000 in
theorem c_floorDiv (l : Launch) (D : va_G) (cI cJ cC cZ cS : ClassId) (x : Int64) (y : Int64) (hy : ¬ y = 0) : skM l yJ9_floorDiv_f86c9 cJ9_floorDiv_f86c9 6 (some .long) 0 0 0 0 D (skT cI cJ cC cZ cS) [.long x, .long y] [] (skL D (skT cI cJ cC cZ cS) (fun (r : Int64) (u : va_W) => u = [])) := by
  refine skM_of (by decide +kernel) (Nat.le_of_ble_eq_true rfl) ?_
  intro p e s m below meth c A ls E hP hD hl
  obtain ⟨hx, hb, hr, hml, hlocks, hin, hown, hts, hK, hA⟩ := E
  have hown : s.vm.findClass RJ9 = some m.cls := hown
  have hS : va_S A s.heap s.heap [] := va_S.rf
  have hl : lv_has ls 6 [(0, .long x), (2, .long y)] := hl
  refine lv_lload_n hx hb dJ9_floorDiv_f86c9_0 rfl (lv_at hl 0 rfl) ?_
  refine lv_lload_n hx hb dJ9_floorDiv_f86c9_1 rfl (lv_at hl 1 rfl) ?_
  refine lv_ldiv hx hb dJ9_floorDiv_f86c9_2 hy ?_
  refine lv_topl (fun v_1 ev_1 => ?_)
  refine lv_lstore (lv' := [(4, .long v_1), (0, .long x), (2, .long y)]) hx hb dJ9_floorDiv_f86c9_3 hl (by decide) rfl (fun ls hl => ?_)
  refine lv_lload_n hx hb dJ9_floorDiv_f86c9_5 rfl (lv_at hl 1 rfl) ?_
  refine lv_lload_n hx hb dJ9_floorDiv_f86c9_6 rfl (lv_at hl 2 rfl) ?_
  refine lv_lxor hx hb dJ9_floorDiv_f86c9_7 ?_
  refine lv_topl (fun v_2 ev_2 => ?_)
  refine lv_lconst (v := 0) hx hb dJ9_floorDiv_f86c9_8 (by decide) ?_
  refine W.lcmp hx hb dJ9_floorDiv_f86c9_9 ?_
  refine lv_if_ge (tgt := 27) hx hb dJ9_floorDiv_f86c9_10 (by decide) (fun c_3 => ?_) (fun c_3 => ?_)
  · skip
    refine lv_lload hx hb dJ9_floorDiv_f86c9_27 (lv_at hl 0 rfl) ?_
    exact sk_lret hx hb hr hlocks hK hP hD hS rfl (Nat.le_of_ble_eq_true rfl) (Nat.le_of_ble_eq_true rfl) dJ9_floorDiv_f86c9_29
  · skip
    refine lv_lload hx hb dJ9_floorDiv_f86c9_13 (lv_at hl 0 rfl) ?_
    refine lv_lload_n hx hb dJ9_floorDiv_f86c9_15 rfl (lv_at hl 2 rfl) ?_
    refine lv_lmul hx hb dJ9_floorDiv_f86c9_16 ?_
    refine lv_topl (fun v_4 ev_4 => ?_)
    refine lv_lload_n hx hb dJ9_floorDiv_f86c9_17 rfl (lv_at hl 1 rfl) ?_
    refine W.lcmp hx hb dJ9_floorDiv_f86c9_18 ?_
    refine lv_if_eq (tgt := 27) hx hb dJ9_floorDiv_f86c9_19 (by decide) (fun c_5 => ?_) (fun c_5 => ?_)
    · skip
      refine lv_lload hx hb dJ9_floorDiv_f86c9_27 (lv_at hl 0 rfl) ?_
      exact sk_lret hx hb hr hlocks hK hP hD hS rfl (Nat.le_of_ble_eq_true rfl) (Nat.le_of_ble_eq_true rfl) dJ9_floorDiv_f86c9_29
    · skip
      refine lv_lload hx hb dJ9_floorDiv_f86c9_22 (lv_at hl 0 rfl) ?_
      refine lv_lconst (v := 1) hx hb dJ9_floorDiv_f86c9_24 (by decide) ?_
      refine lv_lsub hx hb dJ9_floorDiv_f86c9_25 ?_
      refine lv_topl (fun v_6 ev_6 => ?_)
      exact sk_lret hx hb hr hlocks hK hP hD hS rfl (Nat.le_of_ble_eq_true rfl) (Nat.le_of_ble_eq_true rfl) dJ9_floorDiv_f86c9_26
theorem dX0_ofTwo_0 : decode cX0_ofTwo 0 = .ok (.iload_n 0, 1) := by decide +kernel
theorem dX0_ofTwo_1 : decode cX0_ofTwo 1 = .ok (.tableswitch 158 30000 30009 #[55, 62, 69, 76, 92, 98, 104, 116, 128, 140], 55) := by decide +kernel
theorem dX0_ofTwo_56 : decode cX0_ofTwo 56 = .ok (.lload_n 1, 1) := by decide +kernel
theorem dX0_ofTwo_57 : decode cX0_ofTwo 57 = .ok (.lload_n 3, 1) := by decide +kernel
theorem dX0_ofTwo_58 : decode cX0_ofTwo 58 = .ok (.ladd, 1) := by decide +kernel
theorem dX0_ofTwo_59 : decode cX0_ofTwo 59 = .ok (.invokestatic 51, 3) := by decide +kernel
theorem dX0_ofTwo_62 : decode cX0_ofTwo 62 = .ok (.lreturn, 1) := by decide +kernel
theorem dX0_ofTwo_63 : decode cX0_ofTwo 63 = .ok (.lload_n 1, 1) := by decide +kernel
theorem dX0_ofTwo_64 : decode cX0_ofTwo 64 = .ok (.lload_n 3, 1) := by decide +kernel
theorem dX0_ofTwo_65 : decode cX0_ofTwo 65 = .ok (.lsub, 1) := by decide +kernel
theorem dX0_ofTwo_66 : decode cX0_ofTwo 66 = .ok (.invokestatic 51, 3) := by decide +kernel
theorem dX0_ofTwo_69 : decode cX0_ofTwo 69 = .ok (.lreturn, 1) := by decide +kernel
theorem dX0_ofTwo_70 : decode cX0_ofTwo 70 = .ok (.lload_n 1, 1) := by decide +kernel
theorem dX0_ofTwo_71 : decode cX0_ofTwo 71 = .ok (.lload_n 3, 1) := by decide +kernel
theorem dX0_ofTwo_72 : decode cX0_ofTwo 72 = .ok (.lmul, 1) := by decide +kernel
theorem dX0_ofTwo_73 : decode cX0_ofTwo 73 = .ok (.invokestatic 51, 3) := by decide +kernel
theorem dX0_ofTwo_76 : decode cX0_ofTwo 76 = .ok (.lreturn, 1) := by decide +kernel
theorem dX0_ofTwo_77 : decode cX0_ofTwo 77 = .ok (.lload_n 3, 1) := by decide +kernel
theorem dX0_ofTwo_78 : decode cX0_ofTwo 78 = .ok (.lconst 0, 1) := by decide +kernel
theorem dX0_ofTwo_79 : decode cX0_ofTwo 79 = .ok (.lcmp, 1) := by decide +kernel
theorem dX0_ofTwo_80 : decode cX0_ofTwo 80 = .ok (.ifCond .ne 7, 3) := by decide +kernel
theorem dX0_ofTwo_87 : decode cX0_ofTwo 87 = .ok (.lload_n 1, 1) := by decide +kernel
theorem dX0_ofTwo_88 : decode cX0_ofTwo 88 = .ok (.lload_n 3, 1) := by decide +kernel
theorem dX0_ofTwo_89 : decode cX0_ofTwo 89 = .ok (.invokestatic 55, 3) := by decide +kernel
theorem dX0_ofTwo_92 : decode cX0_ofTwo 92 = .ok (.lreturn, 1) := by decide +kernel
theorem dX0_ofTwo_83 : decode cX0_ofTwo 83 = .ok (.lconst 0, 1) := by decide +kernel
theorem dX0_ofTwo_84 : decode cX0_ofTwo 84 = .ok (.goto 8, 3) := by decide +kernel
theorem dX0_ofTwo_93 : decode cX0_ofTwo 93 = .ok (.lload_n 1, 1) := by decide +kernel
theorem dX0_ofTwo_94 : decode cX0_ofTwo 94 = .ok (.lload_n 3, 1) := by decide +kernel
theorem dX0_ofTwo_95 : decode cX0_ofTwo 95 = .ok (.invokestatic 59, 3) := by decide +kernel
theorem dX0_ofTwo_98 : decode cX0_ofTwo 98 = .ok (.lreturn, 1) := by decide +kernel
theorem dX0_ofTwo_99 : decode cX0_ofTwo 99 = .ok (.lload_n 1, 1) := by decide +kernel
theorem dX0_ofTwo_100 : decode cX0_ofTwo 100 = .ok (.lload_n 3, 1) := by decide +kernel
theorem dX0_ofTwo_101 : decode cX0_ofTwo 101 = .ok (.invokestatic 62, 3) := by decide +kernel
theorem dX0_ofTwo_104 : decode cX0_ofTwo 104 = .ok (.lreturn, 1) := by decide +kernel
theorem dX0_ofTwo_105 : decode cX0_ofTwo 105 = .ok (.lload_n 1, 1) := by decide +kernel
theorem dX0_ofTwo_106 : decode cX0_ofTwo 106 = .ok (.lload_n 3, 1) := by decide +kernel
theorem dX0_ofTwo_107 : decode cX0_ofTwo 107 = .ok (.lcmp, 1) := by decide +kernel
theorem dX0_ofTwo_108 : decode cX0_ofTwo 108 = .ok (.ifCond .ge 7, 3) := by decide +kernel
theorem dX0_ofTwo_115 : decode cX0_ofTwo 115 = .ok (.lconst 0, 1) := by decide +kernel
theorem dX0_ofTwo_116 : decode cX0_ofTwo 116 = .ok (.lreturn, 1) := by decide +kernel
theorem dX0_ofTwo_111 : decode cX0_ofTwo 111 = .ok (.lconst 1, 1) := by decide +kernel
theorem dX0_ofTwo_112 : decode cX0_ofTwo 112 = .ok (.goto 4, 3) := by decide +kernel
theorem dX0_ofTwo_117 : decode cX0_ofTwo 117 = .ok (.lload_n 1, 1) := by decide +kernel
theorem dX0_ofTwo_118 : decode cX0_ofTwo 118 = .ok (.lload_n 3, 1) := by decide +kernel
theorem dX0_ofTwo_119 : decode cX0_ofTwo 119 = .ok (.lcmp, 1) := by decide +kernel
theorem dX0_ofTwo_120 : decode cX0_ofTwo 120 = .ok (.ifCond .le 7, 3) := by decide +kernel
theorem dX0_ofTwo_127 : decode cX0_ofTwo 127 = .ok (.lconst 0, 1) := by decide +kernel
theorem dX0_ofTwo_128 : decode cX0_ofTwo 128 = .ok (.lreturn, 1) := by decide +kernel
theorem dX0_ofTwo_123 : decode cX0_ofTwo 123 = .ok (.lconst 1, 1) := by decide +kernel
theorem dX0_ofTwo_124 : decode cX0_ofTwo 124 = .ok (.goto 4, 3) := by decide +kernel
theorem dX0_ofTwo_129 : decode cX0_ofTwo 129 = .ok (.lload_n 1, 1) := by decide +kernel
theorem dX0_ofTwo_130 : decode cX0_ofTwo 130 = .ok (.lload_n 3, 1) := by decide +kernel
theorem dX0_ofTwo_131 : decode cX0_ofTwo 131 = .ok (.lcmp, 1) := by decide +kernel
theorem dX0_ofTwo_132 : decode cX0_ofTwo 132 = .ok (.ifCond .ne 7, 3) := by decide +kernel
theorem dX0_ofTwo_139 : decode cX0_ofTwo 139 = .ok (.lconst 0, 1) := by decide +kernel
theorem dX0_ofTwo_140 : decode cX0_ofTwo 140 = .ok (.lreturn, 1) := by decide +kernel
theorem dX0_ofTwo_135 : decode cX0_ofTwo 135 = .ok (.lconst 1, 1) := by decide +kernel
theorem dX0_ofTwo_136 : decode cX0_ofTwo 136 = .ok (.goto 4, 3) := by decide +kernel
theorem dX0_ofTwo_141 : decode cX0_ofTwo 141 = .ok (.lload_n 1, 1) := by decide +kernel
theorem dX0_ofTwo_142 : decode cX0_ofTwo 142 = .ok (.lconst 0, 1) := by decide +kernel
theorem dX0_ofTwo_143 : decode cX0_ofTwo 143 = .ok (.lcmp, 1) := by decide +kernel
theorem dX0_ofTwo_144 : decode cX0_ofTwo 144 = .ok (.ifCond .eq 13, 3) := by decide +kernel
theorem dX0_ofTwo_157 : decode cX0_ofTwo 157 = .ok (.lconst 0, 1) := by decide +kernel
theorem dX0_ofTwo_158 : decode cX0_ofTwo 158 = .ok (.lreturn, 1) := by decide +kernel
theorem dX0_ofTwo_147 : decode cX0_ofTwo 147 = .ok (.lload_n 3, 1) := by decide +kernel
theorem dX0_ofTwo_148 : decode cX0_ofTwo 148 = .ok (.lconst 0, 1) := by decide +kernel
theorem dX0_ofTwo_149 : decode cX0_ofTwo 149 = .ok (.lcmp, 1) := by decide +kernel
theorem dX0_ofTwo_150 : decode cX0_ofTwo 150 = .ok (.ifCond .eq 7, 3) := by decide +kernel
theorem dX0_ofTwo_153 : decode cX0_ofTwo 153 = .ok (.lconst 1, 1) := by decide +kernel
theorem dX0_ofTwo_154 : decode cX0_ofTwo 154 = .ok (.goto 4, 3) := by decide +kernel
theorem dX0_ofTwo_159 : decode cX0_ofTwo 159 = .ok (.lload_n 1, 1) := by decide +kernel
theorem dX0_ofTwo_160 : decode cX0_ofTwo 160 = .ok (.lconst 0, 1) := by decide +kernel
theorem dX0_ofTwo_161 : decode cX0_ofTwo 161 = .ok (.lcmp, 1) := by decide +kernel
theorem dX0_ofTwo_162 : decode cX0_ofTwo 162 = .ok (.ifCond .ne 9, 3) := by decide +kernel
theorem dX0_ofTwo_171 : decode cX0_ofTwo 171 = .ok (.lconst 1, 1) := by decide +kernel
theorem dX0_ofTwo_172 : decode cX0_ofTwo 172 = .ok (.goto 4, 3) := by decide +kernel
theorem dX0_ofTwo_176 : decode cX0_ofTwo 176 = .ok (.lreturn, 1) := by decide +kernel
theorem dX0_ofTwo_165 : decode cX0_ofTwo 165 = .ok (.lload_n 3, 1) := by decide +kernel
theorem dX0_ofTwo_166 : decode cX0_ofTwo 166 = .ok (.lconst 0, 1) := by decide +kernel
theorem dX0_ofTwo_167 : decode cX0_ofTwo 167 = .ok (.lcmp, 1) := by decide +kernel
theorem dX0_ofTwo_168 : decode cX0_ofTwo 168 = .ok (.ifCond .eq 7, 3) := by decide +kernel
theorem dX0_ofTwo_175 : decode cX0_ofTwo 175 = .ok (.lconst 0, 1) := by decide +kernel
theorem w_3_228 : (Cond.methodLink RX0 51 yX0_bounded) ∈ wsL_law := sk_mem (ck_3 _ (List.mem_of_getElem? (i := 228) rfl)) rfl
theorem w_3_229 : (Cond.static yX0_bounded) ∈ wsL_law := sk_mem (ck_3 _ (List.mem_of_getElem? (i := 229) rfl)) rfl
theorem w_1_8 : (Cond.initialized RX0) ∈ wsL_law := sk_mem (ck_1 _ (List.mem_of_getElem? (i := 8) rfl)) rfl
theorem w_3_233 : (Cond.methodLink RX0 55 yJ9_floorDiv_f86c9) ∈ wsL_law := sk_mem (ck_3 _ (List.mem_of_getElem? (i := 233) rfl)) rfl
theorem w_3_234 : (Cond.static yJ9_floorDiv_f86c9) ∈ wsL_law := sk_mem (ck_3 _ (List.mem_of_getElem? (i := 234) rfl)) rfl
theorem w_1_3 : (Cond.initialized RJ9) ∈ wsL_law := sk_mem (ck_1 _ (List.mem_of_getElem? (i := 3) rfl)) rfl
theorem w_3_236 : (Cond.methodLink RX0 59 Lib.MathLoose.min_long.x) ∈ wsL_law := sk_mem (ck_3 _ (List.mem_of_getElem? (i := 236) rfl)) rfl
theorem w_3_237 : (Cond.static Lib.MathLoose.min_long.x) ∈ wsL_law := sk_mem (ck_3 _ (List.mem_of_getElem? (i := 237) rfl)) rfl
theorem w_3_238 : (Cond.code Lib.MathLoose.min_long.x Lib.MathLoose.min_long.code 4 (some .long)) ∈ wsL_law := sk_mem (ck_3 _ (List.mem_of_getElem? (i := 238) rfl)) rfl
theorem w_3_239 : (Cond.methodLink RX0 62 Lib.MathLoose.max_long.x) ∈ wsL_law := sk_mem (ck_3 _ (List.mem_of_getElem? (i := 239) rfl)) rfl
theorem w_4_0 : (Cond.static Lib.MathLoose.max_long.x) ∈ wsL_law := sk_mem (ck_4 _ (List.mem_of_getElem? (i := 0) rfl)) rfl
theorem w_4_1 : (Cond.code Lib.MathLoose.max_long.x Lib.MathLoose.max_long.code 4 (some .long)) ∈ wsL_law := sk_mem (ck_4 _ (List.mem_of_getElem? (i := 1) rfl)) rfl
theorem w_3_227 : (Cond.code yX0_ofTwo cX0_ofTwo 5 (some .long)) ∈ wsL_law := sk_mem (ck_3 _ (List.mem_of_getElem? (i := 227) rfl)) rfl
set_option maxHeartbeats 4000000 in
set_option maxRecDepth 100000 in
theorem c_ofTwo (l : Launch) (D : va_G) (cI cJ cC cZ cS : ClassId) (o : Int32) (x : Int64) (y : Int64)  : skM l yX0_ofTwo cX0_ofTwo 5 (some .long) 1 25 0 0 D (skT cI cJ cC cZ cS) [.int o, .long x, .long y] [] (skL D (skT cI cJ cC cZ cS) (fun (r : Int64) (u : va_W) => u = [])) := by
  refine skM_of (by decide +kernel) (Nat.le_of_ble_eq_true rfl) ?_
  intro p e s m below meth c A ls E hP hD hl
  obtain ⟨hx, hb, hr, hml, hlocks, hin, hown, hts, hK, hA⟩ := E
  have hown : s.vm.findClass RX0 = some m.cls := hown
  have hS : va_S A s.heap s.heap [] := va_S.rf
  have hl : lv_has ls 5 [(0, .int o), (1, .long x), (3, .long y)] := hl
  refine lv_iload_n hx hb dX0_ofTwo_0 rfl (lv_at hl 0 rfl) ?_
  by_cases g_1 : o = 30000
  · refine lv_tableIn (off := 55) (tgt := 56) hx hb dX0_ofTwo_1 (by rw [g_1]; decide) (by rw [g_1]; decide) (by rw [g_1]; rfl) (by decide) ?_
    refine lv_lload_n hx hb dX0_ofTwo_56 rfl (lv_at hl 1 rfl) ?_
    refine lv_lload_n hx hb dX0_ofTwo_57 rfl (lv_at hl 2 rfl) ?_
    refine lv_ladd hx hb dX0_ofTwo_58 ?_
    refine lv_topl (fun v_2 ev_2 => ?_)
    refine sk_Sl (n := 1) (rest := []) (wr := []) ⟨hx, hb, hml, hown, hts⟩ hl.1 (c_bounded l D cI cJ cC cZ cS v_2) w_3_228 w_3_229 w_1_8 w_3_230 (by decide +kernel) ⟨⟨(Nat.le_of_ble_eq_true rfl), (Nat.le_of_ble_eq_true rfl)⟩, (Nat.le_of_ble_eq_true rfl), (Nat.le_of_ble_eq_true rfl)⟩ hK hP hD hS hA [] [] rfl rfl (by decide +kernel) (by decide +kernel) (by decide +kernel) rfl rfl (Nat.le_of_ble_eq_true rfl) dX0_ofTwo_59 (fun r_3 u H locs hw hP hD hS => ?_)
    obtain rfl := hw
    have hP : va_P D vwCl [] H := hP
    have hD : va_D A [] := hD
    exact sk_lret hx hb hr hlocks hK hP hD hS rfl (Nat.le_of_ble_eq_true rfl) (Nat.le_of_ble_eq_true rfl) dX0_ofTwo_62
  by_cases g_4 : o = 30001
  · refine lv_tableIn (off := 62) (tgt := 63) hx hb dX0_ofTwo_1 (by rw [g_4]; decide) (by rw [g_4]; decide) (by rw [g_4]; rfl) (by decide) ?_
    refine lv_lload_n hx hb dX0_ofTwo_63 rfl (lv_at hl 1 rfl) ?_
    refine lv_lload_n hx hb dX0_ofTwo_64 rfl (lv_at hl 2 rfl) ?_
    refine lv_lsub hx hb dX0_ofTwo_65 ?_
    refine lv_topl (fun v_5 ev_5 => ?_)
    refine sk_Sl (n := 1) (rest := []) (wr := []) ⟨hx, hb, hml, hown, hts⟩ hl.1 (c_bounded l D cI cJ cC cZ cS v_5) w_3_228 w_3_229 w_1_8 w_3_230 (by decide +kernel) ⟨⟨(Nat.le_of_ble_eq_true rfl), (Nat.le_of_ble_eq_true rfl)⟩, (Nat.le_of_ble_eq_true rfl), (Nat.le_of_ble_eq_true rfl)⟩ hK hP hD hS hA [] [] rfl rfl (by decide +kernel) (by decide +kernel) (by decide +kernel) rfl rfl (Nat.le_of_ble_eq_true rfl) dX0_ofTwo_66 (fun r_6 u H locs hw hP hD hS => ?_)
    obtain rfl := hw
    have hP : va_P D vwCl [] H := hP
    have hD : va_D A [] := hD
    exact sk_lret hx hb hr hlocks hK hP hD hS rfl (Nat.le_of_ble_eq_true rfl) (Nat.le_of_ble_eq_true rfl) dX0_ofTwo_69
  by_cases g_7 : o = 30002
  · refine lv_tableIn (off := 69) (tgt := 70) hx hb dX0_ofTwo_1 (by rw [g_7]; decide) (by rw [g_7]; decide) (by rw [g_7]; rfl) (by decide) ?_
    refine lv_lload_n hx hb dX0_ofTwo_70 rfl (lv_at hl 1 rfl) ?_
    refine lv_lload_n hx hb dX0_ofTwo_71 rfl (lv_at hl 2 rfl) ?_
    refine lv_lmul hx hb dX0_ofTwo_72 ?_
    refine lv_topl (fun v_8 ev_8 => ?_)
    refine sk_Sl (n := 1) (rest := []) (wr := []) ⟨hx, hb, hml, hown, hts⟩ hl.1 (c_bounded l D cI cJ cC cZ cS v_8) w_3_228 w_3_229 w_1_8 w_3_230 (by decide +kernel) ⟨⟨(Nat.le_of_ble_eq_true rfl), (Nat.le_of_ble_eq_true rfl)⟩, (Nat.le_of_ble_eq_true rfl), (Nat.le_of_ble_eq_true rfl)⟩ hK hP hD hS hA [] [] rfl rfl (by decide +kernel) (by decide +kernel) (by decide +kernel) rfl rfl (Nat.le_of_ble_eq_true rfl) dX0_ofTwo_73 (fun r_9 u H locs hw hP hD hS => ?_)
    obtain rfl := hw
    have hP : va_P D vwCl [] H := hP
    have hD : va_D A [] := hD
    exact sk_lret hx hb hr hlocks hK hP hD hS rfl (Nat.le_of_ble_eq_true rfl) (Nat.le_of_ble_eq_true rfl) dX0_ofTwo_76
  by_cases g_10 : o = 30003
  · refine lv_tableIn (off := 76) (tgt := 77) hx hb dX0_ofTwo_1 (by rw [g_10]; decide) (by rw [g_10]; decide) (by rw [g_10]; rfl) (by decide) ?_
    refine lv_lload_n hx hb dX0_ofTwo_77 rfl (lv_at hl 2 rfl) ?_
    refine lv_lconst (v := 0) hx hb dX0_ofTwo_78 (by decide) ?_
    refine W.lcmp hx hb dX0_ofTwo_79 ?_
    refine lv_if_ne (tgt := 87) hx hb dX0_ofTwo_80 (by decide) (fun c_11 => ?_) (fun c_11 => ?_)
    · skip
      refine lv_lload_n hx hb dX0_ofTwo_87 rfl (lv_at hl 1 rfl) ?_
      refine lv_lload_n hx hb dX0_ofTwo_88 rfl (lv_at hl 2 rfl) ?_
      refine sk_Sl (n := 2) (rest := []) (wr := []) ⟨hx, hb, hml, hown, hts⟩ hl.1 (c_floorDiv l D cI cJ cC cZ cS x y (lg_ne0 c_11)) w_3_233 w_3_234 w_1_3 w_3_235 (by decide +kernel) ⟨⟨(Nat.le_of_ble_eq_true rfl), (Nat.le_of_ble_eq_true rfl)⟩, (Nat.le_of_ble_eq_true rfl), (Nat.le_of_ble_eq_true rfl)⟩ hK hP hD hS hA [] [] rfl rfl (by decide +kernel) (by decide +kernel) (by decide +kernel) rfl rfl (Nat.le_of_ble_eq_true rfl) dX0_ofTwo_89 (fun r_12 u H locs hw hP hD hS => ?_)
      obtain rfl := hw
      have hP : va_P D vwCl [] H := hP
      have hD : va_D A [] := hD
      exact sk_lret hx hb hr hlocks hK hP hD hS rfl (Nat.le_of_ble_eq_true rfl) (Nat.le_of_ble_eq_true rfl) dX0_ofTwo_92
    · skip
      refine lv_lconst (v := 0) hx hb dX0_ofTwo_83 (by decide) ?_
      refine lv_goto (tgt := 92) hx hb dX0_ofTwo_84 (by decide) ?_
      exact sk_lret hx hb hr hlocks hK hP hD hS rfl (Nat.le_of_ble_eq_true rfl) (Nat.le_of_ble_eq_true rfl) dX0_ofTwo_92
  by_cases g_13 : o = 30004
  · refine lv_tableIn (off := 92) (tgt := 93) hx hb dX0_ofTwo_1 (by rw [g_13]; decide) (by rw [g_13]; decide) (by rw [g_13]; rfl) (by decide) ?_
    refine lv_lload_n hx hb dX0_ofTwo_93 rfl (lv_at hl 1 rfl) ?_
    refine lv_lload_n hx hb dX0_ofTwo_94 rfl (lv_at hl 2 rfl) ?_
    refine va_mmin_long hx hb (by rw [hml]; exact hl.1.symm) hown (hts _ w_3_236) (hts _ w_3_237) (hts _ w_1_3) (hts _ w_3_238) (Nat.le_of_ble_eq_true rfl) (Nat.le_of_ble_eq_true rfl) (Nat.le_of_ble_eq_true rfl) (Nat.le_of_ble_eq_true rfl) dX0_ofTwo_95 ?_
    refine lv_topl (fun v_14 ev_14 => ?_)
    exact sk_lret hx hb hr hlocks hK hP hD hS rfl (Nat.le_of_ble_eq_true rfl) (Nat.le_of_ble_eq_true rfl) dX0_ofTwo_98
  by_cases g_15 : o = 30005
  · refine lv_tableIn (off := 98) (tgt := 99) hx hb dX0_ofTwo_1 (by rw [g_15]; decide) (by rw [g_15]; decide) (by rw [g_15]; rfl) (by decide) ?_
    refine lv_lload_n hx hb dX0_ofTwo_99 rfl (lv_at hl 1 rfl) ?_
    refine lv_lload_n hx hb dX0_ofTwo_100 rfl (lv_at hl 2 rfl) ?_
    refine va_mmax_long hx hb (by rw [hml]; exact hl.1.symm) hown (hts _ w_3_239) (hts _ w_4_0) (hts _ w_1_3) (hts _ w_4_1) (Nat.le_of_ble_eq_true rfl) (Nat.le_of_ble_eq_true rfl) (Nat.le_of_ble_eq_true rfl) (Nat.le_of_ble_eq_true rfl) dX0_ofTwo_101 ?_
    refine lv_topl (fun v_16 ev_16 => ?_)
    exact sk_lret hx hb hr hlocks hK hP hD hS rfl (Nat.le_of_ble_eq_true rfl) (Nat.le_of_ble_eq_true rfl) dX0_ofTwo_104
  by_cases g_17 : o = 30006
  · refine lv_tableIn (off := 104) (tgt := 105) hx hb dX0_ofTwo_1 (by rw [g_17]; decide) (by rw [g_17]; decide) (by rw [g_17]; rfl) (by decide) ?_
    refine lv_lload_n hx hb dX0_ofTwo_105 rfl (lv_at hl 1 rfl) ?_
    refine lv_lload_n hx hb dX0_ofTwo_106 rfl (lv_at hl 2 rfl) ?_
    refine W.lcmp hx hb dX0_ofTwo_107 ?_
    refine lv_if_ge (tgt := 115) hx hb dX0_ofTwo_108 (by decide) (fun c_18 => ?_) (fun c_18 => ?_)
    · skip
      refine lv_lconst (v := 0) hx hb dX0_ofTwo_115 (by decide) ?_
      exact sk_lret hx hb hr hlocks hK hP hD hS rfl (Nat.le_of_ble_eq_true rfl) (Nat.le_of_ble_eq_true rfl) dX0_ofTwo_116
    · skip
      refine lv_lconst (v := 1) hx hb dX0_ofTwo_111 (by decide) ?_
      refine lv_goto (tgt := 116) hx hb dX0_ofTwo_112 (by decide) ?_
      exact sk_lret hx hb hr hlocks hK hP hD hS rfl (Nat.le_of_ble_eq_true rfl) (Nat.le_of_ble_eq_true rfl) dX0_ofTwo_116
  by_cases g_19 : o = 30007
  · refine lv_tableIn (off := 116) (tgt := 117) hx hb dX0_ofTwo_1 (by rw [g_19]; decide) (by rw [g_19]; decide) (by rw [g_19]; rfl) (by decide) ?_
    refine lv_lload_n hx hb dX0_ofTwo_117 rfl (lv_at hl 1 rfl) ?_
    refine lv_lload_n hx hb dX0_ofTwo_118 rfl (lv_at hl 2 rfl) ?_
    refine W.lcmp hx hb dX0_ofTwo_119 ?_
    refine lv_if_le (tgt := 127) hx hb dX0_ofTwo_120 (by decide) (fun c_20 => ?_) (fun c_20 => ?_)
    · skip
      refine lv_lconst (v := 0) hx hb dX0_ofTwo_127 (by decide) ?_
      exact sk_lret hx hb hr hlocks hK hP hD hS rfl (Nat.le_of_ble_eq_true rfl) (Nat.le_of_ble_eq_true rfl) dX0_ofTwo_128
    · skip
      refine lv_lconst (v := 1) hx hb dX0_ofTwo_123 (by decide) ?_
      refine lv_goto (tgt := 128) hx hb dX0_ofTwo_124 (by decide) ?_
      exact sk_lret hx hb hr hlocks hK hP hD hS rfl (Nat.le_of_ble_eq_true rfl) (Nat.le_of_ble_eq_true rfl) dX0_ofTwo_128
  by_cases g_21 : o = 30008
  · refine lv_tableIn (off := 128) (tgt := 129) hx hb dX0_ofTwo_1 (by rw [g_21]; decide) (by rw [g_21]; decide) (by rw [g_21]; rfl) (by decide) ?_
    refine lv_lload_n hx hb dX0_ofTwo_129 rfl (lv_at hl 1 rfl) ?_
    refine lv_lload_n hx hb dX0_ofTwo_130 rfl (lv_at hl 2 rfl) ?_
    refine W.lcmp hx hb dX0_ofTwo_131 ?_
    refine lv_if_ne (tgt := 139) hx hb dX0_ofTwo_132 (by decide) (fun c_22 => ?_) (fun c_22 => ?_)
    · skip
      refine lv_lconst (v := 0) hx hb dX0_ofTwo_139 (by decide) ?_
      exact sk_lret hx hb hr hlocks hK hP hD hS rfl (Nat.le_of_ble_eq_true rfl) (Nat.le_of_ble_eq_true rfl) dX0_ofTwo_140
    · skip
      refine lv_lconst (v := 1) hx hb dX0_ofTwo_135 (by decide) ?_
      refine lv_goto (tgt := 140) hx hb dX0_ofTwo_136 (by decide) ?_
      exact sk_lret hx hb hr hlocks hK hP hD hS rfl (Nat.le_of_ble_eq_true rfl) (Nat.le_of_ble_eq_true rfl) dX0_ofTwo_140
  by_cases g_23 : o = 30009
  · refine lv_tableIn (off := 140) (tgt := 141) hx hb dX0_ofTwo_1 (by rw [g_23]; decide) (by rw [g_23]; decide) (by rw [g_23]; rfl) (by decide) ?_
    refine lv_lload_n hx hb dX0_ofTwo_141 rfl (lv_at hl 1 rfl) ?_
    refine lv_lconst (v := 0) hx hb dX0_ofTwo_142 (by decide) ?_
    refine W.lcmp hx hb dX0_ofTwo_143 ?_
    refine lv_if_eq (tgt := 157) hx hb dX0_ofTwo_144 (by decide) (fun c_24 => ?_) (fun c_24 => ?_)
    · skip
      refine lv_lconst (v := 0) hx hb dX0_ofTwo_157 (by decide) ?_
      exact sk_lret hx hb hr hlocks hK hP hD hS rfl (Nat.le_of_ble_eq_true rfl) (Nat.le_of_ble_eq_true rfl) dX0_ofTwo_158
    · skip
      refine lv_lload_n hx hb dX0_ofTwo_147 rfl (lv_at hl 2 rfl) ?_
      refine lv_lconst (v := 0) hx hb dX0_ofTwo_148 (by decide) ?_
      refine W.lcmp hx hb dX0_ofTwo_149 ?_
      refine lv_if_eq (tgt := 157) hx hb dX0_ofTwo_150 (by decide) (fun c_25 => ?_) (fun c_25 => ?_)
      · skip
        refine lv_lconst (v := 0) hx hb dX0_ofTwo_157 (by decide) ?_
        exact sk_lret hx hb hr hlocks hK hP hD hS rfl (Nat.le_of_ble_eq_true rfl) (Nat.le_of_ble_eq_true rfl) dX0_ofTwo_158
      · skip
        refine lv_lconst (v := 1) hx hb dX0_ofTwo_153 (by decide) ?_
        refine lv_goto (tgt := 158) hx hb dX0_ofTwo_154 (by decide) ?_
        exact sk_lret hx hb hr hlocks hK hP hD hS rfl (Nat.le_of_ble_eq_true rfl) (Nat.le_of_ble_eq_true rfl) dX0_ofTwo_158
  refine lv_tableOut (tgt := 159) hx hb dX0_ofTwo_1 (sk_out2 30000 30009 (by intro k hk1 hk2; rcases (show k = 30000 ∨ k = 30001 ∨ k = 30002 ∨ k = 30003 ∨ k = 30004 ∨ k = 30005 ∨ k = 30006 ∨ k = 30007 ∨ k = 30008 ∨ k = 30009 by omega) with rfl | rfl | rfl | rfl | rfl | rfl | rfl | rfl | rfl | rfl <;> assumption)) (by decide) ?_
  refine lv_lload_n hx hb dX0_ofTwo_159 rfl (lv_at hl 1 rfl) ?_
  refine lv_lconst (v := 0) hx hb dX0_ofTwo_160 (by decide) ?_
  refine W.lcmp hx hb dX0_ofTwo_161 ?_
  refine lv_if_ne (tgt := 171) hx hb dX0_ofTwo_162 (by decide) (fun c_26 => ?_) (fun c_26 => ?_)
  · skip
    refine lv_lconst (v := 1) hx hb dX0_ofTwo_171 (by decide) ?_
    refine lv_goto (tgt := 176) hx hb dX0_ofTwo_172 (by decide) ?_
    exact sk_lret hx hb hr hlocks hK hP hD hS rfl (Nat.le_of_ble_eq_true rfl) (Nat.le_of_ble_eq_true rfl) dX0_ofTwo_176
  · skip
    refine lv_lload_n hx hb dX0_ofTwo_165 rfl (lv_at hl 2 rfl) ?_
    refine lv_lconst (v := 0) hx hb dX0_ofTwo_166 (by decide) ?_
    refine W.lcmp hx hb dX0_ofTwo_167 ?_
    refine lv_if_eq (tgt := 175) hx hb dX0_ofTwo_168 (by decide) (fun c_27 => ?_) (fun c_27 => ?_)
    · skip
      refine lv_lconst (v := 0) hx hb dX0_ofTwo_175 (by decide) ?_
      exact sk_lret hx hb hr hlocks hK hP hD hS rfl (Nat.le_of_ble_eq_true rfl) (Nat.le_of_ble_eq_true rfl) dX0_ofTwo_176
    · skip
      refine lv_lconst (v := 1) hx hb dX0_ofTwo_171 (by decide) ?_
      refine lv_goto (tgt := 176) hx hb dX0_ofTwo_172 (by decide) ?_
      exact sk_lret hx hb hr hlocks hK hP hD hS rfl (Nat.le_of_ble_eq_true rfl) (Nat.le_of_ble_eq_true rfl) dX0_ofTwo_176
theorem fmt10c {x v r : Int64} (hv : v = x - x / 10 * 10) (h : ¬ 0 ≤ lg_cmp (x ^^^ 10) 0) (hn : ¬ lg_cmp v 0 = 0) (hr : r = v + 10) : 0 ≤ r.toInt ∧ r.toInt < 10 := by
  obtain ⟨h1, h2⟩ := fmt10b hv h
  have e10 : (10 : Int64).toInt = 10 := rfl
  have h3 : ¬ v.toInt = 0 := fun q => hn ((lg_cmp_eq _ _).mpr (Int64.toInt_inj.mp q))
  rw [hr, Jvm.Kit.i64_add (by rw [e10]; omega) (by rw [e10]; omega), e10]
  omega
theorem dJ9_floorMod_f86c9_0 : decode cJ9_floorMod_f86c9 0 = .ok (.lload_n 0, 1) := by decide +kernel
theorem dJ9_floorMod_f86c9_1 : decode cJ9_floorMod_f86c9 1 = .ok (.lload_n 2, 1) := by decide +kernel
theorem dJ9_floorMod_f86c9_2 : decode cJ9_floorMod_f86c9 2 = .ok (.lrem, 1) := by decide +kernel
theorem dJ9_floorMod_f86c9_3 : decode cJ9_floorMod_f86c9 3 = .ok (.lstore 4, 2) := by decide +kernel
theorem dJ9_floorMod_f86c9_5 : decode cJ9_floorMod_f86c9 5 = .ok (.lload_n 0, 1) := by decide +kernel
theorem dJ9_floorMod_f86c9_6 : decode cJ9_floorMod_f86c9 6 = .ok (.lload_n 2, 1) := by decide +kernel
theorem dJ9_floorMod_f86c9_7 : decode cJ9_floorMod_f86c9 7 = .ok (.lxor, 1) := by decide +kernel
theorem dJ9_floorMod_f86c9_8 : decode cJ9_floorMod_f86c9 8 = .ok (.lconst 0, 1) := by decide +kernel
theorem dJ9_floorMod_f86c9_9 : decode cJ9_floorMod_f86c9 9 = .ok (.lcmp, 1) := by decide +kernel
theorem dJ9_floorMod_f86c9_10 : decode cJ9_floorMod_f86c9 10 = .ok (.ifCond .ge 15, 3) := by decide +kernel
theorem dJ9_floorMod_f86c9_25 : decode cJ9_floorMod_f86c9 25 = .ok (.lload 4, 2) := by decide +kernel
theorem dJ9_floorMod_f86c9_27 : decode cJ9_floorMod_f86c9 27 = .ok (.lreturn, 1) := by decide +kernel
theorem dJ9_floorMod_f86c9_13 : decode cJ9_floorMod_f86c9 13 = .ok (.lload 4, 2) := by decide +kernel
theorem dJ9_floorMod_f86c9_15 : decode cJ9_floorMod_f86c9 15 = .ok (.lconst 0, 1) := by decide +kernel
theorem dJ9_floorMod_f86c9_16 : decode cJ9_floorMod_f86c9 16 = .ok (.lcmp, 1) := by decide +kernel
theorem dJ9_floorMod_f86c9_17 : decode cJ9_floorMod_f86c9 17 = .ok (.ifCond .eq 8, 3) := by decide +kernel
theorem dJ9_floorMod_f86c9_20 : decode cJ9_floorMod_f86c9 20 = .ok (.lload 4, 2) := by decide +kernel
theorem dJ9_floorMod_f86c9_22 : decode cJ9_floorMod_f86c9 22 = .ok (.lload_n 2, 1) := by decide +kernel
theorem dJ9_floorMod_f86c9_23 : decode cJ9_floorMod_f86c9 23 = .ok (.ladd, 1) := by decide +kernel
theorem dJ9_floorMod_f86c9_24 : decode cJ9_floorMod_f86c9 24 = .ok (.lreturn, 1) := by decide +kernel
theorem w_4_12 : (Cond.code yJ9_floorMod_f86c9 cJ9_floorMod_f86c9 6 (some .long)) ∈ wsL_law := sk_mem (ck_4 _ (List.mem_of_getElem? (i := 12) rfl)) rfl
set_option maxHeartbeats 4000000 in
set_option maxRecDepth 100000 in
theorem c_floorModL (l : Launch) (D : va_G) (cI cJ cC cZ cS : ClassId) (x : Int64)  : skM l yJ9_floorMod_f86c9 cJ9_floorMod_f86c9 6 (some .long) 0 0 0 0 D (skT cI cJ cC cZ cS) [.long x, .long 10] [] (skL D (skT cI cJ cC cZ cS) (fun (r : Int64) (u : va_W) => (0 ≤ r.toInt ∧ r.toInt < 10) ∧ u = [])) := by
  refine skM_of (by decide +kernel) (Nat.le_of_ble_eq_true rfl) ?_
  intro p e s m below meth c A ls E hP hD hl
  obtain ⟨hx, hb, hr, hml, hlocks, hin, hown, hts, hK, hA⟩ := E
  have hown : s.vm.findClass RJ9 = some m.cls := hown
  have hS : va_S A s.heap s.heap [] := va_S.rf
  have hl : lv_has ls 6 [(0, .long x), (2, .long 10)] := hl
  refine lv_lload_n hx hb dJ9_floorMod_f86c9_0 rfl (lv_at hl 0 rfl) ?_
  refine lv_lload_n hx hb dJ9_floorMod_f86c9_1 rfl (lv_at hl 1 rfl) ?_
  refine lv_lrem hx hb dJ9_floorMod_f86c9_2 (by decide) ?_
  refine lv_topl (fun v_1 ev_1 => ?_)
  refine lv_lstore (lv' := [(4, .long v_1), (0, .long x), (2, .long 10)]) hx hb dJ9_floorMod_f86c9_3 hl (by decide) rfl (fun ls hl => ?_)
  refine lv_lload_n hx hb dJ9_floorMod_f86c9_5 rfl (lv_at hl 1 rfl) ?_
  refine lv_lload_n hx hb dJ9_floorMod_f86c9_6 rfl (lv_at hl 2 rfl) ?_
  refine lv_lxor hx hb dJ9_floorMod_f86c9_7 ?_
  refine lv_topl (fun v_2 ev_2 => ?_)
  refine lv_lconst (v := 0) hx hb dJ9_floorMod_f86c9_8 (by decide) ?_
  refine W.lcmp hx hb dJ9_floorMod_f86c9_9 ?_
  refine lv_if_ge (tgt := 25) hx hb dJ9_floorMod_f86c9_10 (by decide) (fun c_3 => ?_) (fun c_3 => ?_)
  · skip
    refine lv_lload hx hb dJ9_floorMod_f86c9_25 (lv_at hl 0 rfl) ?_
    exact sk_lret hx hb hr hlocks hK hP hD hS (⟨by have h9 := fmt10 ev_1 (ev_2 ▸ c_3); exact h9, rfl⟩) (Nat.le_of_ble_eq_true rfl) (Nat.le_of_ble_eq_true rfl) dJ9_floorMod_f86c9_27
  · skip
    refine lv_lload hx hb dJ9_floorMod_f86c9_13 (lv_at hl 0 rfl) ?_
    refine lv_lconst (v := 0) hx hb dJ9_floorMod_f86c9_15 (by decide) ?_
    refine W.lcmp hx hb dJ9_floorMod_f86c9_16 ?_
    refine lv_if_eq (tgt := 25) hx hb dJ9_floorMod_f86c9_17 (by decide) (fun c_4 => ?_) (fun c_4 => ?_)
    · skip
      refine lv_lload hx hb dJ9_floorMod_f86c9_25 (lv_at hl 0 rfl) ?_
      exact sk_lret hx hb hr hlocks hK hP hD hS (⟨by have h9 := (lg_cmp_eq _ _).mp c_4; rw [h9]; decide, rfl⟩) (Nat.le_of_ble_eq_true rfl) (Nat.le_of_ble_eq_true rfl) dJ9_floorMod_f86c9_27
    · skip
      refine lv_lload hx hb dJ9_floorMod_f86c9_20 (lv_at hl 0 rfl) ?_
      refine lv_lload_n hx hb dJ9_floorMod_f86c9_22 rfl (lv_at hl 2 rfl) ?_
      refine lv_ladd hx hb dJ9_floorMod_f86c9_23 ?_
      refine lv_topl (fun v_5 ev_5 => ?_)
      exact sk_lret hx hb hr hlocks hK hP hD hS (⟨fmt10c ev_1 (ev_2 ▸ c_3) c_4 ev_5, rfl⟩) (Nat.le_of_ble_eq_true rfl) (Nat.le_of_ble_eq_true rfl) dJ9_floorMod_f86c9_24
theorem dJ9_floorMod_1978a_0 : decode cJ9_floorMod_1978a 0 = .ok (.lload_n 0, 1) := by decide +kernel
theorem dJ9_floorMod_1978a_1 : decode cJ9_floorMod_1978a 1 = .ok (.iload_n 2, 1) := by decide +kernel
theorem dJ9_floorMod_1978a_2 : decode cJ9_floorMod_1978a 2 = .ok (.i2l, 1) := by decide +kernel
theorem dJ9_floorMod_1978a_3 : decode cJ9_floorMod_1978a 3 = .ok (.invokestatic 146, 3) := by decide +kernel
theorem dJ9_floorMod_1978a_6 : decode cJ9_floorMod_1978a 6 = .ok (.l2i, 1) := by decide +kernel
theorem dJ9_floorMod_1978a_7 : decode cJ9_floorMod_1978a 7 = .ok (.ireturn, 1) := by decide +kernel
theorem w_4_10 : (Cond.methodLink RJ9 146 yJ9_floorMod_f86c9) ∈ wsL_law := sk_mem (ck_4 _ (List.mem_of_getElem? (i := 10) rfl)) rfl
theorem w_4_11 : (Cond.static yJ9_floorMod_f86c9) ∈ wsL_law := sk_mem (ck_4 _ (List.mem_of_getElem? (i := 11) rfl)) rfl
theorem w_4_9 : (Cond.code yJ9_floorMod_1978a cJ9_floorMod_1978a 3 (some .int)) ∈ wsL_law := sk_mem (ck_4 _ (List.mem_of_getElem? (i := 9) rfl)) rfl
set_option maxHeartbeats 4000000 in
set_option maxRecDepth 100000 in
theorem c_floorMod (l : Launch) (D : va_G) (cI cJ cC cZ cS : ClassId) (x : Int64)  : skM l yJ9_floorMod_1978a cJ9_floorMod_1978a 3 (some .int) 1 25 0 0 D (skT cI cJ cC cZ cS) [.long x, .int 10] [] (skI D (skT cI cJ cC cZ cS) (fun (r : Int32) (u : va_W) => ∃ (v : Nat), v < 10 ∧ r = nI v ∧ u = [])) := by
  refine skM_of (by decide +kernel) (Nat.le_of_ble_eq_true rfl) ?_
  intro p e s m below meth c A ls E hP hD hl
  obtain ⟨hx, hb, hr, hml, hlocks, hin, hown, hts, hK, hA⟩ := E
  have hown : s.vm.findClass RJ9 = some m.cls := hown
  have hS : va_S A s.heap s.heap [] := va_S.rf
  have hl : lv_has ls 3 [(0, .long x), (2, .int 10)] := hl
  refine lv_lload_n hx hb dJ9_floorMod_1978a_0 rfl (lv_at hl 0 rfl) ?_
  refine lv_iload_n hx hb dJ9_floorMod_1978a_1 rfl (lv_at hl 1 rfl) ?_
  refine lv_i2l (v := 10) hx hb dJ9_floorMod_1978a_2 (by decide) ?_
  refine sk_Sl (n := 2) (rest := []) (wr := []) ⟨hx, hb, hml, hown, hts⟩ hl.1 (c_floorModL l D cI cJ cC cZ cS x) w_4_10 w_4_11 w_1_3 w_4_12 (by decide +kernel) ⟨⟨(Nat.le_of_ble_eq_true rfl), (Nat.le_of_ble_eq_true rfl)⟩, (Nat.le_of_ble_eq_true rfl), (Nat.le_of_ble_eq_true rfl)⟩ hK hP hD hS hA [] [] rfl rfl (by decide +kernel) (by decide +kernel) (by decide +kernel) rfl rfl (Nat.le_of_ble_eq_true rfl) dJ9_floorMod_1978a_3 (fun r_1 u H locs hw hP hD hS => ?_)
  obtain ⟨hr_2, rfl⟩ := hw
  have hP : va_P D vwCl [] H := hP
  have hD : va_D A [] := hD
  refine lv_l2i hx hb dJ9_floorMod_1978a_6 rfl ?_
  obtain ⟨k_3, hk_3, ek_3⟩ := nl2i (a := r_1) (n := 10) hr_2.1 hr_2.2 (by omega)
  refine sk_top (nI k_3) ek_3 ?_
  exact sk_iret hx hb hr rfl hlocks hK hP hD hS (⟨k_3, by omega, rfl, rfl⟩) (Nat.le_of_ble_eq_true rfl) (Nat.le_of_ble_eq_true rfl) dJ9_floorMod_1978a_7
theorem dX0_run_0 : decode cX0_run 0 = .ok (.iconst 0, 1) := by decide +kernel
theorem dX0_run_1 : decode cX0_run 1 = .ok (.istore_n 3, 1) := by decide +kernel
theorem dX0_run_2 : decode cX0_run 2 = .ok (.iload_n 1, 1) := by decide +kernel
theorem dX0_run_3 : decode cX0_run 3 = .ok (.iconst 0, 1) := by decide +kernel
theorem dX0_run_4 : decode cX0_run 4 = .ok (.invokestatic 35, 3) := by decide +kernel
theorem dX0_run_7 : decode cX0_run 7 = .ok (.istore 4, 2) := by decide +kernel
theorem dX0_run_9 : decode cX0_run 9 = .ok (.iload 4, 2) := by decide +kernel
theorem dX0_run_11 : decode cX0_run 11 = .ok (.iload_n 2, 1) := by decide +kernel
theorem dX0_run_12 : decode cX0_run 12 = .ok (.if_icmp .ge 161, 3) := by decide +kernel
theorem dX0_run_173 : decode cX0_run 173 = .ok (.iload_n 3, 1) := by decide +kernel
theorem dX0_run_174 : decode cX0_run 174 = .ok (.ifCond .le 12, 3) := by decide +kernel
theorem dX0_run_186 : decode cX0_run 186 = .ok (.lconst 0, 1) := by decide +kernel
theorem dX0_run_187 : decode cX0_run 187 = .ok (.lreturn, 1) := by decide +kernel
theorem dX0_run_177 : decode cX0_run 177 = .ok (.aload_n 0, 1) := by decide +kernel
theorem dX0_run_178 : decode cX0_run 178 = .ok (.getfield 17, 3) := by decide +kernel
theorem dX0_run_181 : decode cX0_run 181 = .ok (.iconst 0, 1) := by decide +kernel
theorem dX0_run_182 : decode cX0_run 182 = .ok (.laload, 1) := by decide +kernel
theorem dX0_run_183 : decode cX0_run 183 = .ok (.goto 4, 3) := by decide +kernel
theorem dX0_run_15 : decode cX0_run 15 = .ok (.iload 4, 2) := by decide +kernel
theorem dX0_run_17 : decode cX0_run 17 = .ok (.aload_n 0, 1) := by decide +kernel
theorem dX0_run_18 : decode cX0_run 18 = .ok (.getfield 27, 3) := by decide +kernel
theorem dX0_run_21 : decode cX0_run 21 = .ok (.if_icmp .ge 152, 3) := by decide +kernel
theorem dX0_run_24 : decode cX0_run 24 = .ok (.aload_n 0, 1) := by decide +kernel
theorem dX0_run_25 : decode cX0_run 25 = .ok (.getfield 11, 3) := by decide +kernel
theorem dX0_run_28 : decode cX0_run 28 = .ok (.iload 4, 2) := by decide +kernel
theorem dX0_run_30 : decode cX0_run 30 = .ok (.iaload, 1) := by decide +kernel
theorem dX0_run_31 : decode cX0_run 31 = .ok (.istore 5, 2) := by decide +kernel
theorem dX0_run_33 : decode cX0_run 33 = .ok (.iload 5, 2) := by decide +kernel
theorem dX0_run_35 : decode cX0_run 35 = .ok (.sipush 30000, 3) := by decide +kernel
theorem dX0_run_38 : decode cX0_run 38 = .ok (.if_icmp .lt 41, 3) := by decide +kernel
theorem dX0_run_79 : decode cX0_run 79 = .ok (.iload 5, 2) := by decide +kernel
theorem dX0_run_81 : decode cX0_run 81 = .ok (.sipush 20000, 3) := by decide +kernel
theorem dX0_run_84 : decode cX0_run 84 = .ok (.if_icmp .lt 32, 3) := by decide +kernel
theorem dX0_run_116 : decode cX0_run 116 = .ok (.iload_n 3, 1) := by decide +kernel
theorem dX0_run_117 : decode cX0_run 117 = .ok (.aload_n 0, 1) := by decide +kernel
theorem dX0_run_118 : decode cX0_run 118 = .ok (.getfield 17, 3) := by decide +kernel
theorem dX0_run_121 : decode cX0_run 121 = .ok (.arraylength, 1) := by decide +kernel
theorem dX0_run_122 : decode cX0_run 122 = .ok (.if_icmp .ge 45, 3) := by decide +kernel
theorem dX0_run_167 : decode cX0_run 167 = .ok (.iinc 4 1, 3) := by decide +kernel
theorem dX0_run_170 : decode cX0_run 170 = .ok (.goto (-161), 3) := by decide +kernel
theorem dX0_run_125 : decode cX0_run 125 = .ok (.iload 5, 2) := by decide +kernel
theorem dX0_run_127 : decode cX0_run 127 = .ok (.sipush 10000, 3) := by decide +kernel
theorem dX0_run_130 : decode cX0_run 130 = .ok (.isub, 1) := by decide +kernel
theorem dX0_run_131 : decode cX0_run 131 = .ok (.istore 6, 2) := by decide +kernel
theorem dX0_run_133 : decode cX0_run 133 = .ok (.aload_n 0, 1) := by decide +kernel
theorem dX0_run_134 : decode cX0_run 134 = .ok (.getfield 17, 3) := by decide +kernel
theorem dX0_run_137 : decode cX0_run 137 = .ok (.iload_n 3, 1) := by decide +kernel
theorem dX0_run_138 : decode cX0_run 138 = .ok (.iload 6, 2) := by decide +kernel
theorem dX0_run_140 : decode cX0_run 140 = .ok (.ifCond .lt 20, 3) := by decide +kernel
theorem dX0_run_160 : decode cX0_run 160 = .ok (.iload 5, 2) := by decide +kernel
theorem dX0_run_162 : decode cX0_run 162 = .ok (.i2l, 1) := by decide +kernel
theorem dX0_run_163 : decode cX0_run 163 = .ok (.lastore, 1) := by decide +kernel
theorem dX0_run_164 : decode cX0_run 164 = .ok (.iinc 3 1, 3) := by decide +kernel
theorem dX0_run_143 : decode cX0_run 143 = .ok (.iload 6, 2) := by decide +kernel
theorem dX0_run_145 : decode cX0_run 145 = .ok (.bipush 9, 2) := by decide +kernel
theorem dX0_run_147 : decode cX0_run 147 = .ok (.if_icmp .ge 13, 3) := by decide +kernel
theorem dX0_run_150 : decode cX0_run 150 = .ok (.aload_n 0, 1) := by decide +kernel
theorem dX0_run_151 : decode cX0_run 151 = .ok (.getfield 21, 3) := by decide +kernel
theorem dX0_run_154 : decode cX0_run 154 = .ok (.iload 6, 2) := by decide +kernel
theorem dX0_run_156 : decode cX0_run 156 = .ok (.laload, 1) := by decide +kernel
theorem dX0_run_157 : decode cX0_run 157 = .ok (.goto 6, 3) := by decide +kernel
theorem dX0_run_87 : decode cX0_run 87 = .ok (.iload_n 3, 1) := by decide +kernel
theorem dX0_run_88 : decode cX0_run 88 = .ok (.ifCond .le 79, 3) := by decide +kernel
theorem dX0_run_91 : decode cX0_run 91 = .ok (.aload_n 0, 1) := by decide +kernel
theorem dX0_run_92 : decode cX0_run 92 = .ok (.getfield 17, 3) := by decide +kernel
theorem dX0_run_95 : decode cX0_run 95 = .ok (.iload_n 3, 1) := by decide +kernel
theorem dX0_run_96 : decode cX0_run 96 = .ok (.iconst 1, 1) := by decide +kernel
theorem dX0_run_97 : decode cX0_run 97 = .ok (.isub, 1) := by decide +kernel
theorem dX0_run_98 : decode cX0_run 98 = .ok (.aload_n 0, 1) := by decide +kernel
theorem dX0_run_99 : decode cX0_run 99 = .ok (.iload 5, 2) := by decide +kernel
theorem dX0_run_101 : decode cX0_run 101 = .ok (.aload_n 0, 1) := by decide +kernel
theorem dX0_run_102 : decode cX0_run 102 = .ok (.getfield 17, 3) := by decide +kernel
theorem dX0_run_105 : decode cX0_run 105 = .ok (.iload_n 3, 1) := by decide +kernel
theorem dX0_run_106 : decode cX0_run 106 = .ok (.iconst 1, 1) := by decide +kernel
theorem dX0_run_107 : decode cX0_run 107 = .ok (.isub, 1) := by decide +kernel
theorem dX0_run_108 : decode cX0_run 108 = .ok (.laload, 1) := by decide +kernel
theorem dX0_run_109 : decode cX0_run 109 = .ok (.invokevirtual 45, 3) := by decide +kernel
theorem dX0_run_112 : decode cX0_run 112 = .ok (.lastore, 1) := by decide +kernel
theorem dX0_run_113 : decode cX0_run 113 = .ok (.goto 54, 3) := by decide +kernel
theorem dX0_run_41 : decode cX0_run 41 = .ok (.iload_n 3, 1) := by decide +kernel
theorem dX0_run_42 : decode cX0_run 42 = .ok (.iconst 1, 1) := by decide +kernel
theorem dX0_run_43 : decode cX0_run 43 = .ok (.if_icmp .le 124, 3) := by decide +kernel
theorem dX0_run_46 : decode cX0_run 46 = .ok (.iinc 3 (-1), 3) := by decide +kernel
theorem dX0_run_49 : decode cX0_run 49 = .ok (.aload_n 0, 1) := by decide +kernel
theorem dX0_run_50 : decode cX0_run 50 = .ok (.getfield 17, 3) := by decide +kernel
theorem dX0_run_53 : decode cX0_run 53 = .ok (.iload_n 3, 1) := by decide +kernel
theorem dX0_run_54 : decode cX0_run 54 = .ok (.iconst 1, 1) := by decide +kernel
theorem dX0_run_55 : decode cX0_run 55 = .ok (.isub, 1) := by decide +kernel
theorem dX0_run_56 : decode cX0_run 56 = .ok (.iload 5, 2) := by decide +kernel
theorem dX0_run_58 : decode cX0_run 58 = .ok (.aload_n 0, 1) := by decide +kernel
theorem dX0_run_59 : decode cX0_run 59 = .ok (.getfield 17, 3) := by decide +kernel
theorem dX0_run_62 : decode cX0_run 62 = .ok (.iload_n 3, 1) := by decide +kernel
theorem dX0_run_63 : decode cX0_run 63 = .ok (.iconst 1, 1) := by decide +kernel
theorem dX0_run_64 : decode cX0_run 64 = .ok (.isub, 1) := by decide +kernel
theorem dX0_run_65 : decode cX0_run 65 = .ok (.laload, 1) := by decide +kernel
theorem dX0_run_66 : decode cX0_run 66 = .ok (.aload_n 0, 1) := by decide +kernel
theorem dX0_run_67 : decode cX0_run 67 = .ok (.getfield 17, 3) := by decide +kernel
theorem dX0_run_70 : decode cX0_run 70 = .ok (.iload_n 3, 1) := by decide +kernel
theorem dX0_run_71 : decode cX0_run 71 = .ok (.laload, 1) := by decide +kernel
theorem dX0_run_72 : decode cX0_run 72 = .ok (.invokestatic 41, 3) := by decide +kernel
theorem dX0_run_75 : decode cX0_run 75 = .ok (.lastore, 1) := by decide +kernel
theorem dX0_run_76 : decode cX0_run 76 = .ok (.goto 91, 3) := by decide +kernel
theorem w_3_224 : (Cond.methodLink RX0 35 Lib.Math.max.name) ∈ wsL_law := sk_mem (ck_3 _ (List.mem_of_getElem? (i := 224) rfl)) rfl
theorem w_1_37 : (Cond.static Lib.Math.max.name) ∈ wsL_law := sk_mem (ck_1 _ (List.mem_of_getElem? (i := 37) rfl)) rfl
theorem w_1_38 : (Cond.code Lib.Math.max.name Lib.Math.max.code 2 (some .int)) ∈ wsL_law := sk_mem (ck_1 _ (List.mem_of_getElem? (i := 38) rfl)) rfl
theorem w_1_130 : (Cond.fieldLink RX0 17 "SameKeeper$Code" "stack" "[J") ∈ wsL_law := sk_mem (ck_1 _ (List.mem_of_getElem? (i := 130) rfl)) rfl
theorem w_4_2 : (Cond.methodLink RX0 45 yX0_ofOne) ∈ wsL_law := sk_mem (ck_4 _ (List.mem_of_getElem? (i := 2) rfl)) rfl
theorem w_4_4 : (Cond.instanceMethod yX0_ofOne) ∈ wsL_law := sk_mem (ck_4 _ (List.mem_of_getElem? (i := 4) rfl)) rfl
theorem w_0_16 : (Cond.selects RX0 yX0_ofOne yX0_ofOne) ∈ wsL_law := sk_mem (ck_0 _ (List.mem_of_getElem? (i := 16) rfl)) rfl
theorem w_3_225 : (Cond.methodLink RX0 41 yX0_ofTwo) ∈ wsL_law := sk_mem (ck_3 _ (List.mem_of_getElem? (i := 225) rfl)) rfl
theorem w_3_226 : (Cond.static yX0_ofTwo) ∈ wsL_law := sk_mem (ck_3 _ (List.mem_of_getElem? (i := 226) rfl)) rfl
theorem w_3_223 : (Cond.code yX0_run cX0_run 7 (some .long)) ∈ wsL_law := sk_mem (ck_3 _ (List.mem_of_getElem? (i := 223) rfl)) rfl
set_option maxHeartbeats 4000000 in
set_option maxRecDepth 100000 in
theorem c_Code_run (l : Launch) (D : va_G) (cI cJ cC cZ cS : ClassId) (h0 : Nat) (k1 : Nat) (k2 : Nat) (k3 : Nat) (k4 : Nat) (cl : Nat) (mw : Nat) (f1 : Nat → Int32) (f2 : Nat → Int64) (f3 : Nat → Int64) (f4 : Nat → Int64) (a1 : Int32) (b1 : Int32) (hcl : cl ≤ 1600) (hmw : mw ≤ 1) : skM l yX0_run cX0_run 7 (some .long) 2 49 0 0 D (skT cI cJ cC cZ cS) [.ref h0, .int a1, .int b1] [(h0, .inr (0, [.ref k1, .ref k2, .ref k3, .ref k4, .int (nI cl), .int (nI mw)])), (k1, .inl (cI, 1600, .inl f1)), (k2, .inl (cJ, 64, .inr (.inl f2))), (k3, .inl (cJ, 9, .inr (.inl f3))), (k4, .inl (cJ, 10, .inr (.inl f4)))] (skL D (skT cI cJ cC cZ cS) (fun (r : Int64) (u : va_W) => ∃ (g2 : Nat → Int64), u = [(h0, .inr (0, [.ref k1, .ref k2, .ref k3, .ref k4, .int (nI cl), .int (nI mw)])), (k1, .inl (cI, 1600, .inl f1)), (k2, .inl (cJ, 64, .inr (.inl g2))), (k3, .inl (cJ, 9, .inr (.inl f3))), (k4, .inl (cJ, 10, .inr (.inl f4)))])) := by
  refine skM_of (by decide +kernel) (Nat.le_of_ble_eq_true rfl) ?_
  intro p e s m below meth c A ls E hP hD hl
  obtain ⟨hx, hb, hr, hml, hlocks, hin, hown, hts, hK, hA⟩ := E
  have hown : s.vm.findClass RX0 = some m.cls := hown
  have hS : va_S A s.heap s.heap [] := va_S.rf
  have hl : lv_has ls 7 [(0, .ref h0), (1, .int a1), (2, .int b1)] := hl
  refine lv_iconst (v := 0) hx hb dX0_run_0 (by decide) ?_
  refine lv_istore_n (lv' := [(3, .int 0), (0, .ref h0), (1, .int a1), (2, .int b1)]) hx hb dX0_run_1 rfl hl (by decide) rfl (fun ls hl => ?_)
  refine lv_iload_n hx hb dX0_run_2 rfl (lv_at hl 2 rfl) ?_
  refine lv_iconst (v := 0) hx hb dX0_run_3 (by decide) ?_
  refine va_mmax hx hb (by rw [hml]; exact hl.1.symm) hown (hts _ w_3_224) (hts _ w_1_37) (hts _ w_1_3) (hts _ w_1_38) (Nat.le_of_ble_eq_true rfl) (Nat.le_of_ble_eq_true rfl) (Nat.le_of_ble_eq_true rfl) (Nat.le_of_ble_eq_true rfl) dX0_run_4 ?_
  obtain ⟨k_1, hk_1, ek_1⟩ := nmax0 a1
  refine sk_top (nI k_1) ek_1 ?_
  refine lv_istore (lv' := [(4, .int (nI k_1)), (3, .int 0), (0, .ref h0), (1, .int a1), (2, .int b1)]) hx hb dX0_run_7 hl (by decide) rfl (fun ls hl => ?_)
  have lp_2 : ∀ (n_3 : Nat) (i : Nat) (tp : Nat) (fs : Nat → Int64) (H : Heap) (locs : List Loc) (ls : Array Slot), cl - i < n_3 → (tp ≤ 64) → (i < 2147483648) → va_P D vwCl [(h0, .inr (0, [.ref k1, .ref k2, .ref k3, .ref k4, .int (nI cl), .int (nI mw)])), (k1, .inl (cI, 1600, .inl f1)), (k2, .inl (cJ, 64, .inr (.inl fs))), (k3, .inl (cJ, 9, .inr (.inl f3))), (k4, .inl (cJ, 10, .inr (.inl f4)))] H → va_D A [(h0, .inr (0, [.ref k1, .ref k2, .ref k3, .ref k4, .int (nI cl), .int (nI mw)])), (k1, .inl (cI, 1600, .inl f1)), (k2, .inl (cJ, 64, .inr (.inl fs))), (k3, .inl (cJ, 9, .inr (.inl f3))), (k4, .inl (cJ, 10, .inr (.inl f4)))] → va_S A s.heap H locs → lv_has ls 7 [(4, .int (nI i)), (3, .int (nI tp)), (0, .ref h0), (1, .int a1), (2, .int b1)] → W p l e { frames := 2, cells := 0, slots := 0, locals := 49 } s m ([.ref h0, .int a1, .int b1] : List Value).toArray below meth c H locs 0 0 (MQ below (skL D (skT cI cJ cC cZ cS) (fun (r : Int64) (u : va_W) => ∃ (g2 : Nat → Int64), u = [(h0, .inr (0, [.ref k1, .ref k2, .ref k3, .ref k4, .int (nI cl), .int (nI mw)])), (k1, .inl (cI, 1600, .inl f1)), (k2, .inl (cJ, 64, .inr (.inl g2))), (k3, .inl (cJ, 9, .inr (.inl f3))), (k4, .inl (cJ, 10, .inr (.inl f4)))]) A) ([.ref h0, .int a1, .int b1] : List Value).toArray s 0 0 A) (F0 m 9 ls []) := by
    intro n_3
    induction n_3 with
    | zero => intro i tp fs H locs ls hm; exact absurd hm (Nat.not_lt_zero _)
    | succ n_3 ih_lp_2 =>
      intro i tp fs H locs ls hm htp hi hP hD hS hl
      refine lv_iload hx hb dX0_run_9 (lv_at hl 0 rfl) ?_
      refine lv_iload_n hx hb dX0_run_11 rfl (lv_at hl 4 rfl) ?_
      refine lv_icmp_ge (tgt := 173) hx hb dX0_run_12 (by decide) (fun c_4 => ?_) (fun c_4 => ?_)
      · skip
        refine lv_iload_n hx hb dX0_run_173 rfl (lv_at hl 1 rfl) ?_
        refine lv_if_le (tgt := 186) hx hb dX0_run_174 (by decide) (fun c_5 => ?_) (fun c_5 => ?_)
        · have c_5 : tp ≤ 0 := (nle tp 0 (by omega) (by omega)).mp c_5
          refine lv_lconst (v := 0) hx hb dX0_run_186 (by decide) ?_
          exact sk_lret hx hb hr hlocks hK hP hD hS (⟨fs, rfl⟩) (Nat.le_of_ble_eq_true rfl) (Nat.le_of_ble_eq_true rfl) dX0_run_187
        · have c_5 : ¬ (tp ≤ 0) := fun h => c_5 ((nle tp 0 (by omega) (by omega)).mpr h)
          refine lv_aload_n hx hb dX0_run_177 rfl (lv_at hl 2 rfl) ?_
          refine sk_get (v := .ref k2) (C := RX0) (T := TX0) (N := 6) hx hb hts inlX0 hown hK hP 0 rfl rfl 1 (by decide) w_1_130 rfl dX0_run_178 ?_
          refine lv_iconst (v := 0) hx hb dX0_run_181 (by decide) ?_
          refine va_lald hx hb hK.1 hP 2 1 rfl rfl (by unfold vp_in; decide) dX0_run_182 ?_
          refine lv_topl (fun v_6 ev_6 => ?_)
          refine lv_goto (tgt := 187) hx hb dX0_run_183 (by decide) ?_
          exact sk_lret hx hb hr hlocks hK hP hD hS (⟨fs, rfl⟩) (Nat.le_of_ble_eq_true rfl) (Nat.le_of_ble_eq_true rfl) dX0_run_187
      · skip
        refine lv_iload hx hb dX0_run_15 (lv_at hl 0 rfl) ?_
        refine lv_aload_n hx hb dX0_run_17 rfl (lv_at hl 2 rfl) ?_
        refine sk_get (v := .int (nI cl)) (C := RX0) (T := TX0) (N := 6) hx hb hts inlX0 hown hK hP 0 rfl rfl 4 (by decide) w_1_133 rfl dX0_run_18 ?_
        refine lv_icmp_ge (tgt := 173) hx hb dX0_run_21 (by decide) (fun c_7 => ?_) (fun c_7 => ?_)
        · have c_7 : cl ≤ i := (nle cl i (by omega) (by omega)).mp c_7
          refine lv_iload_n hx hb dX0_run_173 rfl (lv_at hl 1 rfl) ?_
          refine lv_if_le (tgt := 186) hx hb dX0_run_174 (by decide) (fun c_8 => ?_) (fun c_8 => ?_)
          · have c_8 : tp ≤ 0 := (nle tp 0 (by omega) (by omega)).mp c_8
            refine lv_lconst (v := 0) hx hb dX0_run_186 (by decide) ?_
            exact sk_lret hx hb hr hlocks hK hP hD hS (⟨fs, rfl⟩) (Nat.le_of_ble_eq_true rfl) (Nat.le_of_ble_eq_true rfl) dX0_run_187
          · have c_8 : ¬ (tp ≤ 0) := fun h => c_8 ((nle tp 0 (by omega) (by omega)).mpr h)
            refine lv_aload_n hx hb dX0_run_177 rfl (lv_at hl 2 rfl) ?_
            refine sk_get (v := .ref k2) (C := RX0) (T := TX0) (N := 6) hx hb hts inlX0 hown hK hP 0 rfl rfl 1 (by decide) w_1_130 rfl dX0_run_178 ?_
            refine lv_iconst (v := 0) hx hb dX0_run_181 (by decide) ?_
            refine va_lald hx hb hK.1 hP 2 1 rfl rfl (by unfold vp_in; decide) dX0_run_182 ?_
            refine lv_topl (fun v_9 ev_9 => ?_)
            refine lv_goto (tgt := 187) hx hb dX0_run_183 (by decide) ?_
            exact sk_lret hx hb hr hlocks hK hP hD hS (⟨fs, rfl⟩) (Nat.le_of_ble_eq_true rfl) (Nat.le_of_ble_eq_true rfl) dX0_run_187
        · have c_7 : ¬ (cl ≤ i) := fun h => c_7 ((nle cl i (by omega) (by omega)).mpr h)
          refine lv_aload_n hx hb dX0_run_24 rfl (lv_at hl 2 rfl) ?_
          refine sk_get (v := .ref k1) (C := RX0) (T := TX0) (N := 6) hx hb hts inlX0 hown hK hP 0 rfl rfl 0 (by decide) w_1_129 rfl dX0_run_25 ?_
          refine lv_iload hx hb dX0_run_28 (lv_at hl 0 rfl) ?_
          refine va_iald hx hb hK.1 hP 1 0 rfl rfl (vin i 1600 (by omega) (by omega)) dX0_run_30 ?_
          refine lv_topi (fun v_10 ev_10 => ?_)
          refine lv_istore (lv' := [(5, .int v_10), (4, .int (nI i)), (3, .int (nI tp)), (0, .ref h0), (1, .int a1), (2, .int b1)]) hx hb dX0_run_31 hl (by decide) rfl (fun ls hl => ?_)
          refine lv_iload hx hb dX0_run_33 (lv_at hl 0 rfl) ?_
          refine lv_sipush (v := 30000) hx hb dX0_run_35 (by decide) ?_
          refine lv_icmp_lt (tgt := 79) hx hb dX0_run_38 (by decide) (fun c_11 => ?_) (fun c_11 => ?_)
          · skip
            refine lv_iload hx hb dX0_run_79 (lv_at hl 0 rfl) ?_
            refine lv_sipush (v := 20000) hx hb dX0_run_81 (by decide) ?_
            refine lv_icmp_lt (tgt := 116) hx hb dX0_run_84 (by decide) (fun c_12 => ?_) (fun c_12 => ?_)
            · skip
              refine lv_iload_n hx hb dX0_run_116 rfl (lv_at hl 2 rfl) ?_
              refine lv_aload_n hx hb dX0_run_117 rfl (lv_at hl 3 rfl) ?_
              refine sk_get (v := .ref k2) (C := RX0) (T := TX0) (N := 6) hx hb hts inlX0 hown hK hP 0 rfl rfl 1 (by decide) w_1_130 rfl dX0_run_118 ?_
              refine va_alen (v := 64) hx hb hK.1 hP 2 1 rfl rfl rfl dX0_run_121 ?_
              refine lv_icmp_ge (tgt := 167) hx hb dX0_run_122 (by decide) (fun c_13 => ?_) (fun c_13 => ?_)
              · have c_13 : 64 ≤ tp := (nle 64 tp (by omega) (by omega)).mp c_13
                refine lv_iinc (v := nI (i + 1)) (lv' := [(4, .int (nI (i + 1))), (5, .int v_10), (3, .int (nI tp)), (0, .ref h0), (1, .int a1), (2, .int b1)]) hx hb dX0_run_167 hl (k := 1) rfl (ninc i 1 (by decide)) (by decide) rfl (fun ls hl => ?_)
                refine lv_goto (tgt := 9) hx hb dX0_run_170 (by decide) ?_
                exact ih_lp_2 (i + 1) tp fs _ _ _ (by omega) (by omega) (by omega) hP hD hS (lv_sub hl [0, 2, 3, 4, 5] rfl)
              · have c_13 : ¬ (64 ≤ tp) := fun h => c_13 ((nle 64 tp (by omega) (by omega)).mpr h)
                refine lv_iload hx hb dX0_run_125 (lv_at hl 0 rfl) ?_
                refine lv_sipush (v := 10000) hx hb dX0_run_127 (by decide) ?_
                refine lv_isub hx hb dX0_run_130 ?_
                refine lv_topi (fun v_14 ev_14 => ?_)
                refine lv_istore (lv' := [(6, .int v_14), (5, .int v_10), (4, .int (nI i)), (3, .int (nI tp)), (0, .ref h0), (1, .int a1), (2, .int b1)]) hx hb dX0_run_131 hl (by decide) rfl (fun ls hl => ?_)
                refine lv_aload_n hx hb dX0_run_133 rfl (lv_at hl 4 rfl) ?_
                refine sk_get (v := .ref k2) (C := RX0) (T := TX0) (N := 6) hx hb hts inlX0 hown hK hP 0 rfl rfl 1 (by decide) w_1_130 rfl dX0_run_134 ?_
                refine lv_iload_n hx hb dX0_run_137 rfl (lv_at hl 3 rfl) ?_
                refine lv_iload hx hb dX0_run_138 (lv_at hl 0 rfl) ?_
                refine lv_if_lt (tgt := 160) hx hb dX0_run_140 (by decide) (fun c_15 => ?_) (fun c_15 => ?_)
                · skip
                  refine lv_iload hx hb dX0_run_160 (lv_at hl 1 rfl) ?_
                  refine lv_i2l hx hb dX0_run_162 rfl ?_
                  refine sk_lastO (ws' := fun f_16 => [(h0, .inr (0, [.ref k1, .ref k2, .ref k3, .ref k4, .int (nI cl), .int (nI mw)])), (k1, .inl (cI, 1600, .inl f1)), (k2, .inl (cJ, 64, .inr (.inl f_16))), (k3, .inl (cJ, 9, .inr (.inl f3))), (k4, .inl (cJ, 10, .inr (.inl f4)))]) hx hb hK hP hD hS 2 1 rfl rfl (vin tp 64 (by omega) (by omega)) (fun _ => rfl) dX0_run_163 (fun f_16 H locs hP hD hS => ?_)
                  refine lv_iinc (v := nI (tp + 1)) (lv' := [(3, .int (nI (tp + 1))), (6, .int v_14), (5, .int v_10), (4, .int (nI i)), (0, .ref h0), (1, .int a1), (2, .int b1)]) hx hb dX0_run_164 hl (k := 3) rfl (ninc tp 1 (by decide)) (by decide) rfl (fun ls hl => ?_)
                  refine lv_iinc (v := nI (i + 1)) (lv' := [(4, .int (nI (i + 1))), (3, .int (nI (tp + 1))), (6, .int v_14), (5, .int v_10), (0, .ref h0), (1, .int a1), (2, .int b1)]) hx hb dX0_run_167 hl (k := 3) rfl (ninc i 1 (by decide)) (by decide) rfl (fun ls hl => ?_)
                  refine lv_goto (tgt := 9) hx hb dX0_run_170 (by decide) ?_
                  exact ih_lp_2 (i + 1) (tp + 1) f_16 _ _ _ (by omega) (by omega) (by omega) hP hD hS (lv_sub hl [0, 1, 4, 5, 6] rfl)
                · obtain ⟨k_17, hk_17, rfl⟩ := nof v_14 c_15
                  refine lv_iload hx hb dX0_run_143 (lv_at hl 0 rfl) ?_
                  refine lv_bipush (v := 9) hx hb dX0_run_145 (by decide) ?_
                  refine lv_icmp_ge (tgt := 160) hx hb dX0_run_147 (by decide) (fun c_18 => ?_) (fun c_18 => ?_)
                  · have c_18 : 9 ≤ k_17 := (nle 9 k_17 (by omega) (by omega)).mp c_18
                    refine lv_iload hx hb dX0_run_160 (lv_at hl 1 rfl) ?_
                    refine lv_i2l hx hb dX0_run_162 rfl ?_
                    refine sk_lastO (ws' := fun f_19 => [(h0, .inr (0, [.ref k1, .ref k2, .ref k3, .ref k4, .int (nI cl), .int (nI mw)])), (k1, .inl (cI, 1600, .inl f1)), (k2, .inl (cJ, 64, .inr (.inl f_19))), (k3, .inl (cJ, 9, .inr (.inl f3))), (k4, .inl (cJ, 10, .inr (.inl f4)))]) hx hb hK hP hD hS 2 1 rfl rfl (vin tp 64 (by omega) (by omega)) (fun _ => rfl) dX0_run_163 (fun f_19 H locs hP hD hS => ?_)
                    refine lv_iinc (v := nI (tp + 1)) (lv' := [(3, .int (nI (tp + 1))), (6, .int (nI k_17)), (5, .int v_10), (4, .int (nI i)), (0, .ref h0), (1, .int a1), (2, .int b1)]) hx hb dX0_run_164 hl (k := 3) rfl (ninc tp 1 (by decide)) (by decide) rfl (fun ls hl => ?_)
                    refine lv_iinc (v := nI (i + 1)) (lv' := [(4, .int (nI (i + 1))), (3, .int (nI (tp + 1))), (6, .int (nI k_17)), (5, .int v_10), (0, .ref h0), (1, .int a1), (2, .int b1)]) hx hb dX0_run_167 hl (k := 3) rfl (ninc i 1 (by decide)) (by decide) rfl (fun ls hl => ?_)
                    refine lv_goto (tgt := 9) hx hb dX0_run_170 (by decide) ?_
                    exact ih_lp_2 (i + 1) (tp + 1) f_19 _ _ _ (by omega) (by omega) (by omega) hP hD hS (lv_sub hl [0, 1, 4, 5, 6] rfl)
                  · have c_18 : ¬ (9 ≤ k_17) := fun h => c_18 ((nle 9 k_17 (by omega) (by omega)).mpr h)
                    refine lv_aload_n hx hb dX0_run_150 rfl (lv_at hl 4 rfl) ?_
                    refine sk_get (v := .ref k3) (C := RX0) (T := TX0) (N := 6) hx hb hts inlX0 hown hK hP 0 rfl rfl 2 (by decide) w_1_131 rfl dX0_run_151 ?_
                    refine lv_iload hx hb dX0_run_154 (lv_at hl 0 rfl) ?_
                    refine va_lald hx hb hK.1 hP 3 1 rfl rfl (vin k_17 9 (by omega) (by omega)) dX0_run_156 ?_
                    refine lv_topl (fun v_20 ev_20 => ?_)
                    refine lv_goto (tgt := 163) hx hb dX0_run_157 (by decide) ?_
                    refine sk_lastO (ws' := fun f_21 => [(h0, .inr (0, [.ref k1, .ref k2, .ref k3, .ref k4, .int (nI cl), .int (nI mw)])), (k1, .inl (cI, 1600, .inl f1)), (k2, .inl (cJ, 64, .inr (.inl f_21))), (k3, .inl (cJ, 9, .inr (.inl f3))), (k4, .inl (cJ, 10, .inr (.inl f4)))]) hx hb hK hP hD hS 2 1 rfl rfl (vin tp 64 (by omega) (by omega)) (fun _ => rfl) dX0_run_163 (fun f_21 H locs hP hD hS => ?_)
                    refine lv_iinc (v := nI (tp + 1)) (lv' := [(3, .int (nI (tp + 1))), (6, .int (nI k_17)), (5, .int v_10), (4, .int (nI i)), (0, .ref h0), (1, .int a1), (2, .int b1)]) hx hb dX0_run_164 hl (k := 3) rfl (ninc tp 1 (by decide)) (by decide) rfl (fun ls hl => ?_)
                    refine lv_iinc (v := nI (i + 1)) (lv' := [(4, .int (nI (i + 1))), (3, .int (nI (tp + 1))), (6, .int (nI k_17)), (5, .int v_10), (0, .ref h0), (1, .int a1), (2, .int b1)]) hx hb dX0_run_167 hl (k := 3) rfl (ninc i 1 (by decide)) (by decide) rfl (fun ls hl => ?_)
                    refine lv_goto (tgt := 9) hx hb dX0_run_170 (by decide) ?_
                    exact ih_lp_2 (i + 1) (tp + 1) f_21 _ _ _ (by omega) (by omega) (by omega) hP hD hS (lv_sub hl [0, 1, 4, 5, 6] rfl)
            · obtain ⟨k_22, hk_22, h1k_22, rfl⟩ := nofge v_10 20000 (by omega) c_12
              refine lv_iload_n hx hb dX0_run_87 rfl (lv_at hl 2 rfl) ?_
              refine lv_if_le (tgt := 167) hx hb dX0_run_88 (by decide) (fun c_23 => ?_) (fun c_23 => ?_)
              · have c_23 : tp ≤ 0 := (nle tp 0 (by omega) (by omega)).mp c_23
                refine lv_iinc (v := nI (i + 1)) (lv' := [(4, .int (nI (i + 1))), (5, .int (nI k_22)), (3, .int (nI tp)), (0, .ref h0), (1, .int a1), (2, .int b1)]) hx hb dX0_run_167 hl (k := 1) rfl (ninc i 1 (by decide)) (by decide) rfl (fun ls hl => ?_)
                refine lv_goto (tgt := 9) hx hb dX0_run_170 (by decide) ?_
                exact ih_lp_2 (i + 1) tp fs _ _ _ (by omega) (by omega) (by omega) hP hD hS (lv_sub hl [0, 2, 3, 4, 5] rfl)
              · have c_23 : ¬ (tp ≤ 0) := fun h => c_23 ((nle tp 0 (by omega) (by omega)).mpr h)
                refine lv_aload_n hx hb dX0_run_91 rfl (lv_at hl 3 rfl) ?_
                refine sk_get (v := .ref k2) (C := RX0) (T := TX0) (N := 6) hx hb hts inlX0 hown hK hP 0 rfl rfl 1 (by decide) w_1_130 rfl dX0_run_92 ?_
                refine lv_iload_n hx hb dX0_run_95 rfl (lv_at hl 2 rfl) ?_
                refine lv_iconst (v := 1) hx hb dX0_run_96 (by decide) ?_
                refine lv_isub hx hb dX0_run_97 ?_
                refine sk_top (nI (tp - 1)) (nsub tp 1 (by omega)) ?_
                refine lv_aload_n hx hb dX0_run_98 rfl (lv_at hl 3 rfl) ?_
                refine lv_iload hx hb dX0_run_99 (lv_at hl 0 rfl) ?_
                refine lv_aload_n hx hb dX0_run_101 rfl (lv_at hl 3 rfl) ?_
                refine sk_get (v := .ref k2) (C := RX0) (T := TX0) (N := 6) hx hb hts inlX0 hown hK hP 0 rfl rfl 1 (by decide) w_1_130 rfl dX0_run_102 ?_
                refine lv_iload_n hx hb dX0_run_105 rfl (lv_at hl 2 rfl) ?_
                refine lv_iconst (v := 1) hx hb dX0_run_106 (by decide) ?_
                refine lv_isub hx hb dX0_run_107 ?_
                refine sk_top (nI (tp - 1)) (nsub tp 1 (by omega)) ?_
                refine va_lald hx hb hK.1 hP 2 1 rfl rfl (vin (tp - 1) 64 (by omega) (by omega)) dX0_run_108 ?_
                refine lv_topl (fun v_24 ev_24 => ?_)
                refine sk_Vl (q0 := 0) (n := 2) (rest := [.int (nI (tp - 1)), .ref k2]) (wr := [(k1, .inl (cI, 1600, .inl f1)), (k2, .inl (cJ, 64, .inr (.inl fs))), (k3, .inl (cJ, 9, .inr (.inl f3)))]) ⟨hx, hb, hml, hown, hts⟩ hl.1 (c_Code_ofOne l D cI cJ cC cZ cS h0 k1 k2 k3 k4 cl mw f4 (nI k_22) v_24) w_4_2 w_4_4 w_0_16 w_1_8 w_4_5 (by decide +kernel) ⟨⟨(Nat.le_of_ble_eq_true rfl), (Nat.le_of_ble_eq_true rfl)⟩, (Nat.le_of_ble_eq_true rfl), (Nat.le_of_ble_eq_true rfl)⟩ hK hP hD hS hA [0, 4] [1, 2, 3] rfl rfl (by decide +kernel) (by decide +kernel) (by decide +kernel) rfl rfl rfl rfl (Nat.le_of_ble_eq_true rfl) dX0_run_109 (fun r_25 u H locs hw hP hD hS => ?_)
                obtain rfl := hw
                have hP : va_P D vwCl [(k1, .inl (cI, 1600, .inl f1)), (k2, .inl (cJ, 64, .inr (.inl fs))), (k3, .inl (cJ, 9, .inr (.inl f3))), (h0, .inr (0, [.ref k1, .ref k2, .ref k3, .ref k4, .int (nI cl), .int (nI mw)])), (k4, .inl (cJ, 10, .inr (.inl f4)))] H := hP
                have hD : va_D A [(k1, .inl (cI, 1600, .inl f1)), (k2, .inl (cJ, 64, .inr (.inl fs))), (k3, .inl (cJ, 9, .inr (.inl f3))), (h0, .inr (0, [.ref k1, .ref k2, .ref k3, .ref k4, .int (nI cl), .int (nI mw)])), (k4, .inl (cJ, 10, .inr (.inl f4)))] := hD
                refine sk_lastO (ws' := fun f_26 => [(k1, .inl (cI, 1600, .inl f1)), (k2, .inl (cJ, 64, .inr (.inl f_26))), (k3, .inl (cJ, 9, .inr (.inl f3))), (h0, .inr (0, [.ref k1, .ref k2, .ref k3, .ref k4, .int (nI cl), .int (nI mw)])), (k4, .inl (cJ, 10, .inr (.inl f4)))]) hx hb hK hP hD hS 1 1 rfl rfl (vin (tp - 1) 64 (by omega) (by omega)) (fun _ => rfl) dX0_run_112 (fun f_26 H locs hP hD hS => ?_)
                refine lv_goto (tgt := 167) hx hb dX0_run_113 (by decide) ?_
                refine lv_iinc (v := nI (i + 1)) (lv' := [(4, .int (nI (i + 1))), (5, .int (nI k_22)), (3, .int (nI tp)), (0, .ref h0), (1, .int a1), (2, .int b1)]) hx hb dX0_run_167 hl (k := 1) rfl (ninc i 1 (by decide)) (by decide) rfl (fun ls hl => ?_)
                refine lv_goto (tgt := 9) hx hb dX0_run_170 (by decide) ?_
                have hP := hP.sub (ws' := [(h0, .inr (0, [.ref k1, .ref k2, .ref k3, .ref k4, .int (nI cl), .int (nI mw)])), (k1, .inl (cI, 1600, .inl f1)), (k2, .inl (cJ, 64, .inr (.inl f_26))), (k3, .inl (cJ, 9, .inr (.inl f3))), (k4, .inl (cJ, 10, .inr (.inl f4)))]) [3, 0, 1, 2, 4] rfl
                have hD := hD.sub (ws' := [(h0, .inr (0, [.ref k1, .ref k2, .ref k3, .ref k4, .int (nI cl), .int (nI mw)])), (k1, .inl (cI, 1600, .inl f1)), (k2, .inl (cJ, 64, .inr (.inl f_26))), (k3, .inl (cJ, 9, .inr (.inl f3))), (k4, .inl (cJ, 10, .inr (.inl f4)))]) [3, 0, 1, 2, 4] (by decide +kernel) rfl
                exact ih_lp_2 (i + 1) tp f_26 _ _ _ (by omega) (by omega) (by omega) hP hD hS (lv_sub hl [0, 2, 3, 4, 5] rfl)
          · obtain ⟨k_27, hk_27, h1k_27, rfl⟩ := nofge v_10 30000 (by omega) c_11
            refine lv_iload_n hx hb dX0_run_41 rfl (lv_at hl 2 rfl) ?_
            refine lv_iconst (v := 1) hx hb dX0_run_42 (by decide) ?_
            refine lv_icmp_le (tgt := 167) hx hb dX0_run_43 (by decide) (fun c_28 => ?_) (fun c_28 => ?_)
            · have c_28 : tp ≤ 1 := (nle tp 1 (by omega) (by omega)).mp c_28
              refine lv_iinc (v := nI (i + 1)) (lv' := [(4, .int (nI (i + 1))), (5, .int (nI k_27)), (3, .int (nI tp)), (0, .ref h0), (1, .int a1), (2, .int b1)]) hx hb dX0_run_167 hl (k := 1) rfl (ninc i 1 (by decide)) (by decide) rfl (fun ls hl => ?_)
              refine lv_goto (tgt := 9) hx hb dX0_run_170 (by decide) ?_
              exact ih_lp_2 (i + 1) tp fs _ _ _ (by omega) (by omega) (by omega) hP hD hS (lv_sub hl [0, 2, 3, 4, 5] rfl)
            · have c_28 : ¬ (tp ≤ 1) := fun h => c_28 ((nle tp 1 (by omega) (by omega)).mpr h)
              refine lv_iinc (v := nI (tp - 1)) (lv' := [(3, .int (nI (tp - 1))), (5, .int (nI k_27)), (4, .int (nI i)), (0, .ref h0), (1, .int a1), (2, .int b1)]) hx hb dX0_run_46 hl (k := 2) rfl (ndec1 tp (by omega)) (by decide) rfl (fun ls hl => ?_)
              refine lv_aload_n hx hb dX0_run_49 rfl (lv_at hl 3 rfl) ?_
              refine sk_get (v := .ref k2) (C := RX0) (T := TX0) (N := 6) hx hb hts inlX0 hown hK hP 0 rfl rfl 1 (by decide) w_1_130 rfl dX0_run_50 ?_
              refine lv_iload_n hx hb dX0_run_53 rfl (lv_at hl 0 rfl) ?_
              refine lv_iconst (v := 1) hx hb dX0_run_54 (by decide) ?_
              refine lv_isub hx hb dX0_run_55 ?_
              refine sk_top (nI (tp - 1 - 1)) (nsub (tp - 1) 1 (by omega)) ?_
              refine lv_iload hx hb dX0_run_56 (lv_at hl 1 rfl) ?_
              refine lv_aload_n hx hb dX0_run_58 rfl (lv_at hl 3 rfl) ?_
              refine sk_get (v := .ref k2) (C := RX0) (T := TX0) (N := 6) hx hb hts inlX0 hown hK hP 0 rfl rfl 1 (by decide) w_1_130 rfl dX0_run_59 ?_
              refine lv_iload_n hx hb dX0_run_62 rfl (lv_at hl 0 rfl) ?_
              refine lv_iconst (v := 1) hx hb dX0_run_63 (by decide) ?_
              refine lv_isub hx hb dX0_run_64 ?_
              refine sk_top (nI (tp - 1 - 1)) (nsub (tp - 1) 1 (by omega)) ?_
              refine va_lald hx hb hK.1 hP 2 1 rfl rfl (vin (tp - 1 - 1) 64 (by omega) (by omega)) dX0_run_65 ?_
              refine lv_topl (fun v_29 ev_29 => ?_)
              refine lv_aload_n hx hb dX0_run_66 rfl (lv_at hl 3 rfl) ?_
              refine sk_get (v := .ref k2) (C := RX0) (T := TX0) (N := 6) hx hb hts inlX0 hown hK hP 0 rfl rfl 1 (by decide) w_1_130 rfl dX0_run_67 ?_
              refine lv_iload_n hx hb dX0_run_70 rfl (lv_at hl 0 rfl) ?_
              refine va_lald hx hb hK.1 hP 2 1 rfl rfl (vin (tp - 1) 64 (by omega) (by omega)) dX0_run_71 ?_
              refine lv_topl (fun v_30 ev_30 => ?_)
              refine sk_Sl (n := 3) (rest := [.int (nI (tp - 1 - 1)), .ref k2]) (wr := [(h0, .inr (0, [.ref k1, .ref k2, .ref k3, .ref k4, .int (nI cl), .int (nI mw)])), (k1, .inl (cI, 1600, .inl f1)), (k2, .inl (cJ, 64, .inr (.inl fs))), (k3, .inl (cJ, 9, .inr (.inl f3))), (k4, .inl (cJ, 10, .inr (.inl f4)))]) ⟨hx, hb, hml, hown, hts⟩ hl.1 (c_ofTwo l D cI cJ cC cZ cS (nI k_27) v_29 v_30) w_3_225 w_3_226 w_1_8 w_3_227 (by decide +kernel) ⟨⟨(Nat.le_of_ble_eq_true rfl), (Nat.le_of_ble_eq_true rfl)⟩, (Nat.le_of_ble_eq_true rfl), (Nat.le_of_ble_eq_true rfl)⟩ hK hP hD hS hA [] [0, 1, 2, 3, 4] rfl rfl (by decide +kernel) (by decide +kernel) (by decide +kernel) rfl rfl (Nat.le_of_ble_eq_true rfl) dX0_run_72 (fun r_31 u H locs hw hP hD hS => ?_)
              obtain rfl := hw
              have hP : va_P D vwCl [(h0, .inr (0, [.ref k1, .ref k2, .ref k3, .ref k4, .int (nI cl), .int (nI mw)])), (k1, .inl (cI, 1600, .inl f1)), (k2, .inl (cJ, 64, .inr (.inl fs))), (k3, .inl (cJ, 9, .inr (.inl f3))), (k4, .inl (cJ, 10, .inr (.inl f4)))] H := hP
              have hD : va_D A [(h0, .inr (0, [.ref k1, .ref k2, .ref k3, .ref k4, .int (nI cl), .int (nI mw)])), (k1, .inl (cI, 1600, .inl f1)), (k2, .inl (cJ, 64, .inr (.inl fs))), (k3, .inl (cJ, 9, .inr (.inl f3))), (k4, .inl (cJ, 10, .inr (.inl f4)))] := hD
              refine sk_lastO (ws' := fun f_32 => [(h0, .inr (0, [.ref k1, .ref k2, .ref k3, .ref k4, .int (nI cl), .int (nI mw)])), (k1, .inl (cI, 1600, .inl f1)), (k2, .inl (cJ, 64, .inr (.inl f_32))), (k3, .inl (cJ, 9, .inr (.inl f3))), (k4, .inl (cJ, 10, .inr (.inl f4)))]) hx hb hK hP hD hS 2 1 rfl rfl (vin (tp - 1 - 1) 64 (by omega) (by omega)) (fun _ => rfl) dX0_run_75 (fun f_32 H locs hP hD hS => ?_)
              refine lv_goto (tgt := 167) hx hb dX0_run_76 (by decide) ?_
              refine lv_iinc (v := nI (i + 1)) (lv' := [(4, .int (nI (i + 1))), (3, .int (nI (tp - 1))), (5, .int (nI k_27)), (0, .ref h0), (1, .int a1), (2, .int b1)]) hx hb dX0_run_167 hl (k := 2) rfl (ninc i 1 (by decide)) (by decide) rfl (fun ls hl => ?_)
              refine lv_goto (tgt := 9) hx hb dX0_run_170 (by decide) ?_
              exact ih_lp_2 (i + 1) (tp - 1) f_32 _ _ _ (by omega) (by omega) (by omega) hP hD hS (lv_sub hl [0, 1, 3, 4, 5] rfl)
  exact lp_2 (cl - k_1 + 1) k_1 0 f2 _ _ _ (Nat.lt_succ_self _) (by omega) (by omega) hP hD hS (lv_sub hl [0, 1, 2, 3, 4] rfl)
