theorem dX4_keep_0 : decode cX4_keep 0 = .ok (.aload_n 1, 1) := by decide +kernel
theorem dX4_keep_1 : decode cX4_keep 1 = .ok (.getfield 37, 3) := by decide +kernel
theorem dX4_keep_4 : decode cX4_keep 4 = .ok (.istore 5, 2) := by decide +kernel
theorem dX4_keep_6 : decode cX4_keep 6 = .ok (.iload 5, 2) := by decide +kernel
theorem dX4_keep_8 : decode cX4_keep 8 = .ok (.ifCond .lt 51, 3) := by decide +kernel
theorem dX4_keep_59 : decode cX4_keep 59 = .ok (.return_, 1) := by decide +kernel
theorem dX4_keep_11 : decode cX4_keep 11 = .ok (.iload 5, 2) := by decide +kernel
theorem dX4_keep_13 : decode cX4_keep 13 = .ok (.aload_n 0, 1) := by decide +kernel
theorem dX4_keep_14 : decode cX4_keep 14 = .ok (.getfield 21, 3) := by decide +kernel
theorem dX4_keep_17 : decode cX4_keep 17 = .ok (.arraylength, 1) := by decide +kernel
theorem dX4_keep_18 : decode cX4_keep 18 = .ok (.if_icmp .ge 41, 3) := by decide +kernel
theorem dX4_keep_21 : decode cX4_keep 21 = .ok (.aload_n 0, 1) := by decide +kernel
theorem dX4_keep_22 : decode cX4_keep 22 = .ok (.getfield 21, 3) := by decide +kernel
theorem dX4_keep_25 : decode cX4_keep 25 = .ok (.iload 5, 2) := by decide +kernel
theorem dX4_keep_27 : decode cX4_keep 27 = .ok (.aload_n 1, 1) := by decide +kernel
theorem dX4_keep_28 : decode cX4_keep 28 = .ok (.getfield 40, 3) := by decide +kernel
theorem dX4_keep_31 : decode cX4_keep 31 = .ok (.iastore, 1) := by decide +kernel
theorem dX4_keep_32 : decode cX4_keep 32 = .ok (.aload_n 0, 1) := by decide +kernel
theorem dX4_keep_33 : decode cX4_keep 33 = .ok (.getfield 25, 3) := by decide +kernel
theorem dX4_keep_36 : decode cX4_keep 36 = .ok (.iload 5, 2) := by decide +kernel
theorem dX4_keep_38 : decode cX4_keep 38 = .ok (.lload_n 2, 1) := by decide +kernel
theorem dX4_keep_39 : decode cX4_keep 39 = .ok (.lastore, 1) := by decide +kernel
theorem dX4_keep_40 : decode cX4_keep 40 = .ok (.aload_n 0, 1) := by decide +kernel
theorem dX4_keep_41 : decode cX4_keep 41 = .ok (.getfield 29, 3) := by decide +kernel
theorem dX4_keep_44 : decode cX4_keep 44 = .ok (.iload 5, 2) := by decide +kernel
theorem dX4_keep_46 : decode cX4_keep 46 = .ok (.iload 4, 2) := by decide +kernel
theorem dX4_keep_48 : decode cX4_keep 48 = .ok (.iastore, 1) := by decide +kernel
theorem dX4_keep_49 : decode cX4_keep 49 = .ok (.aload_n 1, 1) := by decide +kernel
theorem dX4_keep_50 : decode cX4_keep 50 = .ok (.dup, 1) := by decide +kernel
theorem dX4_keep_51 : decode cX4_keep 51 = .ok (.getfield 37, 3) := by decide +kernel
theorem dX4_keep_54 : decode cX4_keep 54 = .ok (.iconst 1, 1) := by decide +kernel
theorem dX4_keep_55 : decode cX4_keep 55 = .ok (.iadd, 1) := by decide +kernel
theorem dX4_keep_56 : decode cX4_keep 56 = .ok (.putfield 37, 3) := by decide +kernel
theorem w_2_14 : (Cond.fieldLink RX4 37 "SameKeeper$State" "kept" "I") ∈ wsL_law := sk_mem (ck_2 _ (List.mem_of_getElem? (i := 14) rfl)) rfl
theorem w_2_5 : (Cond.fieldLink RX4 40 "SameKeeper$State" "week" "I") ∈ wsL_law := sk_mem (ck_2 _ (List.mem_of_getElem? (i := 5) rfl)) rfl
theorem w_5_27 : (Cond.code yX4_keep cX4_keep 6 none) ∈ wsL_law := sk_mem (ck_5 _ (List.mem_of_getElem? (i := 27) rfl)) rfl
set_option maxHeartbeats 4000000 in
set_option maxRecDepth 100000 in
theorem c_past_keep (l : Launch) (D : va_G) (cI cJ cC cZ cS : ClassId) (q : Nat → Nat) (ac : Nat) (p1 : Nat → Int32) (p2 : Nat → Int64) (p3 : Nat → Int32) (dy : Nat) (mo : Nat) (wk : Int32) (mu : Int32) (ke : Int32) (fb : Nat → Int32) (fw : Nat → Int32) (x : Int64) (o : Int32)  : skM l yX4_keep cX4_keep 6 none 0 0 0 0 D (skT cI cJ cC cZ cS) [.ref (q 9), .ref (q 7), .long x, .int o] [(q 9, .inr (4, [.ref (q 35), .int (nI ac), .ref (q 36), .ref (q 37), .ref (q 38)])), (q 36, .inl (cI, 1000, .inl p1)), (q 37, .inl (cJ, 1000, .inr (.inl p2))), (q 38, .inl (cI, 1000, .inl p3)), (q 7, .inr (7, [.ref (q 33), .ref (q 34), .int (nI dy), .int wk, .int (nI mo), .int mu, .int ke]))] (skV D (skT cI cJ cC cZ cS) (fun (u : va_W) => ∃ (p1_ : Nat → Int32), ∃ (p2_ : Nat → Int64), ∃ (p3_ : Nat → Int32), ∃ (ke2 : Int32), u = [(q 9, .inr (4, [.ref (q 35), .int (nI ac), .ref (q 36), .ref (q 37), .ref (q 38)])), (q 36, .inl (cI, 1000, .inl p1_)), (q 37, .inl (cJ, 1000, .inr (.inl p2_))), (q 38, .inl (cI, 1000, .inl p3_)), (q 7, .inr (7, [.ref (q 33), .ref (q 34), .int (nI dy), .int wk, .int (nI mo), .int mu, .int ke2]))])) := by
  refine skM_of (by decide +kernel) (Nat.le_of_ble_eq_true rfl) ?_
  intro p e s m below meth c A ls E hP hD hl
  obtain ⟨hx, hb, hr, hml, hlocks, hin, hown, hts, hK, hA⟩ := E
  have hown : s.vm.findClass RX4 = some m.cls := hown
  have hS : va_S A s.heap s.heap [] := va_S.rf
  have hl : lv_has ls 6 [(0, .ref (q 9)), (1, .ref (q 7)), (2, .long x), (4, .int o)] := hl
  refine lv_aload_n hx hb dX4_keep_0 rfl (lv_at hl 1 rfl) ?_
  refine sk_get (v := .int ke) (C := RX7) (T := TX7) (N := 7) hx hb hts inlX7 hown hK hP 4 rfl rfl 6 (by decide) w_2_14 rfl dX4_keep_1 ?_
  refine lv_istore (lv' := [(5, .int ke), (0, .ref (q 9)), (1, .ref (q 7)), (2, .long x), (4, .int o)]) hx hb dX4_keep_4 hl (by decide) rfl (fun ls hl => ?_)
  refine lv_iload hx hb dX4_keep_6 (lv_at hl 0 rfl) ?_
  refine lv_if_lt (tgt := 59) hx hb dX4_keep_8 (by decide) (fun c_1 => ?_) (fun c_1 => ?_)
  · skip
    exact sk_vret hx hb hr hlocks hK hP hD hS (⟨p1, p2, p3, ke, rfl⟩) (Nat.le_of_ble_eq_true rfl) (Nat.le_of_ble_eq_true rfl) dX4_keep_59
  · obtain ⟨k_2, hk_2, rfl⟩ := nof ke c_1
    refine lv_iload hx hb dX4_keep_11 (lv_at hl 0 rfl) ?_
    refine lv_aload_n hx hb dX4_keep_13 rfl (lv_at hl 1 rfl) ?_
    refine sk_get (v := .ref (q 36)) (C := RX4) (T := TX4) (N := 5) hx hb hts inlX4 hown hK hP 0 rfl rfl 2 (by decide) w_2_43 rfl dX4_keep_14 ?_
    refine va_alen (v := 1000) hx hb hK.1 hP 1 0 rfl rfl rfl dX4_keep_17 ?_
    refine lv_icmp_ge (tgt := 59) hx hb dX4_keep_18 (by decide) (fun c_3 => ?_) (fun c_3 => ?_)
    · have c_3 : 1000 ≤ k_2 := (nle 1000 k_2 (by omega) (by omega)).mp c_3
      exact sk_vret hx hb hr hlocks hK hP hD hS (⟨p1, p2, p3, nI k_2, rfl⟩) (Nat.le_of_ble_eq_true rfl) (Nat.le_of_ble_eq_true rfl) dX4_keep_59
    · have c_3 : ¬ (1000 ≤ k_2) := fun h => c_3 ((nle 1000 k_2 (by omega) (by omega)).mpr h)
      refine lv_aload_n hx hb dX4_keep_21 rfl (lv_at hl 1 rfl) ?_
      refine sk_get (v := .ref (q 36)) (C := RX4) (T := TX4) (N := 5) hx hb hts inlX4 hown hK hP 0 rfl rfl 2 (by decide) w_2_43 rfl dX4_keep_22 ?_
      refine lv_iload hx hb dX4_keep_25 (lv_at hl 0 rfl) ?_
      refine lv_aload_n hx hb dX4_keep_27 rfl (lv_at hl 2 rfl) ?_
      refine sk_get (v := .int wk) (C := RX7) (T := TX7) (N := 7) hx hb hts inlX7 hown hK hP 4 rfl rfl 3 (by decide) w_2_5 rfl dX4_keep_28 ?_
      refine sk_iastO (ws' := fun f_4 => [(q 9, .inr (4, [.ref (q 35), .int (nI ac), .ref (q 36), .ref (q 37), .ref (q 38)])), (q 36, .inl (cI, 1000, .inl f_4)), (q 37, .inl (cJ, 1000, .inr (.inl p2))), (q 38, .inl (cI, 1000, .inl p3)), (q 7, .inr (7, [.ref (q 33), .ref (q 34), .int (nI dy), .int wk, .int (nI mo), .int mu, .int (nI k_2)]))]) hx hb hK hP hD hS 1 0 rfl rfl (vin k_2 1000 (by omega) (by omega)) (fun _ => rfl) dX4_keep_31 (fun f_4 H locs hP hD hS => ?_)
      refine lv_aload_n hx hb dX4_keep_32 rfl (lv_at hl 1 rfl) ?_
      refine sk_get (v := .ref (q 37)) (C := RX4) (T := TX4) (N := 5) hx hb hts inlX4 hown hK hP 0 rfl rfl 3 (by decide) w_2_44 rfl dX4_keep_33 ?_
      refine lv_iload hx hb dX4_keep_36 (lv_at hl 0 rfl) ?_
      refine lv_lload_n hx hb dX4_keep_38 rfl (lv_at hl 3 rfl) ?_
      refine sk_lastO (ws' := fun f_5 => [(q 9, .inr (4, [.ref (q 35), .int (nI ac), .ref (q 36), .ref (q 37), .ref (q 38)])), (q 36, .inl (cI, 1000, .inl f_4)), (q 37, .inl (cJ, 1000, .inr (.inl f_5))), (q 38, .inl (cI, 1000, .inl p3)), (q 7, .inr (7, [.ref (q 33), .ref (q 34), .int (nI dy), .int wk, .int (nI mo), .int mu, .int (nI k_2)]))]) hx hb hK hP hD hS 2 1 rfl rfl (vin k_2 1000 (by omega) (by omega)) (fun _ => rfl) dX4_keep_39 (fun f_5 H locs hP hD hS => ?_)
      refine lv_aload_n hx hb dX4_keep_40 rfl (lv_at hl 1 rfl) ?_
      refine sk_get (v := .ref (q 38)) (C := RX4) (T := TX4) (N := 5) hx hb hts inlX4 hown hK hP 0 rfl rfl 4 (by decide) w_2_45 rfl dX4_keep_41 ?_
      refine lv_iload hx hb dX4_keep_44 (lv_at hl 0 rfl) ?_
      refine lv_iload hx hb dX4_keep_46 (lv_at hl 4 rfl) ?_
      refine sk_iastO (ws' := fun f_6 => [(q 9, .inr (4, [.ref (q 35), .int (nI ac), .ref (q 36), .ref (q 37), .ref (q 38)])), (q 36, .inl (cI, 1000, .inl f_4)), (q 37, .inl (cJ, 1000, .inr (.inl f_5))), (q 38, .inl (cI, 1000, .inl f_6)), (q 7, .inr (7, [.ref (q 33), .ref (q 34), .int (nI dy), .int wk, .int (nI mo), .int mu, .int (nI k_2)]))]) hx hb hK hP hD hS 3 0 rfl rfl (vin k_2 1000 (by omega) (by omega)) (fun _ => rfl) dX4_keep_48 (fun f_6 H locs hP hD hS => ?_)
      refine lv_aload_n hx hb dX4_keep_49 rfl (lv_at hl 2 rfl) ?_
      refine lv_dup hx hb dX4_keep_50 rfl ?_
      refine sk_get (v := .int (nI k_2)) (C := RX7) (T := TX7) (N := 7) hx hb hts inlX7 hown hK hP 4 rfl rfl 6 (by decide) w_2_14 rfl dX4_keep_51 ?_
      refine lv_iconst (v := 1) hx hb dX4_keep_54 (by decide) ?_
      refine lv_iadd hx hb dX4_keep_55 ?_
      refine sk_top (nI (k_2 + 1)) (nI_add k_2 1) ?_
      refine sk_put (ws' := [(q 9, .inr (4, [.ref (q 35), .int (nI ac), .ref (q 36), .ref (q 37), .ref (q 38)])), (q 36, .inl (cI, 1000, .inl f_4)), (q 37, .inl (cJ, 1000, .inr (.inl f_5))), (q 38, .inl (cI, 1000, .inl f_6)), (q 7, .inr (7, [.ref (q 33), .ref (q 34), .int (nI dy), .int wk, .int (nI mo), .int mu, .int (nI (k_2 + 1))]))]) (C := RX7) (T := TX7) (N := 7) (v := .int (nI (k_2 + 1))) hx hb hts inlX7 tyX7 tyX7_ok nmX7 hown hK hP hD hS 4 rfl rfl 6 (by decide) w_2_14 rfl rfl rfl (Nat.le_of_ble_eq_true rfl) rfl dX4_keep_56 (fun H locs hP hD hS => ?_)
      exact sk_vret hx hb hr hlocks hK hP hD hS (⟨f_4, f_5, f_6, nI (k_2 + 1), rfl⟩) (Nat.le_of_ble_eq_true rfl) (Nat.le_of_ble_eq_true rfl) dX4_keep_59
theorem dX11_pass_0 : decode cX11_pass 0 = .ok (.aload_n 0, 1) := by decide +kernel
theorem dX11_pass_1 : decode cX11_pass 1 = .ok (.getfield 89, 3) := by decide +kernel
theorem dX11_pass_4 : decode cX11_pass 4 = .ok (.aload_n 0, 1) := by decide +kernel
theorem dX11_pass_5 : decode cX11_pass 5 = .ok (.getfield 59, 3) := by decide +kernel
theorem dX11_pass_8 : decode cX11_pass 8 = .ok (.getfield 144, 3) := by decide +kernel
theorem dX11_pass_11 : decode cX11_pass 11 = .ok (.iconst 1, 1) := by decide +kernel
theorem dX11_pass_12 : decode cX11_pass 12 = .ok (.isub, 1) := by decide +kernel
theorem dX11_pass_13 : decode cX11_pass 13 = .ok (.iaload, 1) := by decide +kernel
theorem dX11_pass_14 : decode cX11_pass 14 = .ok (.istore_n 3, 1) := by decide +kernel
theorem dX11_pass_15 : decode cX11_pass 15 = .ok (.aload_n 0, 1) := by decide +kernel
theorem dX11_pass_16 : decode cX11_pass 16 = .ok (.getfield 69, 3) := by decide +kernel
theorem dX11_pass_19 : decode cX11_pass 19 = .ok (.aload_n 0, 1) := by decide +kernel
theorem dX11_pass_20 : decode cX11_pass 20 = .ok (.getfield 59, 3) := by decide +kernel
theorem dX11_pass_23 : decode cX11_pass 23 = .ok (.lload_n 1, 1) := by decide +kernel
theorem dX11_pass_24 : decode cX11_pass 24 = .ok (.iload_n 3, 1) := by decide +kernel
theorem dX11_pass_25 : decode cX11_pass 25 = .ok (.invokevirtual 341, 3) := by decide +kernel
theorem dX11_pass_28 : decode cX11_pass 28 = .ok (.aload_n 0, 1) := by decide +kernel
theorem dX11_pass_29 : decode cX11_pass 29 = .ok (.getfield 59, 3) := by decide +kernel
theorem dX11_pass_32 : decode cX11_pass 32 = .ok (.iload_n 3, 1) := by decide +kernel
theorem dX11_pass_33 : decode cX11_pass 33 = .ok (.putfield 150, 3) := by decide +kernel
theorem dX11_pass_36 : decode cX11_pass 36 = .ok (.aload_n 0, 1) := by decide +kernel
theorem dX11_pass_37 : decode cX11_pass 37 = .ok (.getfield 59, 3) := by decide +kernel
theorem dX11_pass_40 : decode cX11_pass 40 = .ok (.dup, 1) := by decide +kernel
theorem dX11_pass_41 : decode cX11_pass 41 = .ok (.getfield 147, 3) := by decide +kernel
theorem dX11_pass_44 : decode cX11_pass 44 = .ok (.iconst 1, 1) := by decide +kernel
theorem dX11_pass_45 : decode cX11_pass 45 = .ok (.iadd, 1) := by decide +kernel
theorem dX11_pass_46 : decode cX11_pass 46 = .ok (.putfield 147, 3) := by decide +kernel
theorem dX11_pass_49 : decode cX11_pass 49 = .ok (.return_, 1) := by decide +kernel
theorem w_5_24 : (Cond.methodLink RX11 341 yX4_keep) ∈ wsL_law := sk_mem (ck_5 _ (List.mem_of_getElem? (i := 24) rfl)) rfl
theorem w_5_25 : (Cond.instanceMethod yX4_keep) ∈ wsL_law := sk_mem (ck_5 _ (List.mem_of_getElem? (i := 25) rfl)) rfl
theorem w_5_26 : (Cond.selects RX4 yX4_keep yX4_keep) ∈ wsL_law := sk_mem (ck_5 _ (List.mem_of_getElem? (i := 26) rfl)) rfl
theorem w_5_23 : (Cond.code yX11_pass cX11_pass 4 none) ∈ wsL_law := sk_mem (ck_5 _ (List.mem_of_getElem? (i := 23) rfl)) rfl
set_option maxHeartbeats 4000000 in
set_option maxRecDepth 100000 in
theorem c_x_pass (l : Launch) (D : va_G) (cI cJ cC cZ cS : ClassId) (x0 : Nat) (q : Nat → Nat) (hc : Int32) (dr : Int64) (dy : Nat) (mo : Nat) (wk : Int32) (mu : Int32) (ke : Int32) (fb : Nat → Int32) (fw : Nat → Int32) (ac : Nat) (p1 : Nat → Int32) (p2 : Nat → Int64) (p3 : Nat → Int32) (ra : Nat → Int32) (x : Int64) (hdy : dy ≤ 9) (hmo : mo ≤ 9) (hdy1 : 1 ≤ dy) (hro : rowOk ra dy) : skM l yX11_pass cX11_pass 4 none 1 25 0 0 D (skT cI cJ cC cZ cS) [.ref x0, .long x] [(x0, .inr (11, [.ref (q 0), .ref (q 1), .ref (q 2), .ref (q 3), .ref (q 4), .ref (q 5), .ref (q 6), .ref (q 7), .ref (q 8), .ref (q 9), .ref (q 10), .ref (q 11), .ref (q 12), .ref (q 13), .ref (q 14), .int hc, .ref (q 16), .long dr])), (q 7, .inr (7, [.ref (q 33), .ref (q 34), .int (nI dy), .int wk, .int (nI mo), .int mu, .int ke])), (q 9, .inr (4, [.ref (q 35), .int (nI ac), .ref (q 36), .ref (q 37), .ref (q 38)])), (q 36, .inl (cI, 1000, .inl p1)), (q 37, .inl (cJ, 1000, .inr (.inl p2))), (q 38, .inl (cI, 1000, .inl p3)), (q 12, .inl (cI, 9, .inl ra))] (skV D (skT cI cJ cC cZ cS) (fun (u : va_W) => ∃ (p1_ : Nat → Int32), ∃ (p2_ : Nat → Int64), ∃ (p3_ : Nat → Int32), ∃ (mo2 : Nat), ∃ (wk2 : Int32), ∃ (ke2 : Int32), mo2 ≤ 9 ∧ u = [(x0, .inr (11, [.ref (q 0), .ref (q 1), .ref (q 2), .ref (q 3), .ref (q 4), .ref (q 5), .ref (q 6), .ref (q 7), .ref (q 8), .ref (q 9), .ref (q 10), .ref (q 11), .ref (q 12), .ref (q 13), .ref (q 14), .int hc, .ref (q 16), .long dr])), (q 7, .inr (7, [.ref (q 33), .ref (q 34), .int (nI dy), .int wk2, .int (nI mo2), .int mu, .int ke2])), (q 9, .inr (4, [.ref (q 35), .int (nI ac), .ref (q 36), .ref (q 37), .ref (q 38)])), (q 36, .inl (cI, 1000, .inl p1_)), (q 37, .inl (cJ, 1000, .inr (.inl p2_))), (q 38, .inl (cI, 1000, .inl p3_)), (q 12, .inl (cI, 9, .inl ra))])) := by
  refine skM_of (by decide +kernel) (Nat.le_of_ble_eq_true rfl) ?_
  intro p e s m below meth c A ls E hP hD hl
  obtain ⟨hx, hb, hr, hml, hlocks, hin, hown, hts, hK, hA⟩ := E
  have hown : s.vm.findClass RX11 = some m.cls := hown
  have hS : va_S A s.heap s.heap [] := va_S.rf
  have hl : lv_has ls 4 [(0, .ref x0), (1, .long x)] := hl
  refine lv_aload_n hx hb dX11_pass_0 rfl (lv_at hl 0 rfl) ?_
  refine sk_get (v := .ref (q 12)) (C := RX11) (T := TX11) (N := 18) hx hb hts inlX11 hown hK hP 0 rfl rfl 12 (by decide) w_2_135 rfl dX11_pass_1 ?_
  refine lv_aload_n hx hb dX11_pass_4 rfl (lv_at hl 0 rfl) ?_
  refine sk_get (v := .ref (q 7)) (C := RX11) (T := TX11) (N := 18) hx hb hts inlX11 hown hK hP 0 rfl rfl 7 (by decide) w_2_130 rfl dX11_pass_5 ?_
  refine sk_get (v := .int (nI dy)) (C := RX7) (T := TX7) (N := 7) hx hb hts inlX7 hown hK hP 1 rfl rfl 2 (by decide) w_2_1 rfl dX11_pass_8 ?_
  refine lv_iconst (v := 1) hx hb dX11_pass_11 (by decide) ?_
  refine lv_isub hx hb dX11_pass_12 ?_
  refine sk_top (nI (dy - 1)) (nsub dy 1 (by omega)) ?_
  refine va_iald hx hb hK.1 hP 6 0 rfl rfl (vin (dy - 1) 9 (by omega) (by omega)) dX11_pass_13 ?_
  obtain ⟨k_1, hk_1, ek_1⟩ := rowOk_at (i := (dy - 1)) hro (by omega) (by omega)
  refine sk_top (nI k_1) ek_1 ?_
  refine lv_istore_n (lv' := [(3, .int (nI k_1)), (0, .ref x0), (1, .long x)]) hx hb dX11_pass_14 rfl hl (by decide) rfl (fun ls hl => ?_)
  refine lv_aload_n hx hb dX11_pass_15 rfl (lv_at hl 1 rfl) ?_
  refine sk_get (v := .ref (q 9)) (C := RX11) (T := TX11) (N := 18) hx hb hts inlX11 hown hK hP 0 rfl rfl 9 (by decide) w_2_132 rfl dX11_pass_16 ?_
  refine lv_aload_n hx hb dX11_pass_19 rfl (lv_at hl 1 rfl) ?_
  refine sk_get (v := .ref (q 7)) (C := RX11) (T := TX11) (N := 18) hx hb hts inlX11 hown hK hP 0 rfl rfl 7 (by decide) w_2_130 rfl dX11_pass_20 ?_
  refine lv_lload_n hx hb dX11_pass_23 rfl (lv_at hl 2 rfl) ?_
  refine lv_iload_n hx hb dX11_pass_24 rfl (lv_at hl 0 rfl) ?_
  refine sk_Vv (q0 := 0) (n := 3) (rest := []) (wr := [(x0, .inr (11, [.ref (q 0), .ref (q 1), .ref (q 2), .ref (q 3), .ref (q 4), .ref (q 5), .ref (q 6), .ref (q 7), .ref (q 8), .ref (q 9), .ref (q 10), .ref (q 11), .ref (q 12), .ref (q 13), .ref (q 14), .int hc, .ref (q 16), .long dr])), (q 12, .inl (cI, 9, .inl ra))]) ⟨hx, hb, hml, hown, hts⟩ hl.1 (c_past_keep l D cI cJ cC cZ cS q ac p1 p2 p3 dy mo wk mu ke fb fw x (nI k_1)) w_5_24 w_5_25 w_5_26 w_1_11 w_5_27 (by decide +kernel) ⟨⟨(Nat.le_of_ble_eq_true rfl), (Nat.le_of_ble_eq_true rfl)⟩, (Nat.le_of_ble_eq_true rfl), (Nat.le_of_ble_eq_true rfl)⟩ hK hP hD hS hA [2, 3, 4, 5, 1] [0, 6] rfl rfl (by decide +kernel) (by decide +kernel) (by decide +kernel) rfl rfl rfl rfl (Nat.le_of_ble_eq_true rfl) dX11_pass_25 (fun u H locs hw hP hD hS => ?_)
  obtain ⟨p1__2, p2__3, p3__4, ke2_5, rfl⟩ := hw
  have hP : va_P D vwCl [(x0, .inr (11, [.ref (q 0), .ref (q 1), .ref (q 2), .ref (q 3), .ref (q 4), .ref (q 5), .ref (q 6), .ref (q 7), .ref (q 8), .ref (q 9), .ref (q 10), .ref (q 11), .ref (q 12), .ref (q 13), .ref (q 14), .int hc, .ref (q 16), .long dr])), (q 12, .inl (cI, 9, .inl ra)), (q 9, .inr (4, [.ref (q 35), .int (nI ac), .ref (q 36), .ref (q 37), .ref (q 38)])), (q 36, .inl (cI, 1000, .inl p1__2)), (q 37, .inl (cJ, 1000, .inr (.inl p2__3))), (q 38, .inl (cI, 1000, .inl p3__4)), (q 7, .inr (7, [.ref (q 33), .ref (q 34), .int (nI dy), .int wk, .int (nI mo), .int mu, .int ke2_5]))] H := hP
  have hD : va_D A [(x0, .inr (11, [.ref (q 0), .ref (q 1), .ref (q 2), .ref (q 3), .ref (q 4), .ref (q 5), .ref (q 6), .ref (q 7), .ref (q 8), .ref (q 9), .ref (q 10), .ref (q 11), .ref (q 12), .ref (q 13), .ref (q 14), .int hc, .ref (q 16), .long dr])), (q 12, .inl (cI, 9, .inl ra)), (q 9, .inr (4, [.ref (q 35), .int (nI ac), .ref (q 36), .ref (q 37), .ref (q 38)])), (q 36, .inl (cI, 1000, .inl p1__2)), (q 37, .inl (cJ, 1000, .inr (.inl p2__3))), (q 38, .inl (cI, 1000, .inl p3__4)), (q 7, .inr (7, [.ref (q 33), .ref (q 34), .int (nI dy), .int wk, .int (nI mo), .int mu, .int ke2_5]))] := hD
  refine lv_aload_n hx hb dX11_pass_28 rfl (lv_at hl 1 rfl) ?_
  refine sk_get (v := .ref (q 7)) (C := RX11) (T := TX11) (N := 18) hx hb hts inlX11 hown hK hP 0 rfl rfl 7 (by decide) w_2_130 rfl dX11_pass_29 ?_
  refine lv_iload_n hx hb dX11_pass_32 rfl (lv_at hl 0 rfl) ?_
  refine sk_put (ws' := [(x0, .inr (11, [.ref (q 0), .ref (q 1), .ref (q 2), .ref (q 3), .ref (q 4), .ref (q 5), .ref (q 6), .ref (q 7), .ref (q 8), .ref (q 9), .ref (q 10), .ref (q 11), .ref (q 12), .ref (q 13), .ref (q 14), .int hc, .ref (q 16), .long dr])), (q 12, .inl (cI, 9, .inl ra)), (q 9, .inr (4, [.ref (q 35), .int (nI ac), .ref (q 36), .ref (q 37), .ref (q 38)])), (q 36, .inl (cI, 1000, .inl p1__2)), (q 37, .inl (cJ, 1000, .inr (.inl p2__3))), (q 38, .inl (cI, 1000, .inl p3__4)), (q 7, .inr (7, [.ref (q 33), .ref (q 34), .int (nI dy), .int wk, .int (nI k_1), .int mu, .int ke2_5]))]) (C := RX7) (T := TX7) (N := 7) (v := .int (nI k_1)) hx hb hts inlX7 tyX7 tyX7_ok nmX7 hown hK hP hD hS 6 rfl rfl 4 (by decide) w_2_10 rfl rfl rfl (Nat.le_of_ble_eq_true rfl) rfl dX11_pass_33 (fun H locs hP hD hS => ?_)
  refine lv_aload_n hx hb dX11_pass_36 rfl (lv_at hl 1 rfl) ?_
  refine sk_get (v := .ref (q 7)) (C := RX11) (T := TX11) (N := 18) hx hb hts inlX11 hown hK hP 0 rfl rfl 7 (by decide) w_2_130 rfl dX11_pass_37 ?_
  refine lv_dup hx hb dX11_pass_40 rfl ?_
  refine sk_get (v := .int wk) (C := RX7) (T := TX7) (N := 7) hx hb hts inlX7 hown hK hP 6 rfl rfl 3 (by decide) w_2_6 rfl dX11_pass_41 ?_
  refine lv_iconst (v := 1) hx hb dX11_pass_44 (by decide) ?_
  refine lv_iadd hx hb dX11_pass_45 ?_
  refine lv_topi (fun v_6 ev_6 => ?_)
  refine sk_put (ws' := [(x0, .inr (11, [.ref (q 0), .ref (q 1), .ref (q 2), .ref (q 3), .ref (q 4), .ref (q 5), .ref (q 6), .ref (q 7), .ref (q 8), .ref (q 9), .ref (q 10), .ref (q 11), .ref (q 12), .ref (q 13), .ref (q 14), .int hc, .ref (q 16), .long dr])), (q 12, .inl (cI, 9, .inl ra)), (q 9, .inr (4, [.ref (q 35), .int (nI ac), .ref (q 36), .ref (q 37), .ref (q 38)])), (q 36, .inl (cI, 1000, .inl p1__2)), (q 37, .inl (cJ, 1000, .inr (.inl p2__3))), (q 38, .inl (cI, 1000, .inl p3__4)), (q 7, .inr (7, [.ref (q 33), .ref (q 34), .int (nI dy), .int v_6, .int (nI k_1), .int mu, .int ke2_5]))]) (C := RX7) (T := TX7) (N := 7) (v := .int v_6) hx hb hts inlX7 tyX7 tyX7_ok nmX7 hown hK hP hD hS 6 rfl rfl 3 (by decide) w_2_6 rfl rfl rfl (Nat.le_of_ble_eq_true rfl) rfl dX11_pass_46 (fun H locs hP hD hS => ?_)
  have hP := hP.sub (ws' := [(x0, .inr (11, [.ref (q 0), .ref (q 1), .ref (q 2), .ref (q 3), .ref (q 4), .ref (q 5), .ref (q 6), .ref (q 7), .ref (q 8), .ref (q 9), .ref (q 10), .ref (q 11), .ref (q 12), .ref (q 13), .ref (q 14), .int hc, .ref (q 16), .long dr])), (q 7, .inr (7, [.ref (q 33), .ref (q 34), .int (nI dy), .int v_6, .int (nI k_1), .int mu, .int ke2_5])), (q 9, .inr (4, [.ref (q 35), .int (nI ac), .ref (q 36), .ref (q 37), .ref (q 38)])), (q 36, .inl (cI, 1000, .inl p1__2)), (q 37, .inl (cJ, 1000, .inr (.inl p2__3))), (q 38, .inl (cI, 1000, .inl p3__4)), (q 12, .inl (cI, 9, .inl ra))]) [0, 6, 2, 3, 4, 5, 1] rfl
  have hD := hD.sub (ws' := [(x0, .inr (11, [.ref (q 0), .ref (q 1), .ref (q 2), .ref (q 3), .ref (q 4), .ref (q 5), .ref (q 6), .ref (q 7), .ref (q 8), .ref (q 9), .ref (q 10), .ref (q 11), .ref (q 12), .ref (q 13), .ref (q 14), .int hc, .ref (q 16), .long dr])), (q 7, .inr (7, [.ref (q 33), .ref (q 34), .int (nI dy), .int v_6, .int (nI k_1), .int mu, .int ke2_5])), (q 9, .inr (4, [.ref (q 35), .int (nI ac), .ref (q 36), .ref (q 37), .ref (q 38)])), (q 36, .inl (cI, 1000, .inl p1__2)), (q 37, .inl (cJ, 1000, .inr (.inl p2__3))), (q 38, .inl (cI, 1000, .inl p3__4)), (q 12, .inl (cI, 9, .inl ra))]) [0, 6, 2, 3, 4, 5, 1] (by decide +kernel) rfl
  exact sk_vret hx hb hr hlocks hK hP hD hS (⟨p1__2, p2__3, p3__4, k_1, v_6, ke2_5, by omega, rfl⟩) (Nat.le_of_ble_eq_true rfl) (Nat.le_of_ble_eq_true rfl) dX11_pass_49
theorem lg_pos {a : Int64} (h : ¬ lg_cmp a 0 ≤ 0) : ¬ a = 0 := fun q => h (by rw [lg_cmp_le, q]; exact Int64.le_refl _)
theorem dX11_draw_0 : decode cX11_draw 0 = .ok (.aload_n 0, 1) := by decide +kernel
theorem dX11_draw_1 : decode cX11_draw 1 = .ok (.ldc2_w 361, 3) := by decide +kernel
theorem dX11_draw_4 : decode cX11_draw 4 = .ok (.aload_n 0, 1) := by decide +kernel
theorem dX11_draw_5 : decode cX11_draw 5 = .ok (.getfield 106, 3) := by decide +kernel
theorem dX11_draw_8 : decode cX11_draw 8 = .ok (.lmul, 1) := by decide +kernel
theorem dX11_draw_9 : decode cX11_draw 9 = .ok (.ldc2_w 363, 3) := by decide +kernel
theorem dX11_draw_12 : decode cX11_draw 12 = .ok (.ladd, 1) := by decide +kernel
theorem dX11_draw_13 : decode cX11_draw 13 = .ok (.ldc2_w 365, 3) := by decide +kernel
theorem dX11_draw_16 : decode cX11_draw 16 = .ok (.land, 1) := by decide +kernel
theorem dX11_draw_17 : decode cX11_draw 17 = .ok (.putfield 106, 3) := by decide +kernel
theorem dX11_draw_20 : decode cX11_draw 20 = .ok (.lload_n 1, 1) := by decide +kernel
theorem dX11_draw_21 : decode cX11_draw 21 = .ok (.lconst 0, 1) := by decide +kernel
theorem dX11_draw_22 : decode cX11_draw 22 = .ok (.lcmp, 1) := by decide +kernel
theorem dX11_draw_23 : decode cX11_draw 23 = .ok (.ifCond .le 16, 3) := by decide +kernel
theorem dX11_draw_39 : decode cX11_draw 39 = .ok (.lconst 0, 1) := by decide +kernel
theorem dX11_draw_40 : decode cX11_draw 40 = .ok (.lreturn, 1) := by decide +kernel
theorem dX11_draw_26 : decode cX11_draw 26 = .ok (.aload_n 0, 1) := by decide +kernel
theorem dX11_draw_27 : decode cX11_draw 27 = .ok (.getfield 106, 3) := by decide +kernel
theorem dX11_draw_30 : decode cX11_draw 30 = .ok (.ldc2_w 367, 3) := by decide +kernel
theorem dX11_draw_33 : decode cX11_draw 33 = .ok (.ldiv, 1) := by decide +kernel
theorem dX11_draw_34 : decode cX11_draw 34 = .ok (.lload_n 1, 1) := by decide +kernel
theorem dX11_draw_35 : decode cX11_draw 35 = .ok (.lrem, 1) := by decide +kernel
theorem dX11_draw_36 : decode cX11_draw 36 = .ok (.goto 4, 3) := by decide +kernel
theorem w_5_41 : (Cond.constantLong RX11 361 (1103515245)) ∈ wsL_law := sk_mem (ck_5 _ (List.mem_of_getElem? (i := 41) rfl)) rfl
theorem w_5_42 : (Cond.constantLong RX11 363 (12345)) ∈ wsL_law := sk_mem (ck_5 _ (List.mem_of_getElem? (i := 42) rfl)) rfl
theorem w_5_43 : (Cond.constantLong RX11 365 (2147483647)) ∈ wsL_law := sk_mem (ck_5 _ (List.mem_of_getElem? (i := 43) rfl)) rfl
theorem w_5_44 : (Cond.constantLong RX11 367 (64)) ∈ wsL_law := sk_mem (ck_5 _ (List.mem_of_getElem? (i := 44) rfl)) rfl
theorem w_5_40 : (Cond.code yX11_draw cX11_draw 3 (some .long)) ∈ wsL_law := sk_mem (ck_5 _ (List.mem_of_getElem? (i := 40) rfl)) rfl
set_option maxHeartbeats 4000000 in
set_option maxRecDepth 100000 in
theorem c_x_draw (l : Launch) (D : va_G) (cI cJ cC cZ cS : ClassId) (x0 : Nat) (q : Nat → Nat) (hc : Int32) (dr : Int64) (x : Int64)  : skM l yX11_draw cX11_draw 3 (some .long) 0 0 0 0 D (skT cI cJ cC cZ cS) [.ref x0, .long x] [(x0, .inr (11, [.ref (q 0), .ref (q 1), .ref (q 2), .ref (q 3), .ref (q 4), .ref (q 5), .ref (q 6), .ref (q 7), .ref (q 8), .ref (q 9), .ref (q 10), .ref (q 11), .ref (q 12), .ref (q 13), .ref (q 14), .int hc, .ref (q 16), .long dr]))] (skL D (skT cI cJ cC cZ cS) (fun (r : Int64) (u : va_W) => ∃ (dr2 : Int64), u = [(x0, .inr (11, [.ref (q 0), .ref (q 1), .ref (q 2), .ref (q 3), .ref (q 4), .ref (q 5), .ref (q 6), .ref (q 7), .ref (q 8), .ref (q 9), .ref (q 10), .ref (q 11), .ref (q 12), .ref (q 13), .ref (q 14), .int hc, .ref (q 16), .long dr2]))])) := by
  refine skM_of (by decide +kernel) (Nat.le_of_ble_eq_true rfl) ?_
  intro p e s m below meth c A ls E hP hD hl
  obtain ⟨hx, hb, hr, hml, hlocks, hin, hown, hts, hK, hA⟩ := E
  have hown : s.vm.findClass RX11 = some m.cls := hown
  have hS : va_S A s.heap s.heap [] := va_S.rf
  have hl : lv_has ls 3 [(0, .ref x0), (1, .long x)] := hl
  refine lv_aload_n hx hb dX11_draw_0 rfl (lv_at hl 0 rfl) ?_
  refine lv_ldc2 (v := 1103515245) hx hb hown (hts _ w_5_41) dX11_draw_1 ?_
  refine lv_aload_n hx hb dX11_draw_4 rfl (lv_at hl 0 rfl) ?_
  refine sk_get (v := .long dr) (C := RX11) (T := TX11) (N := 18) hx hb hts inlX11 hown hK hP 0 rfl rfl 17 (by decide) w_2_140 rfl dX11_draw_5 ?_
  refine lv_lmul hx hb dX11_draw_8 ?_
  refine lv_topl (fun v_1 ev_1 => ?_)
  refine lv_ldc2 (v := 12345) hx hb hown (hts _ w_5_42) dX11_draw_9 ?_
  refine lv_ladd hx hb dX11_draw_12 ?_
  refine lv_topl (fun v_2 ev_2 => ?_)
  refine lv_ldc2 (v := 2147483647) hx hb hown (hts _ w_5_43) dX11_draw_13 ?_
  refine lv_land hx hb dX11_draw_16 ?_
  refine lv_topl (fun v_3 ev_3 => ?_)
  refine sk_put (ws' := [(x0, .inr (11, [.ref (q 0), .ref (q 1), .ref (q 2), .ref (q 3), .ref (q 4), .ref (q 5), .ref (q 6), .ref (q 7), .ref (q 8), .ref (q 9), .ref (q 10), .ref (q 11), .ref (q 12), .ref (q 13), .ref (q 14), .int hc, .ref (q 16), .long v_3]))]) (C := RX11) (T := TX11) (N := 18) (v := .long v_3) hx hb hts inlX11 tyX11 tyX11_ok nmX11 hown hK hP hD hS 0 rfl rfl 17 (by decide) w_2_140 rfl rfl rfl (Nat.le_of_ble_eq_true rfl) rfl dX11_draw_17 (fun H locs hP hD hS => ?_)
  refine lv_lload_n hx hb dX11_draw_20 rfl (lv_at hl 1 rfl) ?_
  refine lv_lconst (v := 0) hx hb dX11_draw_21 (by decide) ?_
  refine W.lcmp hx hb dX11_draw_22 ?_
  refine lv_if_le (tgt := 39) hx hb dX11_draw_23 (by decide) (fun c_4 => ?_) (fun c_4 => ?_)
  · skip
    refine lv_lconst (v := 0) hx hb dX11_draw_39 (by decide) ?_
    exact sk_lret hx hb hr hlocks hK hP hD hS (⟨v_3, rfl⟩) (Nat.le_of_ble_eq_true rfl) (Nat.le_of_ble_eq_true rfl) dX11_draw_40
  · skip
    refine lv_aload_n hx hb dX11_draw_26 rfl (lv_at hl 0 rfl) ?_
    refine sk_get (v := .long v_3) (C := RX11) (T := TX11) (N := 18) hx hb hts inlX11 hown hK hP 0 rfl rfl 17 (by decide) w_2_140 rfl dX11_draw_27 ?_
    refine lv_ldc2 (v := 64) hx hb hown (hts _ w_5_44) dX11_draw_30 ?_
    refine lv_ldiv hx hb dX11_draw_33 (by decide) ?_
    refine lv_topl (fun v_5 ev_5 => ?_)
    refine lv_lload_n hx hb dX11_draw_34 rfl (lv_at hl 1 rfl) ?_
    refine lv_lrem hx hb dX11_draw_35 (lg_pos c_4) ?_
    refine lv_topl (fun v_6 ev_6 => ?_)
    refine lv_goto (tgt := 40) hx hb dX11_draw_36 (by decide) ?_
    exact sk_lret hx hb hr hlocks hK hP hD hS (⟨v_3, rfl⟩) (Nat.le_of_ble_eq_true rfl) (Nat.le_of_ble_eq_true rfl) dX11_draw_40
