theorem dX7_copy_0 : decode cX7_copy 0 = .ok (.aload_n 0, 1) := by decide +kernel
theorem dX7_copy_1 : decode cX7_copy 1 = .ok (.aload_n 1, 1) := by decide +kernel
theorem dX7_copy_2 : decode cX7_copy 2 = .ok (.getfield 18, 3) := by decide +kernel
theorem dX7_copy_5 : decode cX7_copy 5 = .ok (.putfield 18, 3) := by decide +kernel
theorem dX7_copy_8 : decode cX7_copy 8 = .ok (.aload_n 0, 1) := by decide +kernel
theorem dX7_copy_9 : decode cX7_copy 9 = .ok (.aload_n 1, 1) := by decide +kernel
theorem dX7_copy_10 : decode cX7_copy 10 = .ok (.getfield 22, 3) := by decide +kernel
theorem dX7_copy_13 : decode cX7_copy 13 = .ok (.putfield 22, 3) := by decide +kernel
theorem dX7_copy_16 : decode cX7_copy 16 = .ok (.aload_n 0, 1) := by decide +kernel
theorem dX7_copy_17 : decode cX7_copy 17 = .ok (.aload_n 1, 1) := by decide +kernel
theorem dX7_copy_18 : decode cX7_copy 18 = .ok (.getfield 25, 3) := by decide +kernel
theorem dX7_copy_21 : decode cX7_copy 21 = .ok (.putfield 25, 3) := by decide +kernel
theorem dX7_copy_24 : decode cX7_copy 24 = .ok (.aload_n 0, 1) := by decide +kernel
theorem dX7_copy_25 : decode cX7_copy 25 = .ok (.aload_n 1, 1) := by decide +kernel
theorem dX7_copy_26 : decode cX7_copy 26 = .ok (.getfield 28, 3) := by decide +kernel
theorem dX7_copy_29 : decode cX7_copy 29 = .ok (.putfield 28, 3) := by decide +kernel
theorem dX7_copy_32 : decode cX7_copy 32 = .ok (.aload_n 0, 1) := by decide +kernel
theorem dX7_copy_33 : decode cX7_copy 33 = .ok (.aload_n 1, 1) := by decide +kernel
theorem dX7_copy_34 : decode cX7_copy 34 = .ok (.getfield 31, 3) := by decide +kernel
theorem dX7_copy_37 : decode cX7_copy 37 = .ok (.putfield 31, 3) := by decide +kernel
theorem dX7_copy_40 : decode cX7_copy 40 = .ok (.aload_n 1, 1) := by decide +kernel
theorem dX7_copy_41 : decode cX7_copy 41 = .ok (.getfield 9, 3) := by decide +kernel
theorem dX7_copy_44 : decode cX7_copy 44 = .ok (.iconst 0, 1) := by decide +kernel
theorem dX7_copy_45 : decode cX7_copy 45 = .ok (.aload_n 0, 1) := by decide +kernel
theorem dX7_copy_46 : decode cX7_copy 46 = .ok (.getfield 9, 3) := by decide +kernel
theorem dX7_copy_49 : decode cX7_copy 49 = .ok (.iconst 0, 1) := by decide +kernel
theorem dX7_copy_50 : decode cX7_copy 50 = .ok (.bipush 9, 2) := by decide +kernel
theorem dX7_copy_52 : decode cX7_copy 52 = .ok (.invokestatic 40, 3) := by decide +kernel
theorem dX7_copy_55 : decode cX7_copy 55 = .ok (.aload_n 1, 1) := by decide +kernel
theorem dX7_copy_56 : decode cX7_copy 56 = .ok (.getfield 15, 3) := by decide +kernel
theorem dX7_copy_59 : decode cX7_copy 59 = .ok (.iconst 0, 1) := by decide +kernel
theorem dX7_copy_60 : decode cX7_copy 60 = .ok (.aload_n 0, 1) := by decide +kernel
theorem dX7_copy_61 : decode cX7_copy 61 = .ok (.getfield 15, 3) := by decide +kernel
theorem dX7_copy_64 : decode cX7_copy 64 = .ok (.iconst 0, 1) := by decide +kernel
theorem dX7_copy_65 : decode cX7_copy 65 = .ok (.bipush 9, 2) := by decide +kernel
theorem dX7_copy_67 : decode cX7_copy 67 = .ok (.invokestatic 40, 3) := by decide +kernel
theorem dX7_copy_70 : decode cX7_copy 70 = .ok (.return_, 1) := by decide +kernel
theorem w_1_238 : (Cond.fieldLink RX7 18 "SameKeeper$State" "days" "I") ∈ wsL_law := sk_mem (ck_1 _ (List.mem_of_getElem? (i := 238) rfl)) rfl
theorem w_2_3 : (Cond.fieldLink RX7 22 "SameKeeper$State" "week" "I") ∈ wsL_law := sk_mem (ck_2 _ (List.mem_of_getElem? (i := 3) rfl)) rfl
theorem w_2_8 : (Cond.fieldLink RX7 25 "SameKeeper$State" "mood" "I") ∈ wsL_law := sk_mem (ck_2 _ (List.mem_of_getElem? (i := 8) rfl)) rfl
theorem w_2_11 : (Cond.fieldLink RX7 28 "SameKeeper$State" "mute" "I") ∈ wsL_law := sk_mem (ck_2 _ (List.mem_of_getElem? (i := 11) rfl)) rfl
theorem w_2_13 : (Cond.fieldLink RX7 31 "SameKeeper$State" "kept" "I") ∈ wsL_law := sk_mem (ck_2 _ (List.mem_of_getElem? (i := 13) rfl)) rfl
theorem w_1_230 : (Cond.fieldLink RX7 9 "SameKeeper$State" "barge" "[I") ∈ wsL_law := sk_mem (ck_1 _ (List.mem_of_getElem? (i := 230) rfl)) rfl
theorem w_3_152 : (Cond.methodLink RX7 40 arraycopyName) ∈ wsL_law := sk_mem (ck_3 _ (List.mem_of_getElem? (i := 152) rfl)) rfl
theorem w_3_154 : (Cond.native arraycopyName) ∈ wsL_law := sk_mem (ck_3 _ (List.mem_of_getElem? (i := 154) rfl)) rfl
theorem w_3_153 : (Cond.static arraycopyName) ∈ wsL_law := sk_mem (ck_3 _ (List.mem_of_getElem? (i := 153) rfl)) rfl
theorem w_1_20 : (Cond.initialized "java/lang/System") ∈ wsL_law := sk_mem (ck_1 _ (List.mem_of_getElem? (i := 20) rfl)) rfl
theorem w_1_234 : (Cond.fieldLink RX7 15 "SameKeeper$State" "wet" "[I") ∈ wsL_law := sk_mem (ck_1 _ (List.mem_of_getElem? (i := 234) rfl)) rfl
theorem w_4_135 : (Cond.code yX7_copy cX7_copy 2 none) ∈ wsL_law := sk_mem (ck_4 _ (List.mem_of_getElem? (i := 135) rfl)) rfl
set_option maxHeartbeats 4000000 in
set_option maxRecDepth 100000 in
theorem c_State_copy (l : Launch) (D : va_G) (cI cJ cC cZ cS : ClassId) (h0 : Nat) (k1 : Nat) (k2 : Nat) (dy : Nat) (mo : Nat) (wk : Int32) (mu : Int32) (ke : Int32) (fb : Nat → Int32) (fw : Nat → Int32) (o0 : Nat) (o1 : Nat) (o2 : Nat) (dy2 : Nat) (mo2 : Nat) (wk2 : Int32) (mu2 : Int32) (ke2 : Int32) (fb2 : Nat → Int32) (fw2 : Nat → Int32)  : skM l yX7_copy cX7_copy 2 none 1 80 0 0 D (skT cI cJ cC cZ cS) [.ref h0, .ref o0] [(h0, .inr (7, [.ref k1, .ref k2, .int (nI dy), .int wk, .int (nI mo), .int mu, .int ke])), (k1, .inl (cI, 9, .inl fb)), (k2, .inl (cI, 9, .inl fw)), (o0, .inr (7, [.ref o1, .ref o2, .int (nI dy2), .int wk2, .int (nI mo2), .int mu2, .int ke2])), (o1, .inl (cI, 9, .inl fb2)), (o2, .inl (cI, 9, .inl fw2))] (skV D (skT cI cJ cC cZ cS) (fun (u : va_W) => ∃ (g1 : Nat → Int32), ∃ (g2 : Nat → Int32), u = [(h0, .inr (7, [.ref k1, .ref k2, .int (nI dy2), .int wk2, .int (nI mo2), .int mu2, .int ke2])), (k1, .inl (cI, 9, .inl g1)), (k2, .inl (cI, 9, .inl g2)), (o0, .inr (7, [.ref o1, .ref o2, .int (nI dy2), .int wk2, .int (nI mo2), .int mu2, .int ke2])), (o1, .inl (cI, 9, .inl fb2)), (o2, .inl (cI, 9, .inl fw2))])) := by
  refine skM_of (by decide +kernel) (Nat.le_of_ble_eq_true rfl) ?_
  intro p e s m below meth c A ls E hP hD hl
  obtain ⟨hx, hb, hr, hml, hlocks, hin, hown, hts, hK, hA⟩ := E
  have hown : s.vm.findClass RX7 = some m.cls := hown
  have hS : va_S A s.heap s.heap [] := va_S.rf
  have hl : lv_has ls 2 [(0, .ref h0), (1, .ref o0)] := hl
  refine lv_aload_n hx hb dX7_copy_0 rfl (lv_at hl 0 rfl) ?_
  refine lv_aload_n hx hb dX7_copy_1 rfl (lv_at hl 1 rfl) ?_
  refine sk_get (v := .int (nI dy2)) (C := RX7) (T := TX7) (N := 7) hx hb hts inlX7 hown hK hP 3 rfl rfl 2 (by decide) w_1_238 rfl dX7_copy_2 ?_
  refine sk_put (ws' := [(h0, .inr (7, [.ref k1, .ref k2, .int (nI dy2), .int wk, .int (nI mo), .int mu, .int ke])), (k1, .inl (cI, 9, .inl fb)), (k2, .inl (cI, 9, .inl fw)), (o0, .inr (7, [.ref o1, .ref o2, .int (nI dy2), .int wk2, .int (nI mo2), .int mu2, .int ke2])), (o1, .inl (cI, 9, .inl fb2)), (o2, .inl (cI, 9, .inl fw2))]) (C := RX7) (T := TX7) (N := 7) (v := .int (nI dy2)) hx hb hts inlX7 tyX7 tyX7_ok nmX7 hown hK hP hD hS 0 rfl rfl 2 (by decide) w_1_238 rfl rfl rfl (Nat.le_of_ble_eq_true rfl) rfl dX7_copy_5 (fun H locs hP hD hS => ?_)
  refine lv_aload_n hx hb dX7_copy_8 rfl (lv_at hl 0 rfl) ?_
  refine lv_aload_n hx hb dX7_copy_9 rfl (lv_at hl 1 rfl) ?_
  refine sk_get (v := .int wk2) (C := RX7) (T := TX7) (N := 7) hx hb hts inlX7 hown hK hP 3 rfl rfl 3 (by decide) w_2_3 rfl dX7_copy_10 ?_
  refine sk_put (ws' := [(h0, .inr (7, [.ref k1, .ref k2, .int (nI dy2), .int wk2, .int (nI mo), .int mu, .int ke])), (k1, .inl (cI, 9, .inl fb)), (k2, .inl (cI, 9, .inl fw)), (o0, .inr (7, [.ref o1, .ref o2, .int (nI dy2), .int wk2, .int (nI mo2), .int mu2, .int ke2])), (o1, .inl (cI, 9, .inl fb2)), (o2, .inl (cI, 9, .inl fw2))]) (C := RX7) (T := TX7) (N := 7) (v := .int wk2) hx hb hts inlX7 tyX7 tyX7_ok nmX7 hown hK hP hD hS 0 rfl rfl 3 (by decide) w_2_3 rfl rfl rfl (Nat.le_of_ble_eq_true rfl) rfl dX7_copy_13 (fun H locs hP hD hS => ?_)
  refine lv_aload_n hx hb dX7_copy_16 rfl (lv_at hl 0 rfl) ?_
  refine lv_aload_n hx hb dX7_copy_17 rfl (lv_at hl 1 rfl) ?_
  refine sk_get (v := .int (nI mo2)) (C := RX7) (T := TX7) (N := 7) hx hb hts inlX7 hown hK hP 3 rfl rfl 4 (by decide) w_2_8 rfl dX7_copy_18 ?_
  refine sk_put (ws' := [(h0, .inr (7, [.ref k1, .ref k2, .int (nI dy2), .int wk2, .int (nI mo2), .int mu, .int ke])), (k1, .inl (cI, 9, .inl fb)), (k2, .inl (cI, 9, .inl fw)), (o0, .inr (7, [.ref o1, .ref o2, .int (nI dy2), .int wk2, .int (nI mo2), .int mu2, .int ke2])), (o1, .inl (cI, 9, .inl fb2)), (o2, .inl (cI, 9, .inl fw2))]) (C := RX7) (T := TX7) (N := 7) (v := .int (nI mo2)) hx hb hts inlX7 tyX7 tyX7_ok nmX7 hown hK hP hD hS 0 rfl rfl 4 (by decide) w_2_8 rfl rfl rfl (Nat.le_of_ble_eq_true rfl) rfl dX7_copy_21 (fun H locs hP hD hS => ?_)
  refine lv_aload_n hx hb dX7_copy_24 rfl (lv_at hl 0 rfl) ?_
  refine lv_aload_n hx hb dX7_copy_25 rfl (lv_at hl 1 rfl) ?_
  refine sk_get (v := .int mu2) (C := RX7) (T := TX7) (N := 7) hx hb hts inlX7 hown hK hP 3 rfl rfl 5 (by decide) w_2_11 rfl dX7_copy_26 ?_
  refine sk_put (ws' := [(h0, .inr (7, [.ref k1, .ref k2, .int (nI dy2), .int wk2, .int (nI mo2), .int mu2, .int ke])), (k1, .inl (cI, 9, .inl fb)), (k2, .inl (cI, 9, .inl fw)), (o0, .inr (7, [.ref o1, .ref o2, .int (nI dy2), .int wk2, .int (nI mo2), .int mu2, .int ke2])), (o1, .inl (cI, 9, .inl fb2)), (o2, .inl (cI, 9, .inl fw2))]) (C := RX7) (T := TX7) (N := 7) (v := .int mu2) hx hb hts inlX7 tyX7 tyX7_ok nmX7 hown hK hP hD hS 0 rfl rfl 5 (by decide) w_2_11 rfl rfl rfl (Nat.le_of_ble_eq_true rfl) rfl dX7_copy_29 (fun H locs hP hD hS => ?_)
  refine lv_aload_n hx hb dX7_copy_32 rfl (lv_at hl 0 rfl) ?_
  refine lv_aload_n hx hb dX7_copy_33 rfl (lv_at hl 1 rfl) ?_
  refine sk_get (v := .int ke2) (C := RX7) (T := TX7) (N := 7) hx hb hts inlX7 hown hK hP 3 rfl rfl 6 (by decide) w_2_13 rfl dX7_copy_34 ?_
  refine sk_put (ws' := [(h0, .inr (7, [.ref k1, .ref k2, .int (nI dy2), .int wk2, .int (nI mo2), .int mu2, .int ke2])), (k1, .inl (cI, 9, .inl fb)), (k2, .inl (cI, 9, .inl fw)), (o0, .inr (7, [.ref o1, .ref o2, .int (nI dy2), .int wk2, .int (nI mo2), .int mu2, .int ke2])), (o1, .inl (cI, 9, .inl fb2)), (o2, .inl (cI, 9, .inl fw2))]) (C := RX7) (T := TX7) (N := 7) (v := .int ke2) hx hb hts inlX7 tyX7 tyX7_ok nmX7 hown hK hP hD hS 0 rfl rfl 6 (by decide) w_2_13 rfl rfl rfl (Nat.le_of_ble_eq_true rfl) rfl dX7_copy_37 (fun H locs hP hD hS => ?_)
  refine lv_aload_n hx hb dX7_copy_40 rfl (lv_at hl 1 rfl) ?_
  refine sk_get (v := .ref o1) (C := RX7) (T := TX7) (N := 7) hx hb hts inlX7 hown hK hP 3 rfl rfl 0 (by decide) w_1_230 rfl dX7_copy_41 ?_
  refine lv_iconst (v := 0) hx hb dX7_copy_44 (by decide) ?_
  refine lv_aload_n hx hb dX7_copy_45 rfl (lv_at hl 0 rfl) ?_
  refine sk_get (v := .ref k1) (C := RX7) (T := TX7) (N := 7) hx hb hts inlX7 hown hK hP 0 rfl rfl 0 (by decide) w_1_230 rfl dX7_copy_46 ?_
  refine lv_iconst (v := 0) hx hb dX7_copy_49 (by decide) ?_
  refine lv_bipush (v := 9) hx hb dX7_copy_50 (by decide) ?_
  refine sk_copyO (ws' := fun f_1 => [(h0, .inr (7, [.ref k1, .ref k2, .int (nI dy2), .int wk2, .int (nI mo2), .int mu2, .int ke2])), (k1, .inl (cI, 9, .inl f_1)), (k2, .inl (cI, 9, .inl fw)), (o0, .inr (7, [.ref o1, .ref o2, .int (nI dy2), .int wk2, .int (nI mo2), .int mu2, .int ke2])), (o1, .inl (cI, 9, .inl fb2)), (o2, .inl (cI, 9, .inl fw2))]) hx hb (by rw [hml]; exact hl.1.symm) hts hown w_3_152 w_3_154 w_3_153 w_1_20 hK hP hD hS 4 1 0 rfl rfl rfl (by decide) (by decide) (by decide) (Nat.le_of_ble_eq_true rfl) (Nat.le_of_ble_eq_true rfl) (fun _ => rfl) dX7_copy_52 (fun f_1 H locs hP hD hS => ?_)
  refine lv_aload_n hx hb dX7_copy_55 rfl (lv_at hl 1 rfl) ?_
  refine sk_get (v := .ref o2) (C := RX7) (T := TX7) (N := 7) hx hb hts inlX7 hown hK hP 3 rfl rfl 1 (by decide) w_1_234 rfl dX7_copy_56 ?_
  refine lv_iconst (v := 0) hx hb dX7_copy_59 (by decide) ?_
  refine lv_aload_n hx hb dX7_copy_60 rfl (lv_at hl 0 rfl) ?_
  refine sk_get (v := .ref k2) (C := RX7) (T := TX7) (N := 7) hx hb hts inlX7 hown hK hP 0 rfl rfl 1 (by decide) w_1_234 rfl dX7_copy_61 ?_
  refine lv_iconst (v := 0) hx hb dX7_copy_64 (by decide) ?_
  refine lv_bipush (v := 9) hx hb dX7_copy_65 (by decide) ?_
  refine sk_copyO (ws' := fun f_2 => [(h0, .inr (7, [.ref k1, .ref k2, .int (nI dy2), .int wk2, .int (nI mo2), .int mu2, .int ke2])), (k1, .inl (cI, 9, .inl f_1)), (k2, .inl (cI, 9, .inl f_2)), (o0, .inr (7, [.ref o1, .ref o2, .int (nI dy2), .int wk2, .int (nI mo2), .int mu2, .int ke2])), (o1, .inl (cI, 9, .inl fb2)), (o2, .inl (cI, 9, .inl fw2))]) hx hb (by rw [hml]; exact hl.1.symm) hts hown w_3_152 w_3_154 w_3_153 w_1_20 hK hP hD hS 5 2 0 rfl rfl rfl (by decide) (by decide) (by decide) (Nat.le_of_ble_eq_true rfl) (Nat.le_of_ble_eq_true rfl) (fun _ => rfl) dX7_copy_67 (fun f_2 H locs hP hD hS => ?_)
  exact sk_vret hx hb hr hlocks hK hP hD hS (⟨f_1, f_2, rfl⟩) (Nat.le_of_ble_eq_true rfl) (Nat.le_of_ble_eq_true rfl) dX7_copy_70
theorem dX7_begin_0 : decode cX7_begin 0 = .ok (.aload_n 0, 1) := by decide +kernel
theorem dX7_begin_1 : decode cX7_begin 1 = .ok (.aload_n 1, 1) := by decide +kernel
theorem dX7_begin_2 : decode cX7_begin 2 = .ok (.getfield 34, 3) := by decide +kernel
theorem dX7_begin_5 : decode cX7_begin 5 = .ok (.putfield 18, 3) := by decide +kernel
theorem dX7_begin_8 : decode cX7_begin 8 = .ok (.aload_n 0, 1) := by decide +kernel
theorem dX7_begin_9 : decode cX7_begin 9 = .ok (.iconst 0, 1) := by decide +kernel
theorem dX7_begin_10 : decode cX7_begin 10 = .ok (.putfield 22, 3) := by decide +kernel
theorem dX7_begin_13 : decode cX7_begin 13 = .ok (.aload_n 0, 1) := by decide +kernel
theorem dX7_begin_14 : decode cX7_begin 14 = .ok (.aload_n 1, 1) := by decide +kernel
theorem dX7_begin_15 : decode cX7_begin 15 = .ok (.getfield 37, 3) := by decide +kernel
theorem dX7_begin_18 : decode cX7_begin 18 = .ok (.putfield 25, 3) := by decide +kernel
theorem dX7_begin_21 : decode cX7_begin 21 = .ok (.aload_n 0, 1) := by decide +kernel
theorem dX7_begin_22 : decode cX7_begin 22 = .ok (.aload_n 1, 1) := by decide +kernel
theorem dX7_begin_23 : decode cX7_begin 23 = .ok (.getfield 38, 3) := by decide +kernel
theorem dX7_begin_26 : decode cX7_begin 26 = .ok (.putfield 28, 3) := by decide +kernel
theorem dX7_begin_29 : decode cX7_begin 29 = .ok (.aload_n 0, 1) := by decide +kernel
theorem dX7_begin_30 : decode cX7_begin 30 = .ok (.iconst 0, 1) := by decide +kernel
theorem dX7_begin_31 : decode cX7_begin 31 = .ok (.putfield 31, 3) := by decide +kernel
theorem dX7_begin_34 : decode cX7_begin 34 = .ok (.aload_n 1, 1) := by decide +kernel
theorem dX7_begin_35 : decode cX7_begin 35 = .ok (.getfield 39, 3) := by decide +kernel
theorem dX7_begin_38 : decode cX7_begin 38 = .ok (.iconst 0, 1) := by decide +kernel
theorem dX7_begin_39 : decode cX7_begin 39 = .ok (.aload_n 0, 1) := by decide +kernel
theorem dX7_begin_40 : decode cX7_begin 40 = .ok (.getfield 9, 3) := by decide +kernel
theorem dX7_begin_43 : decode cX7_begin 43 = .ok (.iconst 0, 1) := by decide +kernel
theorem dX7_begin_44 : decode cX7_begin 44 = .ok (.bipush 9, 2) := by decide +kernel
theorem dX7_begin_46 : decode cX7_begin 46 = .ok (.invokestatic 40, 3) := by decide +kernel
theorem dX7_begin_49 : decode cX7_begin 49 = .ok (.aload_n 1, 1) := by decide +kernel
theorem dX7_begin_50 : decode cX7_begin 50 = .ok (.getfield 46, 3) := by decide +kernel
theorem dX7_begin_53 : decode cX7_begin 53 = .ok (.iconst 0, 1) := by decide +kernel
theorem dX7_begin_54 : decode cX7_begin 54 = .ok (.aload_n 0, 1) := by decide +kernel
theorem dX7_begin_55 : decode cX7_begin 55 = .ok (.getfield 15, 3) := by decide +kernel
theorem dX7_begin_58 : decode cX7_begin 58 = .ok (.iconst 0, 1) := by decide +kernel
theorem dX7_begin_59 : decode cX7_begin 59 = .ok (.bipush 9, 2) := by decide +kernel
theorem dX7_begin_61 : decode cX7_begin 61 = .ok (.invokestatic 40, 3) := by decide +kernel
theorem dX7_begin_64 : decode cX7_begin 64 = .ok (.return_, 1) := by decide +kernel
theorem w_1_189 : (Cond.fieldLink RX7 34 "SameKeeper$Lock" "days" "I") ∈ wsL_law := sk_mem (ck_1 _ (List.mem_of_getElem? (i := 189) rfl)) rfl
theorem w_1_192 : (Cond.fieldLink RX7 37 "SameKeeper$Lock" "mood" "I") ∈ wsL_law := sk_mem (ck_1 _ (List.mem_of_getElem? (i := 192) rfl)) rfl
theorem w_1_195 : (Cond.fieldLink RX7 38 "SameKeeper$Lock" "mute" "I") ∈ wsL_law := sk_mem (ck_1 _ (List.mem_of_getElem? (i := 195) rfl)) rfl
theorem w_1_179 : (Cond.fieldLink RX7 39 "SameKeeper$Lock" "barge" "[I") ∈ wsL_law := sk_mem (ck_1 _ (List.mem_of_getElem? (i := 179) rfl)) rfl
theorem w_1_182 : (Cond.fieldLink RX7 46 "SameKeeper$Lock" "wet" "[I") ∈ wsL_law := sk_mem (ck_1 _ (List.mem_of_getElem? (i := 182) rfl)) rfl
theorem w_3_151 : (Cond.code yX7_begin cX7_begin 2 none) ∈ wsL_law := sk_mem (ck_3 _ (List.mem_of_getElem? (i := 151) rfl)) rfl
set_option maxHeartbeats 4000000 in
set_option maxRecDepth 100000 in
theorem c_State_begin (l : Launch) (D : va_G) (cI cJ cC cZ cS : ClassId) (h0 : Nat) (k1 : Nat) (k2 : Nat) (dy : Nat) (mo : Nat) (wk : Int32) (mu : Int32) (ke : Int32) (fb : Nat → Int32) (fw : Nat → Int32) (o0 : Nat) (o1 : Nat) (o2 : Nat) (o3 : Nat) (o4 : Nat) (o5 : Nat) (dl : Nat) (ml : Nat) (nl : Nat) (ul : Int32) (rl : Int32) (xb : Nat → Int32) (xw : Nat → Int32)  : skM l yX7_begin cX7_begin 2 none 1 80 0 0 D (skT cI cJ cC cZ cS) [.ref h0, .ref o0] [(h0, .inr (7, [.ref k1, .ref k2, .int (nI dy), .int wk, .int (nI mo), .int mu, .int ke])), (k1, .inl (cI, 9, .inl fb)), (k2, .inl (cI, 9, .inl fw)), (o0, .inr (2, [.ref o1, .ref o2, .ref o3, .ref o4, .ref o5, .int (nI dl), .int (nI ml), .int ul, .int rl, .int (nI nl)])), (o2, .inl (cI, 9, .inl xb)), (o3, .inl (cI, 9, .inl xw))] (skV D (skT cI cJ cC cZ cS) (fun (u : va_W) => ∃ (g1 : Nat → Int32), ∃ (g2 : Nat → Int32), u = [(h0, .inr (7, [.ref k1, .ref k2, .int (nI dl), .int 0, .int (nI ml), .int ul, .int 0])), (k1, .inl (cI, 9, .inl g1)), (k2, .inl (cI, 9, .inl g2)), (o0, .inr (2, [.ref o1, .ref o2, .ref o3, .ref o4, .ref o5, .int (nI dl), .int (nI ml), .int ul, .int rl, .int (nI nl)])), (o2, .inl (cI, 9, .inl xb)), (o3, .inl (cI, 9, .inl xw))])) := by
  refine skM_of (by decide +kernel) (Nat.le_of_ble_eq_true rfl) ?_
  intro p e s m below meth c A ls E hP hD hl
  obtain ⟨hx, hb, hr, hml, hlocks, hin, hown, hts, hK, hA⟩ := E
  have hown : s.vm.findClass RX7 = some m.cls := hown
  have hS : va_S A s.heap s.heap [] := va_S.rf
  have hl : lv_has ls 2 [(0, .ref h0), (1, .ref o0)] := hl
  refine lv_aload_n hx hb dX7_begin_0 rfl (lv_at hl 0 rfl) ?_
  refine lv_aload_n hx hb dX7_begin_1 rfl (lv_at hl 1 rfl) ?_
  refine sk_get (v := .int (nI dl)) (C := RX2) (T := TX2) (N := 10) hx hb hts inlX2 hown hK hP 3 rfl rfl 5 (by decide) w_1_189 rfl dX7_begin_2 ?_
  refine sk_put (ws' := [(h0, .inr (7, [.ref k1, .ref k2, .int (nI dl), .int wk, .int (nI mo), .int mu, .int ke])), (k1, .inl (cI, 9, .inl fb)), (k2, .inl (cI, 9, .inl fw)), (o0, .inr (2, [.ref o1, .ref o2, .ref o3, .ref o4, .ref o5, .int (nI dl), .int (nI ml), .int ul, .int rl, .int (nI nl)])), (o2, .inl (cI, 9, .inl xb)), (o3, .inl (cI, 9, .inl xw))]) (C := RX7) (T := TX7) (N := 7) (v := .int (nI dl)) hx hb hts inlX7 tyX7 tyX7_ok nmX7 hown hK hP hD hS 0 rfl rfl 2 (by decide) w_1_238 rfl rfl rfl (Nat.le_of_ble_eq_true rfl) rfl dX7_begin_5 (fun H locs hP hD hS => ?_)
  refine lv_aload_n hx hb dX7_begin_8 rfl (lv_at hl 0 rfl) ?_
  refine lv_iconst (v := 0) hx hb dX7_begin_9 (by decide) ?_
  refine sk_put (ws' := [(h0, .inr (7, [.ref k1, .ref k2, .int (nI dl), .int 0, .int (nI mo), .int mu, .int ke])), (k1, .inl (cI, 9, .inl fb)), (k2, .inl (cI, 9, .inl fw)), (o0, .inr (2, [.ref o1, .ref o2, .ref o3, .ref o4, .ref o5, .int (nI dl), .int (nI ml), .int ul, .int rl, .int (nI nl)])), (o2, .inl (cI, 9, .inl xb)), (o3, .inl (cI, 9, .inl xw))]) (C := RX7) (T := TX7) (N := 7) (v := .int 0) hx hb hts inlX7 tyX7 tyX7_ok nmX7 hown hK hP hD hS 0 rfl rfl 3 (by decide) w_2_3 rfl rfl rfl (Nat.le_of_ble_eq_true rfl) rfl dX7_begin_10 (fun H locs hP hD hS => ?_)
  refine lv_aload_n hx hb dX7_begin_13 rfl (lv_at hl 0 rfl) ?_
  refine lv_aload_n hx hb dX7_begin_14 rfl (lv_at hl 1 rfl) ?_
  refine sk_get (v := .int (nI ml)) (C := RX2) (T := TX2) (N := 10) hx hb hts inlX2 hown hK hP 3 rfl rfl 6 (by decide) w_1_192 rfl dX7_begin_15 ?_
  refine sk_put (ws' := [(h0, .inr (7, [.ref k1, .ref k2, .int (nI dl), .int 0, .int (nI ml), .int mu, .int ke])), (k1, .inl (cI, 9, .inl fb)), (k2, .inl (cI, 9, .inl fw)), (o0, .inr (2, [.ref o1, .ref o2, .ref o3, .ref o4, .ref o5, .int (nI dl), .int (nI ml), .int ul, .int rl, .int (nI nl)])), (o2, .inl (cI, 9, .inl xb)), (o3, .inl (cI, 9, .inl xw))]) (C := RX7) (T := TX7) (N := 7) (v := .int (nI ml)) hx hb hts inlX7 tyX7 tyX7_ok nmX7 hown hK hP hD hS 0 rfl rfl 4 (by decide) w_2_8 rfl rfl rfl (Nat.le_of_ble_eq_true rfl) rfl dX7_begin_18 (fun H locs hP hD hS => ?_)
  refine lv_aload_n hx hb dX7_begin_21 rfl (lv_at hl 0 rfl) ?_
  refine lv_aload_n hx hb dX7_begin_22 rfl (lv_at hl 1 rfl) ?_
  refine sk_get (v := .int ul) (C := RX2) (T := TX2) (N := 10) hx hb hts inlX2 hown hK hP 3 rfl rfl 7 (by decide) w_1_195 rfl dX7_begin_23 ?_
  refine sk_put (ws' := [(h0, .inr (7, [.ref k1, .ref k2, .int (nI dl), .int 0, .int (nI ml), .int ul, .int ke])), (k1, .inl (cI, 9, .inl fb)), (k2, .inl (cI, 9, .inl fw)), (o0, .inr (2, [.ref o1, .ref o2, .ref o3, .ref o4, .ref o5, .int (nI dl), .int (nI ml), .int ul, .int rl, .int (nI nl)])), (o2, .inl (cI, 9, .inl xb)), (o3, .inl (cI, 9, .inl xw))]) (C := RX7) (T := TX7) (N := 7) (v := .int ul) hx hb hts inlX7 tyX7 tyX7_ok nmX7 hown hK hP hD hS 0 rfl rfl 5 (by decide) w_2_11 rfl rfl rfl (Nat.le_of_ble_eq_true rfl) rfl dX7_begin_26 (fun H locs hP hD hS => ?_)
  refine lv_aload_n hx hb dX7_begin_29 rfl (lv_at hl 0 rfl) ?_
  refine lv_iconst (v := 0) hx hb dX7_begin_30 (by decide) ?_
  refine sk_put (ws' := [(h0, .inr (7, [.ref k1, .ref k2, .int (nI dl), .int 0, .int (nI ml), .int ul, .int 0])), (k1, .inl (cI, 9, .inl fb)), (k2, .inl (cI, 9, .inl fw)), (o0, .inr (2, [.ref o1, .ref o2, .ref o3, .ref o4, .ref o5, .int (nI dl), .int (nI ml), .int ul, .int rl, .int (nI nl)])), (o2, .inl (cI, 9, .inl xb)), (o3, .inl (cI, 9, .inl xw))]) (C := RX7) (T := TX7) (N := 7) (v := .int 0) hx hb hts inlX7 tyX7 tyX7_ok nmX7 hown hK hP hD hS 0 rfl rfl 6 (by decide) w_2_13 rfl rfl rfl (Nat.le_of_ble_eq_true rfl) rfl dX7_begin_31 (fun H locs hP hD hS => ?_)
  refine lv_aload_n hx hb dX7_begin_34 rfl (lv_at hl 1 rfl) ?_
  refine sk_get (v := .ref o2) (C := RX2) (T := TX2) (N := 10) hx hb hts inlX2 hown hK hP 3 rfl rfl 1 (by decide) w_1_179 rfl dX7_begin_35 ?_
  refine lv_iconst (v := 0) hx hb dX7_begin_38 (by decide) ?_
  refine lv_aload_n hx hb dX7_begin_39 rfl (lv_at hl 0 rfl) ?_
  refine sk_get (v := .ref k1) (C := RX7) (T := TX7) (N := 7) hx hb hts inlX7 hown hK hP 0 rfl rfl 0 (by decide) w_1_230 rfl dX7_begin_40 ?_
  refine lv_iconst (v := 0) hx hb dX7_begin_43 (by decide) ?_
  refine lv_bipush (v := 9) hx hb dX7_begin_44 (by decide) ?_
  refine sk_copyO (ws' := fun f_1 => [(h0, .inr (7, [.ref k1, .ref k2, .int (nI dl), .int 0, .int (nI ml), .int ul, .int 0])), (k1, .inl (cI, 9, .inl f_1)), (k2, .inl (cI, 9, .inl fw)), (o0, .inr (2, [.ref o1, .ref o2, .ref o3, .ref o4, .ref o5, .int (nI dl), .int (nI ml), .int ul, .int rl, .int (nI nl)])), (o2, .inl (cI, 9, .inl xb)), (o3, .inl (cI, 9, .inl xw))]) hx hb (by rw [hml]; exact hl.1.symm) hts hown w_3_152 w_3_154 w_3_153 w_1_20 hK hP hD hS 4 1 0 rfl rfl rfl (by decide) (by decide) (by decide) (Nat.le_of_ble_eq_true rfl) (Nat.le_of_ble_eq_true rfl) (fun _ => rfl) dX7_begin_46 (fun f_1 H locs hP hD hS => ?_)
  refine lv_aload_n hx hb dX7_begin_49 rfl (lv_at hl 1 rfl) ?_
  refine sk_get (v := .ref o3) (C := RX2) (T := TX2) (N := 10) hx hb hts inlX2 hown hK hP 3 rfl rfl 2 (by decide) w_1_182 rfl dX7_begin_50 ?_
  refine lv_iconst (v := 0) hx hb dX7_begin_53 (by decide) ?_
  refine lv_aload_n hx hb dX7_begin_54 rfl (lv_at hl 0 rfl) ?_
  refine sk_get (v := .ref k2) (C := RX7) (T := TX7) (N := 7) hx hb hts inlX7 hown hK hP 0 rfl rfl 1 (by decide) w_1_234 rfl dX7_begin_55 ?_
  refine lv_iconst (v := 0) hx hb dX7_begin_58 (by decide) ?_
  refine lv_bipush (v := 9) hx hb dX7_begin_59 (by decide) ?_
  refine sk_copyO (ws' := fun f_2 => [(h0, .inr (7, [.ref k1, .ref k2, .int (nI dl), .int 0, .int (nI ml), .int ul, .int 0])), (k1, .inl (cI, 9, .inl f_1)), (k2, .inl (cI, 9, .inl f_2)), (o0, .inr (2, [.ref o1, .ref o2, .ref o3, .ref o4, .ref o5, .int (nI dl), .int (nI ml), .int ul, .int rl, .int (nI nl)])), (o2, .inl (cI, 9, .inl xb)), (o3, .inl (cI, 9, .inl xw))]) hx hb (by rw [hml]; exact hl.1.symm) hts hown w_3_152 w_3_154 w_3_153 w_1_20 hK hP hD hS 5 2 0 rfl rfl rfl (by decide) (by decide) (by decide) (Nat.le_of_ble_eq_true rfl) (Nat.le_of_ble_eq_true rfl) (fun _ => rfl) dX7_begin_61 (fun f_2 H locs hP hD hS => ?_)
  exact sk_vret hx hb hr hlocks hK hP hD hS (⟨f_1, f_2, rfl⟩) (Nat.le_of_ble_eq_true rfl) (Nat.le_of_ble_eq_true rfl) dX7_begin_64
theorem dX7_isMute_0 : decode cX7_isMute 0 = .ok (.aload_n 0, 1) := by decide +kernel
theorem dX7_isMute_1 : decode cX7_isMute 1 = .ok (.getfield 28, 3) := by decide +kernel
theorem dX7_isMute_4 : decode cX7_isMute 4 = .ok (.iload_n 1, 1) := by decide +kernel
theorem dX7_isMute_5 : decode cX7_isMute 5 = .ok (.ishr, 1) := by decide +kernel
theorem dX7_isMute_6 : decode cX7_isMute 6 = .ok (.iconst 1, 1) := by decide +kernel
theorem dX7_isMute_7 : decode cX7_isMute 7 = .ok (.iand, 1) := by decide +kernel
theorem dX7_isMute_8 : decode cX7_isMute 8 = .ok (.iconst 1, 1) := by decide +kernel
theorem dX7_isMute_9 : decode cX7_isMute 9 = .ok (.if_icmp .ne 7, 3) := by decide +kernel
theorem dX7_isMute_16 : decode cX7_isMute 16 = .ok (.iconst 0, 1) := by decide +kernel
theorem dX7_isMute_17 : decode cX7_isMute 17 = .ok (.ireturn, 1) := by decide +kernel
theorem dX7_isMute_12 : decode cX7_isMute 12 = .ok (.iconst 1, 1) := by decide +kernel
theorem dX7_isMute_13 : decode cX7_isMute 13 = .ok (.goto 4, 3) := by decide +kernel
theorem w_3_197 : (Cond.code yX7_isMute cX7_isMute 2 (some .boolean)) ∈ wsL_law := sk_mem (ck_3 _ (List.mem_of_getElem? (i := 197) rfl)) rfl
set_option maxHeartbeats 4000000 in
set_option maxRecDepth 100000 in
theorem c_State_isMute (l : Launch) (D : va_G) (cI cJ cC cZ cS : ClassId) (h0 : Nat) (k1 : Nat) (k2 : Nat) (dy : Nat) (mo : Nat) (wk : Int32) (mu : Int32) (ke : Int32) (d : Int32)  : skM l yX7_isMute cX7_isMute 2 (some .boolean) 0 0 0 0 D (skT cI cJ cC cZ cS) [.ref h0, .int d] [(h0, .inr (7, [.ref k1, .ref k2, .int (nI dy), .int wk, .int (nI mo), .int mu, .int ke]))] (skI D (skT cI cJ cC cZ cS) (fun (r : Int32) (u : va_W) => ∃ (b : Nat), b ≤ 1 ∧ r = nI b ∧ u = [(h0, .inr (7, [.ref k1, .ref k2, .int (nI dy), .int wk, .int (nI mo), .int mu, .int ke]))])) := by
  refine skM_of (by decide +kernel) (Nat.le_of_ble_eq_true rfl) ?_
  intro p e s m below meth c A ls E hP hD hl
  obtain ⟨hx, hb, hr, hml, hlocks, hin, hown, hts, hK, hA⟩ := E
  have hown : s.vm.findClass RX7 = some m.cls := hown
  have hS : va_S A s.heap s.heap [] := va_S.rf
  have hl : lv_has ls 2 [(0, .ref h0), (1, .int d)] := hl
  refine lv_aload_n hx hb dX7_isMute_0 rfl (lv_at hl 0 rfl) ?_
  refine sk_get (v := .int mu) (C := RX7) (T := TX7) (N := 7) hx hb hts inlX7 hown hK hP 0 rfl rfl 5 (by decide) w_2_11 rfl dX7_isMute_1 ?_
  refine lv_iload_n hx hb dX7_isMute_4 rfl (lv_at hl 1 rfl) ?_
  refine lv_ishr hx hb dX7_isMute_5 ?_
  refine lv_topi (fun v_1 ev_1 => ?_)
  refine lv_iconst (v := 1) hx hb dX7_isMute_6 (by decide) ?_
  refine lv_iand hx hb dX7_isMute_7 ?_
  refine lv_topi (fun v_2 ev_2 => ?_)
  refine lv_iconst (v := 1) hx hb dX7_isMute_8 (by decide) ?_
  refine lv_icmp_ne (tgt := 16) hx hb dX7_isMute_9 (by decide) (fun c_3 => ?_) (fun c_3 => ?_)
  · skip
    refine lv_iconst (v := 0) hx hb dX7_isMute_16 (by decide) ?_
    exact sk_iret hx hb hr rfl hlocks hK hP hD hS (⟨0, by omega, rfl, rfl⟩) (Nat.le_of_ble_eq_true rfl) (Nat.le_of_ble_eq_true rfl) dX7_isMute_17
  · skip
    refine lv_iconst (v := 1) hx hb dX7_isMute_12 (by decide) ?_
    refine lv_goto (tgt := 17) hx hb dX7_isMute_13 (by decide) ?_
    exact sk_iret hx hb hr rfl hlocks hK hP hD hS (⟨1, by omega, rfl, rfl⟩) (Nat.le_of_ble_eq_true rfl) (Nat.le_of_ble_eq_true rfl) dX7_isMute_17
theorem dX7_amount_0 : decode cX7_amount 0 = .ok (.iload_n 2, 1) := by decide +kernel
theorem dX7_amount_1 : decode cX7_amount 1 = .ok (.ifCond .ne 12, 3) := by decide +kernel
theorem dX7_amount_13 : decode cX7_amount 13 = .ok (.aload_n 0, 1) := by decide +kernel
theorem dX7_amount_14 : decode cX7_amount 14 = .ok (.getfield 15, 3) := by decide +kernel
theorem dX7_amount_17 : decode cX7_amount 17 = .ok (.iload_n 1, 1) := by decide +kernel
theorem dX7_amount_18 : decode cX7_amount 18 = .ok (.iaload, 1) := by decide +kernel
theorem dX7_amount_19 : decode cX7_amount 19 = .ok (.ireturn, 1) := by decide +kernel
theorem dX7_amount_4 : decode cX7_amount 4 = .ok (.aload_n 0, 1) := by decide +kernel
theorem dX7_amount_5 : decode cX7_amount 5 = .ok (.getfield 9, 3) := by decide +kernel
theorem dX7_amount_8 : decode cX7_amount 8 = .ok (.iload_n 1, 1) := by decide +kernel
theorem dX7_amount_9 : decode cX7_amount 9 = .ok (.iaload, 1) := by decide +kernel
theorem dX7_amount_10 : decode cX7_amount 10 = .ok (.goto 9, 3) := by decide +kernel
theorem w_5_6 : (Cond.code yX7_amount cX7_amount 3 (some .int)) ∈ wsL_law := sk_mem (ck_5 _ (List.mem_of_getElem? (i := 6) rfl)) rfl
set_option maxHeartbeats 4000000 in
set_option maxRecDepth 100000 in
theorem c_State_amount (l : Launch) (D : va_G) (cI cJ cC cZ cS : ClassId) (h0 : Nat) (k1 : Nat) (k2 : Nat) (dy : Nat) (mo : Nat) (wk : Int32) (mu : Int32) (ke : Int32) (fb : Nat → Int32) (fw : Nat → Int32) (d : Nat) (w : Int32) (hd : d < 9) : skM l yX7_amount cX7_amount 3 (some .int) 0 0 0 0 D (skT cI cJ cC cZ cS) [.ref h0, .int (nI d), .int w] [(h0, .inr (7, [.ref k1, .ref k2, .int (nI dy), .int wk, .int (nI mo), .int mu, .int ke])), (k1, .inl (cI, 9, .inl fb)), (k2, .inl (cI, 9, .inl fw))] (skI D (skT cI cJ cC cZ cS) (fun (r : Int32) (u : va_W) => u = [(h0, .inr (7, [.ref k1, .ref k2, .int (nI dy), .int wk, .int (nI mo), .int mu, .int ke])), (k1, .inl (cI, 9, .inl fb)), (k2, .inl (cI, 9, .inl fw))])) := by
  refine skM_of (by decide +kernel) (Nat.le_of_ble_eq_true rfl) ?_
  intro p e s m below meth c A ls E hP hD hl
  obtain ⟨hx, hb, hr, hml, hlocks, hin, hown, hts, hK, hA⟩ := E
  have hown : s.vm.findClass RX7 = some m.cls := hown
  have hS : va_S A s.heap s.heap [] := va_S.rf
  have hl : lv_has ls 3 [(0, .ref h0), (1, .int (nI d)), (2, .int w)] := hl
  refine lv_iload_n hx hb dX7_amount_0 rfl (lv_at hl 2 rfl) ?_
  refine lv_if_ne (tgt := 13) hx hb dX7_amount_1 (by decide) (fun c_1 => ?_) (fun c_1 => ?_)
  · skip
    refine lv_aload_n hx hb dX7_amount_13 rfl (lv_at hl 0 rfl) ?_
    refine sk_get (v := .ref k2) (C := RX7) (T := TX7) (N := 7) hx hb hts inlX7 hown hK hP 0 rfl rfl 1 (by decide) w_1_234 rfl dX7_amount_14 ?_
    refine lv_iload_n hx hb dX7_amount_17 rfl (lv_at hl 1 rfl) ?_
    refine va_iald hx hb hK.1 hP 2 0 rfl rfl (vin d 9 (by omega) (by omega)) dX7_amount_18 ?_
    refine lv_topi (fun v_2 ev_2 => ?_)
    exact sk_iret hx hb hr rfl hlocks hK hP hD hS rfl (Nat.le_of_ble_eq_true rfl) (Nat.le_of_ble_eq_true rfl) dX7_amount_19
  · skip
    refine lv_aload_n hx hb dX7_amount_4 rfl (lv_at hl 0 rfl) ?_
    refine sk_get (v := .ref k1) (C := RX7) (T := TX7) (N := 7) hx hb hts inlX7 hown hK hP 0 rfl rfl 0 (by decide) w_1_230 rfl dX7_amount_5 ?_
    refine lv_iload_n hx hb dX7_amount_8 rfl (lv_at hl 1 rfl) ?_
    refine va_iald hx hb hK.1 hP 1 0 rfl rfl (vin d 9 (by omega) (by omega)) dX7_amount_9 ?_
    refine lv_topi (fun v_3 ev_3 => ?_)
    refine lv_goto (tgt := 19) hx hb dX7_amount_10 (by decide) ?_
    exact sk_iret hx hb hr rfl hlocks hK hP hD hS rfl (Nat.le_of_ble_eq_true rfl) (Nat.le_of_ble_eq_true rfl) dX7_amount_19
theorem dX7_put_0 : decode cX7_put 0 = .ok (.iload_n 2, 1) := by decide +kernel
theorem dX7_put_1 : decode cX7_put 1 = .ok (.ifCond .ne 13, 3) := by decide +kernel
theorem dX7_put_14 : decode cX7_put 14 = .ok (.aload_n 0, 1) := by decide +kernel
theorem dX7_put_15 : decode cX7_put 15 = .ok (.getfield 15, 3) := by decide +kernel
theorem dX7_put_18 : decode cX7_put 18 = .ok (.iload_n 1, 1) := by decide +kernel
theorem dX7_put_19 : decode cX7_put 19 = .ok (.iload_n 3, 1) := by decide +kernel
theorem dX7_put_20 : decode cX7_put 20 = .ok (.iastore, 1) := by decide +kernel
theorem dX7_put_21 : decode cX7_put 21 = .ok (.return_, 1) := by decide +kernel
theorem dX7_put_4 : decode cX7_put 4 = .ok (.aload_n 0, 1) := by decide +kernel
theorem dX7_put_5 : decode cX7_put 5 = .ok (.getfield 9, 3) := by decide +kernel
theorem dX7_put_8 : decode cX7_put 8 = .ok (.iload_n 1, 1) := by decide +kernel
theorem dX7_put_9 : decode cX7_put 9 = .ok (.iload_n 3, 1) := by decide +kernel
theorem dX7_put_10 : decode cX7_put 10 = .ok (.iastore, 1) := by decide +kernel
theorem dX7_put_11 : decode cX7_put 11 = .ok (.goto 10, 3) := by decide +kernel
theorem w_4_151 : (Cond.code yX7_put cX7_put 4 none) ∈ wsL_law := sk_mem (ck_4 _ (List.mem_of_getElem? (i := 151) rfl)) rfl
set_option maxHeartbeats 4000000 in
set_option maxRecDepth 100000 in
theorem c_State_put (l : Launch) (D : va_G) (cI cJ cC cZ cS : ClassId) (h0 : Nat) (k1 : Nat) (k2 : Nat) (dy : Nat) (mo : Nat) (wk : Int32) (mu : Int32) (ke : Int32) (fb : Nat → Int32) (fw : Nat → Int32) (d : Nat) (w : Int32) (o : Int32) (hd : d < 9) : skM l yX7_put cX7_put 4 none 0 0 0 0 D (skT cI cJ cC cZ cS) [.ref h0, .int (nI d), .int w, .int o] [(h0, .inr (7, [.ref k1, .ref k2, .int (nI dy), .int wk, .int (nI mo), .int mu, .int ke])), (k1, .inl (cI, 9, .inl fb)), (k2, .inl (cI, 9, .inl fw))] (skV D (skT cI cJ cC cZ cS) (fun (u : va_W) => ∃ (g1 : Nat → Int32), ∃ (g2 : Nat → Int32), u = [(h0, .inr (7, [.ref k1, .ref k2, .int (nI dy), .int wk, .int (nI mo), .int mu, .int ke])), (k1, .inl (cI, 9, .inl g1)), (k2, .inl (cI, 9, .inl g2))])) := by
  refine skM_of (by decide +kernel) (Nat.le_of_ble_eq_true rfl) ?_
  intro p e s m below meth c A ls E hP hD hl
  obtain ⟨hx, hb, hr, hml, hlocks, hin, hown, hts, hK, hA⟩ := E
  have hown : s.vm.findClass RX7 = some m.cls := hown
  have hS : va_S A s.heap s.heap [] := va_S.rf
  have hl : lv_has ls 4 [(0, .ref h0), (1, .int (nI d)), (2, .int w), (3, .int o)] := hl
  refine lv_iload_n hx hb dX7_put_0 rfl (lv_at hl 2 rfl) ?_
  refine lv_if_ne (tgt := 14) hx hb dX7_put_1 (by decide) (fun c_1 => ?_) (fun c_1 => ?_)
  · skip
    refine lv_aload_n hx hb dX7_put_14 rfl (lv_at hl 0 rfl) ?_
    refine sk_get (v := .ref k2) (C := RX7) (T := TX7) (N := 7) hx hb hts inlX7 hown hK hP 0 rfl rfl 1 (by decide) w_1_234 rfl dX7_put_15 ?_
    refine lv_iload_n hx hb dX7_put_18 rfl (lv_at hl 1 rfl) ?_
    refine lv_iload_n hx hb dX7_put_19 rfl (lv_at hl 3 rfl) ?_
    refine sk_iastO (ws' := fun f_2 => [(h0, .inr (7, [.ref k1, .ref k2, .int (nI dy), .int wk, .int (nI mo), .int mu, .int ke])), (k1, .inl (cI, 9, .inl fb)), (k2, .inl (cI, 9, .inl f_2))]) hx hb hK hP hD hS 2 0 rfl rfl (vin d 9 (by omega) (by omega)) (fun _ => rfl) dX7_put_20 (fun f_2 H locs hP hD hS => ?_)
    exact sk_vret hx hb hr hlocks hK hP hD hS (⟨fb, f_2, rfl⟩) (Nat.le_of_ble_eq_true rfl) (Nat.le_of_ble_eq_true rfl) dX7_put_21
  · skip
    refine lv_aload_n hx hb dX7_put_4 rfl (lv_at hl 0 rfl) ?_
    refine sk_get (v := .ref k1) (C := RX7) (T := TX7) (N := 7) hx hb hts inlX7 hown hK hP 0 rfl rfl 0 (by decide) w_1_230 rfl dX7_put_5 ?_
    refine lv_iload_n hx hb dX7_put_8 rfl (lv_at hl 1 rfl) ?_
    refine lv_iload_n hx hb dX7_put_9 rfl (lv_at hl 3 rfl) ?_
    refine sk_iastO (ws' := fun f_3 => [(h0, .inr (7, [.ref k1, .ref k2, .int (nI dy), .int wk, .int (nI mo), .int mu, .int ke])), (k1, .inl (cI, 9, .inl f_3)), (k2, .inl (cI, 9, .inl fw))]) hx hb hK hP hD hS 1 0 rfl rfl (vin d 9 (by omega) (by omega)) (fun _ => rfl) dX7_put_10 (fun f_3 H locs hP hD hS => ?_)
    refine lv_goto (tgt := 21) hx hb dX7_put_11 (by decide) ?_
    exact sk_vret hx hb hr hlocks hK hP hD hS (⟨f_3, fw, rfl⟩) (Nat.le_of_ble_eq_true rfl) (Nat.le_of_ble_eq_true rfl) dX7_put_21
theorem dJ7_fill_53178_0 : decode cJ7_fill_53178 0 = .ok (.iconst 0, 1) := by decide +kernel
theorem dJ7_fill_53178_1 : decode cJ7_fill_53178 1 = .ok (.istore_n 2, 1) := by decide +kernel
theorem dJ7_fill_53178_2 : decode cJ7_fill_53178 2 = .ok (.aload_n 0, 1) := by decide +kernel
theorem dJ7_fill_53178_3 : decode cJ7_fill_53178 3 = .ok (.arraylength, 1) := by decide +kernel
theorem dJ7_fill_53178_4 : decode cJ7_fill_53178 4 = .ok (.istore_n 3, 1) := by decide +kernel
theorem dJ7_fill_53178_5 : decode cJ7_fill_53178 5 = .ok (.iload_n 2, 1) := by decide +kernel
theorem dJ7_fill_53178_6 : decode cJ7_fill_53178 6 = .ok (.iload_n 3, 1) := by decide +kernel
theorem dJ7_fill_53178_7 : decode cJ7_fill_53178 7 = .ok (.if_icmp .ge 13, 3) := by decide +kernel
theorem dJ7_fill_53178_20 : decode cJ7_fill_53178 20 = .ok (.return_, 1) := by decide +kernel
theorem dJ7_fill_53178_10 : decode cJ7_fill_53178 10 = .ok (.aload_n 0, 1) := by decide +kernel
theorem dJ7_fill_53178_11 : decode cJ7_fill_53178 11 = .ok (.iload_n 2, 1) := by decide +kernel
theorem dJ7_fill_53178_12 : decode cJ7_fill_53178 12 = .ok (.iload_n 1, 1) := by decide +kernel
theorem dJ7_fill_53178_13 : decode cJ7_fill_53178 13 = .ok (.iastore, 1) := by decide +kernel
theorem dJ7_fill_53178_14 : decode cJ7_fill_53178 14 = .ok (.iinc 2 1, 3) := by decide +kernel
theorem dJ7_fill_53178_17 : decode cJ7_fill_53178 17 = .ok (.goto (-12), 3) := by decide +kernel
theorem w_2_220 : (Cond.code yJ7_fill_53178 cJ7_fill_53178 4 none) ∈ wsL_law := sk_mem (ck_2 _ (List.mem_of_getElem? (i := 220) rfl)) rfl
set_option maxHeartbeats 4000000 in
set_option maxRecDepth 100000 in
theorem c_fill (l : Launch) (D : va_G) (cI cJ cC cZ cS : ClassId) (ar : Nat) (n : Nat) (f : Nat → Int32) (v : Int32) (hn : n < 2147483648) : skM l yJ7_fill_53178 cJ7_fill_53178 4 none 0 0 0 0 D (skT cI cJ cC cZ cS) [.ref ar, .int v] [(ar, .inl (cI, n, .inl f))] (skV D (skT cI cJ cC cZ cS) (fun (u : va_W) => ∃ (g : Nat → Int32), u = [(ar, .inl (cI, n, .inl g))])) := by
  refine skM_of (by decide +kernel) (Nat.le_of_ble_eq_true rfl) ?_
  intro p e s m below meth c A ls E hP hD hl
  obtain ⟨hx, hb, hr, hml, hlocks, hin, hown, hts, hK, hA⟩ := E
  have hown : s.vm.findClass RJ7 = some m.cls := hown
  have hS : va_S A s.heap s.heap [] := va_S.rf
  have hl : lv_has ls 4 [(0, .ref ar), (1, .int v)] := hl
  refine lv_iconst (v := 0) hx hb dJ7_fill_53178_0 (by decide) ?_
  refine lv_istore_n (lv' := [(2, .int 0), (0, .ref ar), (1, .int v)]) hx hb dJ7_fill_53178_1 rfl hl (by decide) rfl (fun ls hl => ?_)
  refine lv_aload_n hx hb dJ7_fill_53178_2 rfl (lv_at hl 1 rfl) ?_
  refine va_alen (v := nI n) hx hb hK.1 hP 0 0 rfl rfl rfl dJ7_fill_53178_3 ?_
  refine lv_istore_n (lv' := [(3, .int (nI n)), (2, .int 0), (0, .ref ar), (1, .int v)]) hx hb dJ7_fill_53178_4 rfl hl (by decide) rfl (fun ls hl => ?_)
  have lp_1 : ∀ (n_2 : Nat) (i : Nat) (fi : Nat → Int32) (H : Heap) (locs : List Loc) (ls : Array Slot), n - i < n_2 → (i ≤ n) → va_P D vwCl [(ar, .inl (cI, n, .inl fi))] H → va_D A [(ar, .inl (cI, n, .inl fi))] → va_S A s.heap H locs → lv_has ls 4 [(3, .int (nI n)), (2, .int (nI i)), (0, .ref ar), (1, .int v)] → W p l e { frames := 0, cells := 0, slots := 0, locals := 0 } s m ([.ref ar, .int v] : List Value).toArray below meth c H locs 0 0 (MQ below (skV D (skT cI cJ cC cZ cS) (fun (u : va_W) => ∃ (g : Nat → Int32), u = [(ar, .inl (cI, n, .inl g))]) A) ([.ref ar, .int v] : List Value).toArray s 0 0 A) (F0 m 5 ls []) := by
    intro n_2
    induction n_2 with
    | zero => intro i fi H locs ls hm; exact absurd hm (Nat.not_lt_zero _)
    | succ n_2 ih_lp_1 =>
      intro i fi H locs ls hm hi hP hD hS hl
      refine lv_iload_n hx hb dJ7_fill_53178_5 rfl (lv_at hl 1 rfl) ?_
      refine lv_iload_n hx hb dJ7_fill_53178_6 rfl (lv_at hl 0 rfl) ?_
      refine lv_icmp_ge (tgt := 20) hx hb dJ7_fill_53178_7 (by decide) (fun c_3 => ?_) (fun c_3 => ?_)
      · have c_3 : n ≤ i := (nle n i (by omega) (by omega)).mp c_3
        exact sk_vret hx hb hr hlocks hK hP hD hS (⟨fi, rfl⟩) (Nat.le_of_ble_eq_true rfl) (Nat.le_of_ble_eq_true rfl) dJ7_fill_53178_20
      · have c_3 : ¬ (n ≤ i) := fun h => c_3 ((nle n i (by omega) (by omega)).mpr h)
        refine lv_aload_n hx hb dJ7_fill_53178_10 rfl (lv_at hl 2 rfl) ?_
        refine lv_iload_n hx hb dJ7_fill_53178_11 rfl (lv_at hl 1 rfl) ?_
        refine lv_iload_n hx hb dJ7_fill_53178_12 rfl (lv_at hl 3 rfl) ?_
        refine sk_iastO (ws' := fun f_4 => [(ar, .inl (cI, n, .inl f_4))]) hx hb hK hP hD hS 0 0 rfl rfl (vin i n (by omega) (by omega)) (fun _ => rfl) dJ7_fill_53178_13 (fun f_4 H locs hP hD hS => ?_)
        refine lv_iinc (v := nI (i + 1)) (lv' := [(2, .int (nI (i + 1))), (3, .int (nI n)), (0, .ref ar), (1, .int v)]) hx hb dJ7_fill_53178_14 hl (k := 1) rfl (ninc i 1 (by decide)) (by decide) rfl (fun ls hl => ?_)
        refine lv_goto (tgt := 5) hx hb dJ7_fill_53178_17 (by decide) ?_
        exact ih_lp_1 (i + 1) f_4 _ _ _ (by omega) (by omega) hP hD hS (lv_sub hl [1, 0, 2, 3] rfl)
  exact lp_1 (n - 0 + 1) 0 f _ _ _ (Nat.lt_succ_self _) (by omega) hP hD hS (lv_sub hl [0, 1, 2, 3] rfl)
theorem dJ7_fill_d0a16_0 : decode cJ7_fill_d0a16 0 = .ok (.iconst 0, 1) := by decide +kernel
theorem dJ7_fill_d0a16_1 : decode cJ7_fill_d0a16 1 = .ok (.istore_n 3, 1) := by decide +kernel
theorem dJ7_fill_d0a16_2 : decode cJ7_fill_d0a16 2 = .ok (.aload_n 0, 1) := by decide +kernel
theorem dJ7_fill_d0a16_3 : decode cJ7_fill_d0a16 3 = .ok (.arraylength, 1) := by decide +kernel
theorem dJ7_fill_d0a16_4 : decode cJ7_fill_d0a16 4 = .ok (.istore 4, 2) := by decide +kernel
theorem dJ7_fill_d0a16_6 : decode cJ7_fill_d0a16 6 = .ok (.iload_n 3, 1) := by decide +kernel
theorem dJ7_fill_d0a16_7 : decode cJ7_fill_d0a16 7 = .ok (.iload 4, 2) := by decide +kernel
theorem dJ7_fill_d0a16_9 : decode cJ7_fill_d0a16 9 = .ok (.if_icmp .ge 13, 3) := by decide +kernel
theorem dJ7_fill_d0a16_22 : decode cJ7_fill_d0a16 22 = .ok (.return_, 1) := by decide +kernel
theorem dJ7_fill_d0a16_12 : decode cJ7_fill_d0a16 12 = .ok (.aload_n 0, 1) := by decide +kernel
theorem dJ7_fill_d0a16_13 : decode cJ7_fill_d0a16 13 = .ok (.iload_n 3, 1) := by decide +kernel
theorem dJ7_fill_d0a16_14 : decode cJ7_fill_d0a16 14 = .ok (.lload_n 1, 1) := by decide +kernel
theorem dJ7_fill_d0a16_15 : decode cJ7_fill_d0a16 15 = .ok (.lastore, 1) := by decide +kernel
theorem dJ7_fill_d0a16_16 : decode cJ7_fill_d0a16 16 = .ok (.iinc 3 1, 3) := by decide +kernel
theorem dJ7_fill_d0a16_19 : decode cJ7_fill_d0a16 19 = .ok (.goto (-13), 3) := by decide +kernel
theorem w_4_87 : (Cond.code yJ7_fill_d0a16 cJ7_fill_d0a16 5 none) ∈ wsL_law := sk_mem (ck_4 _ (List.mem_of_getElem? (i := 87) rfl)) rfl
set_option maxHeartbeats 4000000 in
set_option maxRecDepth 100000 in
theorem c_fillL (l : Launch) (D : va_G) (cI cJ cC cZ cS : ClassId) (ar : Nat) (n : Nat) (f : Nat → Int64) (v : Int64) (hn : n < 2147483648) : skM l yJ7_fill_d0a16 cJ7_fill_d0a16 5 none 0 0 0 0 D (skT cI cJ cC cZ cS) [.ref ar, .long v] [(ar, .inl (cJ, n, .inr (.inl f)))] (skV D (skT cI cJ cC cZ cS) (fun (u : va_W) => ∃ (g : Nat → Int64), u = [(ar, .inl (cJ, n, .inr (.inl g)))])) := by
  refine skM_of (by decide +kernel) (Nat.le_of_ble_eq_true rfl) ?_
  intro p e s m below meth c A ls E hP hD hl
  obtain ⟨hx, hb, hr, hml, hlocks, hin, hown, hts, hK, hA⟩ := E
  have hown : s.vm.findClass RJ7 = some m.cls := hown
  have hS : va_S A s.heap s.heap [] := va_S.rf
  have hl : lv_has ls 5 [(0, .ref ar), (1, .long v)] := hl
  refine lv_iconst (v := 0) hx hb dJ7_fill_d0a16_0 (by decide) ?_
  refine lv_istore_n (lv' := [(3, .int 0), (0, .ref ar), (1, .long v)]) hx hb dJ7_fill_d0a16_1 rfl hl (by decide) rfl (fun ls hl => ?_)
  refine lv_aload_n hx hb dJ7_fill_d0a16_2 rfl (lv_at hl 1 rfl) ?_
  refine va_alen (v := nI n) hx hb hK.1 hP 0 1 rfl rfl rfl dJ7_fill_d0a16_3 ?_
  refine lv_istore (lv' := [(4, .int (nI n)), (3, .int 0), (0, .ref ar), (1, .long v)]) hx hb dJ7_fill_d0a16_4 hl (by decide) rfl (fun ls hl => ?_)
  have lp_1 : ∀ (n_2 : Nat) (i : Nat) (fi : Nat → Int64) (H : Heap) (locs : List Loc) (ls : Array Slot), n - i < n_2 → (i ≤ n) → va_P D vwCl [(ar, .inl (cJ, n, .inr (.inl fi)))] H → va_D A [(ar, .inl (cJ, n, .inr (.inl fi)))] → va_S A s.heap H locs → lv_has ls 5 [(4, .int (nI n)), (3, .int (nI i)), (0, .ref ar), (1, .long v)] → W p l e { frames := 0, cells := 0, slots := 0, locals := 0 } s m ([.ref ar, .long v] : List Value).toArray below meth c H locs 0 0 (MQ below (skV D (skT cI cJ cC cZ cS) (fun (u : va_W) => ∃ (g : Nat → Int64), u = [(ar, .inl (cJ, n, .inr (.inl g)))]) A) ([.ref ar, .long v] : List Value).toArray s 0 0 A) (F0 m 6 ls []) := by
    intro n_2
    induction n_2 with
    | zero => intro i fi H locs ls hm; exact absurd hm (Nat.not_lt_zero _)
    | succ n_2 ih_lp_1 =>
      intro i fi H locs ls hm hi hP hD hS hl
      refine lv_iload_n hx hb dJ7_fill_d0a16_6 rfl (lv_at hl 1 rfl) ?_
      refine lv_iload hx hb dJ7_fill_d0a16_7 (lv_at hl 0 rfl) ?_
      refine lv_icmp_ge (tgt := 22) hx hb dJ7_fill_d0a16_9 (by decide) (fun c_3 => ?_) (fun c_3 => ?_)
      · have c_3 : n ≤ i := (nle n i (by omega) (by omega)).mp c_3
        exact sk_vret hx hb hr hlocks hK hP hD hS (⟨fi, rfl⟩) (Nat.le_of_ble_eq_true rfl) (Nat.le_of_ble_eq_true rfl) dJ7_fill_d0a16_22
      · have c_3 : ¬ (n ≤ i) := fun h => c_3 ((nle n i (by omega) (by omega)).mpr h)
        refine lv_aload_n hx hb dJ7_fill_d0a16_12 rfl (lv_at hl 2 rfl) ?_
        refine lv_iload_n hx hb dJ7_fill_d0a16_13 rfl (lv_at hl 1 rfl) ?_
        refine lv_lload_n hx hb dJ7_fill_d0a16_14 rfl (lv_at hl 3 rfl) ?_
        refine sk_lastO (ws' := fun f_4 => [(ar, .inl (cJ, n, .inr (.inl f_4)))]) hx hb hK hP hD hS 0 1 rfl rfl (vin i n (by omega) (by omega)) (fun _ => rfl) dJ7_fill_d0a16_15 (fun f_4 H locs hP hD hS => ?_)
        refine lv_iinc (v := nI (i + 1)) (lv' := [(3, .int (nI (i + 1))), (4, .int (nI n)), (0, .ref ar), (1, .long v)]) hx hb dJ7_fill_d0a16_16 hl (k := 1) rfl (ninc i 1 (by decide)) (by decide) rfl (fun ls hl => ?_)
        refine lv_goto (tgt := 6) hx hb dJ7_fill_d0a16_19 (by decide) ?_
        exact ih_lp_1 (i + 1) f_4 _ _ _ (by omega) (by omega) hP hD hS (lv_sub hl [1, 0, 2, 3] rfl)
  exact lp_1 (n - 0 + 1) 0 f _ _ _ (Nat.lt_succ_self _) (by omega) hP hD hS (lv_sub hl [0, 1, 2, 3] rfl)
