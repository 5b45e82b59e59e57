set_option maxHeartbeats 4000000 in
set_option maxRecDepth 100000 in
theorem c_kx_isDay (l : Launch) (D : va_G) (cI cJ cC cZ cS : ClassId) (x0 : Nat) (q : Nat → Nat) (hc : Int32) (dr : Int64) (dy : Nat) (wn : Nat) (mo : Nat) (ke : Nat) (mu : Int32) (fb : Nat → Int32) (fw : Nat → Int32) (d : Int32) (hdy : dy ≤ 9) : skM l yX11_isDay cX11_isDay 2 (some .boolean) 0 0 0 0 D (skT cI cJ cC cZ cS) [.ref x0, .int d] [(x0, .inr (11, [.ref (q 0), .ref (q 1), .ref (q 2), .ref (q 3), .ref (q 4), .ref (q 5), .ref (q 6), .ref (q 7), .ref (q 8), .ref (q 9), .ref (q 10), .ref (q 11), .ref (q 12), .ref (q 13), .ref (q 14), .int hc, .ref (q 16), .long dr])), (q 7, .inr (7, [.ref (q 33), .ref (q 34), .int (nI dy), .int (nI wn), .int (nI mo), .int mu, .int (nI ke)]))] (skI D (skT cI cJ cC cZ cS) (fun (r : Int32) (u : va_W) => ∃ (b : Nat), ((b = 0 ∧ ¬ kIn d dy) ∨ (b = 1 ∧ kIn d dy)) ∧ r = nI b ∧ u = [(x0, .inr (11, [.ref (q 0), .ref (q 1), .ref (q 2), .ref (q 3), .ref (q 4), .ref (q 5), .ref (q 6), .ref (q 7), .ref (q 8), .ref (q 9), .ref (q 10), .ref (q 11), .ref (q 12), .ref (q 13), .ref (q 14), .int hc, .ref (q 16), .long dr])), (q 7, .inr (7, [.ref (q 33), .ref (q 34), .int (nI dy), .int (nI wn), .int (nI mo), .int mu, .int (nI ke)]))])) := by
  refine skM_of pf_X11_isDay (Nat.le_of_ble_eq_true rfl) ?_
  intro p e s m below meth c A ls E hP hD hl
  refine skE_el E (fun hx hb hr hml hlocks hin hown hts hK hA => ?_)
  have hown : s.vm.findClass RX11 = some m.cls := hown
  have hS : va_S A s.heap s.heap [] := va_S.rf
  have hl : lv_has ls 2 [(0, .ref x0), (1, .int d)] := hl
  refine lv_iload_n hx hb dX11_isDay_0 rfl (lv_at hl 1 rfl) ?_
  refine lv_if_lt (tgt := 19) hx hb dX11_isDay_1 (by decide) (fun c_1 => ?_) (fun c_1 => ?_)
  · skip
    refine lv_iconst (v := 0) hx hb dX11_isDay_19 (by decide) ?_
    exact sk_iret hx hb hr rfl hlocks hK hP hD hS (⟨0, Or.inl ⟨rfl, kIn_neg c_1 (by omega)⟩, rfl, rfl⟩) (Nat.le_of_ble_eq_true rfl) (Nat.le_of_ble_eq_true rfl) dX11_isDay_20
  · obtain ⟨k_2, hk_2, rfl⟩ := nof d c_1
    refine lv_iload_n hx hb dX11_isDay_4 rfl (lv_at hl 1 rfl) ?_
    refine lv_aload_n hx hb dX11_isDay_5 rfl (lv_at hl 0 rfl) ?_
    refine sk_get (v := .ref (q 7)) (C := RX11) (T := TX11) (N := 18) hx hb hts inlX11 hown hK hP 0 rfl rfl 7 (by decide) w_2_130 rfl dX11_isDay_6 ?_
    refine sk_get (v := .int (nI dy)) (C := RX7) (T := TX7) (N := 7) hx hb hts inlX7 hown hK hP 1 rfl rfl 2 (by decide) w_2_1 rfl dX11_isDay_9 ?_
    refine lv_icmp_ge (tgt := 19) hx hb dX11_isDay_12 (by decide) (fun c_3 => ?_) (fun c_3 => ?_)
    · have c_3 : dy ≤ k_2 := (nle dy k_2 (by omega) (by omega)).mp c_3
      refine lv_iconst (v := 0) hx hb dX11_isDay_19 (by decide) ?_
      exact sk_iret hx hb hr rfl hlocks hK hP hD hS (⟨0, Or.inl ⟨rfl, kIn_ge (by omega) (by omega)⟩, rfl, rfl⟩) (Nat.le_of_ble_eq_true rfl) (Nat.le_of_ble_eq_true rfl) dX11_isDay_20
    · have c_3 : ¬ (dy ≤ k_2) := fun h => c_3 ((nle dy k_2 (by omega) (by omega)).mpr h)
      refine lv_iconst (v := 1) hx hb dX11_isDay_15 (by decide) ?_
      refine lv_goto (tgt := 20) hx hb dX11_isDay_16 (by decide) ?_
      exact sk_iret hx hb hr rfl hlocks hK hP hD hS (⟨1, Or.inr ⟨rfl, k_2, by omega, rfl⟩, rfl, rfl⟩) (Nat.le_of_ble_eq_true rfl) (Nat.le_of_ble_eq_true rfl) dX11_isDay_20
set_option maxHeartbeats 4000000 in
set_option maxRecDepth 100000 in
theorem c_kx_isDigit (l : Launch) (D : va_G) (cI cJ cC cZ cS : ClassId) (d : Int32)  : skM l yX11_isDigit cX11_isDigit 1 (some .boolean) 0 0 0 0 D (skT cI cJ cC cZ cS) [.int d] [] (skI D (skT cI cJ cC cZ cS) (fun (r : Int32) (u : va_W) => ∃ (b : Nat), ((b = 0 ∧ ¬ kIn d 10) ∨ (b = 1 ∧ kIn d 10)) ∧ r = nI b ∧ u = [])) := by
  refine skM_of pf_X11_isDigit (Nat.le_of_ble_eq_true rfl) ?_
  intro p e s m below meth c A ls E hP hD hl
  refine skE_el E (fun hx hb hr hml hlocks hin hown hts hK hA => ?_)
  have hown : s.vm.findClass RX11 = some m.cls := hown
  have hS : va_S A s.heap s.heap [] := va_S.rf
  have hl : lv_has ls 1 [(0, .int d)] := hl
  refine lv_iload_n hx hb dX11_isDigit_0 rfl (lv_at hl 0 rfl) ?_
  refine lv_if_lt (tgt := 14) hx hb dX11_isDigit_1 (by decide) (fun c_1 => ?_) (fun c_1 => ?_)
  · skip
    refine lv_iconst (v := 0) hx hb dX11_isDigit_14 (by decide) ?_
    exact sk_iret hx hb hr rfl hlocks hK hP hD hS (⟨0, Or.inl ⟨rfl, kIn_neg c_1 (by omega)⟩, rfl, rfl⟩) (Nat.le_of_ble_eq_true rfl) (Nat.le_of_ble_eq_true rfl) dX11_isDigit_15
  · obtain ⟨k_2, hk_2, rfl⟩ := nof d c_1
    refine lv_iload_n hx hb dX11_isDigit_4 rfl (lv_at hl 0 rfl) ?_
    refine lv_bipush (v := 10) hx hb dX11_isDigit_5 (by decide) ?_
    refine lv_icmp_ge (tgt := 14) hx hb dX11_isDigit_7 (by decide) (fun c_3 => ?_) (fun c_3 => ?_)
    · have c_3 : 10 ≤ k_2 := (nle 10 k_2 (by omega) (by omega)).mp c_3
      refine lv_iconst (v := 0) hx hb dX11_isDigit_14 (by decide) ?_
      exact sk_iret hx hb hr rfl hlocks hK hP hD hS (⟨0, Or.inl ⟨rfl, kIn_ge (by omega) (by omega)⟩, rfl, rfl⟩) (Nat.le_of_ble_eq_true rfl) (Nat.le_of_ble_eq_true rfl) dX11_isDigit_15
    · have c_3 : ¬ (10 ≤ k_2) := fun h => c_3 ((nle 10 k_2 (by omega) (by omega)).mpr h)
      refine lv_iconst (v := 1) hx hb dX11_isDigit_10 (by decide) ?_
      refine lv_goto (tgt := 15) hx hb dX11_isDigit_11 (by decide) ?_
      exact sk_iret hx hb hr rfl hlocks hK hP hD hS (⟨1, Or.inr ⟨rfl, k_2, by omega, rfl⟩, rfl, rfl⟩) (Nat.le_of_ble_eq_true rfl) (Nat.le_of_ble_eq_true rfl) dX11_isDigit_15
theorem dg_X11_isLocked_0_0 : bqL cX11_isLocked 0 [(0, [42]), (1, [180, 0, 59]), (4, [180, 0, 144]), (7, [158, 0, 7]), (14, [3]), (15, [172]), (10, [4]), (11, [167, 0, 4])] = true := by decide +kernel
theorem dX11_isLocked_0 : decode cX11_isLocked 0 = .ok (.aload_n 0, 1) := q_aload_n0 (bat_get dg_X11_isLocked_0_0 0 rfl rfl)
theorem dX11_isLocked_1 : decode cX11_isLocked 1 = .ok (.getfield 59, 3) := q_getfield (bat_get dg_X11_isLocked_0_0 1 rfl rfl) rfl
theorem dX11_isLocked_4 : decode cX11_isLocked 4 = .ok (.getfield 144, 3) := q_getfield (bat_get dg_X11_isLocked_0_0 2 rfl rfl) rfl
theorem dX11_isLocked_7 : decode cX11_isLocked 7 = .ok (.ifCond .le 7, 3) := q_ifCond_le (bat_get dg_X11_isLocked_0_0 3 rfl rfl) rfl
theorem dX11_isLocked_14 : decode cX11_isLocked 14 = .ok (.iconst 0, 1) := q_iconst0 (bat_get dg_X11_isLocked_0_0 4 rfl rfl)
theorem dX11_isLocked_15 : decode cX11_isLocked 15 = .ok (.ireturn, 1) := q_ireturn (bat_get dg_X11_isLocked_0_0 5 rfl rfl)
theorem dX11_isLocked_10 : decode cX11_isLocked 10 = .ok (.iconst 1, 1) := q_iconst1 (bat_get dg_X11_isLocked_0_0 6 rfl rfl)
theorem dX11_isLocked_11 : decode cX11_isLocked 11 = .ok (.goto 4, 3) := q_goto (bat_get dg_X11_isLocked_0_0 7 rfl rfl) rfl
theorem w_4_42 : (Cond.code yX11_isLocked cX11_isLocked 1 (some .boolean)) ∈ wsL_law := sk_mem (ck_4 _ (List.mem_of_getElem? (i := 42) rfl)) rfl
set_option maxHeartbeats 4000000 in
set_option maxRecDepth 100000 in
theorem c_kx_isLocked (l : Launch) (D : va_G) (cI cJ cC cZ cS : ClassId) (x0 : Nat) (q : Nat → Nat) (hc : Int32) (dr : Int64) (dy : Nat) (wn : Nat) (mo : Nat) (ke : Nat) (mu : Int32) (fb : Nat → Int32) (fw : Nat → Int32) (hdy : dy ≤ 9) : skM l yX11_isLocked cX11_isLocked 1 (some .boolean) 0 0 0 0 D (skT cI cJ cC cZ cS) [.ref x0] [(x0, .inr (11, [.ref (q 0), .ref (q 1), .ref (q 2), .ref (q 3), .ref (q 4), .ref (q 5), .ref (q 6), .ref (q 7), .ref (q 8), .ref (q 9), .ref (q 10), .ref (q 11), .ref (q 12), .ref (q 13), .ref (q 14), .int hc, .ref (q 16), .long dr])), (q 7, .inr (7, [.ref (q 33), .ref (q 34), .int (nI dy), .int (nI wn), .int (nI mo), .int mu, .int (nI ke)]))] (skI D (skT cI cJ cC cZ cS) (fun (r : Int32) (u : va_W) => ∃ (b : Nat), ((b = 0 ∧ dy = 0) ∨ (b = 1 ∧ 1 ≤ dy)) ∧ r = nI b ∧ u = [(x0, .inr (11, [.ref (q 0), .ref (q 1), .ref (q 2), .ref (q 3), .ref (q 4), .ref (q 5), .ref (q 6), .ref (q 7), .ref (q 8), .ref (q 9), .ref (q 10), .ref (q 11), .ref (q 12), .ref (q 13), .ref (q 14), .int hc, .ref (q 16), .long dr])), (q 7, .inr (7, [.ref (q 33), .ref (q 34), .int (nI dy), .int (nI wn), .int (nI mo), .int mu, .int (nI ke)]))])) := by
  refine skM_of pf_X11_isLocked (Nat.le_of_ble_eq_true rfl) ?_
  intro p e s m below meth c A ls E hP hD hl
  refine skE_el E (fun hx hb hr hml hlocks hin hown hts hK hA => ?_)
  have hown : s.vm.findClass RX11 = some m.cls := hown
  have hS : va_S A s.heap s.heap [] := va_S.rf
  have hl : lv_has ls 1 [(0, .ref x0)] := hl
  refine lv_aload_n hx hb dX11_isLocked_0 rfl (lv_at hl 0 rfl) ?_
  refine sk_get (v := .ref (q 7)) (C := RX11) (T := TX11) (N := 18) hx hb hts inlX11 hown hK hP 0 rfl rfl 7 (by decide) w_2_130 rfl dX11_isLocked_1 ?_
  refine sk_get (v := .int (nI dy)) (C := RX7) (T := TX7) (N := 7) hx hb hts inlX7 hown hK hP 1 rfl rfl 2 (by decide) w_2_1 rfl dX11_isLocked_4 ?_
  refine lv_if_le (tgt := 14) hx hb dX11_isLocked_7 (by decide) (fun c_1 => ?_) (fun c_1 => ?_)
  · have c_1 : dy ≤ 0 := (nle dy 0 (by omega) (by omega)).mp c_1
    refine lv_iconst (v := 0) hx hb dX11_isLocked_14 (by decide) ?_
    exact sk_iret hx hb hr rfl hlocks hK hP hD hS (⟨0, by omega, rfl, rfl⟩) (Nat.le_of_ble_eq_true rfl) (Nat.le_of_ble_eq_true rfl) dX11_isLocked_15
  · have c_1 : ¬ (dy ≤ 0) := fun h => c_1 ((nle dy 0 (by omega) (by omega)).mpr h)
    refine lv_iconst (v := 1) hx hb dX11_isLocked_10 (by decide) ?_
    refine lv_goto (tgt := 15) hx hb dX11_isLocked_11 (by decide) ?_
    exact sk_iret hx hb hr rfl hlocks hK hP hD hS (⟨1, by omega, rfl, rfl⟩) (Nat.le_of_ble_eq_true rfl) (Nat.le_of_ble_eq_true rfl) dX11_isLocked_15
theorem dg_X11_refuse_0_0 : bqL cX11_refuse 0 [(0, [42]), (1, [180, 0, 103]), (4, [27]), (5, [92]), (6, [46]), (7, [4]), (8, [96]), (9, [79]), (10, [2]), (11, [172])] = true := by decide +kernel
theorem dX11_refuse_0 : decode cX11_refuse 0 = .ok (.aload_n 0, 1) := q_aload_n0 (bat_get dg_X11_refuse_0_0 0 rfl rfl)
theorem dX11_refuse_1 : decode cX11_refuse 1 = .ok (.getfield 103, 3) := q_getfield (bat_get dg_X11_refuse_0_0 1 rfl rfl) rfl
theorem dX11_refuse_4 : decode cX11_refuse 4 = .ok (.iload_n 1, 1) := q_iload_n1 (bat_get dg_X11_refuse_0_0 2 rfl rfl)
theorem dX11_refuse_5 : decode cX11_refuse 5 = .ok (.dup2, 1) := q_dup2 (bat_get dg_X11_refuse_0_0 3 rfl rfl)
theorem dX11_refuse_6 : decode cX11_refuse 6 = .ok (.iaload, 1) := q_iaload (bat_get dg_X11_refuse_0_0 4 rfl rfl)
theorem dX11_refuse_7 : decode cX11_refuse 7 = .ok (.iconst 1, 1) := q_iconst1 (bat_get dg_X11_refuse_0_0 5 rfl rfl)
theorem dX11_refuse_8 : decode cX11_refuse 8 = .ok (.iadd, 1) := q_iadd (bat_get dg_X11_refuse_0_0 6 rfl rfl)
theorem dX11_refuse_9 : decode cX11_refuse 9 = .ok (.iastore, 1) := q_iastore (bat_get dg_X11_refuse_0_0 7 rfl rfl)
theorem dX11_refuse_10 : decode cX11_refuse 10 = .ok (.iconst (-1), 1) := q_iconstm1 (bat_get dg_X11_refuse_0_0 8 rfl rfl)
theorem dX11_refuse_11 : decode cX11_refuse 11 = .ok (.ireturn, 1) := q_ireturn (bat_get dg_X11_refuse_0_0 9 rfl rfl)
theorem w_2_139 : (Cond.fieldLink RX11 103 "SameKeeper" "refused" "[I") ∈ wsL_law := sk_mem (ck_2 _ (List.mem_of_getElem? (i := 139) rfl)) rfl
theorem w_2_185 : (Cond.code yX11_refuse cX11_refuse 2 (some .int)) ∈ wsL_law := sk_mem (ck_2 _ (List.mem_of_getElem? (i := 185) rfl)) rfl
set_option maxHeartbeats 4000000 in
set_option maxRecDepth 100000 in
theorem c_kx_refuse (l : Launch) (D : va_G) (cI cJ cC cZ cS : ClassId) (x0 : Nat) (q : Nat → Nat) (hc : Int32) (dr : Int64) (w : Nat) (rf : Nat → Int32) (hw : w < 6) : skM l yX11_refuse cX11_refuse 2 (some .int) 0 0 0 0 D (skT cI cJ cC cZ cS) [.ref x0, .int (nI w)] [(x0, .inr (11, [.ref (q 0), .ref (q 1), .ref (q 2), .ref (q 3), .ref (q 4), .ref (q 5), .ref (q 6), .ref (q 7), .ref (q 8), .ref (q 9), .ref (q 10), .ref (q 11), .ref (q 12), .ref (q 13), .ref (q 14), .int hc, .ref (q 16), .long dr])), (q 16, .inl (cI, 6, .inl rf))] (skI D (skT cI cJ cC cZ cS) (fun (r : Int32) (u : va_W) => ∃ (rf2 : Nat → Int32), rf2 = upd rf w (rf w + 1) ∧ r = (-1) ∧ u = [(x0, .inr (11, [.ref (q 0), .ref (q 1), .ref (q 2), .ref (q 3), .ref (q 4), .ref (q 5), .ref (q 6), .ref (q 7), .ref (q 8), .ref (q 9), .ref (q 10), .ref (q 11), .ref (q 12), .ref (q 13), .ref (q 14), .int hc, .ref (q 16), .long dr])), (q 16, .inl (cI, 6, .inl rf2))])) := by
  refine skM_of pf_X11_refuse (Nat.le_of_ble_eq_true rfl) ?_
  intro p e s m below meth c A ls E hP hD hl
  refine skE_el E (fun hx hb hr hml hlocks hin hown hts hK hA => ?_)
  have hown : s.vm.findClass RX11 = some m.cls := hown
  have hS : va_S A s.heap s.heap [] := va_S.rf
  have hl : lv_has ls 2 [(0, .ref x0), (1, .int (nI w))] := hl
  refine lv_aload_n hx hb dX11_refuse_0 rfl (lv_at hl 0 rfl) ?_
  refine sk_get (v := .ref (q 16)) (C := RX11) (T := TX11) (N := 18) hx hb hts inlX11 hown hK hP 0 rfl rfl 16 (by decide) w_2_139 rfl dX11_refuse_1 ?_
  refine lv_iload_n hx hb dX11_refuse_4 rfl (lv_at hl 1 rfl) ?_
  refine lv_dup2_11 hx hb dX11_refuse_5 rfl rfl ?_
  refine va_iald hx hb hK.1 hP 1 0 rfl rfl (vin w 6 (by omega) (by omega)) dX11_refuse_6 ?_
  refine sk_top (rf w) (by rw [nI_clamp (by omega)]) ?_
  refine lv_iconst (v := 1) hx hb dX11_refuse_7 (by decide) ?_
  refine lv_iadd hx hb dX11_refuse_8 ?_
  refine sk_iastE (k := w) (ws' := fun f_1 => [(x0, .inr (11, [.ref (q 0), .ref (q 1), .ref (q 2), .ref (q 3), .ref (q 4), .ref (q 5), .ref (q 6), .ref (q 7), .ref (q 8), .ref (q 9), .ref (q 10), .ref (q 11), .ref (q 12), .ref (q 13), .ref (q 14), .int hc, .ref (q 16), .long dr])), (q 16, .inl (cI, 6, .inl f_1))]) hx hb hK hP hD hS 1 0 rfl rfl (by omega) (by omega) (fun _ => rfl) dX11_refuse_9 (fun f_1 H locs ef_2 hP hD hS => ?_)
  refine lv_iconst (v := (-1)) hx hb dX11_refuse_10 (by decide) ?_
  exact sk_iret hx hb hr rfl hlocks hK hP hD hS (⟨f_1, ef_2, rfl, rfl⟩) (Nat.le_of_ble_eq_true rfl) (Nat.le_of_ble_eq_true rfl) dX11_refuse_11
theorem dg_X11_refuseIt_0_0 : bqL cX11_refuseIt 0 [(0, [42]), (1, [180, 0, 103]), (4, [27]), (5, [92]), (6, [46]), (7, [4]), (8, [96]), (9, [79]), (10, [3]), (11, [172])] = true := by decide +kernel
theorem dX11_refuseIt_0 : decode cX11_refuseIt 0 = .ok (.aload_n 0, 1) := q_aload_n0 (bat_get dg_X11_refuseIt_0_0 0 rfl rfl)
theorem dX11_refuseIt_1 : decode cX11_refuseIt 1 = .ok (.getfield 103, 3) := q_getfield (bat_get dg_X11_refuseIt_0_0 1 rfl rfl) rfl
theorem dX11_refuseIt_4 : decode cX11_refuseIt 4 = .ok (.iload_n 1, 1) := q_iload_n1 (bat_get dg_X11_refuseIt_0_0 2 rfl rfl)
theorem dX11_refuseIt_5 : decode cX11_refuseIt 5 = .ok (.dup2, 1) := q_dup2 (bat_get dg_X11_refuseIt_0_0 3 rfl rfl)
theorem dX11_refuseIt_6 : decode cX11_refuseIt 6 = .ok (.iaload, 1) := q_iaload (bat_get dg_X11_refuseIt_0_0 4 rfl rfl)
theorem dX11_refuseIt_7 : decode cX11_refuseIt 7 = .ok (.iconst 1, 1) := q_iconst1 (bat_get dg_X11_refuseIt_0_0 5 rfl rfl)
theorem dX11_refuseIt_8 : decode cX11_refuseIt 8 = .ok (.iadd, 1) := q_iadd (bat_get dg_X11_refuseIt_0_0 6 rfl rfl)
theorem dX11_refuseIt_9 : decode cX11_refuseIt 9 = .ok (.iastore, 1) := q_iastore (bat_get dg_X11_refuseIt_0_0 7 rfl rfl)
theorem dX11_refuseIt_10 : decode cX11_refuseIt 10 = .ok (.iconst 0, 1) := q_iconst0 (bat_get dg_X11_refuseIt_0_0 8 rfl rfl)
theorem dX11_refuseIt_11 : decode cX11_refuseIt 11 = .ok (.ireturn, 1) := q_ireturn (bat_get dg_X11_refuseIt_0_0 9 rfl rfl)
theorem w_2_201 : (Cond.code yX11_refuseIt cX11_refuseIt 2 (some .boolean)) ∈ wsL_law := sk_mem (ck_2 _ (List.mem_of_getElem? (i := 201) rfl)) rfl
set_option maxHeartbeats 4000000 in
set_option maxRecDepth 100000 in
theorem c_kx_refuseIt (l : Launch) (D : va_G) (cI cJ cC cZ cS : ClassId) (x0 : Nat) (q : Nat → Nat) (hc : Int32) (dr : Int64) (w : Nat) (rf : Nat → Int32) (hw : w < 6) : skM l yX11_refuseIt cX11_refuseIt 2 (some .boolean) 0 0 0 0 D (skT cI cJ cC cZ cS) [.ref x0, .int (nI w)] [(x0, .inr (11, [.ref (q 0), .ref (q 1), .ref (q 2), .ref (q 3), .ref (q 4), .ref (q 5), .ref (q 6), .ref (q 7), .ref (q 8), .ref (q 9), .ref (q 10), .ref (q 11), .ref (q 12), .ref (q 13), .ref (q 14), .int hc, .ref (q 16), .long dr])), (q 16, .inl (cI, 6, .inl rf))] (skI D (skT cI cJ cC cZ cS) (fun (r : Int32) (u : va_W) => ∃ (rf2 : Nat → Int32), rf2 = upd rf w (rf w + 1) ∧ r = 0 ∧ u = [(x0, .inr (11, [.ref (q 0), .ref (q 1), .ref (q 2), .ref (q 3), .ref (q 4), .ref (q 5), .ref (q 6), .ref (q 7), .ref (q 8), .ref (q 9), .ref (q 10), .ref (q 11), .ref (q 12), .ref (q 13), .ref (q 14), .int hc, .ref (q 16), .long dr])), (q 16, .inl (cI, 6, .inl rf2))])) := by
  refine skM_of pf_X11_refuseIt (Nat.le_of_ble_eq_true rfl) ?_
  intro p e s m below meth c A ls E hP hD hl
  refine skE_el E (fun hx hb hr hml hlocks hin hown hts hK hA => ?_)
  have hown : s.vm.findClass RX11 = some m.cls := hown
  have hS : va_S A s.heap s.heap [] := va_S.rf
  have hl : lv_has ls 2 [(0, .ref x0), (1, .int (nI w))] := hl
  refine lv_aload_n hx hb dX11_refuseIt_0 rfl (lv_at hl 0 rfl) ?_
  refine sk_get (v := .ref (q 16)) (C := RX11) (T := TX11) (N := 18) hx hb hts inlX11 hown hK hP 0 rfl rfl 16 (by decide) w_2_139 rfl dX11_refuseIt_1 ?_
  refine lv_iload_n hx hb dX11_refuseIt_4 rfl (lv_at hl 1 rfl) ?_
  refine lv_dup2_11 hx hb dX11_refuseIt_5 rfl rfl ?_
  refine va_iald hx hb hK.1 hP 1 0 rfl rfl (vin w 6 (by omega) (by omega)) dX11_refuseIt_6 ?_
  refine sk_top (rf w) (by rw [nI_clamp (by omega)]) ?_
  refine lv_iconst (v := 1) hx hb dX11_refuseIt_7 (by decide) ?_
  refine lv_iadd hx hb dX11_refuseIt_8 ?_
  refine sk_iastE (k := w) (ws' := fun f_1 => [(x0, .inr (11, [.ref (q 0), .ref (q 1), .ref (q 2), .ref (q 3), .ref (q 4), .ref (q 5), .ref (q 6), .ref (q 7), .ref (q 8), .ref (q 9), .ref (q 10), .ref (q 11), .ref (q 12), .ref (q 13), .ref (q 14), .int hc, .ref (q 16), .long dr])), (q 16, .inl (cI, 6, .inl f_1))]) hx hb hK hP hD hS 1 0 rfl rfl (by omega) (by omega) (fun _ => rfl) dX11_refuseIt_9 (fun f_1 H locs ef_2 hP hD hS => ?_)
  refine lv_iconst (v := 0) hx hb dX11_refuseIt_10 (by decide) ?_
  exact sk_iret hx hb hr rfl hlocks hK hP hD hS (⟨f_1, ef_2, rfl, rfl⟩) (Nat.le_of_ble_eq_true rfl) (Nat.le_of_ble_eq_true rfl) dX11_refuseIt_11
