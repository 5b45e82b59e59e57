theorem dg_X11_isDay_0_0 : bqL cX11_isDay 0 [(0, [27]), (1, [155, 0, 18]), (19, [3]), (20, [172]), (4, [27]), (5, [42]), (6, [180, 0, 59]), (9, [180, 0, 144]), (12, [162, 0, 7]), (15, [4]), (16, [167, 0, 4])] = true := by decide +kernel
theorem dX11_isDay_0 : decode cX11_isDay 0 = .ok (.iload_n 1, 1) := q_iload_n1 (bat_get dg_X11_isDay_0_0 0 rfl rfl)
theorem dX11_isDay_1 : decode cX11_isDay 1 = .ok (.ifCond .lt 18, 3) := q_ifCond_lt (bat_get dg_X11_isDay_0_0 1 rfl rfl) rfl
theorem dX11_isDay_19 : decode cX11_isDay 19 = .ok (.iconst 0, 1) := q_iconst0 (bat_get dg_X11_isDay_0_0 2 rfl rfl)
theorem dX11_isDay_20 : decode cX11_isDay 20 = .ok (.ireturn, 1) := q_ireturn (bat_get dg_X11_isDay_0_0 3 rfl rfl)
theorem dX11_isDay_4 : decode cX11_isDay 4 = .ok (.iload_n 1, 1) := q_iload_n1 (bat_get dg_X11_isDay_0_0 4 rfl rfl)
theorem dX11_isDay_5 : decode cX11_isDay 5 = .ok (.aload_n 0, 1) := q_aload_n0 (bat_get dg_X11_isDay_0_0 5 rfl rfl)
theorem dX11_isDay_6 : decode cX11_isDay 6 = .ok (.getfield 59, 3) := q_getfield (bat_get dg_X11_isDay_0_0 6 rfl rfl) rfl
theorem dX11_isDay_9 : decode cX11_isDay 9 = .ok (.getfield 144, 3) := q_getfield (bat_get dg_X11_isDay_0_0 7 rfl rfl) rfl
theorem dX11_isDay_12 : decode cX11_isDay 12 = .ok (.if_icmp .ge 7, 3) := q_if_icmp_ge (bat_get dg_X11_isDay_0_0 8 rfl rfl) rfl
theorem dX11_isDay_15 : decode cX11_isDay 15 = .ok (.iconst 1, 1) := q_iconst1 (bat_get dg_X11_isDay_0_0 9 rfl rfl)
theorem dX11_isDay_16 : decode cX11_isDay 16 = .ok (.goto 4, 3) := q_goto (bat_get dg_X11_isDay_0_0 10 rfl rfl) rfl
theorem w_2_130 : (Cond.fieldLink RX11 59 "SameKeeper" "now" "LSameKeeper$State;") ∈ wsL_law := sk_mem (ck_2 _ (List.mem_of_getElem? (i := 130) rfl)) rfl
theorem w_2_1 : (Cond.fieldLink RX11 144 "SameKeeper$State" "days" "I") ∈ wsL_law := sk_mem (ck_2 _ (List.mem_of_getElem? (i := 1) rfl)) rfl
theorem w_3_193 : (Cond.code yX11_isDay cX11_isDay 2 (some .boolean)) ∈ wsL_law := sk_mem (ck_3 _ (List.mem_of_getElem? (i := 193) rfl)) rfl
set_option maxHeartbeats 4000000 in
set_option maxRecDepth 100000 in
theorem c_x_isDay (l : Launch) (D : va_G) (cI cJ cC cZ cS : ClassId) (x0 : Nat) (q : Nat → Nat) (hc : Int32) (dr : Int64) (dy : Nat) (mo : Nat) (wk : Int32) (mu : Int32) (ke : Int32) (fb : Nat → Int32) (fw : Nat → Int32) (d : Int32) (hdy : dy ≤ 9) : skM l yX11_isDay cX11_isDay 2 (some .boolean) 0 0 0 0 D (skT cI cJ cC cZ cS) [.ref x0, .int d] [(x0, .inr (11, [.ref (q 0), .ref (q 1), .ref (q 2), .ref (q 3), .ref (q 4), .ref (q 5), .ref (q 6), .ref (q 7), .ref (q 8), .ref (q 9), .ref (q 10), .ref (q 11), .ref (q 12), .ref (q 13), .ref (q 14), .int hc, .ref (q 16), .long dr])), (q 7, .inr (7, [.ref (q 33), .ref (q 34), .int (nI dy), .int wk, .int (nI mo), .int mu, .int ke]))] (skI D (skT cI cJ cC cZ cS) (fun (r : Int32) (u : va_W) => ∃ (b : Nat), (b = 0 ∨ (b = 1 ∧ ∃ kq : Nat, kq < dy ∧ d = nI kq)) ∧ r = nI b ∧ u = [(x0, .inr (11, [.ref (q 0), .ref (q 1), .ref (q 2), .ref (q 3), .ref (q 4), .ref (q 5), .ref (q 6), .ref (q 7), .ref (q 8), .ref (q 9), .ref (q 10), .ref (q 11), .ref (q 12), .ref (q 13), .ref (q 14), .int hc, .ref (q 16), .long dr])), (q 7, .inr (7, [.ref (q 33), .ref (q 34), .int (nI dy), .int wk, .int (nI mo), .int mu, .int ke]))])) := by
  refine skM_of pf_X11_isDay (Nat.le_of_ble_eq_true rfl) ?_
  intro p e s m below meth c A ls E hP hD hl
  refine skE_el E (fun hx hb hr hml hlocks hin hown hts hK hA => ?_)
  have hown : s.vm.findClass RX11 = some m.cls := hown
  have hS : va_S A s.heap s.heap [] := va_S.rf
  have hl : lv_has ls 2 [(0, .ref x0), (1, .int d)] := hl
  refine lv_iload_n hx hb dX11_isDay_0 rfl (lv_at hl 1 rfl) ?_
  refine lv_if_lt (tgt := 19) hx hb dX11_isDay_1 (by decide) (fun c_1 => ?_) (fun c_1 => ?_)
  · skip
    refine lv_iconst (v := 0) hx hb dX11_isDay_19 (by decide) ?_
    exact sk_iret hx hb hr rfl hlocks hK hP hD hS (⟨0, Or.inl rfl, rfl, rfl⟩) (Nat.le_of_ble_eq_true rfl) (Nat.le_of_ble_eq_true rfl) dX11_isDay_20
  · obtain ⟨k_2, hk_2, rfl⟩ := nof d c_1
    refine lv_iload_n hx hb dX11_isDay_4 rfl (lv_at hl 1 rfl) ?_
    refine lv_aload_n hx hb dX11_isDay_5 rfl (lv_at hl 0 rfl) ?_
    refine sk_get (v := .ref (q 7)) (C := RX11) (T := TX11) (N := 18) hx hb hts inlX11 hown hK hP 0 rfl rfl 7 (by decide) w_2_130 rfl dX11_isDay_6 ?_
    refine sk_get (v := .int (nI dy)) (C := RX7) (T := TX7) (N := 7) hx hb hts inlX7 hown hK hP 1 rfl rfl 2 (by decide) w_2_1 rfl dX11_isDay_9 ?_
    refine lv_icmp_ge (tgt := 19) hx hb dX11_isDay_12 (by decide) (fun c_3 => ?_) (fun c_3 => ?_)
    · have c_3 : dy ≤ k_2 := (nle dy k_2 (by omega) (by omega)).mp c_3
      refine lv_iconst (v := 0) hx hb dX11_isDay_19 (by decide) ?_
      exact sk_iret hx hb hr rfl hlocks hK hP hD hS (⟨0, Or.inl rfl, rfl, rfl⟩) (Nat.le_of_ble_eq_true rfl) (Nat.le_of_ble_eq_true rfl) dX11_isDay_20
    · have c_3 : ¬ (dy ≤ k_2) := fun h => c_3 ((nle dy k_2 (by omega) (by omega)).mpr h)
      refine lv_iconst (v := 1) hx hb dX11_isDay_15 (by decide) ?_
      refine lv_goto (tgt := 20) hx hb dX11_isDay_16 (by decide) ?_
      exact sk_iret hx hb hr rfl hlocks hK hP hD hS (⟨1, Or.inr ⟨rfl, k_2, by omega, rfl⟩, rfl, rfl⟩) (Nat.le_of_ble_eq_true rfl) (Nat.le_of_ble_eq_true rfl) dX11_isDay_20
theorem dg_X11_isDigit_0_0 : bqL cX11_isDigit 0 [(0, [26]), (1, [155, 0, 13]), (14, [3]), (15, [172]), (4, [26]), (5, [16, 10]), (7, [162, 0, 7]), (10, [4]), (11, [167, 0, 4])] = true := by decide +kernel
theorem dX11_isDigit_0 : decode cX11_isDigit 0 = .ok (.iload_n 0, 1) := q_iload_n0 (bat_get dg_X11_isDigit_0_0 0 rfl rfl)
theorem dX11_isDigit_1 : decode cX11_isDigit 1 = .ok (.ifCond .lt 13, 3) := q_ifCond_lt (bat_get dg_X11_isDigit_0_0 1 rfl rfl) rfl
theorem dX11_isDigit_14 : decode cX11_isDigit 14 = .ok (.iconst 0, 1) := q_iconst0 (bat_get dg_X11_isDigit_0_0 2 rfl rfl)
theorem dX11_isDigit_15 : decode cX11_isDigit 15 = .ok (.ireturn, 1) := q_ireturn (bat_get dg_X11_isDigit_0_0 3 rfl rfl)
theorem dX11_isDigit_4 : decode cX11_isDigit 4 = .ok (.iload_n 0, 1) := q_iload_n0 (bat_get dg_X11_isDigit_0_0 4 rfl rfl)
theorem dX11_isDigit_5 : decode cX11_isDigit 5 = .ok (.bipush 10, 2) := q_bipush (bat_get dg_X11_isDigit_0_0 5 rfl rfl) rfl
theorem dX11_isDigit_7 : decode cX11_isDigit 7 = .ok (.if_icmp .ge 7, 3) := q_if_icmp_ge (bat_get dg_X11_isDigit_0_0 6 rfl rfl) rfl
theorem dX11_isDigit_10 : decode cX11_isDigit 10 = .ok (.iconst 1, 1) := q_iconst1 (bat_get dg_X11_isDigit_0_0 7 rfl rfl)
theorem dX11_isDigit_11 : decode cX11_isDigit 11 = .ok (.goto 4, 3) := q_goto (bat_get dg_X11_isDigit_0_0 8 rfl rfl) rfl
theorem w_3_204 : (Cond.code yX11_isDigit cX11_isDigit 1 (some .boolean)) ∈ wsL_law := sk_mem (ck_3 _ (List.mem_of_getElem? (i := 204) rfl)) rfl
set_option maxHeartbeats 4000000 in
set_option maxRecDepth 100000 in
theorem c_x_isDigit (l : Launch) (D : va_G) (cI cJ cC cZ cS : ClassId) (d : Int32)  : skM l yX11_isDigit cX11_isDigit 1 (some .boolean) 0 0 0 0 D (skT cI cJ cC cZ cS) [.int d] [] (skI D (skT cI cJ cC cZ cS) (fun (r : Int32) (u : va_W) => ∃ (b : Nat), (b = 0 ∨ (b = 1 ∧ ∃ kq : Nat, kq < 10 ∧ d = nI kq)) ∧ r = nI b ∧ u = [])) := by
  refine skM_of pf_X11_isDigit (Nat.le_of_ble_eq_true rfl) ?_
  intro p e s m below meth c A ls E hP hD hl
  refine skE_el E (fun hx hb hr hml hlocks hin hown hts hK hA => ?_)
  have hown : s.vm.findClass RX11 = some m.cls := hown
  have hS : va_S A s.heap s.heap [] := va_S.rf
  have hl : lv_has ls 1 [(0, .int d)] := hl
  refine lv_iload_n hx hb dX11_isDigit_0 rfl (lv_at hl 0 rfl) ?_
  refine lv_if_lt (tgt := 14) hx hb dX11_isDigit_1 (by decide) (fun c_1 => ?_) (fun c_1 => ?_)
  · skip
    refine lv_iconst (v := 0) hx hb dX11_isDigit_14 (by decide) ?_
    exact sk_iret hx hb hr rfl hlocks hK hP hD hS (⟨0, Or.inl rfl, rfl, rfl⟩) (Nat.le_of_ble_eq_true rfl) (Nat.le_of_ble_eq_true rfl) dX11_isDigit_15
  · obtain ⟨k_2, hk_2, rfl⟩ := nof d c_1
    refine lv_iload_n hx hb dX11_isDigit_4 rfl (lv_at hl 0 rfl) ?_
    refine lv_bipush (v := 10) hx hb dX11_isDigit_5 (by decide) ?_
    refine lv_icmp_ge (tgt := 14) hx hb dX11_isDigit_7 (by decide) (fun c_3 => ?_) (fun c_3 => ?_)
    · have c_3 : 10 ≤ k_2 := (nle 10 k_2 (by omega) (by omega)).mp c_3
      refine lv_iconst (v := 0) hx hb dX11_isDigit_14 (by decide) ?_
      exact sk_iret hx hb hr rfl hlocks hK hP hD hS (⟨0, Or.inl rfl, rfl, rfl⟩) (Nat.le_of_ble_eq_true rfl) (Nat.le_of_ble_eq_true rfl) dX11_isDigit_15
    · have c_3 : ¬ (10 ≤ k_2) := fun h => c_3 ((nle 10 k_2 (by omega) (by omega)).mpr h)
      refine lv_iconst (v := 1) hx hb dX11_isDigit_10 (by decide) ?_
      refine lv_goto (tgt := 15) hx hb dX11_isDigit_11 (by decide) ?_
      exact sk_iret hx hb hr rfl hlocks hK hP hD hS (⟨1, Or.inr ⟨rfl, k_2, by omega, rfl⟩, rfl, rfl⟩) (Nat.le_of_ble_eq_true rfl) (Nat.le_of_ble_eq_true rfl) dX11_isDigit_15
theorem dg_X11_isWordOf_0_0 : bqL cX11_isWordOf 0 [(0, [42]), (1, [27]), (2, [182, 0, 170]), (5, [153, 0, 25]), (30, [3]), (31, [172]), (8, [42]), (9, [180, 0, 59]), (12, [27]), (13, [182, 0, 179]), (16, [154, 0, 14]), (19, [28]), (20, [184, 0, 182]), (23, [153, 0, 7]), (26, [4]), (27, [167, 0, 4])] = true := by decide +kernel
theorem dX11_isWordOf_0 : decode cX11_isWordOf 0 = .ok (.aload_n 0, 1) := q_aload_n0 (bat_get dg_X11_isWordOf_0_0 0 rfl rfl)
theorem dX11_isWordOf_1 : decode cX11_isWordOf 1 = .ok (.iload_n 1, 1) := q_iload_n1 (bat_get dg_X11_isWordOf_0_0 1 rfl rfl)
theorem dX11_isWordOf_2 : decode cX11_isWordOf 2 = .ok (.invokevirtual 170, 3) := q_invokevirtual (bat_get dg_X11_isWordOf_0_0 2 rfl rfl) rfl
theorem dX11_isWordOf_5 : decode cX11_isWordOf 5 = .ok (.ifCond .eq 25, 3) := q_ifCond_eq (bat_get dg_X11_isWordOf_0_0 3 rfl rfl) rfl
theorem dX11_isWordOf_30 : decode cX11_isWordOf 30 = .ok (.iconst 0, 1) := q_iconst0 (bat_get dg_X11_isWordOf_0_0 4 rfl rfl)
theorem dX11_isWordOf_31 : decode cX11_isWordOf 31 = .ok (.ireturn, 1) := q_ireturn (bat_get dg_X11_isWordOf_0_0 5 rfl rfl)
theorem dX11_isWordOf_8 : decode cX11_isWordOf 8 = .ok (.aload_n 0, 1) := q_aload_n0 (bat_get dg_X11_isWordOf_0_0 6 rfl rfl)
theorem dX11_isWordOf_9 : decode cX11_isWordOf 9 = .ok (.getfield 59, 3) := q_getfield (bat_get dg_X11_isWordOf_0_0 7 rfl rfl) rfl
theorem dX11_isWordOf_12 : decode cX11_isWordOf 12 = .ok (.iload_n 1, 1) := q_iload_n1 (bat_get dg_X11_isWordOf_0_0 8 rfl rfl)
theorem dX11_isWordOf_13 : decode cX11_isWordOf 13 = .ok (.invokevirtual 179, 3) := q_invokevirtual (bat_get dg_X11_isWordOf_0_0 9 rfl rfl) rfl
theorem dX11_isWordOf_16 : decode cX11_isWordOf 16 = .ok (.ifCond .ne 14, 3) := q_ifCond_ne (bat_get dg_X11_isWordOf_0_0 10 rfl rfl) rfl
theorem dX11_isWordOf_19 : decode cX11_isWordOf 19 = .ok (.iload_n 2, 1) := q_iload_n2 (bat_get dg_X11_isWordOf_0_0 11 rfl rfl)
theorem dX11_isWordOf_20 : decode cX11_isWordOf 20 = .ok (.invokestatic 182, 3) := q_invokestatic (bat_get dg_X11_isWordOf_0_0 12 rfl rfl) rfl
theorem dX11_isWordOf_23 : decode cX11_isWordOf 23 = .ok (.ifCond .eq 7, 3) := q_ifCond_eq (bat_get dg_X11_isWordOf_0_0 13 rfl rfl) rfl
theorem dX11_isWordOf_26 : decode cX11_isWordOf 26 = .ok (.iconst 1, 1) := q_iconst1 (bat_get dg_X11_isWordOf_0_0 14 rfl rfl)
theorem dX11_isWordOf_27 : decode cX11_isWordOf 27 = .ok (.goto 4, 3) := q_goto (bat_get dg_X11_isWordOf_0_0 15 rfl rfl) rfl
theorem w_3_190 : (Cond.methodLink RX11 170 yX11_isDay) ∈ wsL_law := sk_mem (ck_3 _ (List.mem_of_getElem? (i := 190) rfl)) rfl
theorem w_3_192 : (Cond.instanceMethod yX11_isDay) ∈ wsL_law := sk_mem (ck_3 _ (List.mem_of_getElem? (i := 192) rfl)) rfl
theorem w_0_14 : (Cond.selects RX11 yX11_isDay yX11_isDay) ∈ wsL_law := sk_mem (ck_0 _ (List.mem_of_getElem? (i := 14) rfl)) rfl
theorem w_1_1 : (Cond.initialized RX11) ∈ wsL_law := sk_mem (ck_1 _ (List.mem_of_getElem? (i := 1) rfl)) rfl
theorem w_3_194 : (Cond.methodLink RX11 179 yX7_isMute) ∈ wsL_law := sk_mem (ck_3 _ (List.mem_of_getElem? (i := 194) rfl)) rfl
theorem w_3_202 : (Cond.methodLink RX11 182 yX11_isDigit) ∈ wsL_law := sk_mem (ck_3 _ (List.mem_of_getElem? (i := 202) rfl)) rfl
theorem w_3_203 : (Cond.static yX11_isDigit) ∈ wsL_law := sk_mem (ck_3 _ (List.mem_of_getElem? (i := 203) rfl)) rfl
theorem w_4_189 : (Cond.code yX11_isWordOf cX11_isWordOf 3 (some .boolean)) ∈ wsL_law := sk_mem (ck_4 _ (List.mem_of_getElem? (i := 189) rfl)) rfl
theorem hd_X11_isDay_1 : skD yX11_isDay 1 := by decide +kernel
theorem hd_X11_isDigit_1 : skD yX11_isDigit 1 := by decide +kernel
set_option maxHeartbeats 4000000 in
set_option maxRecDepth 100000 in
theorem c_x_isWordOf (l : Launch) (D : va_G) (cI cJ cC cZ cS : ClassId) (x0 : Nat) (q : Nat → Nat) (hc : Int32) (dr : Int64) (dy : Nat) (mo : Nat) (wk : Int32) (mu : Int32) (ke : Int32) (fb : Nat → Int32) (fw : Nat → Int32) (d : Int32) (w : Int32) (hdy : dy ≤ 9) : skM l yX11_isWordOf cX11_isWordOf 3 (some .boolean) 1 21 0 0 D (skT cI cJ cC cZ cS) [.ref x0, .int d, .int w] [(x0, .inr (11, [.ref (q 0), .ref (q 1), .ref (q 2), .ref (q 3), .ref (q 4), .ref (q 5), .ref (q 6), .ref (q 7), .ref (q 8), .ref (q 9), .ref (q 10), .ref (q 11), .ref (q 12), .ref (q 13), .ref (q 14), .int hc, .ref (q 16), .long dr])), (q 7, .inr (7, [.ref (q 33), .ref (q 34), .int (nI dy), .int wk, .int (nI mo), .int mu, .int ke]))] (skI D (skT cI cJ cC cZ cS) (fun (r : Int32) (u : va_W) => ∃ (b : Nat), (b = 0 ∨ (b = 1 ∧ ∃ kq : Nat, kq < dy ∧ d = nI kq)) ∧ r = nI b ∧ u = [(x0, .inr (11, [.ref (q 0), .ref (q 1), .ref (q 2), .ref (q 3), .ref (q 4), .ref (q 5), .ref (q 6), .ref (q 7), .ref (q 8), .ref (q 9), .ref (q 10), .ref (q 11), .ref (q 12), .ref (q 13), .ref (q 14), .int hc, .ref (q 16), .long dr])), (q 7, .inr (7, [.ref (q 33), .ref (q 34), .int (nI dy), .int wk, .int (nI mo), .int mu, .int ke]))])) := by
  refine skM_of pf_X11_isWordOf (Nat.le_of_ble_eq_true rfl) ?_
  intro p e s m below meth c A ls E hP hD hl
  refine skE_el E (fun hx hb hr hml hlocks hin hown hts hK hA => ?_)
  have hown : s.vm.findClass RX11 = some m.cls := hown
  have hS : va_S A s.heap s.heap [] := va_S.rf
  have hl : lv_has ls 3 [(0, .ref x0), (1, .int d), (2, .int w)] := hl
  refine lv_aload_n hx hb dX11_isWordOf_0 rfl (lv_at hl 0 rfl) ?_
  refine lv_iload_n hx hb dX11_isWordOf_1 rfl (lv_at hl 1 rfl) ?_
  refine sk_Vi (q0 := 0) (n := 1) (rest := []) (wr := fmR om_2_3 _) ⟨hx, hb, hml, hown, hts⟩ hl.1 (c_x_isDay l D cI cJ cC cZ cS x0 q hc dr dy mo wk mu ke fb fw d (by omega)) w_3_190 w_3_192 w_0_14 w_1_1 w_3_193 hd_X11_isDay_1 ⟨⟨(Nat.le_of_ble_eq_true rfl), (Nat.le_of_ble_eq_true rfl)⟩, (Nat.le_of_ble_eq_true rfl), (Nat.le_of_ble_eq_true rfl)⟩ hK hP hD hS hA (fmT om_2_3 0) (fmF om_2_3 0) (fm_C1 rfl rfl) (fm_R rfl rfl) (fm_nT om_2_3 0) (fm_nF om_2_3 0) (fm_di om_2_3 0) rfl rfl rfl rfl (Nat.le_of_ble_eq_true rfl) dX11_isWordOf_2 (fun r_2 u H locs hw hP hD hS => ?_)
  refine exE hw (fun b_1 hw1 => anE hw1 (fun hb1_3 hw2 => anE hw2 (fun er_5 eu_4 => ?_)))
  clear hw hw1 hw2
  subst er_5
  refine o_mgE (ws' := [(x0, .inr (11, [.ref (q 0), .ref (q 1), .ref (q 2), .ref (q 3), .ref (q 4), .ref (q 5), .ref (q 6), .ref (q 7), .ref (q 8), .ref (q 9), .ref (q 10), .ref (q 11), .ref (q 12), .ref (q 13), .ref (q 14), .int hc, .ref (q 16), .long dr])), (q 7, .inr (7, [.ref (q 33), .ref (q 34), .int (nI dy), .int wk, .int (nI mo), .int mu, .int ke]))]) eu_4 hP hD rfl (fun hP hD => ?_)
  refine lv_if_eq (tgt := 30) hx hb dX11_isWordOf_5 (by decide) (fun c_6 => ?_) (fun c_6 => ?_)
  · have c_6 : b_1 = 0 := (neq b_1 0 (by omega) (by omega)).mp c_6
    refine lv_iconst (v := 0) hx hb dX11_isWordOf_30 (by decide) ?_
    exact sk_iret hx hb hr rfl hlocks hK hP hD hS (⟨0, Or.inl rfl, rfl, rfl⟩) (Nat.le_of_ble_eq_true rfl) (Nat.le_of_ble_eq_true rfl) dX11_isWordOf_31
  · have c_6 : ¬ (b_1 = 0) := fun h => c_6 ((neq b_1 0 (by omega) (by omega)).mpr h)
    obtain ⟨kd_7, hkd_8, rfl⟩ : ∃ kq : Nat, kq < dy ∧ d = nI kq := by
      rcases hb1_3 with hq | ⟨_, hq⟩
      · exact absurd hq (by omega)
      · exact hq
    refine lv_aload_n hx hb dX11_isWordOf_8 rfl (lv_at hl 0 rfl) ?_
    refine sk_get (v := .ref (q 7)) (C := RX11) (T := TX11) (N := 18) hx hb hts inlX11 hown hK hP 0 rfl rfl 7 (by decide) w_2_130 rfl dX11_isWordOf_9 ?_
    refine lv_iload_n hx hb dX11_isWordOf_12 rfl (lv_at hl 1 rfl) ?_
    refine sk_Vi (q0 := 0) (n := 1) (rest := []) (wr := fmR om_2_1 _) ⟨hx, hb, hml, hown, hts⟩ hl.1 (c_State_isMute l D cI cJ cC cZ cS (q 7) (q 33) (q 34) dy mo wk mu ke (nI kd_7)) w_3_194 w_3_195 w_3_196 w_1_10 w_3_197 hd_X7_isMute_1 ⟨⟨(Nat.le_of_ble_eq_true rfl), (Nat.le_of_ble_eq_true rfl)⟩, (Nat.le_of_ble_eq_true rfl), (Nat.le_of_ble_eq_true rfl)⟩ hK hP hD hS hA (fmT om_2_1 0) (fmF om_2_1 0) (fm_C1 rfl rfl) (fm_R rfl rfl) (fm_nT om_2_1 0) (fm_nF om_2_1 0) (fm_di om_2_1 0) rfl rfl rfl rfl (Nat.le_of_ble_eq_true rfl) dX11_isWordOf_13 (fun r_10 u H locs hw hP hD hS => ?_)
    refine exE hw (fun b_9 hw1 => anE hw1 (fun hb1_11 hw2 => anE hw2 (fun er_13 eu_12 => ?_)))
    clear hw hw1 hw2
    subst er_13
    refine o_mgE (ws' := [(x0, .inr (11, [.ref (q 0), .ref (q 1), .ref (q 2), .ref (q 3), .ref (q 4), .ref (q 5), .ref (q 6), .ref (q 7), .ref (q 8), .ref (q 9), .ref (q 10), .ref (q 11), .ref (q 12), .ref (q 13), .ref (q 14), .int hc, .ref (q 16), .long dr])), (q 7, .inr (7, [.ref (q 33), .ref (q 34), .int (nI dy), .int wk, .int (nI mo), .int mu, .int ke]))]) eu_12 hP hD rfl (fun hP hD => ?_)
    refine lv_if_ne (tgt := 30) hx hb dX11_isWordOf_16 (by decide) (fun c_14 => ?_) (fun c_14 => ?_)
    · have c_14 : ¬ (b_9 = 0) := fun h => c_14 ((neq b_9 0 (by omega) (by omega)).mpr h)
      refine lv_iconst (v := 0) hx hb dX11_isWordOf_30 (by decide) ?_
      exact sk_iret hx hb hr rfl hlocks hK hP hD hS (⟨0, Or.inl rfl, rfl, rfl⟩) (Nat.le_of_ble_eq_true rfl) (Nat.le_of_ble_eq_true rfl) dX11_isWordOf_31
    · have c_14 : b_9 = 0 := (neq b_9 0 (by omega) (by omega)).mp c_14
      refine lv_iload_n hx hb dX11_isWordOf_19 rfl (lv_at hl 2 rfl) ?_
      refine sk_Si (n := 1) (rest := []) (wr := [(x0, .inr (11, [.ref (q 0), .ref (q 1), .ref (q 2), .ref (q 3), .ref (q 4), .ref (q 5), .ref (q 6), .ref (q 7), .ref (q 8), .ref (q 9), .ref (q 10), .ref (q 11), .ref (q 12), .ref (q 13), .ref (q 14), .int hc, .ref (q 16), .long dr])), (q 7, .inr (7, [.ref (q 33), .ref (q 34), .int (nI dy), .int wk, .int (nI mo), .int mu, .int ke]))]) ⟨hx, hb, hml, hown, hts⟩ hl.1 (c_x_isDigit l D cI cJ cC cZ cS w) w_3_202 w_3_203 w_1_1 w_3_204 hd_X11_isDigit_1 ⟨⟨(Nat.le_of_ble_eq_true rfl), (Nat.le_of_ble_eq_true rfl)⟩, (Nat.le_of_ble_eq_true rfl), (Nat.le_of_ble_eq_true rfl)⟩ hK hP hD hS hA [] [0, 1] rfl rfl (by decide +kernel) (by decide +kernel) (by decide +kernel) rfl rfl (Nat.le_of_ble_eq_true rfl) dX11_isWordOf_20 (fun r_16 u H locs hw hP hD hS => ?_)
      obtain ⟨b_15, hb1_17, rfl, rfl⟩ := hw
      refine o_re (ws' := [(x0, .inr (11, [.ref (q 0), .ref (q 1), .ref (q 2), .ref (q 3), .ref (q 4), .ref (q 5), .ref (q 6), .ref (q 7), .ref (q 8), .ref (q 9), .ref (q 10), .ref (q 11), .ref (q 12), .ref (q 13), .ref (q 14), .int hc, .ref (q 16), .long dr])), (q 7, .inr (7, [.ref (q 33), .ref (q 34), .int (nI dy), .int wk, .int (nI mo), .int mu, .int ke]))]) hP hD rfl (fun hP hD => ?_)
      refine lv_if_eq (tgt := 30) hx hb dX11_isWordOf_23 (by decide) (fun c_18 => ?_) (fun c_18 => ?_)
      · have c_18 : b_15 = 0 := (neq b_15 0 (by omega) (by omega)).mp c_18
        refine lv_iconst (v := 0) hx hb dX11_isWordOf_30 (by decide) ?_
        exact sk_iret hx hb hr rfl hlocks hK hP hD hS (⟨0, Or.inl rfl, rfl, rfl⟩) (Nat.le_of_ble_eq_true rfl) (Nat.le_of_ble_eq_true rfl) dX11_isWordOf_31
      · have c_18 : ¬ (b_15 = 0) := fun h => c_18 ((neq b_15 0 (by omega) (by omega)).mpr h)
        obtain ⟨kd_19, hkd_20, rfl⟩ : ∃ kq : Nat, kq < 10 ∧ w = nI kq := by
          rcases hb1_17 with hq | ⟨_, hq⟩
          · exact absurd hq (by omega)
          · exact hq
        refine lv_iconst (v := 1) hx hb dX11_isWordOf_26 (by decide) ?_
        refine lv_goto (tgt := 31) hx hb dX11_isWordOf_27 (by decide) ?_
        exact sk_iret hx hb hr rfl hlocks hK hP hD hS (⟨1, Or.inr ⟨rfl, kd_7, by omega, rfl⟩, rfl, rfl⟩) (Nat.le_of_ble_eq_true rfl) (Nat.le_of_ble_eq_true rfl) dX11_isWordOf_31

