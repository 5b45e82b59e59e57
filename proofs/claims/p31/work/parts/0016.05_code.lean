theorem dg_X0_clear_0_0 : bqL cX0_clear 0 [(0, [42]), (1, [3]), (2, [181, 0, 27]), (5, [42]), (6, [3]), (7, [181, 0, 31]), (10, [177])] = true := by decide +kernel
theorem dX0_clear_0 : decode cX0_clear 0 = .ok (.aload_n 0, 1) := q_aload_n0 (bat_get dg_X0_clear_0_0 0 rfl rfl)
theorem dX0_clear_1 : decode cX0_clear 1 = .ok (.iconst 0, 1) := q_iconst0 (bat_get dg_X0_clear_0_0 1 rfl rfl)
theorem dX0_clear_2 : decode cX0_clear 2 = .ok (.putfield 27, 3) := q_putfield (bat_get dg_X0_clear_0_0 2 rfl rfl) rfl
theorem dX0_clear_5 : decode cX0_clear 5 = .ok (.aload_n 0, 1) := q_aload_n0 (bat_get dg_X0_clear_0_0 3 rfl rfl)
theorem dX0_clear_6 : decode cX0_clear 6 = .ok (.iconst 0, 1) := q_iconst0 (bat_get dg_X0_clear_0_0 4 rfl rfl)
theorem dX0_clear_7 : decode cX0_clear 7 = .ok (.putfield 31, 3) := q_putfield (bat_get dg_X0_clear_0_0 5 rfl rfl) rfl
theorem dX0_clear_10 : decode cX0_clear 10 = .ok (.return_, 1) := q_return_ (bat_get dg_X0_clear_0_0 6 rfl rfl)
theorem w_1_133 : (Cond.fieldLink RX0 27 "SameKeeper$Code" "length" "I") ∈ wsL_law := sk_mem (ck_1 _ (List.mem_of_getElem? (i := 133) rfl)) rfl
theorem w_1_136 : (Cond.fieldLink RX0 31 "SameKeeper$Code" "mindsWeek" "Z") ∈ wsL_law := sk_mem (ck_1 _ (List.mem_of_getElem? (i := 136) rfl)) rfl
theorem w_2_217 : (Cond.code yX0_clear cX0_clear 1 none) ∈ wsL_law := sk_mem (ck_2 _ (List.mem_of_getElem? (i := 217) rfl)) rfl
set_option maxHeartbeats 4000000 in
set_option maxRecDepth 100000 in
theorem c_Code_clear (l : Launch) (D : va_G) (cI cJ cC cZ cS : ClassId) (h0 : Nat) (k1 : Nat) (k2 : Nat) (k3 : Nat) (k4 : Nat) (cl : Nat) (mw : Nat)  : skM l yX0_clear cX0_clear 1 none 0 0 0 0 D (skT cI cJ cC cZ cS) [.ref h0] [(h0, .inr (0, [.ref k1, .ref k2, .ref k3, .ref k4, .int (nI cl), .int (nI mw)]))] (skV D (skT cI cJ cC cZ cS) (fun (u : va_W) => u = [(h0, .inr (0, [.ref k1, .ref k2, .ref k3, .ref k4, .int 0, .int 0]))])) := by
  refine skM_of pf_X0_clear (Nat.le_of_ble_eq_true rfl) ?_
  intro p e s m below meth c A ls E hP hD hl
  refine skE_el E (fun hx hb hr hml hlocks hin hown hts hK hA => ?_)
  have hown : s.vm.findClass RX0 = some m.cls := hown
  have hS : va_S A s.heap s.heap [] := va_S.rf
  have hl : lv_has ls 1 [(0, .ref h0)] := hl
  refine lv_aload_n hx hb dX0_clear_0 rfl (lv_at hl 0 rfl) ?_
  refine lv_iconst (v := 0) hx hb dX0_clear_1 (by decide) ?_
  refine sk_put (ws' := [(h0, .inr (0, [.ref k1, .ref k2, .ref k3, .ref k4, .int 0, .int (nI mw)]))]) (C := RX0) (T := TX0) (N := 6) (v := .int 0) hx hb hts inlX0 tyX0 tyX0_ok nmX0 hown hK hP hD hS 0 rfl rfl 4 (by decide) w_1_133 rfl rfl rfl (Nat.le_of_ble_eq_true rfl) rfl dX0_clear_2 (fun H locs hP hD hS => ?_)
  refine lv_aload_n hx hb dX0_clear_5 rfl (lv_at hl 0 rfl) ?_
  refine lv_iconst (v := 0) hx hb dX0_clear_6 (by decide) ?_
  refine sk_put (ws' := [(h0, .inr (0, [.ref k1, .ref k2, .ref k3, .ref k4, .int 0, .int 0]))]) (C := RX0) (T := TX0) (N := 6) (v := .int 0) hx hb hts inlX0 tyX0 tyX0_ok nmX0 hown hK hP hD hS 0 rfl rfl 5 (by decide) w_1_136 rfl rfl rfl (Nat.le_of_ble_eq_true rfl) rfl dX0_clear_7 (fun H locs hP hD hS => ?_)
  exact sk_vret hx hb hr hlocks hK hP hD hS rfl (Nat.le_of_ble_eq_true rfl) (Nat.le_of_ble_eq_true rfl) dX0_clear_10
theorem dg_X0_add_0_0 : bqL cX0_add 0 [(0, [42]), (1, [180, 0, 27]), (4, [42]), (5, [180, 0, 11]), (8, [190]), (9, [162, 0, 23]), (32, [42]), (33, [89]), (34, [180, 0, 31]), (37, [27]), (38, [17, 39, 20]), (41, [160, 0, 7]), (48, [3]), (49, [128]), (50, [181, 0, 31]), (53, [177]), (44, [4]), (45, [167, 0, 4]), (12, [42]), (13, [180, 0, 11]), (16, [42]), (17, [180, 0, 27]), (20, [27]), (21, [79]), (22, [42]), (23, [89]), (24, [180, 0, 27]), (27, [4]), (28, [96]), (29, [181, 0, 27])] = true := by decide +kernel
theorem dX0_add_0 : decode cX0_add 0 = .ok (.aload_n 0, 1) := q_aload_n0 (bat_get dg_X0_add_0_0 0 rfl rfl)
theorem dX0_add_1 : decode cX0_add 1 = .ok (.getfield 27, 3) := q_getfield (bat_get dg_X0_add_0_0 1 rfl rfl) rfl
theorem dX0_add_4 : decode cX0_add 4 = .ok (.aload_n 0, 1) := q_aload_n0 (bat_get dg_X0_add_0_0 2 rfl rfl)
theorem dX0_add_5 : decode cX0_add 5 = .ok (.getfield 11, 3) := q_getfield (bat_get dg_X0_add_0_0 3 rfl rfl) rfl
theorem dX0_add_8 : decode cX0_add 8 = .ok (.arraylength, 1) := q_arraylength (bat_get dg_X0_add_0_0 4 rfl rfl)
theorem dX0_add_9 : decode cX0_add 9 = .ok (.if_icmp .ge 23, 3) := q_if_icmp_ge (bat_get dg_X0_add_0_0 5 rfl rfl) rfl
theorem dX0_add_32 : decode cX0_add 32 = .ok (.aload_n 0, 1) := q_aload_n0 (bat_get dg_X0_add_0_0 6 rfl rfl)
theorem dX0_add_33 : decode cX0_add 33 = .ok (.dup, 1) := q_dup (bat_get dg_X0_add_0_0 7 rfl rfl)
theorem dX0_add_34 : decode cX0_add 34 = .ok (.getfield 31, 3) := q_getfield (bat_get dg_X0_add_0_0 8 rfl rfl) rfl
theorem dX0_add_37 : decode cX0_add 37 = .ok (.iload_n 1, 1) := q_iload_n1 (bat_get dg_X0_add_0_0 9 rfl rfl)
theorem dX0_add_38 : decode cX0_add 38 = .ok (.sipush 10004, 3) := q_sipush (bat_get dg_X0_add_0_0 10 rfl rfl) rfl
theorem dX0_add_41 : decode cX0_add 41 = .ok (.if_icmp .ne 7, 3) := q_if_icmp_ne (bat_get dg_X0_add_0_0 11 rfl rfl) rfl
theorem dX0_add_48 : decode cX0_add 48 = .ok (.iconst 0, 1) := q_iconst0 (bat_get dg_X0_add_0_0 12 rfl rfl)
theorem dX0_add_49 : decode cX0_add 49 = .ok (.ior, 1) := q_ior (bat_get dg_X0_add_0_0 13 rfl rfl)
theorem dX0_add_50 : decode cX0_add 50 = .ok (.putfield 31, 3) := q_putfield (bat_get dg_X0_add_0_0 14 rfl rfl) rfl
theorem dX0_add_53 : decode cX0_add 53 = .ok (.return_, 1) := q_return_ (bat_get dg_X0_add_0_0 15 rfl rfl)
theorem dX0_add_44 : decode cX0_add 44 = .ok (.iconst 1, 1) := q_iconst1 (bat_get dg_X0_add_0_0 16 rfl rfl)
theorem dX0_add_45 : decode cX0_add 45 = .ok (.goto 4, 3) := q_goto (bat_get dg_X0_add_0_0 17 rfl rfl) rfl
theorem dX0_add_12 : decode cX0_add 12 = .ok (.aload_n 0, 1) := q_aload_n0 (bat_get dg_X0_add_0_0 18 rfl rfl)
theorem dX0_add_13 : decode cX0_add 13 = .ok (.getfield 11, 3) := q_getfield (bat_get dg_X0_add_0_0 19 rfl rfl) rfl
theorem dX0_add_16 : decode cX0_add 16 = .ok (.aload_n 0, 1) := q_aload_n0 (bat_get dg_X0_add_0_0 20 rfl rfl)
theorem dX0_add_17 : decode cX0_add 17 = .ok (.getfield 27, 3) := q_getfield (bat_get dg_X0_add_0_0 21 rfl rfl) rfl
theorem dX0_add_20 : decode cX0_add 20 = .ok (.iload_n 1, 1) := q_iload_n1 (bat_get dg_X0_add_0_0 22 rfl rfl)
theorem dX0_add_21 : decode cX0_add 21 = .ok (.iastore, 1) := q_iastore (bat_get dg_X0_add_0_0 23 rfl rfl)
theorem dX0_add_22 : decode cX0_add 22 = .ok (.aload_n 0, 1) := q_aload_n0 (bat_get dg_X0_add_0_0 24 rfl rfl)
theorem dX0_add_23 : decode cX0_add 23 = .ok (.dup, 1) := q_dup (bat_get dg_X0_add_0_0 25 rfl rfl)
theorem dX0_add_24 : decode cX0_add 24 = .ok (.getfield 27, 3) := q_getfield (bat_get dg_X0_add_0_0 26 rfl rfl) rfl
theorem dX0_add_27 : decode cX0_add 27 = .ok (.iconst 1, 1) := q_iconst1 (bat_get dg_X0_add_0_0 27 rfl rfl)
theorem dX0_add_28 : decode cX0_add 28 = .ok (.iadd, 1) := q_iadd (bat_get dg_X0_add_0_0 28 rfl rfl)
theorem dX0_add_29 : decode cX0_add 29 = .ok (.putfield 27, 3) := q_putfield (bat_get dg_X0_add_0_0 29 rfl rfl) rfl
theorem w_1_129 : (Cond.fieldLink RX0 11 "SameKeeper$Code" "steps" "[I") ∈ wsL_law := sk_mem (ck_1 _ (List.mem_of_getElem? (i := 129) rfl)) rfl
theorem w_3_100 : (Cond.code yX0_add cX0_add 2 none) ∈ wsL_law := sk_mem (ck_3 _ (List.mem_of_getElem? (i := 100) rfl)) rfl
theorem dg_X0_name_0_0 : bqL cX0_name 0 [(0, [27]), (1, [17, 39, 16]), (4, [100]), (5, [54, 4]), (7, [21, 4]), (9, [155, 0, 18]), (27, [177]), (12, [21, 4]), (14, [16, 9]), (16, [162, 0, 11]), (19, [42]), (20, [180, 0, 21]), (23, [21, 4]), (25, [32]), (26, [80])] = true := by decide +kernel
theorem dX0_name_0 : decode cX0_name 0 = .ok (.iload_n 1, 1) := q_iload_n1 (bat_get dg_X0_name_0_0 0 rfl rfl)
theorem dX0_name_1 : decode cX0_name 1 = .ok (.sipush 10000, 3) := q_sipush (bat_get dg_X0_name_0_0 1 rfl rfl) rfl
theorem dX0_name_4 : decode cX0_name 4 = .ok (.isub, 1) := q_isub (bat_get dg_X0_name_0_0 2 rfl rfl)
theorem dX0_name_5 : decode cX0_name 5 = .ok (.istore 4, 2) := q_istore (bat_get dg_X0_name_0_0 3 rfl rfl)
theorem dX0_name_7 : decode cX0_name 7 = .ok (.iload 4, 2) := q_iload (bat_get dg_X0_name_0_0 4 rfl rfl)
theorem dX0_name_9 : decode cX0_name 9 = .ok (.ifCond .lt 18, 3) := q_ifCond_lt (bat_get dg_X0_name_0_0 5 rfl rfl) rfl
theorem dX0_name_27 : decode cX0_name 27 = .ok (.return_, 1) := q_return_ (bat_get dg_X0_name_0_0 6 rfl rfl)
theorem dX0_name_12 : decode cX0_name 12 = .ok (.iload 4, 2) := q_iload (bat_get dg_X0_name_0_0 7 rfl rfl)
theorem dX0_name_14 : decode cX0_name 14 = .ok (.bipush 9, 2) := q_bipush (bat_get dg_X0_name_0_0 8 rfl rfl) rfl
theorem dX0_name_16 : decode cX0_name 16 = .ok (.if_icmp .ge 11, 3) := q_if_icmp_ge (bat_get dg_X0_name_0_0 9 rfl rfl) rfl
theorem dX0_name_19 : decode cX0_name 19 = .ok (.aload_n 0, 1) := q_aload_n0 (bat_get dg_X0_name_0_0 10 rfl rfl)
theorem dX0_name_20 : decode cX0_name 20 = .ok (.getfield 21, 3) := q_getfield (bat_get dg_X0_name_0_0 11 rfl rfl) rfl
theorem dX0_name_23 : decode cX0_name 23 = .ok (.iload 4, 2) := q_iload (bat_get dg_X0_name_0_0 12 rfl rfl)
theorem dX0_name_25 : decode cX0_name 25 = .ok (.lload_n 2, 1) := q_lload_n2 (bat_get dg_X0_name_0_0 13 rfl rfl)
theorem dX0_name_26 : decode cX0_name 26 = .ok (.lastore, 1) := q_lastore (bat_get dg_X0_name_0_0 14 rfl rfl)
theorem w_1_131 : (Cond.fieldLink RX0 21 "SameKeeper$Code" "names" "[J") ∈ wsL_law := sk_mem (ck_1 _ (List.mem_of_getElem? (i := 131) rfl)) rfl
theorem w_3_215 : (Cond.code yX0_name cX0_name 5 none) ∈ wsL_law := sk_mem (ck_3 _ (List.mem_of_getElem? (i := 215) rfl)) rfl
set_option maxHeartbeats 4000000 in
set_option maxRecDepth 100000 in
theorem c_Code_name (l : Launch) (D : va_G) (cI cJ cC cZ cS : ClassId) (h0 : Nat) (k1 : Nat) (k2 : Nat) (k3 : Nat) (k4 : Nat) (cl : Nat) (mw : Nat) (f3 : Nat → Int64) (o : Int32) (x : Int64)  : skM l yX0_name cX0_name 5 none 0 0 0 0 D (skT cI cJ cC cZ cS) [.ref h0, .int o, .long x] [(h0, .inr (0, [.ref k1, .ref k2, .ref k3, .ref k4, .int (nI cl), .int (nI mw)])), (k3, .inl (cJ, 9, .inr (.inl f3)))] (skV D (skT cI cJ cC cZ cS) (fun (u : va_W) => ∃ (g3 : Nat → Int64), u = [(h0, .inr (0, [.ref k1, .ref k2, .ref k3, .ref k4, .int (nI cl), .int (nI mw)])), (k3, .inl (cJ, 9, .inr (.inl g3)))])) := by
  refine skM_of pf_X0_name (Nat.le_of_ble_eq_true rfl) ?_
  intro p e s m below meth c A ls E hP hD hl
  refine skE_el E (fun hx hb hr hml hlocks hin hown hts hK hA => ?_)
  have hown : s.vm.findClass RX0 = some m.cls := hown
  have hS : va_S A s.heap s.heap [] := va_S.rf
  have hl : lv_has ls 5 [(0, .ref h0), (1, .int o), (2, .long x)] := hl
  refine lv_iload_n hx hb dX0_name_0 rfl (lv_at hl 1 rfl) ?_
  refine lv_sipush (v := 10000) hx hb dX0_name_1 (by decide) ?_
  refine lv_isub hx hb dX0_name_4 ?_
  refine lv_topi (fun v_1 ev_1 => ?_)
  refine lv_istore (lv' := [(4, .int v_1), (0, .ref h0), (1, .int o), (2, .long x)]) hx hb dX0_name_5 hl (by decide) rfl (fun ls hl => ?_)
  refine lv_iload hx hb dX0_name_7 (lv_at hl 0 rfl) ?_
  refine lv_if_lt (tgt := 27) hx hb dX0_name_9 (by decide) (fun c_2 => ?_) (fun c_2 => ?_)
  · skip
    exact sk_vret hx hb hr hlocks hK hP hD hS (⟨f3, rfl⟩) (Nat.le_of_ble_eq_true rfl) (Nat.le_of_ble_eq_true rfl) dX0_name_27
  · obtain ⟨k_3, hk_3, rfl⟩ := nof v_1 c_2
    refine lv_iload hx hb dX0_name_12 (lv_at hl 0 rfl) ?_
    refine lv_bipush (v := 9) hx hb dX0_name_14 (by decide) ?_
    refine lv_icmp_ge (tgt := 27) hx hb dX0_name_16 (by decide) (fun c_4 => ?_) (fun c_4 => ?_)
    · have c_4 : 9 ≤ k_3 := (nle 9 k_3 (by omega) (by omega)).mp c_4
      exact sk_vret hx hb hr hlocks hK hP hD hS (⟨f3, rfl⟩) (Nat.le_of_ble_eq_true rfl) (Nat.le_of_ble_eq_true rfl) dX0_name_27
    · have c_4 : ¬ (9 ≤ k_3) := fun h => c_4 ((nle 9 k_3 (by omega) (by omega)).mpr h)
      refine lv_aload_n hx hb dX0_name_19 rfl (lv_at hl 1 rfl) ?_
      refine sk_get (v := .ref k3) (C := RX0) (T := TX0) (N := 6) hx hb hts inlX0 hown hK hP 0 rfl rfl 2 (by decide) w_1_131 rfl dX0_name_20 ?_
      refine lv_iload hx hb dX0_name_23 (lv_at hl 0 rfl) ?_
      refine lv_lload_n hx hb dX0_name_25 rfl (lv_at hl 3 rfl) ?_
      refine sk_lastO (ws' := fun f_5 => [(h0, .inr (0, [.ref k1, .ref k2, .ref k3, .ref k4, .int (nI cl), .int (nI mw)])), (k3, .inl (cJ, 9, .inr (.inl f_5)))]) hx hb hK hP hD hS 1 1 rfl rfl (vin k_3 9 (by omega) (by omega)) (fun _ => rfl) dX0_name_26 (fun f_5 H locs hP hD hS => ?_)
      exact sk_vret hx hb hr hlocks hK hP hD hS (⟨f_5, rfl⟩) (Nat.le_of_ble_eq_true rfl) (Nat.le_of_ble_eq_true rfl) dX0_name_27
theorem dg_X0_nameCount_0_0 : bqL cX0_nameCount 0 [(0, [27]), (1, [155, 0, 16]), (17, [177]), (4, [27]), (5, [16, 10]), (7, [162, 0, 10]), (10, [42]), (11, [180, 0, 24]), (14, [27]), (15, [32]), (16, [80])] = true := by decide +kernel
theorem dX0_nameCount_0 : decode cX0_nameCount 0 = .ok (.iload_n 1, 1) := q_iload_n1 (bat_get dg_X0_nameCount_0_0 0 rfl rfl)
theorem dX0_nameCount_1 : decode cX0_nameCount 1 = .ok (.ifCond .lt 16, 3) := q_ifCond_lt (bat_get dg_X0_nameCount_0_0 1 rfl rfl) rfl
theorem dX0_nameCount_17 : decode cX0_nameCount 17 = .ok (.return_, 1) := q_return_ (bat_get dg_X0_nameCount_0_0 2 rfl rfl)
theorem dX0_nameCount_4 : decode cX0_nameCount 4 = .ok (.iload_n 1, 1) := q_iload_n1 (bat_get dg_X0_nameCount_0_0 3 rfl rfl)
theorem dX0_nameCount_5 : decode cX0_nameCount 5 = .ok (.bipush 10, 2) := q_bipush (bat_get dg_X0_nameCount_0_0 4 rfl rfl) rfl
theorem dX0_nameCount_7 : decode cX0_nameCount 7 = .ok (.if_icmp .ge 10, 3) := q_if_icmp_ge (bat_get dg_X0_nameCount_0_0 5 rfl rfl) rfl
theorem dX0_nameCount_10 : decode cX0_nameCount 10 = .ok (.aload_n 0, 1) := q_aload_n0 (bat_get dg_X0_nameCount_0_0 6 rfl rfl)
theorem dX0_nameCount_11 : decode cX0_nameCount 11 = .ok (.getfield 24, 3) := q_getfield (bat_get dg_X0_nameCount_0_0 7 rfl rfl) rfl
theorem dX0_nameCount_14 : decode cX0_nameCount 14 = .ok (.iload_n 1, 1) := q_iload_n1 (bat_get dg_X0_nameCount_0_0 8 rfl rfl)
theorem dX0_nameCount_15 : decode cX0_nameCount 15 = .ok (.lload_n 2, 1) := q_lload_n2 (bat_get dg_X0_nameCount_0_0 9 rfl rfl)
theorem dX0_nameCount_16 : decode cX0_nameCount 16 = .ok (.lastore, 1) := q_lastore (bat_get dg_X0_nameCount_0_0 10 rfl rfl)
theorem w_1_132 : (Cond.fieldLink RX0 24 "SameKeeper$Code" "counts" "[J") ∈ wsL_law := sk_mem (ck_1 _ (List.mem_of_getElem? (i := 132) rfl)) rfl
theorem w_5_115 : (Cond.code yX0_nameCount cX0_nameCount 4 none) ∈ wsL_law := sk_mem (ck_5 _ (List.mem_of_getElem? (i := 115) rfl)) rfl
set_option maxHeartbeats 4000000 in
set_option maxRecDepth 100000 in
theorem c_Code_nameCount (l : Launch) (D : va_G) (cI cJ cC cZ cS : ClassId) (h0 : Nat) (k1 : Nat) (k2 : Nat) (k3 : Nat) (k4 : Nat) (cl : Nat) (mw : Nat) (f4 : Nat → Int64) (o : Int32) (x : Int64)  : skM l yX0_nameCount cX0_nameCount 4 none 0 0 0 0 D (skT cI cJ cC cZ cS) [.ref h0, .int o, .long x] [(h0, .inr (0, [.ref k1, .ref k2, .ref k3, .ref k4, .int (nI cl), .int (nI mw)])), (k4, .inl (cJ, 10, .inr (.inl f4)))] (skV D (skT cI cJ cC cZ cS) (fun (u : va_W) => ∃ (g4 : Nat → Int64), u = [(h0, .inr (0, [.ref k1, .ref k2, .ref k3, .ref k4, .int (nI cl), .int (nI mw)])), (k4, .inl (cJ, 10, .inr (.inl g4)))])) := by
  refine skM_of pf_X0_nameCount (Nat.le_of_ble_eq_true rfl) ?_
  intro p e s m below meth c A ls E hP hD hl
  refine skE_el E (fun hx hb hr hml hlocks hin hown hts hK hA => ?_)
  have hown : s.vm.findClass RX0 = some m.cls := hown
  have hS : va_S A s.heap s.heap [] := va_S.rf
  have hl : lv_has ls 4 [(0, .ref h0), (1, .int o), (2, .long x)] := hl
  refine lv_iload_n hx hb dX0_nameCount_0 rfl (lv_at hl 1 rfl) ?_
  refine lv_if_lt (tgt := 17) hx hb dX0_nameCount_1 (by decide) (fun c_1 => ?_) (fun c_1 => ?_)
  · skip
    exact sk_vret hx hb hr hlocks hK hP hD hS (⟨f4, rfl⟩) (Nat.le_of_ble_eq_true rfl) (Nat.le_of_ble_eq_true rfl) dX0_nameCount_17
  · obtain ⟨k_2, hk_2, rfl⟩ := nof o c_1
    refine lv_iload_n hx hb dX0_nameCount_4 rfl (lv_at hl 1 rfl) ?_
    refine lv_bipush (v := 10) hx hb dX0_nameCount_5 (by decide) ?_
    refine lv_icmp_ge (tgt := 17) hx hb dX0_nameCount_7 (by decide) (fun c_3 => ?_) (fun c_3 => ?_)
    · have c_3 : 10 ≤ k_2 := (nle 10 k_2 (by omega) (by omega)).mp c_3
      exact sk_vret hx hb hr hlocks hK hP hD hS (⟨f4, rfl⟩) (Nat.le_of_ble_eq_true rfl) (Nat.le_of_ble_eq_true rfl) dX0_nameCount_17
    · have c_3 : ¬ (10 ≤ k_2) := fun h => c_3 ((nle 10 k_2 (by omega) (by omega)).mpr h)
      refine lv_aload_n hx hb dX0_nameCount_10 rfl (lv_at hl 0 rfl) ?_
      refine sk_get (v := .ref k4) (C := RX0) (T := TX0) (N := 6) hx hb hts inlX0 hown hK hP 0 rfl rfl 3 (by decide) w_1_132 rfl dX0_nameCount_11 ?_
      refine lv_iload_n hx hb dX0_nameCount_14 rfl (lv_at hl 1 rfl) ?_
      refine lv_lload_n hx hb dX0_nameCount_15 rfl (lv_at hl 2 rfl) ?_
      refine sk_lastO (ws' := fun f_4 => [(h0, .inr (0, [.ref k1, .ref k2, .ref k3, .ref k4, .int (nI cl), .int (nI mw)])), (k4, .inl (cJ, 10, .inr (.inl f_4)))]) hx hb hK hP hD hS 1 1 rfl rfl (vin k_2 10 (by omega) (by omega)) (fun _ => rfl) dX0_nameCount_16 (fun f_4 H locs hP hD hS => ?_)
      exact sk_vret hx hb hr hlocks hK hP hD hS (⟨f_4, rfl⟩) (Nat.le_of_ble_eq_true rfl) (Nat.le_of_ble_eq_true rfl) dX0_nameCount_17
