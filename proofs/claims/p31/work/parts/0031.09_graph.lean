theorem dg_X1_settle_0_0 : bqL cX1_settle 0 [(0, [42]), (1, [180, 0, 18]), (4, [42]), (5, [180, 0, 31]), (8, [17, 3, 255]), (11, [79]), (12, [42]), (13, [180, 0, 31]), (16, [4]), (17, [100]), (18, [60]), (19, [27]), (20, [155, 0, 47]), (67, [42]), (68, [180, 0, 18]), (71, [3]), (72, [46]), (73, [42]), (74, [180, 0, 35]), (77, [122]), (78, [4]), (79, [126]), (80, [4]), (81, [160, 0, 7]), (88, [3]), (89, [172]), (84, [4]), (85, [167, 0, 4]), (23, [3]), (24, [61]), (25, [3]), (26, [62]), (27, [29]), (28, [16, 10]), (30, [162, 0, 24]), (54, [42]), (55, [180, 0, 18]), (58, [27]), (59, [28]), (60, [79])] = true := by decide +kernel
theorem dX1_settle_0 : decode cX1_settle 0 = .ok (.aload_n 0, 1) := q_aload_n0 (bat_get dg_X1_settle_0_0 0 rfl rfl)
theorem dX1_settle_1 : decode cX1_settle 1 = .ok (.getfield 18, 3) := q_getfield (bat_get dg_X1_settle_0_0 1 rfl rfl) rfl
theorem dX1_settle_4 : decode cX1_settle 4 = .ok (.aload_n 0, 1) := q_aload_n0 (bat_get dg_X1_settle_0_0 2 rfl rfl)
theorem dX1_settle_5 : decode cX1_settle 5 = .ok (.getfield 31, 3) := q_getfield (bat_get dg_X1_settle_0_0 3 rfl rfl) rfl
theorem dX1_settle_8 : decode cX1_settle 8 = .ok (.sipush 1023, 3) := q_sipush (bat_get dg_X1_settle_0_0 4 rfl rfl) rfl
theorem dX1_settle_11 : decode cX1_settle 11 = .ok (.iastore, 1) := q_iastore (bat_get dg_X1_settle_0_0 5 rfl rfl)
theorem dX1_settle_12 : decode cX1_settle 12 = .ok (.aload_n 0, 1) := q_aload_n0 (bat_get dg_X1_settle_0_0 6 rfl rfl)
theorem dX1_settle_13 : decode cX1_settle 13 = .ok (.getfield 31, 3) := q_getfield (bat_get dg_X1_settle_0_0 7 rfl rfl) rfl
theorem dX1_settle_16 : decode cX1_settle 16 = .ok (.iconst 1, 1) := q_iconst1 (bat_get dg_X1_settle_0_0 8 rfl rfl)
theorem dX1_settle_17 : decode cX1_settle 17 = .ok (.isub, 1) := q_isub (bat_get dg_X1_settle_0_0 9 rfl rfl)
theorem dX1_settle_18 : decode cX1_settle 18 = .ok (.istore_n 1, 1) := q_istore_n1 (bat_get dg_X1_settle_0_0 10 rfl rfl)
theorem dX1_settle_19 : decode cX1_settle 19 = .ok (.iload_n 1, 1) := q_iload_n1 (bat_get dg_X1_settle_0_0 11 rfl rfl)
theorem dX1_settle_20 : decode cX1_settle 20 = .ok (.ifCond .lt 47, 3) := q_ifCond_lt (bat_get dg_X1_settle_0_0 12 rfl rfl) rfl
theorem dX1_settle_67 : decode cX1_settle 67 = .ok (.aload_n 0, 1) := q_aload_n0 (bat_get dg_X1_settle_0_0 13 rfl rfl)
theorem dX1_settle_68 : decode cX1_settle 68 = .ok (.getfield 18, 3) := q_getfield (bat_get dg_X1_settle_0_0 14 rfl rfl) rfl
theorem dX1_settle_71 : decode cX1_settle 71 = .ok (.iconst 0, 1) := q_iconst0 (bat_get dg_X1_settle_0_0 15 rfl rfl)
theorem dX1_settle_72 : decode cX1_settle 72 = .ok (.iaload, 1) := q_iaload (bat_get dg_X1_settle_0_0 16 rfl rfl)
theorem dX1_settle_73 : decode cX1_settle 73 = .ok (.aload_n 0, 1) := q_aload_n0 (bat_get dg_X1_settle_0_0 17 rfl rfl)
theorem dX1_settle_74 : decode cX1_settle 74 = .ok (.getfield 35, 3) := q_getfield (bat_get dg_X1_settle_0_0 18 rfl rfl) rfl
theorem dX1_settle_77 : decode cX1_settle 77 = .ok (.ishr, 1) := q_ishr (bat_get dg_X1_settle_0_0 19 rfl rfl)
theorem dX1_settle_78 : decode cX1_settle 78 = .ok (.iconst 1, 1) := q_iconst1 (bat_get dg_X1_settle_0_0 20 rfl rfl)
theorem dX1_settle_79 : decode cX1_settle 79 = .ok (.iand, 1) := q_iand (bat_get dg_X1_settle_0_0 21 rfl rfl)
theorem dX1_settle_80 : decode cX1_settle 80 = .ok (.iconst 1, 1) := q_iconst1 (bat_get dg_X1_settle_0_0 22 rfl rfl)
theorem dX1_settle_81 : decode cX1_settle 81 = .ok (.if_icmp .ne 7, 3) := q_if_icmp_ne (bat_get dg_X1_settle_0_0 23 rfl rfl) rfl
theorem dX1_settle_88 : decode cX1_settle 88 = .ok (.iconst 0, 1) := q_iconst0 (bat_get dg_X1_settle_0_0 24 rfl rfl)
theorem dX1_settle_89 : decode cX1_settle 89 = .ok (.ireturn, 1) := q_ireturn (bat_get dg_X1_settle_0_0 25 rfl rfl)
theorem dX1_settle_84 : decode cX1_settle 84 = .ok (.iconst 1, 1) := q_iconst1 (bat_get dg_X1_settle_0_0 26 rfl rfl)
theorem dX1_settle_85 : decode cX1_settle 85 = .ok (.goto 4, 3) := q_goto (bat_get dg_X1_settle_0_0 27 rfl rfl) rfl
theorem dX1_settle_23 : decode cX1_settle 23 = .ok (.iconst 0, 1) := q_iconst0 (bat_get dg_X1_settle_0_0 28 rfl rfl)
theorem dX1_settle_24 : decode cX1_settle 24 = .ok (.istore_n 2, 1) := q_istore_n2 (bat_get dg_X1_settle_0_0 29 rfl rfl)
theorem dX1_settle_25 : decode cX1_settle 25 = .ok (.iconst 0, 1) := q_iconst0 (bat_get dg_X1_settle_0_0 30 rfl rfl)
theorem dX1_settle_26 : decode cX1_settle 26 = .ok (.istore_n 3, 1) := q_istore_n3 (bat_get dg_X1_settle_0_0 31 rfl rfl)
theorem dX1_settle_27 : decode cX1_settle 27 = .ok (.iload_n 3, 1) := q_iload_n3 (bat_get dg_X1_settle_0_0 32 rfl rfl)
theorem dX1_settle_28 : decode cX1_settle 28 = .ok (.bipush 10, 2) := q_bipush (bat_get dg_X1_settle_0_0 33 rfl rfl) rfl
theorem dX1_settle_30 : decode cX1_settle 30 = .ok (.if_icmp .ge 24, 3) := q_if_icmp_ge (bat_get dg_X1_settle_0_0 34 rfl rfl) rfl
theorem dX1_settle_54 : decode cX1_settle 54 = .ok (.aload_n 0, 1) := q_aload_n0 (bat_get dg_X1_settle_0_0 35 rfl rfl)
theorem dX1_settle_55 : decode cX1_settle 55 = .ok (.getfield 18, 3) := q_getfield (bat_get dg_X1_settle_0_0 36 rfl rfl) rfl
theorem dX1_settle_58 : decode cX1_settle 58 = .ok (.iload_n 1, 1) := q_iload_n1 (bat_get dg_X1_settle_0_0 37 rfl rfl)
theorem dX1_settle_59 : decode cX1_settle 59 = .ok (.iload_n 2, 1) := q_iload_n2 (bat_get dg_X1_settle_0_0 38 rfl rfl)
theorem dX1_settle_60 : decode cX1_settle 60 = .ok (.iastore, 1) := q_iastore (bat_get dg_X1_settle_0_0 39 rfl rfl)
theorem dg_X1_settle_33_61 : bqL cX1_settle 33 [(28, [132, 1, 255]), (31, [167, 255, 211]), (0, [42]), (1, [27]), (2, [29]), (3, [182, 0, 66]), (6, [153, 0, 9]), (15, [132, 3, 1]), (18, [167, 255, 232]), (9, [28]), (10, [4]), (11, [29]), (12, [120]), (13, [128]), (14, [61])] = true := by decide +kernel
theorem dX1_settle_61 : decode cX1_settle 61 = .ok (.iinc 1 (-1), 3) := q_iinc (bat_get dg_X1_settle_33_61 0 rfl rfl) rfl
theorem dX1_settle_64 : decode cX1_settle 64 = .ok (.goto (-45), 3) := q_goto (bat_get dg_X1_settle_33_61 1 rfl rfl) rfl
theorem dX1_settle_33 : decode cX1_settle 33 = .ok (.aload_n 0, 1) := q_aload_n0 (bat_get dg_X1_settle_33_61 2 rfl rfl)
theorem dX1_settle_34 : decode cX1_settle 34 = .ok (.iload_n 1, 1) := q_iload_n1 (bat_get dg_X1_settle_33_61 3 rfl rfl)
theorem dX1_settle_35 : decode cX1_settle 35 = .ok (.iload_n 3, 1) := q_iload_n3 (bat_get dg_X1_settle_33_61 4 rfl rfl)
theorem dX1_settle_36 : decode cX1_settle 36 = .ok (.invokevirtual 66, 3) := q_invokevirtual (bat_get dg_X1_settle_33_61 5 rfl rfl) rfl
theorem dX1_settle_39 : decode cX1_settle 39 = .ok (.ifCond .eq 9, 3) := q_ifCond_eq (bat_get dg_X1_settle_33_61 6 rfl rfl) rfl
theorem dX1_settle_48 : decode cX1_settle 48 = .ok (.iinc 3 1, 3) := q_iinc (bat_get dg_X1_settle_33_61 7 rfl rfl) rfl
theorem dX1_settle_51 : decode cX1_settle 51 = .ok (.goto (-24), 3) := q_goto (bat_get dg_X1_settle_33_61 8 rfl rfl) rfl
theorem dX1_settle_42 : decode cX1_settle 42 = .ok (.iload_n 2, 1) := q_iload_n2 (bat_get dg_X1_settle_33_61 9 rfl rfl)
theorem dX1_settle_43 : decode cX1_settle 43 = .ok (.iconst 1, 1) := q_iconst1 (bat_get dg_X1_settle_33_61 10 rfl rfl)
theorem dX1_settle_44 : decode cX1_settle 44 = .ok (.iload_n 3, 1) := q_iload_n3 (bat_get dg_X1_settle_33_61 11 rfl rfl)
theorem dX1_settle_45 : decode cX1_settle 45 = .ok (.ishl, 1) := q_ishl (bat_get dg_X1_settle_33_61 12 rfl rfl)
theorem dX1_settle_46 : decode cX1_settle 46 = .ok (.ior, 1) := q_ior (bat_get dg_X1_settle_33_61 13 rfl rfl)
theorem dX1_settle_47 : decode cX1_settle 47 = .ok (.istore_n 2, 1) := q_istore_n2 (bat_get dg_X1_settle_33_61 14 rfl rfl)
theorem w_4_57 : (Cond.methodLink RX1 66 yX1_next) ∈ wsL_law := sk_mem (ck_4 _ (List.mem_of_getElem? (i := 57) rfl)) rfl
theorem w_4_59 : (Cond.instanceMethod yX1_next) ∈ wsL_law := sk_mem (ck_4 _ (List.mem_of_getElem? (i := 59) rfl)) rfl
theorem w_0_20 : (Cond.selects RX1 yX1_next yX1_next) ∈ wsL_law := sk_mem (ck_0 _ (List.mem_of_getElem? (i := 20) rfl)) rfl
theorem w_1_13 : (Cond.initialized RX1) ∈ wsL_law := sk_mem (ck_1 _ (List.mem_of_getElem? (i := 13) rfl)) rfl
theorem w_4_56 : (Cond.code yX1_settle cX1_settle 4 (some .boolean)) ∈ wsL_law := sk_mem (ck_4 _ (List.mem_of_getElem? (i := 56) rfl)) rfl
def om_4_f : List Bool := true :: true :: true :: true :: []
theorem hd_X1_next_2 : skD yX1_next 2 := by decide +kernel
set_option maxHeartbeats 4000000 in
set_option maxRecDepth 100000 in
theorem c_settle (l : Launch) (D : va_G) (cI cJ cC cZ cS : ClassId) (q : Nat → Nat) (gd : Nat) (gs : Nat) (e1 : Nat → Int32) (e2 : Nat → Int32) (e3 : Nat → Int32) (hgd : gd ≤ 9) (hgs : gs ≤ 9) : skM l yX1_settle cX1_settle 4 (some .boolean) 1 22 0 0 D (skT cI cJ cC cZ cS) [.ref (q 11)] [(q 11, .inr (1, [.ref (q 10), .ref (q 67), .ref (q 68), .ref (q 69), .ref (q 70), .ref (q 71), .ref (q 72), .int (nI gd), .int (nI gs)])), (q 67, .inl (cI, 90, .inl e1)), (q 68, .inl (cI, 9, .inl e2)), (q 69, .inl (cI, 10, .inl e3))] (skI D (skT cI cJ cC cZ cS) (fun (r : Int32) (u : va_W) => ∃ (b : Nat), ∃ (g3 : Nat → Int32), b ≤ 1 ∧ r = nI b ∧ u = [(q 11, .inr (1, [.ref (q 10), .ref (q 67), .ref (q 68), .ref (q 69), .ref (q 70), .ref (q 71), .ref (q 72), .int (nI gd), .int (nI gs)])), (q 67, .inl (cI, 90, .inl e1)), (q 68, .inl (cI, 9, .inl e2)), (q 69, .inl (cI, 10, .inl g3))])) := by
  refine skM_of pf_X1_settle (Nat.le_of_ble_eq_true rfl) ?_
  intro p e s m below meth c A ls E hP hD hl
  refine skE_el E (fun hx hb hr hml hlocks hin hown hts hK hA => ?_)
  have hown : s.vm.findClass RX1 = some m.cls := hown
  have hS : va_S A s.heap s.heap [] := va_S.rf
  have hl : lv_has ls 4 [(0, .ref (q 11))] := hl
  refine lv_aload_n hx hb dX1_settle_0 rfl (lv_at hl 0 rfl) ?_
  refine sk_get (v := .ref (q 69)) (C := RX1) (T := TX1) (N := 9) hx hb hts inlX1 hown hK hP 0 rfl rfl 3 (by decide) w_2_98 rfl dX1_settle_1 ?_
  refine lv_aload_n hx hb dX1_settle_4 rfl (lv_at hl 0 rfl) ?_
  refine sk_get (v := .int (nI gd)) (C := RX1) (T := TX1) (N := 9) hx hb hts inlX1 hown hK hP 0 rfl rfl 7 (by decide) w_2_102 rfl dX1_settle_5 ?_
  refine lv_sipush (v := 1023) hx hb dX1_settle_8 (by decide) ?_
  refine sk_iastO (ws' := fun f_1 => [(q 11, .inr (1, [.ref (q 10), .ref (q 67), .ref (q 68), .ref (q 69), .ref (q 70), .ref (q 71), .ref (q 72), .int (nI gd), .int (nI gs)])), (q 67, .inl (cI, 90, .inl e1)), (q 68, .inl (cI, 9, .inl e2)), (q 69, .inl (cI, 10, .inl f_1))]) hx hb hK hP hD hS 3 0 rfl rfl (vin gd 10 (by omega) (by omega)) (fun _ => rfl) dX1_settle_11 (fun f_1 H locs hP hD hS => ?_)
  refine lv_aload_n hx hb dX1_settle_12 rfl (lv_at hl 0 rfl) ?_
  refine sk_get (v := .int (nI gd)) (C := RX1) (T := TX1) (N := 9) hx hb hts inlX1 hown hK hP 0 rfl rfl 7 (by decide) w_2_102 rfl dX1_settle_13 ?_
  refine lv_iconst (v := 1) hx hb dX1_settle_16 (by decide) ?_
  refine lv_isub hx hb dX1_settle_17 ?_
  refine lv_istore_n (lv' := [(1, .int (nI gd - 1)), (0, .ref (q 11))]) hx hb dX1_settle_18 rfl hl (by decide) rfl (fun ls hl => ?_)
  have lp_2 : ∀ (n_3 : Nat) (dd : Nat) (a3 : Nat → Int32) (H : Heap) (locs : List Loc) (ls : Array Slot), dd < n_3 → (dd ≤ 9) → va_P D vwCl [(q 11, .inr (1, [.ref (q 10), .ref (q 67), .ref (q 68), .ref (q 69), .ref (q 70), .ref (q 71), .ref (q 72), .int (nI gd), .int (nI gs)])), (q 67, .inl (cI, 90, .inl e1)), (q 68, .inl (cI, 9, .inl e2)), (q 69, .inl (cI, 10, .inl a3))] H → va_D A [(q 11, .inr (1, [.ref (q 10), .ref (q 67), .ref (q 68), .ref (q 69), .ref (q 70), .ref (q 71), .ref (q 72), .int (nI gd), .int (nI gs)])), (q 67, .inl (cI, 90, .inl e1)), (q 68, .inl (cI, 9, .inl e2)), (q 69, .inl (cI, 10, .inl a3))] → va_S A s.heap H locs → lv_has ls 4 [(1, .int (nI dd - 1)), (0, .ref (q 11))] → W p l e { frames := 1, cells := 0, slots := 0, locals := 22 } s m ([.ref (q 11)] : List Value).toArray below meth c H locs 0 0 (MQ below (skI D (skT cI cJ cC cZ cS) (fun (r : Int32) (u : va_W) => ∃ (b : Nat), ∃ (g3 : Nat → Int32), b ≤ 1 ∧ r = nI b ∧ u = [(q 11, .inr (1, [.ref (q 10), .ref (q 67), .ref (q 68), .ref (q 69), .ref (q 70), .ref (q 71), .ref (q 72), .int (nI gd), .int (nI gs)])), (q 67, .inl (cI, 90, .inl e1)), (q 68, .inl (cI, 9, .inl e2)), (q 69, .inl (cI, 10, .inl g3))]) A) ([.ref (q 11)] : List Value).toArray s 0 0 A) (F0 m 19 ls []) := by
    intro n_3
    induction n_3 with
    | zero => intro dd a3 H locs ls hm; exact absurd hm (Nat.not_lt_zero _)
    | succ n_3 ih_lp_2 =>
      intro dd a3 H locs ls hm hdd hP hD hS hl
      refine lv_iload_n hx hb dX1_settle_19 rfl (lv_at hl 0 rfl) ?_
      refine lv_if_lt (tgt := 67) hx hb dX1_settle_20 (by decide) (fun c_4 => ?_) (fun c_4 => ?_)
      · have c_4 : dd = 0 := npm0 dd (by omega) c_4
        refine lv_aload_n hx hb dX1_settle_67 rfl (lv_at hl 1 rfl) ?_
        refine sk_get (v := .ref (q 69)) (C := RX1) (T := TX1) (N := 9) hx hb hts inlX1 hown hK hP 0 rfl rfl 3 (by decide) w_2_98 rfl dX1_settle_68 ?_
        refine lv_iconst (v := 0) hx hb dX1_settle_71 (by decide) ?_
        refine va_iald hx hb hK.1 hP 3 0 rfl rfl (by unfold vp_in; decide) dX1_settle_72 ?_
        refine lv_topi (fun v_5 ev_5 => ?_)
        refine lv_aload_n hx hb dX1_settle_73 rfl (lv_at hl 1 rfl) ?_
        refine sk_get (v := .int (nI gs)) (C := RX1) (T := TX1) (N := 9) hx hb hts inlX1 hown hK hP 0 rfl rfl 8 (by decide) w_2_103 rfl dX1_settle_74 ?_
        refine lv_ishr hx hb dX1_settle_77 ?_
        refine lv_topi (fun v_6 ev_6 => ?_)
        refine lv_iconst (v := 1) hx hb dX1_settle_78 (by decide) ?_
        refine lv_iand hx hb dX1_settle_79 ?_
        refine lv_topi (fun v_7 ev_7 => ?_)
        refine lv_iconst (v := 1) hx hb dX1_settle_80 (by decide) ?_
        refine lv_icmp_ne (tgt := 88) hx hb dX1_settle_81 (by decide) (fun c_8 => ?_) (fun c_8 => ?_)
        · skip
          refine lv_iconst (v := 0) hx hb dX1_settle_88 (by decide) ?_
          exact sk_iret hx hb hr rfl hlocks hK hP hD hS (⟨0, a3, by omega, rfl, rfl⟩) (Nat.le_of_ble_eq_true rfl) (Nat.le_of_ble_eq_true rfl) dX1_settle_89
        · skip
          refine lv_iconst (v := 1) hx hb dX1_settle_84 (by decide) ?_
          refine lv_goto (tgt := 89) hx hb dX1_settle_85 (by decide) ?_
          exact sk_iret hx hb hr rfl hlocks hK hP hD hS (⟨1, a3, by omega, rfl, rfl⟩) (Nat.le_of_ble_eq_true rfl) (Nat.le_of_ble_eq_true rfl) dX1_settle_89
      · have c_4 : 1 ≤ dd := npm1 dd c_4
        rw [npred dd (by omega)] at hl
        refine lv_iconst (v := 0) hx hb dX1_settle_23 (by decide) ?_
        refine lv_istore_n (lv' := [(2, .int 0), (1, .int (nI (dd - 1))), (0, .ref (q 11))]) hx hb dX1_settle_24 rfl hl (by decide) rfl (fun ls hl => ?_)
        refine lv_iconst (v := 0) hx hb dX1_settle_25 (by decide) ?_
        refine lv_istore_n (lv' := [(3, .int 0), (2, .int 0), (1, .int (nI (dd - 1))), (0, .ref (q 11))]) hx hb dX1_settle_26 rfl hl (by decide) rfl (fun ls hl => ?_)
        have lp_9 : ∀ (n_10 : Nat) (i : Nat) (al : Int32) (H : Heap) (locs : List Loc) (ls : Array Slot), 10 - i < n_10 → (i ≤ 10) → va_P D vwCl [(q 11, .inr (1, [.ref (q 10), .ref (q 67), .ref (q 68), .ref (q 69), .ref (q 70), .ref (q 71), .ref (q 72), .int (nI gd), .int (nI gs)])), (q 67, .inl (cI, 90, .inl e1)), (q 68, .inl (cI, 9, .inl e2)), (q 69, .inl (cI, 10, .inl a3))] H → va_D A [(q 11, .inr (1, [.ref (q 10), .ref (q 67), .ref (q 68), .ref (q 69), .ref (q 70), .ref (q 71), .ref (q 72), .int (nI gd), .int (nI gs)])), (q 67, .inl (cI, 90, .inl e1)), (q 68, .inl (cI, 9, .inl e2)), (q 69, .inl (cI, 10, .inl a3))] → va_S A s.heap H locs → lv_has ls 4 [(3, .int (nI i)), (2, .int al), (1, .int (nI (dd - 1))), (0, .ref (q 11))] → W p l e { frames := 1, cells := 0, slots := 0, locals := 22 } s m ([.ref (q 11)] : List Value).toArray below meth c H locs 0 0 (MQ below (skI D (skT cI cJ cC cZ cS) (fun (r : Int32) (u : va_W) => ∃ (b : Nat), ∃ (g3 : Nat → Int32), b ≤ 1 ∧ r = nI b ∧ u = [(q 11, .inr (1, [.ref (q 10), .ref (q 67), .ref (q 68), .ref (q 69), .ref (q 70), .ref (q 71), .ref (q 72), .int (nI gd), .int (nI gs)])), (q 67, .inl (cI, 90, .inl e1)), (q 68, .inl (cI, 9, .inl e2)), (q 69, .inl (cI, 10, .inl g3))]) A) ([.ref (q 11)] : List Value).toArray s 0 0 A) (F0 m 27 ls []) := by
          intro n_10
          induction n_10 with
          | zero => intro i al H locs ls hm; exact absurd hm (Nat.not_lt_zero _)
          | succ n_10 ih_lp_9 =>
            intro i al H locs ls hm hi hP hD hS hl
            refine lv_iload_n hx hb dX1_settle_27 rfl (lv_at hl 0 rfl) ?_
            refine lv_bipush (v := 10) hx hb dX1_settle_28 (by decide) ?_
            refine lv_icmp_ge (tgt := 54) hx hb dX1_settle_30 (by decide) (fun c_11 => ?_) (fun c_11 => ?_)
            · have c_11 : 10 ≤ i := (nle 10 i (by omega) (by omega)).mp c_11
              refine lv_aload_n hx hb dX1_settle_54 rfl (lv_at hl 3 rfl) ?_
              refine sk_get (v := .ref (q 69)) (C := RX1) (T := TX1) (N := 9) hx hb hts inlX1 hown hK hP 0 rfl rfl 3 (by decide) w_2_98 rfl dX1_settle_55 ?_
              refine lv_iload_n hx hb dX1_settle_58 rfl (lv_at hl 2 rfl) ?_
              refine lv_iload_n hx hb dX1_settle_59 rfl (lv_at hl 1 rfl) ?_
              refine sk_iastO (ws' := fun f_12 => [(q 11, .inr (1, [.ref (q 10), .ref (q 67), .ref (q 68), .ref (q 69), .ref (q 70), .ref (q 71), .ref (q 72), .int (nI gd), .int (nI gs)])), (q 67, .inl (cI, 90, .inl e1)), (q 68, .inl (cI, 9, .inl e2)), (q 69, .inl (cI, 10, .inl f_12))]) hx hb hK hP hD hS 3 0 rfl rfl (vin (dd - 1) 10 (by omega) (by omega)) (fun _ => rfl) dX1_settle_60 (fun f_12 H locs hP hD hS => ?_)
              refine lv_iinc (v := nI (dd - 1) - 1) (lv' := [(1, .int (nI (dd - 1) - 1)), (3, .int (nI i)), (2, .int al), (0, .ref (q 11))]) hx hb dX1_settle_61 hl (k := 2) rfl (ndn _) (by decide) rfl (fun ls hl => ?_)
              refine lv_goto (tgt := 19) hx hb dX1_settle_64 (by decide) ?_
              exact ih_lp_2 (dd - 1) f_12 _ _ _ (by omega) (by omega) hP hD hS (lv_sub hl [0, 3] rfl)
            · have c_11 : ¬ (10 ≤ i) := fun h => c_11 ((nle 10 i (by omega) (by omega)).mpr h)
              refine lv_aload_n hx hb dX1_settle_33 rfl (lv_at hl 3 rfl) ?_
              refine lv_iload_n hx hb dX1_settle_34 rfl (lv_at hl 2 rfl) ?_
              refine lv_iload_n hx hb dX1_settle_35 rfl (lv_at hl 0 rfl) ?_
              refine sk_Vi (q0 := 0) (n := 2) (rest := []) (wr := fmR om_4_f _) ⟨hx, hb, hml, hown, hts⟩ hl.1 (c_next l D cI cJ cC cZ cS q gd gs e1 e2 a3 (dd - 1) i (by omega) (by omega)) w_4_57 w_4_59 w_0_20 w_1_13 w_4_60 hd_X1_next_2 ⟨⟨(Nat.le_of_ble_eq_true rfl), (Nat.le_of_ble_eq_true rfl)⟩, (Nat.le_of_ble_eq_true rfl), (Nat.le_of_ble_eq_true rfl)⟩ hK hP hD hS hA (fmT om_4_f 0) (fmF om_4_f 0) (fm_C1 rfl rfl) (fm_R rfl rfl) (fm_nT om_4_f 0) (fm_nF om_4_f 0) (fm_di om_4_f 0) rfl rfl rfl rfl (Nat.le_of_ble_eq_true rfl) dX1_settle_36 (fun r_13 u H locs hw hP hD hS => ?_)
              refine o_mgE (ws' := [(q 11, .inr (1, [.ref (q 10), .ref (q 67), .ref (q 68), .ref (q 69), .ref (q 70), .ref (q 71), .ref (q 72), .int (nI gd), .int (nI gs)])), (q 67, .inl (cI, 90, .inl e1)), (q 68, .inl (cI, 9, .inl e2)), (q 69, .inl (cI, 10, .inl a3))]) hw hP hD rfl (fun hP hD => ?_)
              refine lv_if_eq (tgt := 48) hx hb dX1_settle_39 (by decide) (fun c_14 => ?_) (fun c_14 => ?_)
              · skip
                refine lv_iinc (v := nI (i + 1)) (lv' := [(3, .int (nI (i + 1))), (2, .int al), (1, .int (nI (dd - 1))), (0, .ref (q 11))]) hx hb dX1_settle_48 hl (k := 0) rfl (ninc i 1 (by decide)) (by decide) rfl (fun ls hl => ?_)
                refine lv_goto (tgt := 27) hx hb dX1_settle_51 (by decide) ?_
                exact ih_lp_9 (i + 1) al _ _ _ (by omega) (by omega) hP hD hS (lv_sub hl [0, 1, 2, 3] rfl)
              · skip
                refine lv_iload_n hx hb dX1_settle_42 rfl (lv_at hl 1 rfl) ?_
                refine lv_iconst (v := 1) hx hb dX1_settle_43 (by decide) ?_
                refine lv_iload_n hx hb dX1_settle_44 rfl (lv_at hl 0 rfl) ?_
                refine lv_ishl hx hb dX1_settle_45 ?_
                refine lv_topi (fun v_15 ev_15 => ?_)
                refine lv_ior hx hb dX1_settle_46 ?_
                refine lv_topi (fun v_16 ev_16 => ?_)
                refine lv_istore_n (lv' := [(2, .int v_16), (3, .int (nI i)), (1, .int (nI (dd - 1))), (0, .ref (q 11))]) hx hb dX1_settle_47 rfl hl (by decide) rfl (fun ls hl => ?_)
                refine lv_iinc (v := nI (i + 1)) (lv' := [(3, .int (nI (i + 1))), (2, .int v_16), (1, .int (nI (dd - 1))), (0, .ref (q 11))]) hx hb dX1_settle_48 hl (k := 1) rfl (ninc i 1 (by decide)) (by decide) rfl (fun ls hl => ?_)
                refine lv_goto (tgt := 27) hx hb dX1_settle_51 (by decide) ?_
                exact ih_lp_9 (i + 1) v_16 _ _ _ (by omega) (by omega) hP hD hS (lv_sub hl [0, 1, 2, 3] rfl)
        exact lp_9 (10 - 0 + 1) 0 0 _ _ _ (Nat.lt_succ_self _) (by omega) hP hD hS (lv_sub hl [0, 1, 2, 3] rfl)
  exact lp_2 (gd + 1) gd f_1 _ _ _ (Nat.lt_succ_self _) (by omega) hP hD hS (lv_sub hl [0, 1] rfl)
