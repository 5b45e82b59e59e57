theorem dX9_moodsThatSay_1 : decode cX9_moodsThatSay 1 = .ok (.istore_n 3, 1) := q_istore_n3 (bat_get dg_X9_moodsThatSay_0_0 1 rfl rfl)
theorem dX9_moodsThatSay_2 : decode cX9_moodsThatSay 2 = .ok (.iconst 0, 1) := q_iconst0 (bat_get dg_X9_moodsThatSay_0_0 2 rfl rfl)
theorem dX9_moodsThatSay_3 : decode cX9_moodsThatSay 3 = .ok (.istore 4, 2) := q_istore (bat_get dg_X9_moodsThatSay_0_0 3 rfl rfl)
theorem dX9_moodsThatSay_5 : decode cX9_moodsThatSay 5 = .ok (.iload 4, 2) := q_iload (bat_get dg_X9_moodsThatSay_0_0 4 rfl rfl)
theorem dX9_moodsThatSay_7 : decode cX9_moodsThatSay 7 = .ok (.bipush 10, 2) := q_bipush (bat_get dg_X9_moodsThatSay_0_0 5 rfl rfl) rfl
theorem dX9_moodsThatSay_9 : decode cX9_moodsThatSay 9 = .ok (.if_icmp .ge 32, 3) := q_if_icmp_ge (bat_get dg_X9_moodsThatSay_0_0 6 rfl rfl) rfl
theorem dX9_moodsThatSay_41 : decode cX9_moodsThatSay 41 = .ok (.iload_n 3, 1) := q_iload_n3 (bat_get dg_X9_moodsThatSay_0_0 7 rfl rfl)
theorem dX9_moodsThatSay_42 : decode cX9_moodsThatSay 42 = .ok (.ireturn, 1) := q_ireturn (bat_get dg_X9_moodsThatSay_0_0 8 rfl rfl)
theorem dX9_moodsThatSay_12 : decode cX9_moodsThatSay 12 = .ok (.aload_n 0, 1) := q_aload_n0 (bat_get dg_X9_moodsThatSay_0_0 9 rfl rfl)
theorem dX9_moodsThatSay_13 : decode cX9_moodsThatSay 13 = .ok (.getfield 9, 3) := q_getfield (bat_get dg_X9_moodsThatSay_0_0 10 rfl rfl) rfl
theorem dX9_moodsThatSay_16 : decode cX9_moodsThatSay 16 = .ok (.iload_n 1, 1) := q_iload_n1 (bat_get dg_X9_moodsThatSay_0_0 11 rfl rfl)
theorem dX9_moodsThatSay_17 : decode cX9_moodsThatSay 17 = .ok (.bipush 10, 2) := q_bipush (bat_get dg_X9_moodsThatSay_0_0 12 rfl rfl) rfl
theorem dX9_moodsThatSay_19 : decode cX9_moodsThatSay 19 = .ok (.imul, 1) := q_imul (bat_get dg_X9_moodsThatSay_0_0 13 rfl rfl)
theorem dX9_moodsThatSay_20 : decode cX9_moodsThatSay 20 = .ok (.iload 4, 2) := q_iload (bat_get dg_X9_moodsThatSay_0_0 14 rfl rfl)
theorem dX9_moodsThatSay_22 : decode cX9_moodsThatSay 22 = .ok (.iadd, 1) := q_iadd (bat_get dg_X9_moodsThatSay_0_0 15 rfl rfl)
theorem dX9_moodsThatSay_23 : decode cX9_moodsThatSay 23 = .ok (.iaload, 1) := q_iaload (bat_get dg_X9_moodsThatSay_0_0 16 rfl rfl)
theorem dX9_moodsThatSay_24 : decode cX9_moodsThatSay 24 = .ok (.iload_n 2, 1) := q_iload_n2 (bat_get dg_X9_moodsThatSay_0_0 17 rfl rfl)
theorem dX9_moodsThatSay_25 : decode cX9_moodsThatSay 25 = .ok (.if_icmp .ne 10, 3) := q_if_icmp_ne (bat_get dg_X9_moodsThatSay_0_0 18 rfl rfl) rfl
theorem dX9_moodsThatSay_35 : decode cX9_moodsThatSay 35 = .ok (.iinc 4 1, 3) := q_iinc (bat_get dg_X9_moodsThatSay_0_0 19 rfl rfl) rfl
theorem dX9_moodsThatSay_38 : decode cX9_moodsThatSay 38 = .ok (.goto (-33), 3) := q_goto (bat_get dg_X9_moodsThatSay_0_0 20 rfl rfl) rfl
theorem dX9_moodsThatSay_28 : decode cX9_moodsThatSay 28 = .ok (.iload_n 3, 1) := q_iload_n3 (bat_get dg_X9_moodsThatSay_0_0 21 rfl rfl)
theorem dX9_moodsThatSay_29 : decode cX9_moodsThatSay 29 = .ok (.iconst 1, 1) := q_iconst1 (bat_get dg_X9_moodsThatSay_0_0 22 rfl rfl)
theorem dX9_moodsThatSay_30 : decode cX9_moodsThatSay 30 = .ok (.iload 4, 2) := q_iload (bat_get dg_X9_moodsThatSay_0_0 23 rfl rfl)
theorem dX9_moodsThatSay_32 : decode cX9_moodsThatSay 32 = .ok (.ishl, 1) := q_ishl (bat_get dg_X9_moodsThatSay_0_0 24 rfl rfl)
theorem dX9_moodsThatSay_33 : decode cX9_moodsThatSay 33 = .ok (.ior, 1) := q_ior (bat_get dg_X9_moodsThatSay_0_0 25 rfl rfl)
theorem dX9_moodsThatSay_34 : decode cX9_moodsThatSay 34 = .ok (.istore_n 3, 1) := q_istore_n3 (bat_get dg_X9_moodsThatSay_0_0 26 rfl rfl)
theorem w_4_197 : (Cond.code yX9_moodsThatSay cX9_moodsThatSay 5 (some .int)) ∈ wsL_law := sk_mem (ck_4 _ (List.mem_of_getElem? (i := 197) rfl)) rfl
set_option maxHeartbeats 4000000 in
set_option maxRecDepth 100000 in
theorem c_moodsThatSay (l : Launch) (D : va_G) (cI cJ cC cZ cS : ClassId) (q : Nat → Nat) (sa : Nat → Nat) (d : Nat) (o : Int32) (hsa : ∀ j, sa j ≤ 9) (hd : d < 9) : skM l yX9_moodsThatSay cX9_moodsThatSay 5 (some .int) 0 0 0 0 D (skT cI cJ cC cZ cS) [.ref (q 10), .int (nI d), .int o] [(q 10, .inr (9, [.ref (q 61), .ref (q 62), .ref (q 63), .ref (q 64), .ref (q 65), .ref (q 66)])), (q 61, .inl (cI, 90, .inl (fun j => nI (sa j))))] (skI D (skT cI cJ cC cZ cS) (fun (r : Int32) (u : va_W) => u = [(q 10, .inr (9, [.ref (q 61), .ref (q 62), .ref (q 63), .ref (q 64), .ref (q 65), .ref (q 66)])), (q 61, .inl (cI, 90, .inl (fun j => nI (sa j))))])) := by
  refine skM_of pf_X9_moodsThatSay (Nat.le_of_ble_eq_true rfl) ?_
  intro p e s m below meth c A ls E hP hD hl
  refine skE_el E (fun hx hb hr hml hlocks hin hown hts hK hA => ?_)
  have hown : s.vm.findClass RX9 = some m.cls := hown
  have hS : va_S A s.heap s.heap [] := va_S.rf
  have hl : lv_has ls 5 [(0, .ref (q 10)), (1, .int (nI d)), (2, .int o)] := hl
  refine lv_iconst (v := 0) hx hb dX9_moodsThatSay_0 (by decide) ?_
  refine lv_istore_n (lv' := [(3, .int 0), (0, .ref (q 10)), (1, .int (nI d)), (2, .int o)]) hx hb dX9_moodsThatSay_1 rfl hl (by decide) rfl (fun ls hl => ?_)
  refine lv_iconst (v := 0) hx hb dX9_moodsThatSay_2 (by decide) ?_
  refine lv_istore (lv' := [(4, .int 0), (3, .int 0), (0, .ref (q 10)), (1, .int (nI d)), (2, .int o)]) hx hb dX9_moodsThatSay_3 hl (by decide) rfl (fun ls hl => ?_)
  have lp_1 : ∀ (n_2 : Nat) (i : Nat) (mo : Int32) (H : Heap) (locs : List Loc) (ls : Array Slot), 10 - i < n_2 → (i ≤ 10) → va_P D vwCl [(q 10, .inr (9, [.ref (q 61), .ref (q 62), .ref (q 63), .ref (q 64), .ref (q 65), .ref (q 66)])), (q 61, .inl (cI, 90, .inl (fun j => nI (sa j))))] H → va_D A [(q 10, .inr (9, [.ref (q 61), .ref (q 62), .ref (q 63), .ref (q 64), .ref (q 65), .ref (q 66)])), (q 61, .inl (cI, 90, .inl (fun j => nI (sa j))))] → va_S A s.heap H locs → lv_has ls 5 [(4, .int (nI i)), (3, .int mo), (0, .ref (q 10)), (1, .int (nI d)), (2, .int o)] → W p l e { frames := 0, cells := 0, slots := 0, locals := 0 } s m ([.ref (q 10), .int (nI d), .int o] : List Value).toArray below meth c H locs 0 0 (MQ below (skI D (skT cI cJ cC cZ cS) (fun (r : Int32) (u : va_W) => u = [(q 10, .inr (9, [.ref (q 61), .ref (q 62), .ref (q 63), .ref (q 64), .ref (q 65), .ref (q 66)])), (q 61, .inl (cI, 90, .inl (fun j => nI (sa j))))]) A) ([.ref (q 10), .int (nI d), .int o] : List Value).toArray s 0 0 A) (F0 m 5 ls []) := by
    intro n_2
    induction n_2 with
    | zero => intro i mo H locs ls hm; exact absurd hm (Nat.not_lt_zero _)
    | succ n_2 ih_lp_1 =>
      intro i mo H locs ls hm hi hP hD hS hl
      refine lv_iload hx hb dX9_moodsThatSay_5 (lv_at hl 0 rfl) ?_
      refine lv_bipush (v := 10) hx hb dX9_moodsThatSay_7 (by decide) ?_
      refine lv_icmp_ge (tgt := 41) hx hb dX9_moodsThatSay_9 (by decide) (fun c_3 => ?_) (fun c_3 => ?_)
      · have c_3 : 10 ≤ i := (nle 10 i (by omega) (by omega)).mp c_3
        refine lv_iload_n hx hb dX9_moodsThatSay_41 rfl (lv_at hl 1 rfl) ?_
        exact sk_iret hx hb hr rfl hlocks hK hP hD hS rfl (Nat.le_of_ble_eq_true rfl) (Nat.le_of_ble_eq_true rfl) dX9_moodsThatSay_42
      · have c_3 : ¬ (10 ≤ i) := fun h => c_3 ((nle 10 i (by omega) (by omega)).mpr h)
        refine lv_aload_n hx hb dX9_moodsThatSay_12 rfl (lv_at hl 2 rfl) ?_
        refine sk_get (v := .ref (q 61)) (C := RX9) (T := TX9) (N := 6) hx hb hts inlX9 hown hK hP 0 rfl rfl 0 (by decide) w_2_63 rfl dX9_moodsThatSay_13 ?_
        refine lv_iload_n hx hb dX9_moodsThatSay_16 rfl (lv_at hl 3 rfl) ?_
        refine lv_bipush (v := 10) hx hb dX9_moodsThatSay_17 (by decide) ?_
        refine lv_imul hx hb dX9_moodsThatSay_19 ?_
        refine sk_top (nI (d * 10)) (nmul d 10) ?_
        refine lv_iload hx hb dX9_moodsThatSay_20 (lv_at hl 0 rfl) ?_
        refine lv_iadd hx hb dX9_moodsThatSay_22 ?_
        refine sk_top (nI (d * 10 + i)) (nI_add (d * 10) i) ?_
        refine va_iald hx hb hK.1 hP 1 0 rfl rfl (vin (d * 10 + i) 90 (by omega) (by omega)) dX9_moodsThatSay_23 ?_
        refine sk_top (nI (sa (d * 10 + i))) (nrd sa (d * 10 + i) (by omega)) ?_
        have hb_4 := hsa (d * 10 + i)
        refine lv_iload_n hx hb dX9_moodsThatSay_24 rfl (lv_at hl 4 rfl) ?_
        refine lv_icmp_ne (tgt := 35) hx hb dX9_moodsThatSay_25 (by decide) (fun c_5 => ?_) (fun c_5 => ?_)
        · skip
          refine lv_iinc (v := nI (i + 1)) (lv' := [(4, .int (nI (i + 1))), (3, .int mo), (0, .ref (q 10)), (1, .int (nI d)), (2, .int o)]) hx hb dX9_moodsThatSay_35 hl (k := 0) rfl (ninc i 1 (by decide)) (by decide) rfl (fun ls hl => ?_)
          refine lv_goto (tgt := 5) hx hb dX9_moodsThatSay_38 (by decide) ?_
          exact ih_lp_1 (i + 1) mo _ _ _ (by omega) (by omega) hP hD hS (lv_sub hl [0, 1, 2, 3, 4] rfl)
        · skip
          refine lv_iload_n hx hb dX9_moodsThatSay_28 rfl (lv_at hl 1 rfl) ?_
          refine lv_iconst (v := 1) hx hb dX9_moodsThatSay_29 (by decide) ?_
          refine lv_iload hx hb dX9_moodsThatSay_30 (lv_at hl 0 rfl) ?_
          refine lv_ishl hx hb dX9_moodsThatSay_32 ?_
          refine lv_topi (fun v_6 ev_6 => ?_)
          refine lv_ior hx hb dX9_moodsThatSay_33 ?_
          refine lv_topi (fun v_7 ev_7 => ?_)
          refine lv_istore_n (lv' := [(3, .int v_7), (4, .int (nI i)), (0, .ref (q 10)), (1, .int (nI d)), (2, .int o)]) hx hb dX9_moodsThatSay_34 rfl hl (by decide) rfl (fun ls hl => ?_)
          refine lv_iinc (v := nI (i + 1)) (lv' := [(4, .int (nI (i + 1))), (3, .int v_7), (0, .ref (q 10)), (1, .int (nI d)), (2, .int o)]) hx hb dX9_moodsThatSay_35 hl (k := 1) rfl (ninc i 1 (by decide)) (by decide) rfl (fun ls hl => ?_)
          refine lv_goto (tgt := 5) hx hb dX9_moodsThatSay_38 (by decide) ?_
          exact ih_lp_1 (i + 1) v_7 _ _ _ (by omega) (by omega) hP hD hS (lv_sub hl [0, 1, 2, 3, 4] rfl)
  exact lp_1 (10 - 0 + 1) 0 0 _ _ _ (Nat.lt_succ_self _) (by omega) hP hD hS (lv_sub hl [0, 1, 2, 3, 4] rfl)
theorem dg_X9_forget_0_0 : bqL cX9_forget 0 [(0, [42]), (1, [180, 0, 28]), (4, [2]), (5, [184, 0, 31]), (8, [177])] = true := by decide +kernel
theorem dX9_forget_0 : decode cX9_forget 0 = .ok (.aload_n 0, 1) := q_aload_n0 (bat_get dg_X9_forget_0_0 0 rfl rfl)
theorem dX9_forget_1 : decode cX9_forget 1 = .ok (.getfield 28, 3) := q_getfield (bat_get dg_X9_forget_0_0 1 rfl rfl) rfl
theorem dX9_forget_4 : decode cX9_forget 4 = .ok (.iconst (-1), 1) := q_iconstm1 (bat_get dg_X9_forget_0_0 2 rfl rfl)
theorem dX9_forget_5 : decode cX9_forget 5 = .ok (.invokestatic 31, 3) := q_invokestatic (bat_get dg_X9_forget_0_0 3 rfl rfl) rfl
theorem dX9_forget_8 : decode cX9_forget 8 = .ok (.return_, 1) := q_return_ (bat_get dg_X9_forget_0_0 4 rfl rfl)
theorem w_2_75 : (Cond.fieldLink RX9 28 "SameKeeper$Table" "keys" "[I") ∈ wsL_law := sk_mem (ck_2 _ (List.mem_of_getElem? (i := 75) rfl)) rfl
theorem w_3_163 : (Cond.methodLink RX9 31 yJ7_fill_53178) ∈ wsL_law := sk_mem (ck_3 _ (List.mem_of_getElem? (i := 163) rfl)) rfl
theorem w_2_219 : (Cond.static yJ7_fill_53178) ∈ wsL_law := sk_mem (ck_2 _ (List.mem_of_getElem? (i := 219) rfl)) rfl
theorem w_1_15 : (Cond.initialized RJ7) ∈ wsL_law := sk_mem (ck_1 _ (List.mem_of_getElem? (i := 15) rfl)) rfl
theorem w_3_162 : (Cond.code yX9_forget cX9_forget 1 none) ∈ wsL_law := sk_mem (ck_3 _ (List.mem_of_getElem? (i := 162) rfl)) rfl
def om_2_1 : List Bool := false :: true :: []
theorem hd_J7_fill_53178_2 : skD yJ7_fill_53178 2 := by decide +kernel
theorem dg_X9_nameDay_0_0 : bqL cX9_nameDay 0 [(0, [42]), (1, [17, 39, 19]), (4, [28]), (5, [133]), (6, [182, 0, 75]), (9, [42]), (10, [17, 39, 17]), (13, [43]), (14, [180, 0, 58]), (17, [28]), (18, [46]), (19, [133]), (20, [182, 0, 75]), (23, [42]), (24, [17, 39, 18]), (27, [43]), (28, [180, 0, 61]), (31, [28]), (32, [46]), (33, [133]), (34, [182, 0, 75]), (37, [42]), (38, [17, 39, 20]), (41, [43]), (42, [180, 0, 49]), (45, [133]), (46, [182, 0, 75]), (49, [177])] = true := by decide +kernel
theorem dX9_nameDay_0 : decode cX9_nameDay 0 = .ok (.aload_n 0, 1) := q_aload_n0 (bat_get dg_X9_nameDay_0_0 0 rfl rfl)
theorem dX9_nameDay_1 : decode cX9_nameDay 1 = .ok (.sipush 10003, 3) := q_sipush (bat_get dg_X9_nameDay_0_0 1 rfl rfl) rfl
theorem dX9_nameDay_4 : decode cX9_nameDay 4 = .ok (.iload_n 2, 1) := q_iload_n2 (bat_get dg_X9_nameDay_0_0 2 rfl rfl)
theorem dX9_nameDay_5 : decode cX9_nameDay 5 = .ok (.i2l, 1) := q_i2l (bat_get dg_X9_nameDay_0_0 3 rfl rfl)
theorem dX9_nameDay_6 : decode cX9_nameDay 6 = .ok (.invokevirtual 75, 3) := q_invokevirtual (bat_get dg_X9_nameDay_0_0 4 rfl rfl) rfl
theorem dX9_nameDay_9 : decode cX9_nameDay 9 = .ok (.aload_n 0, 1) := q_aload_n0 (bat_get dg_X9_nameDay_0_0 5 rfl rfl)
theorem dX9_nameDay_10 : decode cX9_nameDay 10 = .ok (.sipush 10001, 3) := q_sipush (bat_get dg_X9_nameDay_0_0 6 rfl rfl) rfl
theorem dX9_nameDay_13 : decode cX9_nameDay 13 = .ok (.aload_n 1, 1) := q_aload_n1 (bat_get dg_X9_nameDay_0_0 7 rfl rfl)
theorem dX9_nameDay_14 : decode cX9_nameDay 14 = .ok (.getfield 58, 3) := q_getfield (bat_get dg_X9_nameDay_0_0 8 rfl rfl) rfl
theorem dX9_nameDay_17 : decode cX9_nameDay 17 = .ok (.iload_n 2, 1) := q_iload_n2 (bat_get dg_X9_nameDay_0_0 9 rfl rfl)
theorem dX9_nameDay_18 : decode cX9_nameDay 18 = .ok (.iaload, 1) := q_iaload (bat_get dg_X9_nameDay_0_0 10 rfl rfl)
theorem dX9_nameDay_19 : decode cX9_nameDay 19 = .ok (.i2l, 1) := q_i2l (bat_get dg_X9_nameDay_0_0 11 rfl rfl)
theorem dX9_nameDay_20 : decode cX9_nameDay 20 = .ok (.invokevirtual 75, 3) := q_invokevirtual (bat_get dg_X9_nameDay_0_0 12 rfl rfl) rfl
theorem dX9_nameDay_23 : decode cX9_nameDay 23 = .ok (.aload_n 0, 1) := q_aload_n0 (bat_get dg_X9_nameDay_0_0 13 rfl rfl)
theorem dX9_nameDay_24 : decode cX9_nameDay 24 = .ok (.sipush 10002, 3) := q_sipush (bat_get dg_X9_nameDay_0_0 14 rfl rfl) rfl
theorem dX9_nameDay_27 : decode cX9_nameDay 27 = .ok (.aload_n 1, 1) := q_aload_n1 (bat_get dg_X9_nameDay_0_0 15 rfl rfl)
theorem dX9_nameDay_28 : decode cX9_nameDay 28 = .ok (.getfield 61, 3) := q_getfield (bat_get dg_X9_nameDay_0_0 16 rfl rfl) rfl
theorem dX9_nameDay_31 : decode cX9_nameDay 31 = .ok (.iload_n 2, 1) := q_iload_n2 (bat_get dg_X9_nameDay_0_0 17 rfl rfl)
theorem dX9_nameDay_32 : decode cX9_nameDay 32 = .ok (.iaload, 1) := q_iaload (bat_get dg_X9_nameDay_0_0 18 rfl rfl)
theorem dX9_nameDay_33 : decode cX9_nameDay 33 = .ok (.i2l, 1) := q_i2l (bat_get dg_X9_nameDay_0_0 19 rfl rfl)
theorem dX9_nameDay_34 : decode cX9_nameDay 34 = .ok (.invokevirtual 75, 3) := q_invokevirtual (bat_get dg_X9_nameDay_0_0 20 rfl rfl) rfl
theorem dX9_nameDay_37 : decode cX9_nameDay 37 = .ok (.aload_n 0, 1) := q_aload_n0 (bat_get dg_X9_nameDay_0_0 21 rfl rfl)
theorem dX9_nameDay_38 : decode cX9_nameDay 38 = .ok (.sipush 10004, 3) := q_sipush (bat_get dg_X9_nameDay_0_0 22 rfl rfl) rfl
theorem dX9_nameDay_41 : decode cX9_nameDay 41 = .ok (.aload_n 1, 1) := q_aload_n1 (bat_get dg_X9_nameDay_0_0 23 rfl rfl)
theorem dX9_nameDay_42 : decode cX9_nameDay 42 = .ok (.getfield 49, 3) := q_getfield (bat_get dg_X9_nameDay_0_0 24 rfl rfl) rfl
theorem dX9_nameDay_45 : decode cX9_nameDay 45 = .ok (.i2l, 1) := q_i2l (bat_get dg_X9_nameDay_0_0 25 rfl rfl)
theorem dX9_nameDay_46 : decode cX9_nameDay 46 = .ok (.invokevirtual 75, 3) := q_invokevirtual (bat_get dg_X9_nameDay_0_0 26 rfl rfl) rfl
theorem dX9_nameDay_49 : decode cX9_nameDay 49 = .ok (.return_, 1) := q_return_ (bat_get dg_X9_nameDay_0_0 27 rfl rfl)
theorem w_3_212 : (Cond.methodLink RX9 75 yX0_name) ∈ wsL_law := sk_mem (ck_3 _ (List.mem_of_getElem? (i := 212) rfl)) rfl
theorem w_3_213 : (Cond.instanceMethod yX0_name) ∈ wsL_law := sk_mem (ck_3 _ (List.mem_of_getElem? (i := 213) rfl)) rfl
theorem w_3_214 : (Cond.selects RX0 yX0_name yX0_name) ∈ wsL_law := sk_mem (ck_3 _ (List.mem_of_getElem? (i := 214) rfl)) rfl
theorem w_1_231 : (Cond.fieldLink RX9 58 "SameKeeper$State" "barge" "[I") ∈ wsL_law := sk_mem (ck_1 _ (List.mem_of_getElem? (i := 231) rfl)) rfl
theorem w_1_235 : (Cond.fieldLink RX9 61 "SameKeeper$State" "wet" "[I") ∈ wsL_law := sk_mem (ck_1 _ (List.mem_of_getElem? (i := 235) rfl)) rfl
theorem w_2_4 : (Cond.fieldLink RX9 49 "SameKeeper$State" "week" "I") ∈ wsL_law := sk_mem (ck_2 _ (List.mem_of_getElem? (i := 4) rfl)) rfl
theorem w_3_211 : (Cond.code yX9_nameDay cX9_nameDay 3 none) ∈ wsL_law := sk_mem (ck_3 _ (List.mem_of_getElem? (i := 211) rfl)) rfl
def om_5_18 : List Bool := true :: true :: false :: false :: false :: []
