theorem dX7_amount_0 : decode cX7_amount 0 = .ok (.iload_n 2, 1) := q_iload_n2 (bat_get dg_X7_amount_0_0 0 rfl rfl)
theorem dX7_amount_1 : decode cX7_amount 1 = .ok (.ifCond .ne 12, 3) := q_ifCond_ne (bat_get dg_X7_amount_0_0 1 rfl rfl) rfl
theorem dX7_amount_13 : decode cX7_amount 13 = .ok (.aload_n 0, 1) := q_aload_n0 (bat_get dg_X7_amount_0_0 2 rfl rfl)
theorem dX7_amount_14 : decode cX7_amount 14 = .ok (.getfield 15, 3) := q_getfield (bat_get dg_X7_amount_0_0 3 rfl rfl) rfl
theorem dX7_amount_17 : decode cX7_amount 17 = .ok (.iload_n 1, 1) := q_iload_n1 (bat_get dg_X7_amount_0_0 4 rfl rfl)
theorem dX7_amount_18 : decode cX7_amount 18 = .ok (.iaload, 1) := q_iaload (bat_get dg_X7_amount_0_0 5 rfl rfl)
theorem dX7_amount_19 : decode cX7_amount 19 = .ok (.ireturn, 1) := q_ireturn (bat_get dg_X7_amount_0_0 6 rfl rfl)
theorem dX7_amount_4 : decode cX7_amount 4 = .ok (.aload_n 0, 1) := q_aload_n0 (bat_get dg_X7_amount_0_0 7 rfl rfl)
theorem dX7_amount_5 : decode cX7_amount 5 = .ok (.getfield 9, 3) := q_getfield (bat_get dg_X7_amount_0_0 8 rfl rfl) rfl
theorem dX7_amount_8 : decode cX7_amount 8 = .ok (.iload_n 1, 1) := q_iload_n1 (bat_get dg_X7_amount_0_0 9 rfl rfl)
theorem dX7_amount_9 : decode cX7_amount 9 = .ok (.iaload, 1) := q_iaload (bat_get dg_X7_amount_0_0 10 rfl rfl)
theorem dX7_amount_10 : decode cX7_amount 10 = .ok (.goto 9, 3) := q_goto (bat_get dg_X7_amount_0_0 11 rfl rfl) rfl
theorem w_5_6 : (Cond.code yX7_amount cX7_amount 3 (some .int)) ∈ wsL_law := sk_mem (ck_5 _ (List.mem_of_getElem? (i := 6) rfl)) rfl
theorem dg_X7_put_0_0 : bqL cX7_put 0 [(0, [28]), (1, [154, 0, 13]), (14, [42]), (15, [180, 0, 15]), (18, [27]), (19, [29]), (20, [79]), (21, [177]), (4, [42]), (5, [180, 0, 9]), (8, [27]), (9, [29]), (10, [79]), (11, [167, 0, 10])] = true := by decide +kernel
theorem dX7_put_0 : decode cX7_put 0 = .ok (.iload_n 2, 1) := q_iload_n2 (bat_get dg_X7_put_0_0 0 rfl rfl)
theorem dX7_put_1 : decode cX7_put 1 = .ok (.ifCond .ne 13, 3) := q_ifCond_ne (bat_get dg_X7_put_0_0 1 rfl rfl) rfl
theorem dX7_put_14 : decode cX7_put 14 = .ok (.aload_n 0, 1) := q_aload_n0 (bat_get dg_X7_put_0_0 2 rfl rfl)
theorem dX7_put_15 : decode cX7_put 15 = .ok (.getfield 15, 3) := q_getfield (bat_get dg_X7_put_0_0 3 rfl rfl) rfl
theorem dX7_put_18 : decode cX7_put 18 = .ok (.iload_n 1, 1) := q_iload_n1 (bat_get dg_X7_put_0_0 4 rfl rfl)
theorem dX7_put_19 : decode cX7_put 19 = .ok (.iload_n 3, 1) := q_iload_n3 (bat_get dg_X7_put_0_0 5 rfl rfl)
theorem dX7_put_20 : decode cX7_put 20 = .ok (.iastore, 1) := q_iastore (bat_get dg_X7_put_0_0 6 rfl rfl)
theorem dX7_put_21 : decode cX7_put 21 = .ok (.return_, 1) := q_return_ (bat_get dg_X7_put_0_0 7 rfl rfl)
theorem dX7_put_4 : decode cX7_put 4 = .ok (.aload_n 0, 1) := q_aload_n0 (bat_get dg_X7_put_0_0 8 rfl rfl)
theorem dX7_put_5 : decode cX7_put 5 = .ok (.getfield 9, 3) := q_getfield (bat_get dg_X7_put_0_0 9 rfl rfl) rfl
theorem dX7_put_8 : decode cX7_put 8 = .ok (.iload_n 1, 1) := q_iload_n1 (bat_get dg_X7_put_0_0 10 rfl rfl)
theorem dX7_put_9 : decode cX7_put 9 = .ok (.iload_n 3, 1) := q_iload_n3 (bat_get dg_X7_put_0_0 11 rfl rfl)
theorem dX7_put_10 : decode cX7_put 10 = .ok (.iastore, 1) := q_iastore (bat_get dg_X7_put_0_0 12 rfl rfl)
theorem dX7_put_11 : decode cX7_put 11 = .ok (.goto 10, 3) := q_goto (bat_get dg_X7_put_0_0 13 rfl rfl) rfl
theorem w_4_151 : (Cond.code yX7_put cX7_put 4 none) ∈ wsL_law := sk_mem (ck_4 _ (List.mem_of_getElem? (i := 151) rfl)) rfl
theorem dg_J7_fill_53178_0_0 : bqL cJ7_fill_53178 0 [(0, [3]), (1, [61]), (2, [42]), (3, [190]), (4, [62]), (5, [28]), (6, [29]), (7, [162, 0, 13]), (20, [177]), (10, [42]), (11, [28]), (12, [27]), (13, [79]), (14, [132, 2, 1]), (17, [167, 255, 244])] = true := by decide +kernel
theorem dJ7_fill_53178_0 : decode cJ7_fill_53178 0 = .ok (.iconst 0, 1) := q_iconst0 (bat_get dg_J7_fill_53178_0_0 0 rfl rfl)
theorem dJ7_fill_53178_1 : decode cJ7_fill_53178 1 = .ok (.istore_n 2, 1) := q_istore_n2 (bat_get dg_J7_fill_53178_0_0 1 rfl rfl)
theorem dJ7_fill_53178_2 : decode cJ7_fill_53178 2 = .ok (.aload_n 0, 1) := q_aload_n0 (bat_get dg_J7_fill_53178_0_0 2 rfl rfl)
theorem dJ7_fill_53178_3 : decode cJ7_fill_53178 3 = .ok (.arraylength, 1) := q_arraylength (bat_get dg_J7_fill_53178_0_0 3 rfl rfl)
theorem dJ7_fill_53178_4 : decode cJ7_fill_53178 4 = .ok (.istore_n 3, 1) := q_istore_n3 (bat_get dg_J7_fill_53178_0_0 4 rfl rfl)
theorem dJ7_fill_53178_5 : decode cJ7_fill_53178 5 = .ok (.iload_n 2, 1) := q_iload_n2 (bat_get dg_J7_fill_53178_0_0 5 rfl rfl)
theorem dJ7_fill_53178_6 : decode cJ7_fill_53178 6 = .ok (.iload_n 3, 1) := q_iload_n3 (bat_get dg_J7_fill_53178_0_0 6 rfl rfl)
theorem dJ7_fill_53178_7 : decode cJ7_fill_53178 7 = .ok (.if_icmp .ge 13, 3) := q_if_icmp_ge (bat_get dg_J7_fill_53178_0_0 7 rfl rfl) rfl
theorem dJ7_fill_53178_20 : decode cJ7_fill_53178 20 = .ok (.return_, 1) := q_return_ (bat_get dg_J7_fill_53178_0_0 8 rfl rfl)
theorem dJ7_fill_53178_10 : decode cJ7_fill_53178 10 = .ok (.aload_n 0, 1) := q_aload_n0 (bat_get dg_J7_fill_53178_0_0 9 rfl rfl)
theorem dJ7_fill_53178_11 : decode cJ7_fill_53178 11 = .ok (.iload_n 2, 1) := q_iload_n2 (bat_get dg_J7_fill_53178_0_0 10 rfl rfl)
theorem dJ7_fill_53178_12 : decode cJ7_fill_53178 12 = .ok (.iload_n 1, 1) := q_iload_n1 (bat_get dg_J7_fill_53178_0_0 11 rfl rfl)
theorem dJ7_fill_53178_13 : decode cJ7_fill_53178 13 = .ok (.iastore, 1) := q_iastore (bat_get dg_J7_fill_53178_0_0 12 rfl rfl)
theorem dJ7_fill_53178_14 : decode cJ7_fill_53178 14 = .ok (.iinc 2 1, 3) := q_iinc (bat_get dg_J7_fill_53178_0_0 13 rfl rfl) rfl
theorem dJ7_fill_53178_17 : decode cJ7_fill_53178 17 = .ok (.goto (-12), 3) := q_goto (bat_get dg_J7_fill_53178_0_0 14 rfl rfl) rfl
theorem w_2_220 : (Cond.code yJ7_fill_53178 cJ7_fill_53178 4 none) ∈ wsL_law := sk_mem (ck_2 _ (List.mem_of_getElem? (i := 220) rfl)) rfl
set_option maxHeartbeats 4000000 in
set_option maxRecDepth 100000 in
theorem c_fill (l : Launch) (D : va_G) (cI cJ cC cZ cS : ClassId) (ar : Nat) (n : Nat) (f : Nat → Int32) (v : Int32) (hn : n < 2147483648) : skM l yJ7_fill_53178 cJ7_fill_53178 4 none 0 0 0 0 D (skT cI cJ cC cZ cS) [.ref ar, .int v] [(ar, .inl (cI, n, .inl f))] (skV D (skT cI cJ cC cZ cS) (fun (u : va_W) => ∃ (g : Nat → Int32), u = [(ar, .inl (cI, n, .inl g))])) := by
  refine skM_of pf_J7_fill_53178 (Nat.le_of_ble_eq_true rfl) ?_
  intro p e s m below meth c A ls E hP hD hl
  refine skE_el E (fun hx hb hr hml hlocks hin hown hts hK hA => ?_)
  have hown : s.vm.findClass RJ7 = some m.cls := hown
  have hS : va_S A s.heap s.heap [] := va_S.rf
  have hl : lv_has ls 4 [(0, .ref ar), (1, .int v)] := hl
  refine lv_iconst (v := 0) hx hb dJ7_fill_53178_0 (by decide) ?_
  refine lv_istore_n (lv' := [(2, .int 0), (0, .ref ar), (1, .int v)]) hx hb dJ7_fill_53178_1 rfl hl (by decide) rfl (fun ls hl => ?_)
  refine lv_aload_n hx hb dJ7_fill_53178_2 rfl (lv_at hl 1 rfl) ?_
  refine va_alen (v := nI n) hx hb hK.1 hP 0 0 rfl rfl rfl dJ7_fill_53178_3 ?_
  refine lv_istore_n (lv' := [(3, .int (nI n)), (2, .int 0), (0, .ref ar), (1, .int v)]) hx hb dJ7_fill_53178_4 rfl hl (by decide) rfl (fun ls hl => ?_)
  have lp_1 : ∀ (n_2 : Nat) (i : Nat) (fi : Nat → Int32) (H : Heap) (locs : List Loc) (ls : Array Slot), n - i < n_2 → (i ≤ n) → va_P D vwCl [(ar, .inl (cI, n, .inl fi))] H → va_D A [(ar, .inl (cI, n, .inl fi))] → va_S A s.heap H locs → lv_has ls 4 [(3, .int (nI n)), (2, .int (nI i)), (0, .ref ar), (1, .int v)] → W p l e { frames := 0, cells := 0, slots := 0, locals := 0 } s m ([.ref ar, .int v] : List Value).toArray below meth c H locs 0 0 (MQ below (skV D (skT cI cJ cC cZ cS) (fun (u : va_W) => ∃ (g : Nat → Int32), u = [(ar, .inl (cI, n, .inl g))]) A) ([.ref ar, .int v] : List Value).toArray s 0 0 A) (F0 m 5 ls []) := by
    intro n_2
    induction n_2 with
    | zero => intro i fi H locs ls hm; exact absurd hm (Nat.not_lt_zero _)
    | succ n_2 ih_lp_1 =>
      intro i fi H locs ls hm hi hP hD hS hl
      refine lv_iload_n hx hb dJ7_fill_53178_5 rfl (lv_at hl 1 rfl) ?_
      refine lv_iload_n hx hb dJ7_fill_53178_6 rfl (lv_at hl 0 rfl) ?_
      refine lv_icmp_ge (tgt := 20) hx hb dJ7_fill_53178_7 (by decide) (fun c_3 => ?_) (fun c_3 => ?_)
      · have c_3 : n ≤ i := (nle n i (by omega) (by omega)).mp c_3
        exact sk_vret hx hb hr hlocks hK hP hD hS (⟨fi, rfl⟩) (Nat.le_of_ble_eq_true rfl) (Nat.le_of_ble_eq_true rfl) dJ7_fill_53178_20
      · have c_3 : ¬ (n ≤ i) := fun h => c_3 ((nle n i (by omega) (by omega)).mpr h)
        refine lv_aload_n hx hb dJ7_fill_53178_10 rfl (lv_at hl 2 rfl) ?_
        refine lv_iload_n hx hb dJ7_fill_53178_11 rfl (lv_at hl 1 rfl) ?_
        refine lv_iload_n hx hb dJ7_fill_53178_12 rfl (lv_at hl 3 rfl) ?_
        refine sk_iastO (ws' := fun f_4 => [(ar, .inl (cI, n, .inl f_4))]) hx hb hK hP hD hS 0 0 rfl rfl (vin i n (by omega) (by omega)) (fun _ => rfl) dJ7_fill_53178_13 (fun f_4 H locs hP hD hS => ?_)
        refine lv_iinc (v := nI (i + 1)) (lv' := [(2, .int (nI (i + 1))), (3, .int (nI n)), (0, .ref ar), (1, .int v)]) hx hb dJ7_fill_53178_14 hl (k := 1) rfl (ninc i 1 (by decide)) (by decide) rfl (fun ls hl => ?_)
        refine lv_goto (tgt := 5) hx hb dJ7_fill_53178_17 (by decide) ?_
        exact ih_lp_1 (i + 1) f_4 _ _ _ (by omega) (by omega) hP hD hS (lv_sub hl [1, 0, 2, 3] rfl)
  exact lp_1 (n - 0 + 1) 0 f _ _ _ (Nat.lt_succ_self _) (by omega) hP hD hS (lv_sub hl [0, 1, 2, 3] rfl)
theorem dg_J7_fill_d0a16_0_0 : bqL cJ7_fill_d0a16 0 [(0, [3]), (1, [62]), (2, [42]), (3, [190]), (4, [54, 4]), (6, [29]), (7, [21, 4]), (9, [162, 0, 13]), (22, [177]), (12, [42]), (13, [29]), (14, [31]), (15, [80]), (16, [132, 3, 1]), (19, [167, 255, 243])] = true := by decide +kernel
theorem dJ7_fill_d0a16_0 : decode cJ7_fill_d0a16 0 = .ok (.iconst 0, 1) := q_iconst0 (bat_get dg_J7_fill_d0a16_0_0 0 rfl rfl)
theorem dJ7_fill_d0a16_1 : decode cJ7_fill_d0a16 1 = .ok (.istore_n 3, 1) := q_istore_n3 (bat_get dg_J7_fill_d0a16_0_0 1 rfl rfl)
theorem dJ7_fill_d0a16_2 : decode cJ7_fill_d0a16 2 = .ok (.aload_n 0, 1) := q_aload_n0 (bat_get dg_J7_fill_d0a16_0_0 2 rfl rfl)
theorem dJ7_fill_d0a16_3 : decode cJ7_fill_d0a16 3 = .ok (.arraylength, 1) := q_arraylength (bat_get dg_J7_fill_d0a16_0_0 3 rfl rfl)
theorem dJ7_fill_d0a16_4 : decode cJ7_fill_d0a16 4 = .ok (.istore 4, 2) := q_istore (bat_get dg_J7_fill_d0a16_0_0 4 rfl rfl)
theorem dJ7_fill_d0a16_6 : decode cJ7_fill_d0a16 6 = .ok (.iload_n 3, 1) := q_iload_n3 (bat_get dg_J7_fill_d0a16_0_0 5 rfl rfl)
theorem dJ7_fill_d0a16_7 : decode cJ7_fill_d0a16 7 = .ok (.iload 4, 2) := q_iload (bat_get dg_J7_fill_d0a16_0_0 6 rfl rfl)
theorem dJ7_fill_d0a16_9 : decode cJ7_fill_d0a16 9 = .ok (.if_icmp .ge 13, 3) := q_if_icmp_ge (bat_get dg_J7_fill_d0a16_0_0 7 rfl rfl) rfl
theorem dJ7_fill_d0a16_22 : decode cJ7_fill_d0a16 22 = .ok (.return_, 1) := q_return_ (bat_get dg_J7_fill_d0a16_0_0 8 rfl rfl)
theorem dJ7_fill_d0a16_12 : decode cJ7_fill_d0a16 12 = .ok (.aload_n 0, 1) := q_aload_n0 (bat_get dg_J7_fill_d0a16_0_0 9 rfl rfl)
theorem dJ7_fill_d0a16_13 : decode cJ7_fill_d0a16 13 = .ok (.iload_n 3, 1) := q_iload_n3 (bat_get dg_J7_fill_d0a16_0_0 10 rfl rfl)
theorem dJ7_fill_d0a16_14 : decode cJ7_fill_d0a16 14 = .ok (.lload_n 1, 1) := q_lload_n1 (bat_get dg_J7_fill_d0a16_0_0 11 rfl rfl)
theorem dJ7_fill_d0a16_15 : decode cJ7_fill_d0a16 15 = .ok (.lastore, 1) := q_lastore (bat_get dg_J7_fill_d0a16_0_0 12 rfl rfl)
theorem dJ7_fill_d0a16_16 : decode cJ7_fill_d0a16 16 = .ok (.iinc 3 1, 3) := q_iinc (bat_get dg_J7_fill_d0a16_0_0 13 rfl rfl) rfl
theorem dJ7_fill_d0a16_19 : decode cJ7_fill_d0a16 19 = .ok (.goto (-13), 3) := q_goto (bat_get dg_J7_fill_d0a16_0_0 14 rfl rfl) rfl
theorem w_4_87 : (Cond.code yJ7_fill_d0a16 cJ7_fill_d0a16 5 none) ∈ wsL_law := sk_mem (ck_4 _ (List.mem_of_getElem? (i := 87) rfl)) rfl
set_option maxHeartbeats 4000000 in
set_option maxRecDepth 100000 in
theorem c_fillL (l : Launch) (D : va_G) (cI cJ cC cZ cS : ClassId) (ar : Nat) (n : Nat) (f : Nat → Int64) (v : Int64) (hn : n < 2147483648) : skM l yJ7_fill_d0a16 cJ7_fill_d0a16 5 none 0 0 0 0 D (skT cI cJ cC cZ cS) [.ref ar, .long v] [(ar, .inl (cJ, n, .inr (.inl f)))] (skV D (skT cI cJ cC cZ cS) (fun (u : va_W) => ∃ (g : Nat → Int64), u = [(ar, .inl (cJ, n, .inr (.inl g)))])) := by
  refine skM_of pf_J7_fill_d0a16 (Nat.le_of_ble_eq_true rfl) ?_
  intro p e s m below meth c A ls E hP hD hl
  refine skE_el E (fun hx hb hr hml hlocks hin hown hts hK hA => ?_)
  have hown : s.vm.findClass RJ7 = some m.cls := hown
  have hS : va_S A s.heap s.heap [] := va_S.rf
  have hl : lv_has ls 5 [(0, .ref ar), (1, .long v)] := hl
  refine lv_iconst (v := 0) hx hb dJ7_fill_d0a16_0 (by decide) ?_
  refine lv_istore_n (lv' := [(3, .int 0), (0, .ref ar), (1, .long v)]) hx hb dJ7_fill_d0a16_1 rfl hl (by decide) rfl (fun ls hl => ?_)
  refine lv_aload_n hx hb dJ7_fill_d0a16_2 rfl (lv_at hl 1 rfl) ?_
  refine va_alen (v := nI n) hx hb hK.1 hP 0 1 rfl rfl rfl dJ7_fill_d0a16_3 ?_
  refine lv_istore (lv' := [(4, .int (nI n)), (3, .int 0), (0, .ref ar), (1, .long v)]) hx hb dJ7_fill_d0a16_4 hl (by decide) rfl (fun ls hl => ?_)
  have lp_1 : ∀ (n_2 : Nat) (i : Nat) (fi : Nat → Int64) (H : Heap) (locs : List Loc) (ls : Array Slot), n - i < n_2 → (i ≤ n) → va_P D vwCl [(ar, .inl (cJ, n, .inr (.inl fi)))] H → va_D A [(ar, .inl (cJ, n, .inr (.inl fi)))] → va_S A s.heap H locs → lv_has ls 5 [(4, .int (nI n)), (3, .int (nI i)), (0, .ref ar), (1, .long v)] → W p l e { frames := 0, cells := 0, slots := 0, locals := 0 } s m ([.ref ar, .long v] : List Value).toArray below meth c H locs 0 0 (MQ below (skV D (skT cI cJ cC cZ cS) (fun (u : va_W) => ∃ (g : Nat → Int64), u = [(ar, .inl (cJ, n, .inr (.inl g)))]) A) ([.ref ar, .long v] : List Value).toArray s 0 0 A) (F0 m 6 ls []) := by
    intro n_2
    induction n_2 with
    | zero => intro i fi H locs ls hm; exact absurd hm (Nat.not_lt_zero _)
    | succ n_2 ih_lp_1 =>
      intro i fi H locs ls hm hi hP hD hS hl
      refine lv_iload_n hx hb dJ7_fill_d0a16_6 rfl (lv_at hl 1 rfl) ?_
      refine lv_iload hx hb dJ7_fill_d0a16_7 (lv_at hl 0 rfl) ?_
      refine lv_icmp_ge (tgt := 22) hx hb dJ7_fill_d0a16_9 (by decide) (fun c_3 => ?_) (fun c_3 => ?_)
      · have c_3 : n ≤ i := (nle n i (by omega) (by omega)).mp c_3
        exact sk_vret hx hb hr hlocks hK hP hD hS (⟨fi, rfl⟩) (Nat.le_of_ble_eq_true rfl) (Nat.le_of_ble_eq_true rfl) dJ7_fill_d0a16_22
      · have c_3 : ¬ (n ≤ i) := fun h => c_3 ((nle n i (by omega) (by omega)).mpr h)
        refine lv_aload_n hx hb dJ7_fill_d0a16_12 rfl (lv_at hl 2 rfl) ?_
        refine lv_iload_n hx hb dJ7_fill_d0a16_13 rfl (lv_at hl 1 rfl) ?_
        refine lv_lload_n hx hb dJ7_fill_d0a16_14 rfl (lv_at hl 3 rfl) ?_
        refine sk_lastO (ws' := fun f_4 => [(ar, .inl (cJ, n, .inr (.inl f_4)))]) hx hb hK hP hD hS 0 1 rfl rfl (vin i n (by omega) (by omega)) (fun _ => rfl) dJ7_fill_d0a16_15 (fun f_4 H locs hP hD hS => ?_)
        refine lv_iinc (v := nI (i + 1)) (lv' := [(3, .int (nI (i + 1))), (4, .int (nI n)), (0, .ref ar), (1, .long v)]) hx hb dJ7_fill_d0a16_16 hl (k := 1) rfl (ninc i 1 (by decide)) (by decide) rfl (fun ls hl => ?_)
        refine lv_goto (tgt := 6) hx hb dJ7_fill_d0a16_19 (by decide) ?_
        exact ih_lp_1 (i + 1) f_4 _ _ _ (by omega) (by omega) hP hD hS (lv_sub hl [1, 0, 2, 3] rfl)
  exact lp_1 (n - 0 + 1) 0 f _ _ _ (Nat.lt_succ_self _) (by omega) hP hD hS (lv_sub hl [0, 1, 2, 3] rfl)

