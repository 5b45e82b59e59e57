theorem dX1_takeFirst_0 : decode cX1_takeFirst 0 = .ok (.aload_n 0, 1) := q_aload_n0 (bat_get dg_X1_takeFirst_0_0 0 rfl rfl)
theorem dX1_takeFirst_1 : decode cX1_takeFirst 1 = .ok (.getfield 35, 3) := q_getfield (bat_get dg_X1_takeFirst_0_0 1 rfl rfl) rfl
theorem dX1_takeFirst_4 : decode cX1_takeFirst 4 = .ok (.istore_n 2, 1) := q_istore_n2 (bat_get dg_X1_takeFirst_0_0 2 rfl rfl)
theorem dX1_takeFirst_5 : decode cX1_takeFirst 5 = .ok (.iconst 0, 1) := q_iconst0 (bat_get dg_X1_takeFirst_0_0 3 rfl rfl)
theorem dX1_takeFirst_6 : decode cX1_takeFirst 6 = .ok (.istore_n 3, 1) := q_istore_n3 (bat_get dg_X1_takeFirst_0_0 4 rfl rfl)
theorem dX1_takeFirst_7 : decode cX1_takeFirst 7 = .ok (.iload_n 3, 1) := q_iload_n3 (bat_get dg_X1_takeFirst_0_0 5 rfl rfl)
theorem dX1_takeFirst_8 : decode cX1_takeFirst 8 = .ok (.aload_n 0, 1) := q_aload_n0 (bat_get dg_X1_takeFirst_0_0 6 rfl rfl)
theorem dX1_takeFirst_9 : decode cX1_takeFirst 9 = .ok (.getfield 31, 3) := q_getfield (bat_get dg_X1_takeFirst_0_0 7 rfl rfl) rfl
theorem dX1_takeFirst_12 : decode cX1_takeFirst 12 = .ok (.if_icmp .ge 26, 3) := q_if_icmp_ge (bat_get dg_X1_takeFirst_0_0 8 rfl rfl) rfl
theorem dX1_takeFirst_38 : decode cX1_takeFirst 38 = .ok (.return_, 1) := q_return_ (bat_get dg_X1_takeFirst_0_0 9 rfl rfl)
theorem dX1_takeFirst_15 : decode cX1_takeFirst 15 = .ok (.aload_n 0, 1) := q_aload_n0 (bat_get dg_X1_takeFirst_0_0 10 rfl rfl)
theorem dX1_takeFirst_16 : decode cX1_takeFirst 16 = .ok (.iload_n 3, 1) := q_iload_n3 (bat_get dg_X1_takeFirst_0_0 11 rfl rfl)
theorem dX1_takeFirst_17 : decode cX1_takeFirst 17 = .ok (.iload_n 2, 1) := q_iload_n2 (bat_get dg_X1_takeFirst_0_0 12 rfl rfl)
theorem dX1_takeFirst_18 : decode cX1_takeFirst 18 = .ok (.invokevirtual 66, 3) := q_invokevirtual (bat_get dg_X1_takeFirst_0_0 13 rfl rfl) rfl
theorem dX1_takeFirst_21 : decode cX1_takeFirst 21 = .ok (.invokestatic 70, 3) := q_invokestatic (bat_get dg_X1_takeFirst_0_0 14 rfl rfl) rfl
theorem dX1_takeFirst_24 : decode cX1_takeFirst 24 = .ok (.bipush 10, 2) := q_bipush (bat_get dg_X1_takeFirst_0_0 15 rfl rfl) rfl
theorem dX1_takeFirst_26 : decode cX1_takeFirst 26 = .ok (.irem, 1) := q_irem (bat_get dg_X1_takeFirst_0_0 16 rfl rfl)
theorem dX1_takeFirst_27 : decode cX1_takeFirst 27 = .ok (.istore_n 2, 1) := q_istore_n2 (bat_get dg_X1_takeFirst_0_0 17 rfl rfl)
theorem dX1_takeFirst_28 : decode cX1_takeFirst 28 = .ok (.aload_n 1, 1) := q_aload_n1 (bat_get dg_X1_takeFirst_0_0 18 rfl rfl)
theorem dX1_takeFirst_29 : decode cX1_takeFirst 29 = .ok (.iload_n 3, 1) := q_iload_n3 (bat_get dg_X1_takeFirst_0_0 19 rfl rfl)
theorem dX1_takeFirst_30 : decode cX1_takeFirst 30 = .ok (.iload_n 2, 1) := q_iload_n2 (bat_get dg_X1_takeFirst_0_0 20 rfl rfl)
theorem dX1_takeFirst_31 : decode cX1_takeFirst 31 = .ok (.iastore, 1) := q_iastore (bat_get dg_X1_takeFirst_0_0 21 rfl rfl)
theorem dX1_takeFirst_32 : decode cX1_takeFirst 32 = .ok (.iinc 3 1, 3) := q_iinc (bat_get dg_X1_takeFirst_0_0 22 rfl rfl) rfl
theorem dX1_takeFirst_35 : decode cX1_takeFirst 35 = .ok (.goto (-28), 3) := q_goto (bat_get dg_X1_takeFirst_0_0 23 rfl rfl) rfl
theorem w_4_116 : (Cond.methodLink RX1 70 yJ6_numberOfTrailingZeros_0f7a4) ∈ wsL_law := sk_mem (ck_4 _ (List.mem_of_getElem? (i := 116) rfl)) rfl
theorem w_4_117 : (Cond.static yJ6_numberOfTrailingZeros_0f7a4) ∈ wsL_law := sk_mem (ck_4 _ (List.mem_of_getElem? (i := 117) rfl)) rfl
theorem w_1_21 : (Cond.initialized RJ6) ∈ wsL_law := sk_mem (ck_1 _ (List.mem_of_getElem? (i := 21) rfl)) rfl
theorem w_4_115 : (Cond.code yX1_takeFirst cX1_takeFirst 4 none) ∈ wsL_law := sk_mem (ck_4 _ (List.mem_of_getElem? (i := 115) rfl)) rfl
def om_5_1e : List Bool := true :: true :: true :: true :: false :: []
theorem hd_J6_numberOfTrailingZeros_0f7a4_1 : skD yJ6_numberOfTrailingZeros_0f7a4 1 := by decide +kernel
set_option maxHeartbeats 4000000 in
set_option maxRecDepth 100000 in
theorem c_takeFirst (l : Launch) (D : va_G) (cI cJ cC cZ cS : ClassId) (q : Nat → Nat) (gd : Nat) (gs : Nat) (e1 : Nat → Int32) (e2 : Nat → Int32) (e3 : Nat → Int32) (rw : Nat) (ra : Nat → Int32) (hgd : gd ≤ 9) (hgs : gs ≤ 9) : skM l yX1_takeFirst cX1_takeFirst 4 none 1 22 0 0 D (skT cI cJ cC cZ cS) [.ref (q 11), .ref rw] [(q 11, .inr (1, [.ref (q 10), .ref (q 67), .ref (q 68), .ref (q 69), .ref (q 70), .ref (q 71), .ref (q 72), .int (nI gd), .int (nI gs)])), (q 67, .inl (cI, 90, .inl e1)), (q 68, .inl (cI, 9, .inl e2)), (q 69, .inl (cI, 10, .inl e3)), (rw, .inl (cI, 9, .inl ra))] (skV D (skT cI cJ cC cZ cS) (fun (u : va_W) => ∃ (ra2 : Nat → Int32), rowOk ra2 gd ∧ u = [(q 11, .inr (1, [.ref (q 10), .ref (q 67), .ref (q 68), .ref (q 69), .ref (q 70), .ref (q 71), .ref (q 72), .int (nI gd), .int (nI gs)])), (q 67, .inl (cI, 90, .inl e1)), (q 68, .inl (cI, 9, .inl e2)), (q 69, .inl (cI, 10, .inl e3)), (rw, .inl (cI, 9, .inl ra2))])) := by
  refine skM_of pf_X1_takeFirst (Nat.le_of_ble_eq_true rfl) ?_
  intro p e s m below meth c A ls E hP hD hl
  refine skE_el E (fun hx hb hr hml hlocks hin hown hts hK hA => ?_)
  have hown : s.vm.findClass RX1 = some m.cls := hown
  have hS : va_S A s.heap s.heap [] := va_S.rf
  have hl : lv_has ls 4 [(0, .ref (q 11)), (1, .ref rw)] := hl
  refine lv_aload_n hx hb dX1_takeFirst_0 rfl (lv_at hl 0 rfl) ?_
  refine sk_get (v := .int (nI gs)) (C := RX1) (T := TX1) (N := 9) hx hb hts inlX1 hown hK hP 0 rfl rfl 8 (by decide) w_2_103 rfl dX1_takeFirst_1 ?_
  refine lv_istore_n (lv' := [(2, .int (nI gs)), (0, .ref (q 11)), (1, .ref rw)]) hx hb dX1_takeFirst_4 rfl hl (by decide) rfl (fun ls hl => ?_)
  refine lv_iconst (v := 0) hx hb dX1_takeFirst_5 (by decide) ?_
  refine lv_istore_n (lv' := [(3, .int 0), (2, .int (nI gs)), (0, .ref (q 11)), (1, .ref rw)]) hx hb dX1_takeFirst_6 rfl hl (by decide) rfl (fun ls hl => ?_)
  have lp_1 : ∀ (n_2 : Nat) (i : Nat) (ah : Nat) (rb : Nat → Int32) (H : Heap) (locs : List Loc) (ls : Array Slot), gd - i < n_2 → (i ≤ gd) → (ah < 10) → (rowOk rb i) → va_P D vwCl [(q 11, .inr (1, [.ref (q 10), .ref (q 67), .ref (q 68), .ref (q 69), .ref (q 70), .ref (q 71), .ref (q 72), .int (nI gd), .int (nI gs)])), (q 67, .inl (cI, 90, .inl e1)), (q 68, .inl (cI, 9, .inl e2)), (q 69, .inl (cI, 10, .inl e3)), (rw, .inl (cI, 9, .inl rb))] H → va_D A [(q 11, .inr (1, [.ref (q 10), .ref (q 67), .ref (q 68), .ref (q 69), .ref (q 70), .ref (q 71), .ref (q 72), .int (nI gd), .int (nI gs)])), (q 67, .inl (cI, 90, .inl e1)), (q 68, .inl (cI, 9, .inl e2)), (q 69, .inl (cI, 10, .inl e3)), (rw, .inl (cI, 9, .inl rb))] → va_S A s.heap H locs → lv_has ls 4 [(3, .int (nI i)), (2, .int (nI ah)), (0, .ref (q 11)), (1, .ref rw)] → W p l e { frames := 1, cells := 0, slots := 0, locals := 22 } s m ([.ref (q 11), .ref rw] : List Value).toArray below meth c H locs 0 0 (MQ below (skV D (skT cI cJ cC cZ cS) (fun (u : va_W) => ∃ (ra2 : Nat → Int32), rowOk ra2 gd ∧ u = [(q 11, .inr (1, [.ref (q 10), .ref (q 67), .ref (q 68), .ref (q 69), .ref (q 70), .ref (q 71), .ref (q 72), .int (nI gd), .int (nI gs)])), (q 67, .inl (cI, 90, .inl e1)), (q 68, .inl (cI, 9, .inl e2)), (q 69, .inl (cI, 10, .inl e3)), (rw, .inl (cI, 9, .inl ra2))]) A) ([.ref (q 11), .ref rw] : List Value).toArray s 0 0 A) (F0 m 7 ls []) := by
    intro n_2
    induction n_2 with
    | zero => intro i ah rb H locs ls hm; exact absurd hm (Nat.not_lt_zero _)
    | succ n_2 ih_lp_1 =>
      intro i ah rb H locs ls hm hi hah hro hP hD hS hl
      refine lv_iload_n hx hb dX1_takeFirst_7 rfl (lv_at hl 0 rfl) ?_
      refine lv_aload_n hx hb dX1_takeFirst_8 rfl (lv_at hl 2 rfl) ?_
      refine sk_get (v := .int (nI gd)) (C := RX1) (T := TX1) (N := 9) hx hb hts inlX1 hown hK hP 0 rfl rfl 7 (by decide) w_2_102 rfl dX1_takeFirst_9 ?_
      refine lv_icmp_ge (tgt := 38) hx hb dX1_takeFirst_12 (by decide) (fun c_3 => ?_) (fun c_3 => ?_)
      · have c_3 : gd ≤ i := (nle gd i (by omega) (by omega)).mp c_3
        exact sk_vret hx hb hr hlocks hK hP hD hS (⟨rb, by rw [show gd = i by omega]; exact hro, rfl⟩) (Nat.le_of_ble_eq_true rfl) (Nat.le_of_ble_eq_true rfl) dX1_takeFirst_38
      · have c_3 : ¬ (gd ≤ i) := fun h => c_3 ((nle gd i (by omega) (by omega)).mpr h)
        refine lv_aload_n hx hb dX1_takeFirst_15 rfl (lv_at hl 2 rfl) ?_
        refine lv_iload_n hx hb dX1_takeFirst_16 rfl (lv_at hl 0 rfl) ?_
        refine lv_iload_n hx hb dX1_takeFirst_17 rfl (lv_at hl 1 rfl) ?_
        refine sk_Vi (q0 := 0) (n := 2) (rest := []) (wr := fmR om_5_1e _) ⟨hx, hb, hml, hown, hts⟩ hl.1 (c_next l D cI cJ cC cZ cS q gd gs e1 e2 e3 i ah (by omega) (by omega)) w_4_57 w_4_59 w_0_20 w_1_13 w_4_60 hd_X1_next_2 ⟨⟨(Nat.le_of_ble_eq_true rfl), (Nat.le_of_ble_eq_true rfl)⟩, (Nat.le_of_ble_eq_true rfl), (Nat.le_of_ble_eq_true rfl)⟩ hK hP hD hS hA (fmT om_5_1e 0) (fmF om_5_1e 0) (fm_C1 rfl rfl) (fm_R rfl rfl) (fm_nT om_5_1e 0) (fm_nF om_5_1e 0) (fm_di om_5_1e 0) rfl rfl rfl rfl (Nat.le_of_ble_eq_true rfl) dX1_takeFirst_18 (fun r_4 u H locs hw hP hD hS => ?_)
        refine o_mgE (ws' := [(q 11, .inr (1, [.ref (q 10), .ref (q 67), .ref (q 68), .ref (q 69), .ref (q 70), .ref (q 71), .ref (q 72), .int (nI gd), .int (nI gs)])), (q 67, .inl (cI, 90, .inl e1)), (q 68, .inl (cI, 9, .inl e2)), (q 69, .inl (cI, 10, .inl e3)), (rw, .inl (cI, 9, .inl rb))]) hw hP hD rfl (fun hP hD => ?_)
        refine sk_Si (n := 1) (rest := []) (wr := [(q 11, .inr (1, [.ref (q 10), .ref (q 67), .ref (q 68), .ref (q 69), .ref (q 70), .ref (q 71), .ref (q 72), .int (nI gd), .int (nI gs)])), (q 67, .inl (cI, 90, .inl e1)), (q 68, .inl (cI, 9, .inl e2)), (q 69, .inl (cI, 10, .inl e3)), (rw, .inl (cI, 9, .inl rb))]) ⟨hx, hb, hml, hown, hts⟩ hl.1 (c_ntz l D cI cJ cC cZ cS r_4) w_4_116 w_4_117 w_1_21 w_4_118 hd_J6_numberOfTrailingZeros_0f7a4_1 ⟨⟨(Nat.le_of_ble_eq_true rfl), (Nat.le_of_ble_eq_true rfl)⟩, (Nat.le_of_ble_eq_true rfl), (Nat.le_of_ble_eq_true rfl)⟩ hK hP hD hS hA [] [0, 1, 2, 3, 4] rfl rfl (by decide +kernel) (by decide +kernel) (by decide +kernel) rfl rfl (Nat.le_of_ble_eq_true rfl) dX1_takeFirst_21 (fun r_6 u H locs hw hP hD hS => ?_)
        obtain ⟨v_5, hv_7, rfl, rfl⟩ := hw
        refine o_re (ws' := [(q 11, .inr (1, [.ref (q 10), .ref (q 67), .ref (q 68), .ref (q 69), .ref (q 70), .ref (q 71), .ref (q 72), .int (nI gd), .int (nI gs)])), (q 67, .inl (cI, 90, .inl e1)), (q 68, .inl (cI, 9, .inl e2)), (q 69, .inl (cI, 10, .inl e3)), (rw, .inl (cI, 9, .inl rb))]) hP hD rfl (fun hP hD => ?_)
        refine lv_bipush (v := 10) hx hb dX1_takeFirst_24 (by decide) ?_
        refine lv_irem hx hb dX1_takeFirst_26 (by decide) ?_
        refine sk_top (nI (v_5 % 10)) (nrem v_5 10 (by omega) (by omega) (by omega)) ?_
        refine lv_istore_n (lv' := [(2, .int (nI (v_5 % 10))), (3, .int (nI i)), (0, .ref (q 11)), (1, .ref rw)]) hx hb dX1_takeFirst_27 rfl hl (by decide) rfl (fun ls hl => ?_)
        refine lv_aload_n hx hb dX1_takeFirst_28 rfl (lv_at hl 3 rfl) ?_
        refine lv_iload_n hx hb dX1_takeFirst_29 rfl (lv_at hl 1 rfl) ?_
        refine lv_iload_n hx hb dX1_takeFirst_30 rfl (lv_at hl 0 rfl) ?_
        refine sk_iast (ws' := [(q 11, .inr (1, [.ref (q 10), .ref (q 67), .ref (q 68), .ref (q 69), .ref (q 70), .ref (q 71), .ref (q 72), .int (nI gd), .int (nI gs)])), (q 67, .inl (cI, 90, .inl e1)), (q 68, .inl (cI, 9, .inl e2)), (q 69, .inl (cI, 10, .inl e3)), (rw, .inl (cI, 9, .inl (upd rb (nI i).toNatClampNeg (nI (v_5 % 10)))))]) hx hb hK hP hD hS 4 0 rfl rfl (vin i 9 (by omega) (by omega)) rfl dX1_takeFirst_31 (fun H locs hP hD hS => ?_)
        have ho_9 := rowOk_up (f := rb) (i := i) (v := (v_5 % 10)) hro (by omega) (by omega)
        generalize ef_10 : upd rb (nI i).toNatClampNeg (nI (v_5 % 10)) = f_8 at hP hD ho_9
        refine lv_iinc (v := nI (i + 1)) (lv' := [(3, .int (nI (i + 1))), (2, .int (nI (v_5 % 10))), (0, .ref (q 11)), (1, .ref rw)]) hx hb dX1_takeFirst_32 hl (k := 1) rfl (ninc i 1 (by decide)) (by decide) rfl (fun ls hl => ?_)
        refine lv_goto (tgt := 7) hx hb dX1_takeFirst_35 (by decide) ?_
        exact ih_lp_1 (i + 1) (v_5 % 10) f_8 _ _ _ (by omega) (by omega) (by omega) ho_9 hP hD hS (lv_sub hl [0, 1, 2, 3] rfl)
  exact lp_1 (gd - 0 + 1) 0 gs ra _ _ _ (Nat.lt_succ_self _) (by omega) (by omega) (rowOk_0 _) hP hD hS (lv_sub hl [0, 1, 2, 3] rfl)
theorem dg_X1_countWays_0_0 : bqL cX1_countWays 0 [(0, [3]), (1, [60]), (2, [27]), (3, [16, 10]), (5, [162, 0, 24]), (29, [42]), (30, [180, 0, 31]), (33, [4]), (34, [100]), (35, [60]), (36, [27]), (37, [155, 0, 95]), (132, [42]), (133, [180, 0, 21]), (136, [42]), (137, [180, 0, 35]), (140, [47]), (141, [173]), (40, [3]), (41, [61]), (42, [28]), (43, [16, 10]), (45, [162, 0, 81]), (126, [132, 1, 255]), (129, [167, 255, 163]), (48, [42]), (49, [27]), (50, [28]), (51, [182, 0, 66]), (54, [62]), (55, [9]), (56, [55, 4]), (58, [3]), (59, [54, 6]), (61, [21, 6]), (63, [16, 10]), (65, [162, 0, 42]), (107, [42]), (108, [180, 0, 21]), (111, [27])] = true := by decide +kernel
theorem dX1_countWays_0 : decode cX1_countWays 0 = .ok (.iconst 0, 1) := q_iconst0 (bat_get dg_X1_countWays_0_0 0 rfl rfl)
theorem dX1_countWays_1 : decode cX1_countWays 1 = .ok (.istore_n 1, 1) := q_istore_n1 (bat_get dg_X1_countWays_0_0 1 rfl rfl)
theorem dX1_countWays_2 : decode cX1_countWays 2 = .ok (.iload_n 1, 1) := q_iload_n1 (bat_get dg_X1_countWays_0_0 2 rfl rfl)
theorem dX1_countWays_3 : decode cX1_countWays 3 = .ok (.bipush 10, 2) := q_bipush (bat_get dg_X1_countWays_0_0 3 rfl rfl) rfl
theorem dX1_countWays_5 : decode cX1_countWays 5 = .ok (.if_icmp .ge 24, 3) := q_if_icmp_ge (bat_get dg_X1_countWays_0_0 4 rfl rfl) rfl
theorem dX1_countWays_29 : decode cX1_countWays 29 = .ok (.aload_n 0, 1) := q_aload_n0 (bat_get dg_X1_countWays_0_0 5 rfl rfl)
theorem dX1_countWays_30 : decode cX1_countWays 30 = .ok (.getfield 31, 3) := q_getfield (bat_get dg_X1_countWays_0_0 6 rfl rfl) rfl
theorem dX1_countWays_33 : decode cX1_countWays 33 = .ok (.iconst 1, 1) := q_iconst1 (bat_get dg_X1_countWays_0_0 7 rfl rfl)
theorem dX1_countWays_34 : decode cX1_countWays 34 = .ok (.isub, 1) := q_isub (bat_get dg_X1_countWays_0_0 8 rfl rfl)
theorem dX1_countWays_35 : decode cX1_countWays 35 = .ok (.istore_n 1, 1) := q_istore_n1 (bat_get dg_X1_countWays_0_0 9 rfl rfl)
theorem dX1_countWays_36 : decode cX1_countWays 36 = .ok (.iload_n 1, 1) := q_iload_n1 (bat_get dg_X1_countWays_0_0 10 rfl rfl)
theorem dX1_countWays_37 : decode cX1_countWays 37 = .ok (.ifCond .lt 95, 3) := q_ifCond_lt (bat_get dg_X1_countWays_0_0 11 rfl rfl) rfl
theorem dX1_countWays_132 : decode cX1_countWays 132 = .ok (.aload_n 0, 1) := q_aload_n0 (bat_get dg_X1_countWays_0_0 12 rfl rfl)
theorem dX1_countWays_133 : decode cX1_countWays 133 = .ok (.getfield 21, 3) := q_getfield (bat_get dg_X1_countWays_0_0 13 rfl rfl) rfl
theorem dX1_countWays_136 : decode cX1_countWays 136 = .ok (.aload_n 0, 1) := q_aload_n0 (bat_get dg_X1_countWays_0_0 14 rfl rfl)
theorem dX1_countWays_137 : decode cX1_countWays 137 = .ok (.getfield 35, 3) := q_getfield (bat_get dg_X1_countWays_0_0 15 rfl rfl) rfl
theorem dX1_countWays_140 : decode cX1_countWays 140 = .ok (.laload, 1) := q_laload (bat_get dg_X1_countWays_0_0 16 rfl rfl)
theorem dX1_countWays_141 : decode cX1_countWays 141 = .ok (.lreturn, 1) := q_lreturn (bat_get dg_X1_countWays_0_0 17 rfl rfl)
theorem dX1_countWays_40 : decode cX1_countWays 40 = .ok (.iconst 0, 1) := q_iconst0 (bat_get dg_X1_countWays_0_0 18 rfl rfl)
theorem dX1_countWays_41 : decode cX1_countWays 41 = .ok (.istore_n 2, 1) := q_istore_n2 (bat_get dg_X1_countWays_0_0 19 rfl rfl)
theorem dX1_countWays_42 : decode cX1_countWays 42 = .ok (.iload_n 2, 1) := q_iload_n2 (bat_get dg_X1_countWays_0_0 20 rfl rfl)
theorem dX1_countWays_43 : decode cX1_countWays 43 = .ok (.bipush 10, 2) := q_bipush (bat_get dg_X1_countWays_0_0 21 rfl rfl) rfl
theorem dX1_countWays_45 : decode cX1_countWays 45 = .ok (.if_icmp .ge 81, 3) := q_if_icmp_ge (bat_get dg_X1_countWays_0_0 22 rfl rfl) rfl
theorem dX1_countWays_126 : decode cX1_countWays 126 = .ok (.iinc 1 (-1), 3) := q_iinc (bat_get dg_X1_countWays_0_0 23 rfl rfl) rfl
theorem dX1_countWays_129 : decode cX1_countWays 129 = .ok (.goto (-93), 3) := q_goto (bat_get dg_X1_countWays_0_0 24 rfl rfl) rfl
theorem dX1_countWays_48 : decode cX1_countWays 48 = .ok (.aload_n 0, 1) := q_aload_n0 (bat_get dg_X1_countWays_0_0 25 rfl rfl)
