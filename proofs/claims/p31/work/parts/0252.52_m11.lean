set_option maxHeartbeats 4000000 in
set_option maxRecDepth 100000 in
theorem c_m_isInX (l : Launch) (D : va_G) (cI cJ cC cZ cS : ClassId) (v : Int64) (y : Int64) (z : Int64)  : skM l yX12_isIn cX12_isIn 6 (some .boolean) 0 0 0 0 D (skT cI cJ cC cZ cS) [.long v, .long y, .long z] [] (skI D (skT cI cJ cC cZ cS) (fun (r : Int32) (u : va_W) => ∃ (b : Nat), ((b = 0 ∧ ¬ (y ≤ v ∧ v ≤ z)) ∨ (b = 1 ∧ y ≤ v ∧ v ≤ z)) ∧ r = nI b ∧ u = [])) := by
  refine skM_of pf_X12_isIn (Nat.le_of_ble_eq_true rfl) ?_
  intro p e s m below meth c A ls E hP hD hl
  refine skE_el E (fun hx hb hr hml hlocks hin hown hts hK hA => ?_)
  have hown : s.vm.findClass RX12 = some m.cls := hown
  have hS : va_S A s.heap s.heap [] := va_S.rf
  have hl : lv_has ls 6 [(0, .long v), (2, .long y), (4, .long z)] := hl
  refine lv_lload_n hx hb dX12_isIn_0 rfl (lv_at hl 0 rfl) ?_
  refine lv_lload_n hx hb dX12_isIn_1 rfl (lv_at hl 1 rfl) ?_
  refine W.lcmp hx hb dX12_isIn_2 ?_
  refine lv_if_lt (tgt := 17) hx hb dX12_isIn_3 (by decide) (fun c_1 => ?_) (fun c_1 => ?_)
  · skip
    refine lv_iconst (v := 0) hx hb dX12_isIn_17 (by decide) ?_
    exact sk_iret hx hb hr rfl hlocks hK hP hD hS (⟨0, Or.inl ⟨rfl, fun q => absurd q.1 (Int64.not_le.mpr ((lg_cmp_lt _ _).mp c_1))⟩, rfl, rfl⟩) (Nat.le_of_ble_eq_true rfl) (Nat.le_of_ble_eq_true rfl) dX12_isIn_18
  · skip
    refine lv_lload_n hx hb dX12_isIn_6 rfl (lv_at hl 0 rfl) ?_
    refine lv_lload hx hb dX12_isIn_7 (lv_at hl 2 rfl) ?_
    refine W.lcmp hx hb dX12_isIn_9 ?_
    refine lv_if_gt (tgt := 17) hx hb dX12_isIn_10 (by decide) (fun c_2 => ?_) (fun c_2 => ?_)
    · skip
      refine lv_iconst (v := 0) hx hb dX12_isIn_17 (by decide) ?_
      exact sk_iret hx hb hr rfl hlocks hK hP hD hS (⟨0, Or.inl ⟨rfl, fun q => absurd q.2 (Int64.not_le.mpr ((lg_cmp_gt _ _).mp c_2))⟩, rfl, rfl⟩) (Nat.le_of_ble_eq_true rfl) (Nat.le_of_ble_eq_true rfl) dX12_isIn_18
    · skip
      refine lv_iconst (v := 1) hx hb dX12_isIn_13 (by decide) ?_
      refine lv_goto (tgt := 18) hx hb dX12_isIn_14 (by decide) ?_
      exact sk_iret hx hb hr rfl hlocks hK hP hD hS (⟨1, Or.inr ⟨rfl, lg_ge c_1, lg_le c_2⟩, rfl, rfl⟩) (Nat.le_of_ble_eq_true rfl) (Nat.le_of_ble_eq_true rfl) dX12_isIn_18
theorem sd_of {p e n : Nat} (h : (p + 1440 * e - e * n) % 1440 = 0) : sd p e n := h
theorem dg_X12_same_0_0 : bqL cX12_same 0 [(0, [27]), (1, [133]), (2, [9]), (3, [20, 1, 213]), (6, [184, 0, 238]), (9, [153, 0, 15]), (24, [2]), (25, [172]), (12, [28]), (13, [133]), (14, [9]), (15, [20, 1, 213]), (18, [184, 0, 238]), (21, [154, 0, 5]), (26, [27]), (27, [62]), (28, [3]), (29, [54, 4]), (31, [21, 4]), (33, [17, 5, 160]), (36, [162, 0, 28]), (64, [2]), (65, [172]), (39, [29]), (40, [154, 0, 6]), (46, [29]), (47, [17, 5, 160]), (50, [96]), (51, [28]), (52, [100]), (53, [17, 5, 160]), (56, [112]), (57, [62]), (58, [132, 4, 1]), (61, [167, 255, 226]), (43, [21, 4]), (45, [172])] = true := by decide +kernel
theorem dX12_same_0 : decode cX12_same 0 = .ok (.iload_n 1, 1) := q_iload_n1 (bat_get dg_X12_same_0_0 0 rfl rfl)
theorem dX12_same_1 : decode cX12_same 1 = .ok (.i2l, 1) := q_i2l (bat_get dg_X12_same_0_0 1 rfl rfl)
theorem dX12_same_2 : decode cX12_same 2 = .ok (.lconst 0, 1) := q_lconst0 (bat_get dg_X12_same_0_0 2 rfl rfl)
theorem dX12_same_3 : decode cX12_same 3 = .ok (.ldc2_w 469, 3) := q_ldc2_w (bat_get dg_X12_same_0_0 3 rfl rfl) rfl
theorem dX12_same_6 : decode cX12_same 6 = .ok (.invokestatic 238, 3) := q_invokestatic (bat_get dg_X12_same_0_0 4 rfl rfl) rfl
theorem dX12_same_9 : decode cX12_same 9 = .ok (.ifCond .eq 15, 3) := q_ifCond_eq (bat_get dg_X12_same_0_0 5 rfl rfl) rfl
theorem dX12_same_24 : decode cX12_same 24 = .ok (.iconst (-1), 1) := q_iconstm1 (bat_get dg_X12_same_0_0 6 rfl rfl)
theorem dX12_same_25 : decode cX12_same 25 = .ok (.ireturn, 1) := q_ireturn (bat_get dg_X12_same_0_0 7 rfl rfl)
theorem dX12_same_12 : decode cX12_same 12 = .ok (.iload_n 2, 1) := q_iload_n2 (bat_get dg_X12_same_0_0 8 rfl rfl)
theorem dX12_same_13 : decode cX12_same 13 = .ok (.i2l, 1) := q_i2l (bat_get dg_X12_same_0_0 9 rfl rfl)
theorem dX12_same_14 : decode cX12_same 14 = .ok (.lconst 0, 1) := q_lconst0 (bat_get dg_X12_same_0_0 10 rfl rfl)
theorem dX12_same_15 : decode cX12_same 15 = .ok (.ldc2_w 469, 3) := q_ldc2_w (bat_get dg_X12_same_0_0 11 rfl rfl) rfl
theorem dX12_same_18 : decode cX12_same 18 = .ok (.invokestatic 238, 3) := q_invokestatic (bat_get dg_X12_same_0_0 12 rfl rfl) rfl
theorem dX12_same_21 : decode cX12_same 21 = .ok (.ifCond .ne 5, 3) := q_ifCond_ne (bat_get dg_X12_same_0_0 13 rfl rfl) rfl
theorem dX12_same_26 : decode cX12_same 26 = .ok (.iload_n 1, 1) := q_iload_n1 (bat_get dg_X12_same_0_0 14 rfl rfl)
theorem dX12_same_27 : decode cX12_same 27 = .ok (.istore_n 3, 1) := q_istore_n3 (bat_get dg_X12_same_0_0 15 rfl rfl)
theorem dX12_same_28 : decode cX12_same 28 = .ok (.iconst 0, 1) := q_iconst0 (bat_get dg_X12_same_0_0 16 rfl rfl)
theorem dX12_same_29 : decode cX12_same 29 = .ok (.istore 4, 2) := q_istore (bat_get dg_X12_same_0_0 17 rfl rfl)
theorem dX12_same_31 : decode cX12_same 31 = .ok (.iload 4, 2) := q_iload (bat_get dg_X12_same_0_0 18 rfl rfl)
theorem dX12_same_33 : decode cX12_same 33 = .ok (.sipush 1440, 3) := q_sipush (bat_get dg_X12_same_0_0 19 rfl rfl) rfl
theorem dX12_same_36 : decode cX12_same 36 = .ok (.if_icmp .ge 28, 3) := q_if_icmp_ge (bat_get dg_X12_same_0_0 20 rfl rfl) rfl
theorem dX12_same_64 : decode cX12_same 64 = .ok (.iconst (-1), 1) := q_iconstm1 (bat_get dg_X12_same_0_0 21 rfl rfl)
theorem dX12_same_65 : decode cX12_same 65 = .ok (.ireturn, 1) := q_ireturn (bat_get dg_X12_same_0_0 22 rfl rfl)
theorem dX12_same_39 : decode cX12_same 39 = .ok (.iload_n 3, 1) := q_iload_n3 (bat_get dg_X12_same_0_0 23 rfl rfl)
theorem dX12_same_40 : decode cX12_same 40 = .ok (.ifCond .ne 6, 3) := q_ifCond_ne (bat_get dg_X12_same_0_0 24 rfl rfl) rfl
theorem dX12_same_46 : decode cX12_same 46 = .ok (.iload_n 3, 1) := q_iload_n3 (bat_get dg_X12_same_0_0 25 rfl rfl)
theorem dX12_same_47 : decode cX12_same 47 = .ok (.sipush 1440, 3) := q_sipush (bat_get dg_X12_same_0_0 26 rfl rfl) rfl
theorem dX12_same_50 : decode cX12_same 50 = .ok (.iadd, 1) := q_iadd (bat_get dg_X12_same_0_0 27 rfl rfl)
theorem dX12_same_51 : decode cX12_same 51 = .ok (.iload_n 2, 1) := q_iload_n2 (bat_get dg_X12_same_0_0 28 rfl rfl)
theorem dX12_same_52 : decode cX12_same 52 = .ok (.isub, 1) := q_isub (bat_get dg_X12_same_0_0 29 rfl rfl)
theorem dX12_same_53 : decode cX12_same 53 = .ok (.sipush 1440, 3) := q_sipush (bat_get dg_X12_same_0_0 30 rfl rfl) rfl
theorem dX12_same_56 : decode cX12_same 56 = .ok (.irem, 1) := q_irem (bat_get dg_X12_same_0_0 31 rfl rfl)
theorem dX12_same_57 : decode cX12_same 57 = .ok (.istore_n 3, 1) := q_istore_n3 (bat_get dg_X12_same_0_0 32 rfl rfl)
theorem dX12_same_58 : decode cX12_same 58 = .ok (.iinc 4 1, 3) := q_iinc (bat_get dg_X12_same_0_0 33 rfl rfl) rfl
theorem dX12_same_61 : decode cX12_same 61 = .ok (.goto (-30), 3) := q_goto (bat_get dg_X12_same_0_0 34 rfl rfl) rfl
theorem dX12_same_43 : decode cX12_same 43 = .ok (.iload 4, 2) := q_iload (bat_get dg_X12_same_0_0 35 rfl rfl)
theorem dX12_same_45 : decode cX12_same 45 = .ok (.ireturn, 1) := q_ireturn (bat_get dg_X12_same_0_0 36 rfl rfl)
theorem w_8_117 : (Cond.constantLong RX12 469 (1439)) ∈ wsL_law := sk_mem (ck_8 _ (List.mem_of_getElem? (i := 117) rfl)) rfl
theorem w_8_116 : (Cond.code yX12_same cX12_same 5 (some .int)) ∈ wsL_law := sk_mem (ck_8 _ (List.mem_of_getElem? (i := 116) rfl)) rfl
set_option maxHeartbeats 4000000 in
set_option maxRecDepth 100000 in
theorem c_m_same (l : Launch) (D : va_G) (cI cJ cC cZ cS : ClassId) (mm : Nat) (g : Nat → Nat) (ta : Nat) (pa : Nat) (pe : Nat) (pd : Int32) (pb : Nat) (pp : Int32) (pf : Int32) (pg : Int32) (pn : Int32) (rt : Int32) (rn : Int32) (cd : Nat) (sn : Int32) (il : Nat) (tk : Int32) (am : Int32) (at_ : Int32) (aa : Int32) (wt : Int32) (wy : Int64) (rm : Nat) (ud : Nat) (nu : Nat) (sd : Int64) (qn : Nat) (qw : Nat) (qo : Int32) (qb : Nat) (qp : Nat) (qa : Int64) (qi : Nat) (oc : Nat) (o : Int32) (w : Int32)  : skM l yX12_same cX12_same 5 (some .int) 1 25 0 0 D (skT cI cJ cC cZ cS) [.ref mm, .int o, .int w] [(mm, .inr (12, mo g (nI ta) (nI pa) (nI pe) pd (nI pb) pp pf pg pn rt rn (nI cd) sn (nI il) tk am at_ aa 0 0 (-1) wt wy 0 (nI rm) (nI ud) (nI nu) sd (nI qn) (nI qw) qo (nI qb) (nI qp) qa (nI qi) (nI oc)))] (skI D (skT cI cJ cC cZ cS) (fun (r : Int32) (u : va_W) => smR o w r ∧ u = [(mm, .inr (12, mo g (nI ta) (nI pa) (nI pe) pd (nI pb) pp pf pg pn rt rn (nI cd) sn (nI il) tk am at_ aa 0 0 (-1) wt wy 0 (nI rm) (nI ud) (nI nu) sd (nI qn) (nI qw) qo (nI qb) (nI qp) qa (nI qi) (nI oc)))])) := by
  refine skM_of pf_X12_same (Nat.le_of_ble_eq_true rfl) ?_
  intro p e s m below meth c A ls E hP hD hl
  refine skE_el E (fun hx hb hr hml hlocks hin hown hts hK hA => ?_)
  have hown : s.vm.findClass RX12 = some m.cls := hown
  have hS : va_S A s.heap s.heap [] := va_S.rf
  have hl : lv_has ls 5 [(0, .ref mm), (1, .int o), (2, .int w)] := hl
  refine lv_iload_n hx hb dX12_same_0 rfl (lv_at hl 1 rfl) ?_
  refine lv_i2l hx hb dX12_same_1 rfl ?_
  refine lv_lconst (v := 0) hx hb dX12_same_2 (by decide) ?_
  refine lv_ldc2 (v := 1439) hx hb hown (hts _ w_8_117) dX12_same_3 ?_
  refine sk_Si (n := 3) (rest := []) (wr := [(mm, .inr (12, mo g (nI ta) (nI pa) (nI pe) pd (nI pb) pp pf pg pn rt rn (nI cd) sn (nI il) tk am at_ aa 0 0 (-1) wt wy 0 (nI rm) (nI ud) (nI nu) sd (nI qn) (nI qw) qo (nI qb) (nI qp) qa (nI qi) (nI oc)))]) ⟨hx, hb, hml, hown, hts⟩ hl.1 (c_m_isInX l D cI cJ cC cZ cS (Int32.toInt64 o) 0 1439) w_7_0 w_7_1 w_1_14 w_7_2 hd_X12_isIn_3 ⟨⟨(Nat.le_of_ble_eq_true rfl), (Nat.le_of_ble_eq_true rfl)⟩, (Nat.le_of_ble_eq_true rfl), (Nat.le_of_ble_eq_true rfl)⟩ hK hP hD hS hA [] [0] rfl rfl (by decide +kernel) (by decide +kernel) (by decide +kernel) rfl rfl (Nat.le_of_ble_eq_true rfl) dX12_same_6 (fun r_2 u H locs hw hP hD hS => ?_)
  obtain ⟨b_1, hb1_3, rfl, rfl⟩ := hw
  refine o_re (ws' := [(mm, .inr (12, mo g (nI ta) (nI pa) (nI pe) pd (nI pb) pp pf pg pn rt rn (nI cd) sn (nI il) tk am at_ aa 0 0 (-1) wt wy 0 (nI rm) (nI ud) (nI nu) sd (nI qn) (nI qw) qo (nI qb) (nI qp) qa (nI qi) (nI oc)))]) hP hD rfl (fun hP hD => ?_)
  refine lv_if_eq (tgt := 24) hx hb dX12_same_9 (by decide) (fun c_4 => ?_) (fun c_4 => ?_)
  · have c_4 : b_1 = 0 := (neq b_1 0 (by omega) (by omega)).mp c_4
    refine lv_iconst (v := (-1)) hx hb dX12_same_24 (by decide) ?_
    exact sk_iret hx hb hr rfl hlocks hK hP hD hS (⟨(Or.inr ⟨outA (hb1_3.resolve_right (by omega)).2, rfl⟩), rfl⟩) (Nat.le_of_ble_eq_true rfl) (Nat.le_of_ble_eq_true rfl) dX12_same_25
  · have c_4 : ¬ (b_1 = 0) := fun h => c_4 ((neq b_1 0 (by omega) (by omega)).mpr h)
    obtain ⟨kd_5, hkd_5, rfl⟩ := inK 1440 (hb1_3.resolve_left (by omega)).2.1 (hb1_3.resolve_left (by omega)).2.2 (by decide)
    refine lv_iload_n hx hb dX12_same_12 rfl (lv_at hl 2 rfl) ?_
    refine lv_i2l hx hb dX12_same_13 rfl ?_
    refine lv_lconst (v := 0) hx hb dX12_same_14 (by decide) ?_
    refine lv_ldc2 (v := 1439) hx hb hown (hts _ w_8_117) dX12_same_15 ?_
    refine sk_Si (n := 3) (rest := []) (wr := [(mm, .inr (12, mo g (nI ta) (nI pa) (nI pe) pd (nI pb) pp pf pg pn rt rn (nI cd) sn (nI il) tk am at_ aa 0 0 (-1) wt wy 0 (nI rm) (nI ud) (nI nu) sd (nI qn) (nI qw) qo (nI qb) (nI qp) qa (nI qi) (nI oc)))]) ⟨hx, hb, hml, hown, hts⟩ hl.1 (c_m_isInX l D cI cJ cC cZ cS (Int32.toInt64 w) 0 1439) w_7_0 w_7_1 w_1_14 w_7_2 hd_X12_isIn_3 ⟨⟨(Nat.le_of_ble_eq_true rfl), (Nat.le_of_ble_eq_true rfl)⟩, (Nat.le_of_ble_eq_true rfl), (Nat.le_of_ble_eq_true rfl)⟩ hK hP hD hS hA [] [0] rfl rfl (by decide +kernel) (by decide +kernel) (by decide +kernel) rfl rfl (Nat.le_of_ble_eq_true rfl) dX12_same_18 (fun r_7 u H locs hw hP hD hS => ?_)
    obtain ⟨b_6, hb1_8, rfl, rfl⟩ := hw
    refine o_re (ws' := [(mm, .inr (12, mo g (nI ta) (nI pa) (nI pe) pd (nI pb) pp pf pg pn rt rn (nI cd) sn (nI il) tk am at_ aa 0 0 (-1) wt wy 0 (nI rm) (nI ud) (nI nu) sd (nI qn) (nI qw) qo (nI qb) (nI qp) qa (nI qi) (nI oc)))]) hP hD rfl (fun hP hD => ?_)
    refine lv_if_ne (tgt := 26) hx hb dX12_same_21 (by decide) (fun c_9 => ?_) (fun c_9 => ?_)
    · have c_9 : ¬ (b_6 = 0) := fun h => c_9 ((neq b_6 0 (by omega) (by omega)).mpr h)
      obtain ⟨kd_10, hkd_10, rfl⟩ := inK 1440 (hb1_8.resolve_left (by omega)).2.1 (hb1_8.resolve_left (by omega)).2.2 (by decide)
      refine lv_iload_n hx hb dX12_same_26 rfl (lv_at hl 1 rfl) ?_
      refine lv_istore_n (lv' := [(3, .int (nI kd_5)), (0, .ref mm), (1, .int (nI kd_5)), (2, .int (nI kd_10))]) hx hb dX12_same_27 rfl hl (by decide) rfl (fun ls hl => ?_)
      refine lv_iconst (v := 0) hx hb dX12_same_28 (by decide) ?_
      refine lv_istore (lv' := [(4, .int 0), (3, .int (nI kd_5)), (0, .ref mm), (1, .int (nI kd_5)), (2, .int (nI kd_10))]) hx hb dX12_same_29 hl (by decide) rfl (fun ls hl => ?_)
      have lp_11 : ∀ (n_12 : Nat) (i : Nat) (vv : Nat) (H : Heap) (locs : List Loc) (ls : Array Slot), 1440 - i < n_12 → (i ≤ 1440) → (vv < 1440) → (vv = (kd_5 + 1440 * kd_10 - kd_10 * i) % 1440) → (sno kd_5 kd_10 i) → va_P D vwCl [(mm, .inr (12, mo g (nI ta) (nI pa) (nI pe) pd (nI pb) pp pf pg pn rt rn (nI cd) sn (nI il) tk am at_ aa 0 0 (-1) wt wy 0 (nI rm) (nI ud) (nI nu) sd (nI qn) (nI qw) qo (nI qb) (nI qp) qa (nI qi) (nI oc)))] H → va_D A [(mm, .inr (12, mo g (nI ta) (nI pa) (nI pe) pd (nI pb) pp pf pg pn rt rn (nI cd) sn (nI il) tk am at_ aa 0 0 (-1) wt wy 0 (nI rm) (nI ud) (nI nu) sd (nI qn) (nI qw) qo (nI qb) (nI qp) qa (nI qi) (nI oc)))] → va_S A s.heap H locs → lv_has ls 5 [(4, .int (nI i)), (3, .int (nI vv)), (0, .ref mm), (1, .int (nI kd_5)), (2, .int (nI kd_10))] → W p l e { frames := 1, cells := 0, slots := 0, locals := 25 } s m ([.ref mm, .int (nI kd_5), .int (nI kd_10)] : List Value).toArray below meth c H locs 0 0 (MQ below (skI D (skT cI cJ cC cZ cS) (fun (r : Int32) (u : va_W) => smR (nI kd_5) (nI kd_10) r ∧ u = [(mm, .inr (12, mo g (nI ta) (nI pa) (nI pe) pd (nI pb) pp pf pg pn rt rn (nI cd) sn (nI il) tk am at_ aa 0 0 (-1) wt wy 0 (nI rm) (nI ud) (nI nu) sd (nI qn) (nI qw) qo (nI qb) (nI qp) qa (nI qi) (nI oc)))]) A) ([.ref mm, .int (nI kd_5), .int (nI kd_10)] : List Value).toArray s 0 0 A) (F0 m 31 ls []) := by
        intro n_12
        induction n_12 with
        | zero => intro i vv H locs ls hm; exact absurd hm (Nat.not_lt_zero _)
        | succ n_12 ih_lp_11 =>
          intro i vv H locs ls hm hi hv9 hvv hno hP hD hS hl
          refine lv_iload hx hb dX12_same_31 (lv_at hl 0 rfl) ?_
          refine lv_sipush (v := 1440) hx hb dX12_same_33 (by decide) ?_
          refine lv_icmp_ge (tgt := 64) hx hb dX12_same_36 (by decide) (fun c_13 => ?_) (fun c_13 => ?_)
          · have c_13 : 1440 ≤ i := (nle 1440 i (by omega) (by omega)).mp c_13
            refine lv_iconst (v := (-1)) hx hb dX12_same_64 (by decide) ?_
            exact sk_iret hx hb hr rfl hlocks hK hP hD hS (⟨(sm_none (by omega) (by omega) (by omega) hno), rfl⟩) (Nat.le_of_ble_eq_true rfl) (Nat.le_of_ble_eq_true rfl) dX12_same_65
          · have c_13 : ¬ (1440 ≤ i) := fun h => c_13 ((nle 1440 i (by omega) (by omega)).mpr h)
            refine lv_iload_n hx hb dX12_same_39 rfl (lv_at hl 1 rfl) ?_
            refine lv_if_ne (tgt := 46) hx hb dX12_same_40 (by decide) (fun c_14 => ?_) (fun c_14 => ?_)
            · have c_14 : ¬ (vv = 0) := fun h => c_14 ((neq vv 0 (by omega) (by omega)).mpr h)
              refine lv_iload_n hx hb dX12_same_46 rfl (lv_at hl 1 rfl) ?_
              refine lv_sipush (v := 1440) hx hb dX12_same_47 (by decide) ?_
              refine lv_iadd hx hb dX12_same_50 ?_
              refine sk_top (nI (vv + 1440)) (nI_add vv 1440) ?_
              refine lv_iload_n hx hb dX12_same_51 rfl (lv_at hl 4 rfl) ?_
              refine lv_isub hx hb dX12_same_52 ?_
              refine sk_top (nI (vv + 1440 - kd_10)) (nsub (vv + 1440) kd_10 (by omega)) ?_
              refine lv_sipush (v := 1440) hx hb dX12_same_53 (by decide) ?_
              refine lv_irem hx hb dX12_same_56 (by decide) ?_
              refine sk_top (nI ((vv + 1440 - kd_10) % 1440)) (nrem (vv + 1440 - kd_10) 1440 (by omega) (by omega) (by omega)) ?_
              refine lv_istore_n (lv' := [(3, .int (nI ((vv + 1440 - kd_10) % 1440))), (4, .int (nI i)), (0, .ref mm), (1, .int (nI kd_5)), (2, .int (nI kd_10))]) hx hb dX12_same_57 rfl hl (by decide) rfl (fun ls hl => ?_)
              refine lv_iinc (v := nI (i + 1)) (lv' := [(4, .int (nI (i + 1))), (3, .int (nI ((vv + 1440 - kd_10) % 1440))), (0, .ref mm), (1, .int (nI kd_5)), (2, .int (nI kd_10))]) hx hb dX12_same_58 hl (k := 1) rfl (ninc i 1 (by decide)) (by decide) rfl (fun ls hl => ?_)
              refine lv_goto (tgt := 31) hx hb dX12_same_61 (by decide) ?_
              exact ih_lp_11 (i + 1) ((vv + 1440 - kd_10) % 1440) _ _ _ (by omega) (by omega) (by omega) (sm_next (by omega) (by omega) hvv) (sno_s hno (fun h => absurd (show _ = 0 from h) (by omega))) hP hD hS (lv_sub hl [0, 1, 2, 3, 4] rfl)
            · have c_14 : vv = 0 := (neq vv 0 (by omega) (by omega)).mp c_14
              refine lv_iload hx hb dX12_same_43 (lv_at hl 0 rfl) ?_
              exact sk_iret hx hb hr rfl hlocks hK hP hD hS (⟨(sm_found (by omega) (by omega) (by omega) (sd_of (hvv.symm.trans (by omega))) hno), rfl⟩) (Nat.le_of_ble_eq_true rfl) (Nat.le_of_ble_eq_true rfl) dX12_same_45
      exact lp_11 (1440 - 0 + 1) 0 kd_5 _ _ _ (Nat.lt_succ_self _) (by omega) (by omega) (sm_0 (by omega)) sno_0 hP hD hS (lv_sub hl [0, 1, 2, 3, 4] rfl)
    · have c_9 : b_6 = 0 := (neq b_6 0 (by omega) (by omega)).mp c_9
      refine lv_iconst (v := (-1)) hx hb dX12_same_24 (by decide) ?_
      exact sk_iret hx hb hr rfl hlocks hK hP hD hS (⟨(Or.inr ⟨outB (hb1_8.resolve_right (by omega)).2, rfl⟩), rfl⟩) (Nat.le_of_ble_eq_true rfl) (Nat.le_of_ble_eq_true rfl) dX12_same_25

