theorem dX12_kept_3 : decode cX12_kept 3 = .ok (.aload_n 0, 1) := q_aload_n0 (bat_get dg_X12_kept_0_0 3 rfl rfl)
theorem dX12_kept_4 : decode cX12_kept 4 = .ok (.getfield 63, 3) := q_getfield (bat_get dg_X12_kept_0_0 4 rfl rfl) rfl
theorem dX12_kept_7 : decode cX12_kept 7 = .ok (.bipush 29, 2) := q_bipush (bat_get dg_X12_kept_0_0 5 rfl rfl) rfl
theorem dX12_kept_9 : decode cX12_kept 9 = .ok (.iaload, 1) := q_iaload (bat_get dg_X12_kept_0_0 6 rfl rfl)
theorem dX12_kept_10 : decode cX12_kept 10 = .ok (.iconst 1, 1) := q_iconst1 (bat_get dg_X12_kept_0_0 7 rfl rfl)
theorem dX12_kept_11 : decode cX12_kept 11 = .ok (.isub, 1) := q_isub (bat_get dg_X12_kept_0_0 8 rfl rfl)
theorem dX12_kept_12 : decode cX12_kept 12 = .ok (.i2l, 1) := q_i2l (bat_get dg_X12_kept_0_0 9 rfl rfl)
theorem dX12_kept_13 : decode cX12_kept 13 = .ok (.invokestatic 238, 3) := q_invokestatic (bat_get dg_X12_kept_0_0 10 rfl rfl) rfl
theorem dX12_kept_16 : decode cX12_kept 16 = .ok (.ifCond .eq 32, 3) := q_ifCond_eq (bat_get dg_X12_kept_0_0 11 rfl rfl) rfl
theorem dX12_kept_48 : decode cX12_kept 48 = .ok (.ldc2_w 421, 3) := q_ldc2_w (bat_get dg_X12_kept_0_0 12 rfl rfl) rfl
theorem dX12_kept_51 : decode cX12_kept 51 = .ok (.lreturn, 1) := q_lreturn (bat_get dg_X12_kept_0_0 13 rfl rfl)
theorem dX12_kept_19 : decode cX12_kept 19 = .ok (.iload_n 2, 1) := q_iload_n2 (bat_get dg_X12_kept_0_0 14 rfl rfl)
theorem dX12_kept_20 : decode cX12_kept 20 = .ok (.i2l, 1) := q_i2l (bat_get dg_X12_kept_0_0 15 rfl rfl)
theorem dX12_kept_21 : decode cX12_kept 21 = .ok (.lconst 0, 1) := q_lconst0 (bat_get dg_X12_kept_0_0 16 rfl rfl)
theorem dX12_kept_22 : decode cX12_kept 22 = .ok (.ldc2_w 416, 3) := q_ldc2_w (bat_get dg_X12_kept_0_0 17 rfl rfl) rfl
theorem dX12_kept_25 : decode cX12_kept 25 = .ok (.invokestatic 238, 3) := q_invokestatic (bat_get dg_X12_kept_0_0 18 rfl rfl) rfl
theorem dX12_kept_28 : decode cX12_kept 28 = .ok (.ifCond .eq 20, 3) := q_ifCond_eq (bat_get dg_X12_kept_0_0 19 rfl rfl) rfl
theorem dX12_kept_31 : decode cX12_kept 31 = .ok (.aload_n 0, 1) := q_aload_n0 (bat_get dg_X12_kept_0_0 20 rfl rfl)
theorem dX12_kept_32 : decode cX12_kept 32 = .ok (.getfield 63, 3) := q_getfield (bat_get dg_X12_kept_0_0 21 rfl rfl) rfl
theorem dX12_kept_35 : decode cX12_kept 35 = .ok (.bipush 30, 2) := q_bipush (bat_get dg_X12_kept_0_0 22 rfl rfl) rfl
theorem dX12_kept_37 : decode cX12_kept 37 = .ok (.iconst 3, 1) := q_iconst3 (bat_get dg_X12_kept_0_0 23 rfl rfl)
theorem dX12_kept_38 : decode cX12_kept 38 = .ok (.iload_n 1, 1) := q_iload_n1 (bat_get dg_X12_kept_0_0 24 rfl rfl)
theorem dX12_kept_39 : decode cX12_kept 39 = .ok (.imul, 1) := q_imul (bat_get dg_X12_kept_0_0 25 rfl rfl)
theorem dX12_kept_40 : decode cX12_kept 40 = .ok (.iadd, 1) := q_iadd (bat_get dg_X12_kept_0_0 26 rfl rfl)
theorem dX12_kept_41 : decode cX12_kept 41 = .ok (.iload_n 2, 1) := q_iload_n2 (bat_get dg_X12_kept_0_0 27 rfl rfl)
theorem dX12_kept_42 : decode cX12_kept 42 = .ok (.iadd, 1) := q_iadd (bat_get dg_X12_kept_0_0 28 rfl rfl)
theorem dX12_kept_43 : decode cX12_kept 43 = .ok (.iaload, 1) := q_iaload (bat_get dg_X12_kept_0_0 29 rfl rfl)
theorem dX12_kept_44 : decode cX12_kept 44 = .ok (.i2l, 1) := q_i2l (bat_get dg_X12_kept_0_0 30 rfl rfl)
theorem dX12_kept_45 : decode cX12_kept 45 = .ok (.goto 6, 3) := q_goto (bat_get dg_X12_kept_0_0 31 rfl rfl) rfl
theorem w_7_183 : (Cond.code yX12_kept cX12_kept 3 (some .long)) ∈ wsL_law := sk_mem (ck_7 _ (List.mem_of_getElem? (i := 183) rfl)) rfl
set_option maxHeartbeats 4000000 in
set_option maxRecDepth 100000 in
theorem c_nm_kept (l : Launch) (D : va_G) (cI cJ cC cZ cS : ClassId) (mm : Nat) (g : Nat → Nat) (ta : Nat) (pa : Nat) (pe : Nat) (pd : Int32) (pb : Nat) (pp : Int32) (pf : Int32) (pg : Int32) (pn : Int32) (rt : Int32) (rn : Int32) (cd : Nat) (sn : Int32) (il : Nat) (tk : Int32) (am : Int32) (at_ : Int32) (aa : Int32) (wt : Int32) (wy : Int64) (rm : Nat) (ud : Nat) (nu : Nat) (sd : Int64) (qn : Nat) (qw : Nat) (qo : Int32) (qb : Nat) (qp : Nat) (qa : Int64) (qi : Nat) (oc : Nat) (k : Int32) (w : Int32) (nw : Nat → Int32) (wn : Nat) (mN : Nat) (Ba : Nat → Nat) (We : Nat → Nat) (U : Nat → Bool) (ke : Nat) (lg : KLg) (hlg : lgOk lg) (hnw : nwX wn mN Ba We U ke lg nw) : skM l yX12_kept cX12_kept 3 (some .long) 1 25 0 0 D (skT cI cJ cC cZ cS) [.ref mm, .int k, .int w] [(mm, .inr (12, mo g (nI ta) (nI pa) (nI pe) pd (nI pb) pp pf pg pn rt rn (nI cd) sn (nI il) tk am at_ aa 0 0 (-1) wt wy 0 (nI rm) (nI ud) (nI nu) sd (nI qn) (nI qw) qo (nI qb) (nI qp) qa (nI qi) (nI oc))), (g 31, .inl (cI, 120, .inl nw))] (skL D (skT cI cJ cC cZ cS) (fun (r : Int64) (u : va_W) => keptR lg ke k w r ∧ u = [(mm, .inr (12, mo g (nI ta) (nI pa) (nI pe) pd (nI pb) pp pf pg pn rt rn (nI cd) sn (nI il) tk am at_ aa 0 0 (-1) wt wy 0 (nI rm) (nI ud) (nI nu) sd (nI qn) (nI qw) qo (nI qb) (nI qp) qa (nI qi) (nI oc))), (g 31, .inl (cI, 120, .inl nw))])) := by
  refine skM_of pf_X12_kept (Nat.le_of_ble_eq_true rfl) ?_
  intro p e s m below meth c A ls E hP hD hl
  refine skE_el E (fun hx hb hr hml hlocks hin hown hts hK hA => ?_)
  have hown : s.vm.findClass RX12 = some m.cls := hown
  have hS : va_S A s.heap s.heap [] := va_S.rf
  have hl : lv_has ls 3 [(0, .ref mm), (1, .int k), (2, .int w)] := hl
  refine lv_iload_n hx hb dX12_kept_0 rfl (lv_at hl 1 rfl) ?_
  refine lv_i2l hx hb dX12_kept_1 rfl ?_
  refine lv_lconst (v := 0) hx hb dX12_kept_2 (by decide) ?_
  refine lv_aload_n hx hb dX12_kept_3 rfl (lv_at hl 0 rfl) ?_
  refine sk_get (v := .ref (g 31)) (C := RX12) (T := TX12) (N := 92) hx hb hts inlX12 hown hK hP 0 rfl rfl 31 (by decide) w_5_186 rfl dX12_kept_4 ?_
  refine lv_bipush (v := 29) hx hb dX12_kept_7 (by decide) ?_
  refine va_iald hx hb hK.1 hP 1 0 rfl rfl (by unfold vp_in; decide) dX12_kept_9 ?_
  refine sk_top (nI (min ke 30)) (nwX_29 hnw) ?_
  refine lv_iconst (v := 1) hx hb dX12_kept_10 (by decide) ?_
  refine lv_isub hx hb dX12_kept_11 ?_
  refine lv_i2l hx hb dX12_kept_12 rfl ?_
  refine sk_Si (n := 3) (rest := []) (wr := [(mm, .inr (12, mo g (nI ta) (nI pa) (nI pe) pd (nI pb) pp pf pg pn rt rn (nI cd) sn (nI il) tk am at_ aa 0 0 (-1) wt wy 0 (nI rm) (nI ud) (nI nu) sd (nI qn) (nI qw) qo (nI qb) (nI qp) qa (nI qi) (nI oc))), (g 31, .inl (cI, 120, .inl nw))]) ⟨hx, hb, hml, hown, hts⟩ hl.1 (c_nm_isIn l D cI cJ cC cZ cS (Int32.toInt64 k) 0 (Int32.toInt64 (nI (min ke 30) - 1))) w_7_0 w_7_1 w_1_14 w_7_2 hd_X12_isIn_3 ⟨⟨(Nat.le_of_ble_eq_true rfl), (Nat.le_of_ble_eq_true rfl)⟩, (Nat.le_of_ble_eq_true rfl), (Nat.le_of_ble_eq_true rfl)⟩ hK hP hD hS hA [] [0, 1] rfl rfl (by decide +kernel) (by decide +kernel) (by decide +kernel) rfl rfl (Nat.le_of_ble_eq_true rfl) dX12_kept_13 (fun r_2 u H locs hw hP hD hS => ?_)
  obtain ⟨b_1, hb1_3, rfl, rfl⟩ := hw
  refine o_re (ws' := [(mm, .inr (12, mo g (nI ta) (nI pa) (nI pe) pd (nI pb) pp pf pg pn rt rn (nI cd) sn (nI il) tk am at_ aa 0 0 (-1) wt wy 0 (nI rm) (nI ud) (nI nu) sd (nI qn) (nI qw) qo (nI qb) (nI qp) qa (nI qi) (nI oc))), (g 31, .inl (cI, 120, .inl nw))]) hP hD rfl (fun hP hD => ?_)
  refine lv_if_eq (tgt := 48) hx hb dX12_kept_16 (by decide) (fun c_4 => ?_) (fun c_4 => ?_)
  · have c_4 : b_1 = 0 := (neq b_1 0 (by omega) (by omega)).mp c_4
    refine lv_ldc2 (v := (-1000000000000000)) hx hb hown (hts _ w_7_184) dX12_kept_48 ?_
    exact sk_lret hx hb hr hlocks hK hP hD hS (⟨kept_no (fun hq => rr_0 hb1_3 (by omega) ((kin0 (n := (min ke 30)) (by rw [lgp (min ke 30) (by omega)]; omega) (by omega)).mpr hq)), rfl⟩) (Nat.le_of_ble_eq_true rfl) (Nat.le_of_ble_eq_true rfl) dX12_kept_51
  · have c_4 : ¬ (b_1 = 0) := fun h => c_4 ((neq b_1 0 (by omega) (by omega)).mpr h)
    obtain ⟨kd_5, hkd_5, rfl⟩ := (kin0 (n := (min ke 30)) (by rw [lgp (min ke 30) (by omega)]; omega) (by omega)).mp (rr_1 hb1_3 (by omega))
    refine lv_iload_n hx hb dX12_kept_19 rfl (lv_at hl 2 rfl) ?_
    refine lv_i2l hx hb dX12_kept_20 rfl ?_
    refine lv_lconst (v := 0) hx hb dX12_kept_21 (by decide) ?_
    refine lv_ldc2 (v := 2) hx hb hown (hts _ w_7_121) dX12_kept_22 ?_
    refine sk_Si (n := 3) (rest := []) (wr := [(mm, .inr (12, mo g (nI ta) (nI pa) (nI pe) pd (nI pb) pp pf pg pn rt rn (nI cd) sn (nI il) tk am at_ aa 0 0 (-1) wt wy 0 (nI rm) (nI ud) (nI nu) sd (nI qn) (nI qw) qo (nI qb) (nI qp) qa (nI qi) (nI oc))), (g 31, .inl (cI, 120, .inl nw))]) ⟨hx, hb, hml, hown, hts⟩ hl.1 (c_nm_isIn l D cI cJ cC cZ cS (Int32.toInt64 w) 0 2) w_7_0 w_7_1 w_1_14 w_7_2 hd_X12_isIn_3 ⟨⟨(Nat.le_of_ble_eq_true rfl), (Nat.le_of_ble_eq_true rfl)⟩, (Nat.le_of_ble_eq_true rfl), (Nat.le_of_ble_eq_true rfl)⟩ hK hP hD hS hA [] [0, 1] rfl rfl (by decide +kernel) (by decide +kernel) (by decide +kernel) rfl rfl (Nat.le_of_ble_eq_true rfl) dX12_kept_25 (fun r_7 u H locs hw hP hD hS => ?_)
    obtain ⟨b_6, hb1_8, rfl, rfl⟩ := hw
    refine o_re (ws' := [(mm, .inr (12, mo g (nI ta) (nI pa) (nI pe) pd (nI pb) pp pf pg pn rt rn (nI cd) sn (nI il) tk am at_ aa 0 0 (-1) wt wy 0 (nI rm) (nI ud) (nI nu) sd (nI qn) (nI qw) qo (nI qb) (nI qp) qa (nI qi) (nI oc))), (g 31, .inl (cI, 120, .inl nw))]) hP hD rfl (fun hP hD => ?_)
    refine lv_if_eq (tgt := 48) hx hb dX12_kept_28 (by decide) (fun c_9 => ?_) (fun c_9 => ?_)
    · have c_9 : b_6 = 0 := (neq b_6 0 (by omega) (by omega)).mp c_9
      refine lv_ldc2 (v := (-1000000000000000)) hx hb hown (hts _ w_7_184) dX12_kept_48 ?_
      exact sk_lret hx hb hr hlocks hK hP hD hS (⟨kept_w (fun hq => rr_0 hb1_8 (by omega) ((kin0 (n := 3) (by decide) (by omega)).mpr hq)), rfl⟩) (Nat.le_of_ble_eq_true rfl) (Nat.le_of_ble_eq_true rfl) dX12_kept_51
    · have c_9 : ¬ (b_6 = 0) := fun h => c_9 ((neq b_6 0 (by omega) (by omega)).mpr h)
      obtain ⟨kd_10, hkd_10, rfl⟩ := (kin0 (n := 3) (by decide) (by omega)).mp (rr_1 hb1_8 (by omega))
      refine lv_aload_n hx hb dX12_kept_31 rfl (lv_at hl 0 rfl) ?_
      refine sk_get (v := .ref (g 31)) (C := RX12) (T := TX12) (N := 92) hx hb hts inlX12 hown hK hP 0 rfl rfl 31 (by decide) w_5_186 rfl dX12_kept_32 ?_
      refine lv_bipush (v := 30) hx hb dX12_kept_35 (by decide) ?_
      refine lv_iconst (v := 3) hx hb dX12_kept_37 (by decide) ?_
      refine lv_iload_n hx hb dX12_kept_38 rfl (lv_at hl 1 rfl) ?_
      refine lv_imul hx hb dX12_kept_39 ?_
      refine sk_top (nI (3 * kd_5)) (nmul 3 kd_5) ?_
      refine lv_iadd hx hb dX12_kept_40 ?_
      refine sk_top (nI (30 + (3 * kd_5))) (nI_add 30 (3 * kd_5)) ?_
      refine lv_iload_n hx hb dX12_kept_41 rfl (lv_at hl 2 rfl) ?_
      refine lv_iadd hx hb dX12_kept_42 ?_
      refine sk_top (nI (30 + (3 * kd_5) + kd_10)) (nI_add (30 + (3 * kd_5)) kd_10) ?_
      refine va_iald hx hb hK.1 hP 1 0 rfl rfl (vin (30 + (3 * kd_5) + kd_10) 120 (by omega) (by omega)) dX12_kept_43 ?_
      refine sk_top (nw (30 + (3 * kd_5) + kd_10)) (by rw [nI_clamp (by omega)]) ?_
      refine lv_i2l hx hb dX12_kept_44 rfl ?_
      refine lv_goto (tgt := 51) hx hb dX12_kept_45 (by decide) ?_
      exact sk_lret hx hb hr hlocks hK hP hD hS (⟨keptX_y hnw hlg hkd_5 hkd_10 rfl, rfl⟩) (Nat.le_of_ble_eq_true rfl) (Nat.le_of_ble_eq_true rfl) dX12_kept_51

