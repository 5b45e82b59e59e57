theorem dg_X12_isAhead_0_0 : bqL cX12_isAhead 0 [(0, [42]), (1, [180, 1, 46]), (4, [153, 0, 33]), (37, [3]), (38, [172]), (7, [27]), (8, [133]), (9, [28]), (10, [133]), (11, [29]), (12, [133]), (13, [184, 0, 238]), (16, [153, 0, 21]), (19, [42]), (20, [180, 0, 63]), (23, [3]), (24, [46]), (25, [27]), (26, [96]), (27, [17, 3, 231]), (30, [163, 0, 7]), (33, [4]), (34, [167, 0, 4])] = true := by decide +kernel
theorem dX12_isAhead_0 : decode cX12_isAhead 0 = .ok (.aload_n 0, 1) := q_aload_n0 (bat_get dg_X12_isAhead_0_0 0 rfl rfl)
theorem dX12_isAhead_1 : decode cX12_isAhead 1 = .ok (.getfield 302, 3) := q_getfield (bat_get dg_X12_isAhead_0_0 1 rfl rfl) rfl
theorem dX12_isAhead_4 : decode cX12_isAhead 4 = .ok (.ifCond .eq 33, 3) := q_ifCond_eq (bat_get dg_X12_isAhead_0_0 2 rfl rfl) rfl
theorem dX12_isAhead_37 : decode cX12_isAhead 37 = .ok (.iconst 0, 1) := q_iconst0 (bat_get dg_X12_isAhead_0_0 3 rfl rfl)
theorem dX12_isAhead_38 : decode cX12_isAhead 38 = .ok (.ireturn, 1) := q_ireturn (bat_get dg_X12_isAhead_0_0 4 rfl rfl)
theorem dX12_isAhead_7 : decode cX12_isAhead 7 = .ok (.iload_n 1, 1) := q_iload_n1 (bat_get dg_X12_isAhead_0_0 5 rfl rfl)
theorem dX12_isAhead_8 : decode cX12_isAhead 8 = .ok (.i2l, 1) := q_i2l (bat_get dg_X12_isAhead_0_0 6 rfl rfl)
theorem dX12_isAhead_9 : decode cX12_isAhead 9 = .ok (.iload_n 2, 1) := q_iload_n2 (bat_get dg_X12_isAhead_0_0 7 rfl rfl)
theorem dX12_isAhead_10 : decode cX12_isAhead 10 = .ok (.i2l, 1) := q_i2l (bat_get dg_X12_isAhead_0_0 8 rfl rfl)
theorem dX12_isAhead_11 : decode cX12_isAhead 11 = .ok (.iload_n 3, 1) := q_iload_n3 (bat_get dg_X12_isAhead_0_0 9 rfl rfl)
theorem dX12_isAhead_12 : decode cX12_isAhead 12 = .ok (.i2l, 1) := q_i2l (bat_get dg_X12_isAhead_0_0 10 rfl rfl)
theorem dX12_isAhead_13 : decode cX12_isAhead 13 = .ok (.invokestatic 238, 3) := q_invokestatic (bat_get dg_X12_isAhead_0_0 11 rfl rfl) rfl
theorem dX12_isAhead_16 : decode cX12_isAhead 16 = .ok (.ifCond .eq 21, 3) := q_ifCond_eq (bat_get dg_X12_isAhead_0_0 12 rfl rfl) rfl
theorem dX12_isAhead_19 : decode cX12_isAhead 19 = .ok (.aload_n 0, 1) := q_aload_n0 (bat_get dg_X12_isAhead_0_0 13 rfl rfl)
theorem dX12_isAhead_20 : decode cX12_isAhead 20 = .ok (.getfield 63, 3) := q_getfield (bat_get dg_X12_isAhead_0_0 14 rfl rfl) rfl
theorem dX12_isAhead_23 : decode cX12_isAhead 23 = .ok (.iconst 0, 1) := q_iconst0 (bat_get dg_X12_isAhead_0_0 15 rfl rfl)
theorem dX12_isAhead_24 : decode cX12_isAhead 24 = .ok (.iaload, 1) := q_iaload (bat_get dg_X12_isAhead_0_0 16 rfl rfl)
theorem dX12_isAhead_25 : decode cX12_isAhead 25 = .ok (.iload_n 1, 1) := q_iload_n1 (bat_get dg_X12_isAhead_0_0 17 rfl rfl)
theorem dX12_isAhead_26 : decode cX12_isAhead 26 = .ok (.iadd, 1) := q_iadd (bat_get dg_X12_isAhead_0_0 18 rfl rfl)
theorem dX12_isAhead_27 : decode cX12_isAhead 27 = .ok (.sipush 999, 3) := q_sipush (bat_get dg_X12_isAhead_0_0 19 rfl rfl) rfl
theorem dX12_isAhead_30 : decode cX12_isAhead 30 = .ok (.if_icmp .gt 7, 3) := q_if_icmp_gt (bat_get dg_X12_isAhead_0_0 20 rfl rfl) rfl
theorem dX12_isAhead_33 : decode cX12_isAhead 33 = .ok (.iconst 1, 1) := q_iconst1 (bat_get dg_X12_isAhead_0_0 21 rfl rfl)
theorem dX12_isAhead_34 : decode cX12_isAhead 34 = .ok (.goto 4, 3) := q_goto (bat_get dg_X12_isAhead_0_0 22 rfl rfl) rfl
theorem w_8_8 : (Cond.code yX12_isAhead cX12_isAhead 4 (some .boolean)) ∈ wsL_law := sk_mem (ck_8 _ (List.mem_of_getElem? (i := 8) rfl)) rfl
set_option maxHeartbeats 4000000 in
set_option maxRecDepth 100000 in
theorem c_nm_isAhead (l : Launch) (D : va_G) (cI cJ cC cZ cS : ClassId) (mm : Nat) (g : Nat → Nat) (ta : Nat) (pa : Nat) (pe : Nat) (pd : Int32) (pb : Nat) (pp : Int32) (pf : Int32) (pg : Int32) (pn : Int32) (rt : Int32) (rn : Int32) (cd : Nat) (sn : Int32) (il : Nat) (tk : Int32) (am : Int32) (at_ : Int32) (aa : Int32) (wt : Int32) (wy : Int64) (rm : Nat) (ud : Nat) (nu : Nat) (sd : Int64) (qn : Nat) (qw : Nat) (qo : Int32) (qb : Nat) (qp : Nat) (qa : Int64) (qi : Nat) (oc : Nat) (n : Int32) (lo : Nat) (hi : Nat) (nw : Nat → Int32) (wn : Nat) (mN : Nat) (Ba : Nat → Nat) (We : Nat → Nat) (U : Nat → Bool) (ke : Nat) (lg : KLg) (hil : il ≤ 1) (hwk : wn ≤ 999) (hlo : lo ≤ 99) (hhi : hi ≤ 99) (hnw : nwX wn mN Ba We U ke lg nw) : skM l yX12_isAhead cX12_isAhead 4 (some .boolean) 1 25 0 0 D (skT cI cJ cC cZ cS) [.ref mm, .int n, .int (nI lo), .int (nI hi)] [(mm, .inr (12, mo g (nI ta) (nI pa) (nI pe) pd (nI pb) pp pf pg pn rt rn (nI cd) sn (nI il) tk am at_ aa 0 0 (-1) wt wy 0 (nI rm) (nI ud) (nI nu) sd (nI qn) (nI qw) qo (nI qb) (nI qp) qa (nI qi) (nI oc))), (g 31, .inl (cI, 120, .inl nw))] (skI D (skT cI cJ cC cZ cS) (fun (r : Int32) (u : va_W) => ∃ (b : Nat), ((b = 0 ∧ ¬ ahO il wn lo hi n) ∨ (b = 1 ∧ ahO il wn lo hi n)) ∧ r = nI b ∧ u = [(mm, .inr (12, mo g (nI ta) (nI pa) (nI pe) pd (nI pb) pp pf pg pn rt rn (nI cd) sn (nI il) tk am at_ aa 0 0 (-1) wt wy 0 (nI rm) (nI ud) (nI nu) sd (nI qn) (nI qw) qo (nI qb) (nI qp) qa (nI qi) (nI oc))), (g 31, .inl (cI, 120, .inl nw))])) := by
  refine skM_of pf_X12_isAhead (Nat.le_of_ble_eq_true rfl) ?_
  intro p e s m below meth c A ls E hP hD hl
  refine skE_el E (fun hx hb hr hml hlocks hin hown hts hK hA => ?_)
  have hown : s.vm.findClass RX12 = some m.cls := hown
  have hS : va_S A s.heap s.heap [] := va_S.rf
  have hl : lv_has ls 4 [(0, .ref mm), (1, .int n), (2, .int (nI lo)), (3, .int (nI hi))] := hl
  refine lv_aload_n hx hb dX12_isAhead_0 rfl (lv_at hl 0 rfl) ?_
  refine sk_get (v := .int (nI il)) (C := RX12) (T := TX12) (N := 92) hx hb hts inlX12 hown hK hP 0 rfl rfl 29 (by decide) w_5_184 rfl dX12_isAhead_1 ?_
  refine lv_if_eq (tgt := 37) hx hb dX12_isAhead_4 (by decide) (fun c_1 => ?_) (fun c_1 => ?_)
  · have c_1 : il = 0 := (neq il 0 (by omega) (by omega)).mp c_1
    refine lv_iconst (v := 0) hx hb dX12_isAhead_37 (by decide) ?_
    exact sk_iret hx hb hr rfl hlocks hK hP hD hS (⟨0, Or.inl ⟨rfl, fun hq => absurd hq.1 (by omega)⟩, rfl, rfl⟩) (Nat.le_of_ble_eq_true rfl) (Nat.le_of_ble_eq_true rfl) dX12_isAhead_38
  · have c_1 : ¬ (il = 0) := fun h => c_1 ((neq il 0 (by omega) (by omega)).mpr h)
    refine lv_iload_n hx hb dX12_isAhead_7 rfl (lv_at hl 1 rfl) ?_
    refine lv_i2l hx hb dX12_isAhead_8 rfl ?_
    refine lv_iload_n hx hb dX12_isAhead_9 rfl (lv_at hl 2 rfl) ?_
    refine lv_i2l hx hb dX12_isAhead_10 rfl ?_
    refine lv_iload_n hx hb dX12_isAhead_11 rfl (lv_at hl 3 rfl) ?_
    refine lv_i2l hx hb dX12_isAhead_12 rfl ?_
    refine sk_Si (n := 3) (rest := []) (wr := [(mm, .inr (12, mo g (nI ta) (nI pa) (nI pe) pd (nI pb) pp pf pg pn rt rn (nI cd) sn (nI il) tk am at_ aa 0 0 (-1) wt wy 0 (nI rm) (nI ud) (nI nu) sd (nI qn) (nI qw) qo (nI qb) (nI qp) qa (nI qi) (nI oc))), (g 31, .inl (cI, 120, .inl nw))]) ⟨hx, hb, hml, hown, hts⟩ hl.1 (c_nm_isIn l D cI cJ cC cZ cS (Int32.toInt64 n) (Int32.toInt64 (nI lo)) (Int32.toInt64 (nI hi))) w_7_0 w_7_1 w_1_14 w_7_2 hd_X12_isIn_3 ⟨⟨(Nat.le_of_ble_eq_true rfl), (Nat.le_of_ble_eq_true rfl)⟩, (Nat.le_of_ble_eq_true rfl), (Nat.le_of_ble_eq_true rfl)⟩ hK hP hD hS hA [] [0, 1] rfl rfl (by decide +kernel) (by decide +kernel) (by decide +kernel) rfl rfl (Nat.le_of_ble_eq_true rfl) dX12_isAhead_13 (fun r_3 u H locs hw hP hD hS => ?_)
    obtain ⟨b_2, hb1_4, rfl, rfl⟩ := hw
    refine o_re (ws' := [(mm, .inr (12, mo g (nI ta) (nI pa) (nI pe) pd (nI pb) pp pf pg pn rt rn (nI cd) sn (nI il) tk am at_ aa 0 0 (-1) wt wy 0 (nI rm) (nI ud) (nI nu) sd (nI qn) (nI qw) qo (nI qb) (nI qp) qa (nI qi) (nI oc))), (g 31, .inl (cI, 120, .inl nw))]) hP hD rfl (fun hP hD => ?_)
    refine lv_if_eq (tgt := 37) hx hb dX12_isAhead_16 (by decide) (fun c_5 => ?_) (fun c_5 => ?_)
    · have c_5 : b_2 = 0 := (neq b_2 0 (by omega) (by omega)).mp c_5
      refine lv_iconst (v := 0) hx hb dX12_isAhead_37 (by decide) ?_
      exact sk_iret hx hb hr rfl hlocks hK hP hD hS (⟨0, Or.inl ⟨rfl, fun hq => by obtain ⟨h1, k, h2, h3, h4, h5⟩ := hq; exact rr_0 hb1_4 (by omega) ((ah_rg (by omega) (by omega)).mpr ⟨k, h2, h3, h4⟩)⟩, rfl, rfl⟩) (Nat.le_of_ble_eq_true rfl) (Nat.le_of_ble_eq_true rfl) dX12_isAhead_38
    · have c_5 : ¬ (b_2 = 0) := fun h => c_5 ((neq b_2 0 (by omega) (by omega)).mpr h)
      obtain ⟨ka, hka1, hka2, rfl⟩ := (ah_rg (by omega) (by omega)).mp (rr_1 hb1_4 (by omega))
      refine lv_aload_n hx hb dX12_isAhead_19 rfl (lv_at hl 0 rfl) ?_
      refine sk_get (v := .ref (g 31)) (C := RX12) (T := TX12) (N := 92) hx hb hts inlX12 hown hK hP 0 rfl rfl 31 (by decide) w_5_186 rfl dX12_isAhead_20 ?_
      refine lv_iconst (v := 0) hx hb dX12_isAhead_23 (by decide) ?_
      refine va_iald hx hb hK.1 hP 1 0 rfl rfl (by unfold vp_in; decide) dX12_isAhead_24 ?_
      refine sk_top (nI wn) (nwX_0 hnw) ?_
      refine lv_iload_n hx hb dX12_isAhead_25 rfl (lv_at hl 1 rfl) ?_
      refine lv_iadd hx hb dX12_isAhead_26 ?_
      refine sk_top (nI (wn + ka)) (nI_add wn ka) ?_
      refine lv_sipush (v := 999) hx hb dX12_isAhead_27 (by decide) ?_
      refine lv_icmp_gt (tgt := 37) hx hb dX12_isAhead_30 (by decide) (fun c_6 => ?_) (fun c_6 => ?_)
      · have c_6 : 999 < wn + ka := (nlt 999 (wn + ka) (by omega) (by omega)).mp c_6
        refine lv_iconst (v := 0) hx hb dX12_isAhead_37 (by decide) ?_
        exact sk_iret hx hb hr rfl hlocks hK hP hD hS (⟨0, Or.inl ⟨rfl, fun hq => by obtain ⟨h1, k, h2, h3, h4, h5⟩ := hq; have h6 := (neq ka k (by omega) (by omega)).mp h4; omega⟩, rfl, rfl⟩) (Nat.le_of_ble_eq_true rfl) (Nat.le_of_ble_eq_true rfl) dX12_isAhead_38
      · have c_6 : ¬ (999 < wn + ka) := fun h => c_6 ((nlt 999 (wn + ka) (by omega) (by omega)).mpr h)
        refine lv_iconst (v := 1) hx hb dX12_isAhead_33 (by decide) ?_
        refine lv_goto (tgt := 38) hx hb dX12_isAhead_34 (by decide) ?_
        exact sk_iret hx hb hr rfl hlocks hK hP hD hS (⟨1, Or.inr ⟨rfl, by omega, ka, by omega, by omega, rfl, by omega⟩, rfl, rfl⟩) (Nat.le_of_ble_eq_true rfl) (Nat.le_of_ble_eq_true rfl) dX12_isAhead_38
theorem dg_X12_go_0_0 : bqL cX12_go 0 [(0, [42]), (1, [4]), (2, [4]), (3, [4]), (4, [182, 1, 170]), (7, [154, 0, 9]), (16, [42]), (17, [182, 1, 144]), (20, [42]), (21, [180, 1, 126]), (24, [9]), (25, [148]), (26, [154, 0, 9]), (35, [42]), (36, [182, 1, 218]), (39, [42]), (40, [9]), (41, [182, 1, 147]), (44, [42]), (45, [180, 0, 63]), (48, [4]), (49, [46]), (50, [172]), (29, [42]), (30, [6]), (31, [182, 1, 207]), (34, [172]), (10, [42]), (11, [6]), (12, [182, 1, 207]), (15, [172])] = true := by decide +kernel
theorem dX12_go_0 : decode cX12_go 0 = .ok (.aload_n 0, 1) := q_aload_n0 (bat_get dg_X12_go_0_0 0 rfl rfl)
theorem dX12_go_1 : decode cX12_go 1 = .ok (.iconst 1, 1) := q_iconst1 (bat_get dg_X12_go_0_0 1 rfl rfl)
theorem dX12_go_2 : decode cX12_go 2 = .ok (.iconst 1, 1) := q_iconst1 (bat_get dg_X12_go_0_0 2 rfl rfl)
theorem dX12_go_3 : decode cX12_go 3 = .ok (.iconst 1, 1) := q_iconst1 (bat_get dg_X12_go_0_0 3 rfl rfl)
theorem dX12_go_4 : decode cX12_go 4 = .ok (.invokevirtual 426, 3) := q_invokevirtual (bat_get dg_X12_go_0_0 4 rfl rfl) rfl
theorem dX12_go_7 : decode cX12_go 7 = .ok (.ifCond .ne 9, 3) := q_ifCond_ne (bat_get dg_X12_go_0_0 5 rfl rfl) rfl
theorem dX12_go_16 : decode cX12_go 16 = .ok (.aload_n 0, 1) := q_aload_n0 (bat_get dg_X12_go_0_0 6 rfl rfl)
theorem dX12_go_17 : decode cX12_go 17 = .ok (.invokevirtual 400, 3) := q_invokevirtual (bat_get dg_X12_go_0_0 7 rfl rfl) rfl
theorem dX12_go_20 : decode cX12_go 20 = .ok (.aload_n 0, 1) := q_aload_n0 (bat_get dg_X12_go_0_0 8 rfl rfl)
theorem dX12_go_21 : decode cX12_go 21 = .ok (.getfield 382, 3) := q_getfield (bat_get dg_X12_go_0_0 9 rfl rfl) rfl
theorem dX12_go_24 : decode cX12_go 24 = .ok (.lconst 0, 1) := q_lconst0 (bat_get dg_X12_go_0_0 10 rfl rfl)
theorem dX12_go_25 : decode cX12_go 25 = .ok (.lcmp, 1) := q_lcmp (bat_get dg_X12_go_0_0 11 rfl rfl)
theorem dX12_go_26 : decode cX12_go 26 = .ok (.ifCond .ne 9, 3) := q_ifCond_ne (bat_get dg_X12_go_0_0 12 rfl rfl) rfl
theorem dX12_go_35 : decode cX12_go 35 = .ok (.aload_n 0, 1) := q_aload_n0 (bat_get dg_X12_go_0_0 13 rfl rfl)
theorem dX12_go_36 : decode cX12_go 36 = .ok (.invokevirtual 474, 3) := q_invokevirtual (bat_get dg_X12_go_0_0 14 rfl rfl) rfl
theorem dX12_go_39 : decode cX12_go 39 = .ok (.aload_n 0, 1) := q_aload_n0 (bat_get dg_X12_go_0_0 15 rfl rfl)
theorem dX12_go_40 : decode cX12_go 40 = .ok (.lconst 0, 1) := q_lconst0 (bat_get dg_X12_go_0_0 16 rfl rfl)
theorem dX12_go_41 : decode cX12_go 41 = .ok (.invokevirtual 403, 3) := q_invokevirtual (bat_get dg_X12_go_0_0 17 rfl rfl) rfl
theorem dX12_go_44 : decode cX12_go 44 = .ok (.aload_n 0, 1) := q_aload_n0 (bat_get dg_X12_go_0_0 18 rfl rfl)
theorem dX12_go_45 : decode cX12_go 45 = .ok (.getfield 63, 3) := q_getfield (bat_get dg_X12_go_0_0 19 rfl rfl) rfl
theorem dX12_go_48 : decode cX12_go 48 = .ok (.iconst 1, 1) := q_iconst1 (bat_get dg_X12_go_0_0 20 rfl rfl)
theorem dX12_go_49 : decode cX12_go 49 = .ok (.iaload, 1) := q_iaload (bat_get dg_X12_go_0_0 21 rfl rfl)
theorem dX12_go_50 : decode cX12_go 50 = .ok (.ireturn, 1) := q_ireturn (bat_get dg_X12_go_0_0 22 rfl rfl)
theorem dX12_go_29 : decode cX12_go 29 = .ok (.aload_n 0, 1) := q_aload_n0 (bat_get dg_X12_go_0_0 23 rfl rfl)
theorem dX12_go_30 : decode cX12_go 30 = .ok (.iconst 3, 1) := q_iconst3 (bat_get dg_X12_go_0_0 24 rfl rfl)
theorem dX12_go_31 : decode cX12_go 31 = .ok (.invokevirtual 463, 3) := q_invokevirtual (bat_get dg_X12_go_0_0 25 rfl rfl) rfl
theorem dX12_go_34 : decode cX12_go 34 = .ok (.ireturn, 1) := q_ireturn (bat_get dg_X12_go_0_0 26 rfl rfl)
theorem dX12_go_10 : decode cX12_go 10 = .ok (.aload_n 0, 1) := q_aload_n0 (bat_get dg_X12_go_0_0 27 rfl rfl)
theorem dX12_go_11 : decode cX12_go 11 = .ok (.iconst 3, 1) := q_iconst3 (bat_get dg_X12_go_0_0 28 rfl rfl)
theorem dX12_go_12 : decode cX12_go 12 = .ok (.invokevirtual 463, 3) := q_invokevirtual (bat_get dg_X12_go_0_0 29 rfl rfl) rfl
theorem dX12_go_15 : decode cX12_go 15 = .ok (.ireturn, 1) := q_ireturn (bat_get dg_X12_go_0_0 30 rfl rfl)
theorem w_8_5 : (Cond.methodLink RX12 426 yX12_isAhead) ∈ wsL_law := sk_mem (ck_8 _ (List.mem_of_getElem? (i := 5) rfl)) rfl
theorem w_8_7 : (Cond.instanceMethod yX12_isAhead) ∈ wsL_law := sk_mem (ck_8 _ (List.mem_of_getElem? (i := 7) rfl)) rfl
theorem w_0_90 : (Cond.selects RX12 yX12_isAhead yX12_isAhead) ∈ wsL_law := sk_mem (ck_0 _ (List.mem_of_getElem? (i := 90) rfl)) rfl
theorem w_8_17 : (Cond.methodLink RX12 403 yX12_goesBy) ∈ wsL_law := sk_mem (ck_8 _ (List.mem_of_getElem? (i := 17) rfl)) rfl
theorem w_8_19 : (Cond.instanceMethod yX12_goesBy) ∈ wsL_law := sk_mem (ck_8 _ (List.mem_of_getElem? (i := 19) rfl)) rfl
theorem w_0_93 : (Cond.selects RX12 yX12_goesBy yX12_goesBy) ∈ wsL_law := sk_mem (ck_0 _ (List.mem_of_getElem? (i := 93) rfl)) rfl
theorem w_8_97 : (Cond.methodLink RX12 463 yX12_refuses) ∈ wsL_law := sk_mem (ck_8 _ (List.mem_of_getElem? (i := 97) rfl)) rfl
theorem w_8_99 : (Cond.instanceMethod yX12_refuses) ∈ wsL_law := sk_mem (ck_8 _ (List.mem_of_getElem? (i := 99) rfl)) rfl
theorem w_0_104 : (Cond.selects RX12 yX12_refuses yX12_refuses) ∈ wsL_law := sk_mem (ck_0 _ (List.mem_of_getElem? (i := 104) rfl)) rfl
theorem w_8_141 : (Cond.code yX12_go cX12_go 1 (some .int)) ∈ wsL_law := sk_mem (ck_8 _ (List.mem_of_getElem? (i := 141) rfl)) rfl
def om_15_4400 : List Bool := true :: false :: false :: false :: true :: false :: false :: false :: false :: false :: false :: false :: false :: false :: false :: []
def om_15_7ffc : List Bool := true :: true :: true :: true :: true :: true :: true :: true :: true :: true :: true :: true :: true :: false :: false :: []
def om_15_4402 : List Bool := true :: false :: false :: false :: true :: false :: false :: false :: false :: false :: false :: false :: false :: true :: false :: []
def om_15_4001 : List Bool := true :: false :: false :: false :: false :: false :: false :: false :: false :: false :: false :: false :: false :: false :: true :: []
theorem hd_X12_isAhead_3 : skD yX12_isAhead 3 := by decide +kernel
theorem hd_X12_goesBy_1 : skD yX12_goesBy 1 := by decide +kernel
theorem hd_X12_refuses_1 : skD yX12_refuses 1 := by decide +kernel
set_option maxHeartbeats 4000000 in
set_option maxRecDepth 100000 in
theorem c_nm_go (l : Launch) (D : va_G) (cI cJ cC cZ cS : ClassId) (mm : Nat) (g : Nat → Nat) (ta : Nat) (pa : Nat) (pe : Nat) (pd : Int32) (pb : Nat) (pp : Int32) (pf : Int32) (pg : Int32) (pn : Int32) (rt : Int32) (rn : Int32) (cd : Nat) (sn : Int32) (il : Nat) (tk : Int32) (am : Int32) (at_ : Int32) (aa : Int32) (wt : Int32) (wy : Int64) (rm : Nat) (ud : Nat) (nu : Nat) (sd : Int64) (qn : Nat) (qw : Nat) (qo : Int32) (qb : Nat) (qp : Nat) (qa : Int64) (qi : Nat) (oc : Nat) (u0 : Int32) (u1 : Int32) (u2 : Int32) (u3 : Int32) (u4 : Int32) (u5 : Int32) (v0 : Int32) (v1 : Int32) (v2 : Int32) (v3 : Int32) (v4 : Int32) (v5 : Int32) (cs : Nat → Nat) (nw : Nat → Int32) (pt : Nat → Nat) (ql : Nat → Int64) (l0 : Nat) (l1 : Nat) (dm : Nat) (l3 : Nat) (ws_ : Nat → Int32) (yw : Nat → Int32) (yo : Nat → Int32) (be : Nat → Int64) (bf : Nat → Int64) (kp : Nat → Int32) (rf : Nat → Int32) (wn : Nat) (mN : Nat) (Ba : Nat → Nat) (We : Nat → Nat) (U : Nat → Bool) (ke : Nat) (lg : KLg) (L : LkS) (su : Nat → KN) (hil : il ≤ 1) (hild : il = 1 → 1 ≤ dm) (hilb : 1 ≤ dm → il = 1) (hdm : dm ≤ 9) (hLk : kcLk L) (hkl : (lK L).length ≤ 1600) (hmw0 : mwO L 0 u3 v3 cs) (hmw1 : mwO L 1 u4 v4 cs) (hB9 : ∀ j, Ba j ≤ 9) (hW9 : ∀ j, We j ≤ 9) (hwk : wn ≤ 999) (hnu : nu < 20) (hud : ud ≤ 20) (hlg : lgOk lg) (hsk : ∀ j, j < ud → nKe (su j) ≤ ke) (hcs : ∀ j, cs j ≤ 20000) (hnw : nwX wn mN Ba We U ke lg nw) (hpt : ∀ j, pt j ≤ 9) (hkp : kpX ud nu su lg kp) : skM l yX12_go cX12_go 1 (some .int) 6 142 0 0 D (skT cI cJ cC cZ cS) [.ref mm] [(mm, .inr (12, mo g (nI ta) (nI pa) (nI pe) pd (nI pb) pp pf pg pn rt rn (nI cd) sn (nI il) tk am at_ aa 0 0 (-1) wt wy 0 (nI rm) (nI ud) (nI nu) sd (nI qn) (nI qw) qo (nI qb) (nI qp) qa (nI qi) (nI oc))), (g 24, .inl (cI, 6, .inl (l6 u0 u1 u2 u3 u4 u5))), (g 25, .inl (cI, 6, .inl (l6 v0 v1 v2 v3 v4 v5))), (g 26, .inl (cI, 3200, .inl (fun j => nI (cs j)))), (g 31, .inl (cI, 120, .inl nw)), (g 46, .inl (cI, 9, .inl (fun j => nI (pt j)))), (g 86, .inl (cJ, 1700, .inr (.inl ql))), (g 20, .inl (cI, 4, .inl (l4 (nI l0) (nI l1) (nI dm) (nI l3)))), (g 38, .inl (cI, 90, .inl ws_)), (g 36, .inl (cZ, 900, .inl yw)), (g 37, .inl (cZ, 900, .inl yo)), (g 43, .inl (cJ, 90, .inr (.inl be))), (g 44, .inl (cJ, 90, .inr (.inl bf))), (g 54, .inl (cI, 2400, .inl kp)), (g 9, .inl (cI, 6, .inl rf))] (skI D (skT cI cJ cC cZ cS) (fun (r : Int32) (u : va_W) => ∃ (wn2 : Nat), ∃ (mo2 : Nat), ∃ (ke2 : Nat), ∃ (lg2 : KLg), ∃ (su2 : Nat → KN), ∃ (nw2 : Nat → Int32), ∃ (kp2 : Nat → Int32), ∃ (tk2 : Int32), ∃ (qp2 : Nat), ∃ (am2 : Int32), ∃ (at_2 : Int32), ∃ (aa2 : Int32), ∃ (wy2 : Int64), ∃ (nu2 : Nat), ∃ (ud2 : Nat), ∃ (pt2 : Nat → Nat), ∃ (ql2 : Nat → Int64), ∃ (ws_2 : Nat → Int32), ∃ (yw2 : Nat → Int32), ∃ (yo2 : Nat → Int32), ∃ (be2 : Nat → Int64), ∃ (bf2 : Nat → Int64), ∃ (rf2 : Nat → Int32), nwX wn2 mo2 Ba We U ke2 lg2 nw2 ∧ kpX ud2 nu2 su2 lg2 kp2 ∧ nu2 < 20 ∧ ud2 ≤ 20 ∧ goR L dm (wn, mN, Ba, We, U, ke) lg ud su rf r (wn2, mo2, Ba, We, U, ke2) lg2 ud2 su2 rf2 ∧ (∀ j, pt2 j ≤ 9) ∧ u = [(mm, .inr (12, mo g (nI ta) (nI pa) (nI pe) pd (nI pb) pp pf pg pn rt rn (nI cd) sn (nI il) tk2 am2 at_2 aa2 0 0 (-1) wt wy2 0 (nI rm) (nI ud2) (nI nu2) sd (nI qn) (nI qw) qo (nI qb) (nI qp2) qa (nI qi) (nI oc))), (g 24, .inl (cI, 6, .inl (l6 u0 u1 u2 u3 u4 u5))), (g 25, .inl (cI, 6, .inl (l6 v0 v1 v2 v3 v4 v5))), (g 26, .inl (cI, 3200, .inl (fun j => nI (cs j)))), (g 31, .inl (cI, 120, .inl nw2)), (g 46, .inl (cI, 9, .inl (fun j => nI (pt2 j)))), (g 86, .inl (cJ, 1700, .inr (.inl ql2))), (g 20, .inl (cI, 4, .inl (l4 (nI l0) (nI l1) (nI dm) (nI l3)))), (g 38, .inl (cI, 90, .inl ws_2)), (g 36, .inl (cZ, 900, .inl yw2)), (g 37, .inl (cZ, 900, .inl yo2)), (g 43, .inl (cJ, 90, .inr (.inl be2))), (g 44, .inl (cJ, 90, .inr (.inl bf2))), (g 54, .inl (cI, 2400, .inl kp2)), (g 9, .inl (cI, 6, .inl rf2))])) := by
  refine skM_of pf_X12_go (Nat.le_of_ble_eq_true rfl) ?_
  intro p e s m below meth c A ls E hP hD hl
  refine skE_el E (fun hx hb hr hml hlocks hin hown hts hK hA => ?_)
  have hown : s.vm.findClass RX12 = some m.cls := hown
  have hS : va_S A s.heap s.heap [] := va_S.rf
  have hl : lv_has ls 1 [(0, .ref mm)] := hl
  refine lv_aload_n hx hb dX12_go_0 rfl (lv_at hl 0 rfl) ?_
  refine lv_iconst (v := 1) hx hb dX12_go_1 (by decide) ?_
  refine lv_iconst (v := 1) hx hb dX12_go_2 (by decide) ?_
  refine lv_iconst (v := 1) hx hb dX12_go_3 (by decide) ?_
  refine sk_Vi (q0 := 0) (n := 3) (rest := []) (wr := fmR om_15_4400 _) ⟨hx, hb, hml, hown, hts⟩ hl.1 (c_nm_isAhead l D cI cJ cC cZ cS mm g ta pa pe pd pb pp pf pg pn rt rn cd sn il tk am at_ aa wt wy rm ud nu sd qn qw qo qb qp qa qi oc 1 1 1 nw wn mN Ba We U ke lg (by omega) (by omega) (by omega) (by omega) hnw) w_8_5 w_8_7 w_0_90 w_1_14 w_8_8 hd_X12_isAhead_3 ⟨⟨(Nat.le_of_ble_eq_true rfl), (Nat.le_of_ble_eq_true rfl)⟩, (Nat.le_of_ble_eq_true rfl), (Nat.le_of_ble_eq_true rfl)⟩ hK hP hD hS hA (fmT om_15_4400 0) (fmF om_15_4400 0) (fm_C1 rfl rfl) (fm_R rfl rfl) (fm_nT om_15_4400 0) (fm_nF om_15_4400 0) (fm_di om_15_4400 0) rfl rfl rfl rfl (Nat.le_of_ble_eq_true rfl) dX12_go_4 (fun r_2 u H locs hw hP hD hS => ?_)
  refine exE hw (fun b_1 hw1 => anE hw1 (fun hah_3 hw2 => anE hw2 (fun er_5 eu_4 => ?_)))
  clear hw hw1 hw2
  subst er_5
  refine o_mgE (ws' := [(mm, .inr (12, mo g (nI ta) (nI pa) (nI pe) pd (nI pb) pp pf pg pn rt rn (nI cd) sn (nI il) tk am at_ aa 0 0 (-1) wt wy 0 (nI rm) (nI ud) (nI nu) sd (nI qn) (nI qw) qo (nI qb) (nI qp) qa (nI qi) (nI oc))), (g 24, .inl (cI, 6, .inl (l6 u0 u1 u2 u3 u4 u5))), (g 25, .inl (cI, 6, .inl (l6 v0 v1 v2 v3 v4 v5))), (g 26, .inl (cI, 3200, .inl (fun j => nI (cs j)))), (g 31, .inl (cI, 120, .inl nw)), (g 46, .inl (cI, 9, .inl (fun j => nI (pt j)))), (g 86, .inl (cJ, 1700, .inr (.inl ql))), (g 20, .inl (cI, 4, .inl (l4 (nI l0) (nI l1) (nI dm) (nI l3)))), (g 38, .inl (cI, 90, .inl ws_)), (g 36, .inl (cZ, 900, .inl yw)), (g 37, .inl (cZ, 900, .inl yo)), (g 43, .inl (cJ, 90, .inr (.inl be))), (g 44, .inl (cJ, 90, .inr (.inl bf))), (g 54, .inl (cI, 2400, .inl kp)), (g 9, .inl (cI, 6, .inl rf))]) eu_4 hP hD rfl (fun hP hD => ?_)
  refine lv_if_ne (tgt := 16) hx hb dX12_go_7 (by decide) (fun c_6 => ?_) (fun c_6 => ?_)
  · have c_6 : ¬ (b_1 = 0) := fun h => c_6 ((neq b_1 0 (by omega) (by omega)).mpr h)
    obtain ⟨hil1, kz_, hz2, hz3, hz4, hz5⟩ := rr_1 hah_3 (by omega)
    have hdm1 := hild hil1
    refine lv_aload_n hx hb dX12_go_16 rfl (lv_at hl 0 rfl) ?_
    refine sk_Vv (q0 := 0) (n := 0) (rest := []) (wr := fmR om_15_7ffc _) ⟨hx, hb, hml, hown, hts⟩ hl.1 (c_nm_laysAll l D cI cJ cC cZ cS mm g ta pa pe pd pb pp pf pg pn rt rn cd sn il tk am at_ aa wt wy 0 rm ud nu sd qn qw qo qb qp qa qi oc u0 u1 u2 u3 u4 u5 v0 v1 v2 v3 v4 v5 cs nw pt ql l0 l1 dm l3 ws_ yw yo be bf wn mN Ba We U ke lg L (by omega) (by omega) hLk hkl hmw0 hmw1 hB9 hW9 hwk hcs hnw hpt) w_7_189 w_7_191 w_0_82 w_1_14 w_7_192 hd_X12_laysAll_0 ⟨⟨(Nat.le_of_ble_eq_true rfl), (Nat.le_of_ble_eq_true rfl)⟩, (Nat.le_of_ble_eq_true rfl), (Nat.le_of_ble_eq_true rfl)⟩ hK hP hD hS hA (fmT om_15_7ffc 0) (fmF om_15_7ffc 0) (fm_C1 rfl rfl) (fm_R rfl rfl) (fm_nT om_15_7ffc 0) (fm_nF om_15_7ffc 0) (fm_di om_15_7ffc 0) rfl rfl rfl rfl (Nat.le_of_ble_eq_true rfl) dX12_go_17 (fun u H locs hw hP hD hS => ?_)
    refine exE hw (fun tk2_7 hw1 => exE hw1 (fun qp2_8 hw2 => exE hw2 (fun am2_9 hw3 => exE hw3 (fun at_2_10 hw4 => exE hw4 (fun aa2_11 hw5 => exE hw5 (fun wy2_12 hw6 => exE hw6 (fun ql2_13 hw7 => exE hw7 (fun ws_2_14 hw8 => exE hw8 (fun yw2_15 hw9 => exE hw9 (fun yo2_16 hw10 => exE hw10 (fun be2_17 hw11 => exE hw11 (fun bf2_18 hw12 => anE hw12 (fun hbe_19 hw13 => anE hw13 (fun hcf_20 hw14 => anE hw14 (fun hwy_21 eu_22 => ?_)))))))))))))))
    clear hw hw1 hw2 hw3 hw4 hw5 hw6 hw7 hw8 hw9 hw10 hw11 hw12 hw13 hw14
    refine o_mgE (ws' := [(mm, .inr (12, mo g (nI ta) (nI pa) (nI pe) pd (nI pb) pp pf pg pn rt rn (nI cd) sn (nI il) tk2_7 am2_9 at_2_10 aa2_11 0 0 (-1) wt wy2_12 0 (nI rm) (nI ud) (nI nu) sd (nI qn) (nI qw) qo (nI qb) (nI qp2_8) qa (nI qi) (nI oc))), (g 24, .inl (cI, 6, .inl (l6 u0 u1 u2 u3 u4 u5))), (g 25, .inl (cI, 6, .inl (l6 v0 v1 v2 v3 v4 v5))), (g 26, .inl (cI, 3200, .inl (fun j => nI (cs j)))), (g 31, .inl (cI, 120, .inl nw)), (g 46, .inl (cI, 9, .inl (fun j => nI (pt j)))), (g 86, .inl (cJ, 1700, .inr (.inl ql2_13))), (g 20, .inl (cI, 4, .inl (l4 (nI l0) (nI l1) (nI dm) (nI l3)))), (g 38, .inl (cI, 90, .inl ws_2_14)), (g 36, .inl (cZ, 900, .inl yw2_15)), (g 37, .inl (cZ, 900, .inl yo2_16)), (g 43, .inl (cJ, 90, .inr (.inl be2_17))), (g 44, .inl (cJ, 90, .inr (.inl bf2_18))), (g 54, .inl (cI, 2400, .inl kp)), (g 9, .inl (cI, 6, .inl rf))]) eu_22 hP hD rfl (fun hP hD => ?_)
    refine lv_aload_n hx hb dX12_go_20 rfl (lv_at hl 0 rfl) ?_
    refine sk_get (v := .long wy2_12) (C := RX12) (T := TX12) (N := 92) hx hb hts inlX12 hown hK hP 0 rfl rfl 45 (by decide) w_5_200 rfl dX12_go_21 ?_
    refine lv_lconst (v := 0) hx hb dX12_go_24 (by decide) ?_
    refine W.lcmp hx hb dX12_go_25 ?_
    refine lv_if_ne (tgt := 35) hx hb dX12_go_26 (by decide) (fun c_23 => ?_) (fun c_23 => ?_)
    · have hnx : 0 < kcC (kcFo L wn Ba We U 0) dm 0 mN := Nat.pos_of_ne_zero (fun hq => c_23 (by rw [hwy_21, hq]; rfl))
      refine lv_aload_n hx hb dX12_go_35 rfl (lv_at hl 0 rfl) ?_
      refine sk_Vv (q0 := 0) (n := 0) (rest := []) (wr := fmR om_15_4402 _) ⟨hx, hb, hml, hown, hts⟩ hl.1 (c_nm_keeps l D cI cJ cC cZ cS mm g ta pa pe pd pb pp pf pg pn rt rn cd sn il tk2_7 am2_9 at_2_10 aa2_11 wt wy2_12 rm ud nu sd qn qw qo qb qp2_8 qa qi oc nw kp wn mN Ba We U ke lg su (by omega) (by omega) hnw hkp) w_8_130 w_8_132 w_0_107 w_1_14 w_8_133 hd_X12_keeps_0 ⟨⟨(Nat.le_of_ble_eq_true rfl), (Nat.le_of_ble_eq_true rfl)⟩, (Nat.le_of_ble_eq_true rfl), (Nat.le_of_ble_eq_true rfl)⟩ hK hP hD hS hA (fmT om_15_4402 0) (fmF om_15_4402 0) (fm_C1 rfl rfl) (fm_R rfl rfl) (fm_nT om_15_4402 0) (fm_nF om_15_4402 0) (fm_di om_15_4402 0) rfl rfl rfl rfl (Nat.le_of_ble_eq_true rfl) dX12_go_36 (fun u H locs hw hP hD hS => ?_)
      refine exE hw (fun kp2_24 hw1 => exE hw1 (fun ud2_25 hw2 => anE hw2 (fun hud2_26 hw3 => anE hw3 (fun hkp2_27 eu_28 => ?_))))
      clear hw hw1 hw2 hw3
      refine o_mgE (ws' := [(mm, .inr (12, mo g (nI ta) (nI pa) (nI pe) pd (nI pb) pp pf pg pn rt rn (nI cd) sn (nI il) tk2_7 am2_9 at_2_10 aa2_11 0 0 (-1) wt wy2_12 0 (nI rm) (nI ud2_25) (nI ((nu + 1) % 20)) sd (nI qn) (nI qw) qo (nI qb) (nI qp2_8) qa (nI qi) (nI oc))), (g 24, .inl (cI, 6, .inl (l6 u0 u1 u2 u3 u4 u5))), (g 25, .inl (cI, 6, .inl (l6 v0 v1 v2 v3 v4 v5))), (g 26, .inl (cI, 3200, .inl (fun j => nI (cs j)))), (g 31, .inl (cI, 120, .inl nw)), (g 46, .inl (cI, 9, .inl (fun j => nI (pt j)))), (g 86, .inl (cJ, 1700, .inr (.inl ql2_13))), (g 20, .inl (cI, 4, .inl (l4 (nI l0) (nI l1) (nI dm) (nI l3)))), (g 38, .inl (cI, 90, .inl ws_2_14)), (g 36, .inl (cZ, 900, .inl yw2_15)), (g 37, .inl (cZ, 900, .inl yo2_16)), (g 43, .inl (cJ, 90, .inr (.inl be2_17))), (g 44, .inl (cJ, 90, .inr (.inl bf2_18))), (g 54, .inl (cI, 2400, .inl kp2_24)), (g 9, .inl (cI, 6, .inl rf))]) eu_28 hP hD rfl (fun hP hD => ?_)
      refine lv_aload_n hx hb dX12_go_39 rfl (lv_at hl 0 rfl) ?_
      refine lv_lconst (v := 0) hx hb dX12_go_40 (by decide) ?_
      refine sk_topl (nL 0) rfl ?_
      refine sk_Vv (q0 := 0) (n := 1) (rest := []) (wr := fmR om_15_46b8 _) ⟨hx, hb, hml, hown, hts⟩ hl.1 (c_nm_goesBy0 l D cI cJ cC cZ cS mm g ta pa pe pd pb pp pf pg pn rt rn cd sn il tk2_7 am2_9 at_2_10 aa2_11 wt wy2_12 rm ud2_25 ((nu + 1) % 20) sd qn qw qo qb qp2_8 qa qi oc l0 l1 dm l3 nw yo2_16 yw2_15 be2_17 pt wn mN Ba We U ke lg L 0 (by omega) (by omega) hbe_19 hcf_20 hwy_21 hnx hnw hpt) w_8_17 w_8_19 w_0_93 w_1_14 w_8_20 hd_X12_goesBy_1 ⟨⟨(Nat.le_of_ble_eq_true rfl), (Nat.le_of_ble_eq_true rfl)⟩, (Nat.le_of_ble_eq_true rfl), (Nat.le_of_ble_eq_true rfl)⟩ hK hP hD hS hA [0, 7, 4, 10, 9, 11, 5] (fmF om_15_46b8 0) rfl (fm_R rfl rfl) (by decide +kernel) (fm_nF om_15_46b8 0) (by decide +kernel) rfl rfl rfl rfl (Nat.le_of_ble_eq_true rfl) dX12_go_41 (fun u H locs hw hP hD hS => ?_)
      refine exE hw (fun nw2_29 hw1 => exE hw1 (fun pt2_30 hw2 => anE hw2 (fun hnw2_31 hw3 => anE hw3 (fun hpt2_32 eu_33 => ?_))))
      clear hw hw1 hw2 hw3
      refine o_mgqE (ux := [(mm, .inr (12, mo g (nI ta) (nI pa) (nI pe) pd (nI pb) pp pf pg pn rt rn (nI cd) sn (nI il) tk2_7 am2_9 at_2_10 aa2_11 0 0 (-1) wt wy2_12 0 (nI rm) (nI ud2_25) (nI ((nu + 1) % 20)) sd (nI qn) (nI qw) qo (nI qb) (nI qp2_8) qa (nI qi) (nI oc))), (g 31, .inl (cI, 120, .inl nw2_29)), (g 46, .inl (cI, 9, .inl (fun j => nI (pt2_30 j)))), (g 20, .inl (cI, 4, .inl (l4 (nI l0) (nI l1) (nI dm) (nI l3)))), (g 36, .inl (cZ, 900, .inl yw2_15)), (g 37, .inl (cZ, 900, .inl yo2_16)), (g 43, .inl (cJ, 90, .inr (.inl be2_17)))]) (ws' := [(mm, .inr (12, mo g (nI ta) (nI pa) (nI pe) pd (nI pb) pp pf pg pn rt rn (nI cd) sn (nI il) tk2_7 am2_9 at_2_10 aa2_11 0 0 (-1) wt wy2_12 0 (nI rm) (nI ud2_25) (nI ((nu + 1) % 20)) sd (nI qn) (nI qw) qo (nI qb) (nI qp2_8) qa (nI qi) (nI oc))), (g 24, .inl (cI, 6, .inl (l6 u0 u1 u2 u3 u4 u5))), (g 25, .inl (cI, 6, .inl (l6 v0 v1 v2 v3 v4 v5))), (g 26, .inl (cI, 3200, .inl (fun j => nI (cs j)))), (g 31, .inl (cI, 120, .inl nw2_29)), (g 46, .inl (cI, 9, .inl (fun j => nI (pt2_30 j)))), (g 86, .inl (cJ, 1700, .inr (.inl ql2_13))), (g 20, .inl (cI, 4, .inl (l4 (nI l0) (nI l1) (nI dm) (nI l3)))), (g 38, .inl (cI, 90, .inl ws_2_14)), (g 36, .inl (cZ, 900, .inl yw2_15)), (g 37, .inl (cZ, 900, .inl yo2_16)), (g 43, .inl (cJ, 90, .inr (.inl be2_17))), (g 44, .inl (cJ, 90, .inr (.inl bf2_18))), (g 54, .inl (cI, 2400, .inl kp2_24)), (g 9, .inl (cI, 6, .inl rf))]) eu_33 [0, 2, 6, 1, 4, 3, 5] (by decide +kernel) rfl hP hD rfl (fun hP hD => ?_)
      refine lv_aload_n hx hb dX12_go_44 rfl (lv_at hl 0 rfl) ?_
      refine sk_get (v := .ref (g 31)) (C := RX12) (T := TX12) (N := 92) hx hb hts inlX12 hown hK hP 0 rfl rfl 31 (by decide) w_5_186 rfl dX12_go_45 ?_
      refine lv_iconst (v := 1) hx hb dX12_go_48 (by decide) ?_
      refine va_iald hx hb hK.1 hP 4 0 rfl rfl (by unfold vp_in; decide) dX12_go_49 ?_
      refine sk_top (nI (kLast L dm (wn, mN, Ba, We, U, ke) 0)) (nwX_1 hnw2_31) ?_
      have hkL : kpX ud2_25 ((nu + 1) % 20) (psh ud su (wn, mN, Ba, We, U, ke)) (kKeep L dm (wn, mN, Ba, We, U, ke) lg 0) kp2_24 := kpX_lg hkp2_27 (psh_ke (ke := 0) hsk (by omega) (Nat.le_refl ke) hud2_26)
      exact sk_iret hx hb hr rfl hlocks hK hP hD hS (⟨(wn + 1), (kLast L dm (wn, mN, Ba, We, U, ke) 0), (ke + 1), (kKeep L dm (wn, mN, Ba, We, U, ke) lg 0), (psh ud su (wn, mN, Ba, We, U, ke)), nw2_29, kp2_24, tk2_7, qp2_8, am2_9, at_2_10, aa2_11, wy2_12, (nu + 1) % 20, ud2_25, pt2_30, ql2_13, ws_2_14, yw2_15, yo2_16, be2_17, bf2_18, rf, hnw2_31, hkL, by omega, by omega, (by rw [hud2_26]; exact go_y (n := (wn, mN, Ba, We, U, ke)) ⟨by omega, (show wn < 999 from by obtain ⟨h1, k, h2, h3, h4, h5⟩ := rr_1 hah_3 (by omega); omega), hnx⟩), hpt2_32, rfl⟩) (Nat.le_of_ble_eq_true rfl) (Nat.le_of_ble_eq_true rfl) dX12_go_50
    · have hz0 : kcC (kcFo L wn Ba We U 0) dm 0 mN = 0 := kz_0 (by rw [← hwy_21]; exact c_23) (by have := kcC_9 (kcFo L wn Ba We U 0) (show dm ≤ 9 by omega) 0 mN; omega)
      refine lv_aload_n hx hb dX12_go_29 rfl (lv_at hl 0 rfl) ?_
      refine lv_iconst (v := 3) hx hb dX12_go_30 (by decide) ?_
      refine sk_Vi (q0 := 0) (n := 1) (rest := []) (wr := fmR om_15_4001 _) ⟨hx, hb, hml, hown, hts⟩ hl.1 (c_nm_refuses l D cI cJ cC cZ cS mm g ta pa pe pd pb pp pf pg pn rt rn cd sn il tk2_7 am2_9 at_2_10 aa2_11 wt wy2_12 rm ud nu sd qn qw qo qb qp2_8 qa qi oc 3 rf (by omega)) w_8_97 w_8_99 w_0_104 w_1_14 w_8_100 hd_X12_refuses_1 ⟨⟨(Nat.le_of_ble_eq_true rfl), (Nat.le_of_ble_eq_true rfl)⟩, (Nat.le_of_ble_eq_true rfl), (Nat.le_of_ble_eq_true rfl)⟩ hK hP hD hS hA (fmT om_15_4001 0) (fmF om_15_4001 0) (fm_C1 rfl rfl) (fm_R rfl rfl) (fm_nT om_15_4001 0) (fm_nF om_15_4001 0) (fm_di om_15_4001 0) rfl rfl rfl rfl (Nat.le_of_ble_eq_true rfl) dX12_go_31 (fun r_35 u H locs hw hP hD hS => ?_)
      refine exE hw (fun rf2_34 hw1 => anE hw1 (fun hrf_36 hw2 => anE hw2 (fun er_38 eu_37 => ?_)))
      clear hw hw1 hw2
      subst er_38
      refine o_mgE (ws' := [(mm, .inr (12, mo g (nI ta) (nI pa) (nI pe) pd (nI pb) pp pf pg pn rt rn (nI cd) sn (nI il) tk2_7 am2_9 at_2_10 aa2_11 0 0 (-1) wt wy2_12 0 (nI rm) (nI ud) (nI nu) sd (nI qn) (nI qw) qo (nI qb) (nI qp2_8) qa (nI qi) (nI oc))), (g 24, .inl (cI, 6, .inl (l6 u0 u1 u2 u3 u4 u5))), (g 25, .inl (cI, 6, .inl (l6 v0 v1 v2 v3 v4 v5))), (g 26, .inl (cI, 3200, .inl (fun j => nI (cs j)))), (g 31, .inl (cI, 120, .inl nw)), (g 46, .inl (cI, 9, .inl (fun j => nI (pt j)))), (g 86, .inl (cJ, 1700, .inr (.inl ql2_13))), (g 20, .inl (cI, 4, .inl (l4 (nI l0) (nI l1) (nI dm) (nI l3)))), (g 38, .inl (cI, 90, .inl ws_2_14)), (g 36, .inl (cZ, 900, .inl yw2_15)), (g 37, .inl (cZ, 900, .inl yo2_16)), (g 43, .inl (cJ, 90, .inr (.inl be2_17))), (g 44, .inl (cJ, 90, .inr (.inl bf2_18))), (g 54, .inl (cI, 2400, .inl kp)), (g 9, .inl (cI, 6, .inl rf2_34))]) eu_37 hP hD rfl (fun hP hD => ?_)
      exact sk_iret hx hb hr rfl hlocks hK hP hD hS (⟨wn, mN, ke, lg, su, nw, kp, tk2_7, qp2_8, am2_9, at_2_10, aa2_11, wy2_12, nu, ud, pt, ql2_13, ws_2_14, yw2_15, yo2_16, be2_17, bf2_18, rf2_34, hnw, hkp, by omega, by omega, go_n (fun hq => absurd (show 0 < kcC (kcFo L wn Ba We U 0) dm 0 mN from hq.2.2) (by omega)) hrf_36, hpt, rfl⟩) (Nat.le_of_ble_eq_true rfl) (Nat.le_of_ble_eq_true rfl) dX12_go_34
  · have c_6 : b_1 = 0 := (neq b_1 0 (by omega) (by omega)).mp c_6
    refine lv_aload_n hx hb dX12_go_10 rfl (lv_at hl 0 rfl) ?_
    refine lv_iconst (v := 3) hx hb dX12_go_11 (by decide) ?_
    refine sk_Vi (q0 := 0) (n := 1) (rest := []) (wr := fmR om_15_4001 _) ⟨hx, hb, hml, hown, hts⟩ hl.1 (c_nm_refuses l D cI cJ cC cZ cS mm g ta pa pe pd pb pp pf pg pn rt rn cd sn il tk am at_ aa wt wy rm ud nu sd qn qw qo qb qp qa qi oc 3 rf (by omega)) w_8_97 w_8_99 w_0_104 w_1_14 w_8_100 hd_X12_refuses_1 ⟨⟨(Nat.le_of_ble_eq_true rfl), (Nat.le_of_ble_eq_true rfl)⟩, (Nat.le_of_ble_eq_true rfl), (Nat.le_of_ble_eq_true rfl)⟩ hK hP hD hS hA (fmT om_15_4001 0) (fmF om_15_4001 0) (fm_C1 rfl rfl) (fm_R rfl rfl) (fm_nT om_15_4001 0) (fm_nF om_15_4001 0) (fm_di om_15_4001 0) rfl rfl rfl rfl (Nat.le_of_ble_eq_true rfl) dX12_go_12 (fun r_40 u H locs hw hP hD hS => ?_)
    refine exE hw (fun rf2_39 hw1 => anE hw1 (fun hrf_41 hw2 => anE hw2 (fun er_43 eu_42 => ?_)))
    clear hw hw1 hw2
    subst er_43
    refine o_mgE (ws' := [(mm, .inr (12, mo g (nI ta) (nI pa) (nI pe) pd (nI pb) pp pf pg pn rt rn (nI cd) sn (nI il) tk am at_ aa 0 0 (-1) wt wy 0 (nI rm) (nI ud) (nI nu) sd (nI qn) (nI qw) qo (nI qb) (nI qp) qa (nI qi) (nI oc))), (g 24, .inl (cI, 6, .inl (l6 u0 u1 u2 u3 u4 u5))), (g 25, .inl (cI, 6, .inl (l6 v0 v1 v2 v3 v4 v5))), (g 26, .inl (cI, 3200, .inl (fun j => nI (cs j)))), (g 31, .inl (cI, 120, .inl nw)), (g 46, .inl (cI, 9, .inl (fun j => nI (pt j)))), (g 86, .inl (cJ, 1700, .inr (.inl ql))), (g 20, .inl (cI, 4, .inl (l4 (nI l0) (nI l1) (nI dm) (nI l3)))), (g 38, .inl (cI, 90, .inl ws_)), (g 36, .inl (cZ, 900, .inl yw)), (g 37, .inl (cZ, 900, .inl yo)), (g 43, .inl (cJ, 90, .inr (.inl be))), (g 44, .inl (cJ, 90, .inr (.inl bf))), (g 54, .inl (cI, 2400, .inl kp)), (g 9, .inl (cI, 6, .inl rf2_39))]) eu_42 hP hD rfl (fun hP hD => ?_)
    exact sk_iret hx hb hr rfl hlocks hK hP hD hS (⟨wn, mN, ke, lg, su, nw, kp, tk, qp, am, at_, aa, wy, nu, ud, pt, ql, ws_, yw, yo, be, bf, rf2_39, hnw, hkp, by omega, by omega, go_n (fun hq => rr_0 hah_3 (by omega) ⟨hilb hq.1, 1, by omega, by omega, rfl, by have h9 : wn < 999 := hq.2.1; omega⟩) hrf_41, hpt, rfl⟩) (Nat.le_of_ble_eq_true rfl) (Nat.le_of_ble_eq_true rfl) dX12_go_15

