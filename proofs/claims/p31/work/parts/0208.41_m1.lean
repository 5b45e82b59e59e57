theorem dg_X12_isMood_0_0 : bqL cX12_isMood 0 [(0, [27]), (1, [133]), (2, [9]), (3, [20, 1, 62]), (6, [184, 0, 238]), (9, [172])] = true := by decide +kernel
theorem dX12_isMood_0 : decode cX12_isMood 0 = .ok (.iload_n 1, 1) := q_iload_n1 (bat_get dg_X12_isMood_0_0 0 rfl rfl)
theorem dX12_isMood_1 : decode cX12_isMood 1 = .ok (.i2l, 1) := q_i2l (bat_get dg_X12_isMood_0_0 1 rfl rfl)
theorem dX12_isMood_2 : decode cX12_isMood 2 = .ok (.lconst 0, 1) := q_lconst0 (bat_get dg_X12_isMood_0_0 2 rfl rfl)
theorem dX12_isMood_3 : decode cX12_isMood 3 = .ok (.ldc2_w 318, 3) := q_ldc2_w (bat_get dg_X12_isMood_0_0 3 rfl rfl) rfl
theorem dX12_isMood_6 : decode cX12_isMood 6 = .ok (.invokestatic 238, 3) := q_invokestatic (bat_get dg_X12_isMood_0_0 4 rfl rfl) rfl
theorem dX12_isMood_9 : decode cX12_isMood 9 = .ok (.ireturn, 1) := q_ireturn (bat_get dg_X12_isMood_0_0 5 rfl rfl)
theorem w_7_130 : (Cond.constantLong RX12 318 (9)) ∈ wsL_law := sk_mem (ck_7 _ (List.mem_of_getElem? (i := 130) rfl)) rfl
theorem w_7_129 : (Cond.code yX12_isMood cX12_isMood 2 (some .boolean)) ∈ wsL_law := sk_mem (ck_7 _ (List.mem_of_getElem? (i := 129) rfl)) rfl
set_option maxHeartbeats 4000000 in
set_option maxRecDepth 100000 in
theorem c_m_isMood (l : Launch) (D : va_G) (cI cJ cC cZ cS : ClassId) (mm : Nat) (g : Nat → Nat) (ta : Nat) (pa : Nat) (pe : Nat) (pd : Int32) (pb : Nat) (pp : Int32) (pf : Int32) (pg : Int32) (pn : Int32) (rt : Int32) (rn : Int32) (cd : Nat) (sn : Int32) (il : Nat) (tk : Int32) (am : Int32) (at_ : Int32) (aa : Int32) (mt_ : Int32) (bh : Nat) (wd : Int32) (wt : Int32) (wy : Int64) (it_ : Nat) (rm : Nat) (ud : Nat) (nu : Nat) (sd : Int64) (qn : Nat) (qw : Nat) (qo : Int32) (qb : Nat) (qp : Nat) (qa : Int64) (qi : Nat) (oc : Nat) (d : Int32)  : skM l yX12_isMood cX12_isMood 2 (some .boolean) 1 25 0 0 D (skT cI cJ cC cZ cS) [.ref mm, .int d] [(mm, .inr (12, mo g (nI ta) (nI pa) (nI pe) pd (nI pb) pp pf pg pn rt rn (nI cd) sn (nI il) tk am at_ aa mt_ (nI bh) wd wt wy (nI it_) (nI rm) (nI ud) (nI nu) sd (nI qn) (nI qw) qo (nI qb) (nI qp) qa (nI qi) (nI oc)))] (skI D (skT cI cJ cC cZ cS) (fun (r : Int32) (u : va_W) => ∃ (b : Nat), (b = 0 ∨ (b = 1 ∧ ∃ kq : Nat, kq < 10 ∧ d = nI kq)) ∧ r = nI b ∧ u = [(mm, .inr (12, mo g (nI ta) (nI pa) (nI pe) pd (nI pb) pp pf pg pn rt rn (nI cd) sn (nI il) tk am at_ aa mt_ (nI bh) wd wt wy (nI it_) (nI rm) (nI ud) (nI nu) sd (nI qn) (nI qw) qo (nI qb) (nI qp) qa (nI qi) (nI oc)))])) := by
  refine skM_of pf_X12_isMood (Nat.le_of_ble_eq_true rfl) ?_
  intro p e s m below meth c A ls E hP hD hl
  refine skE_el E (fun hx hb hr hml hlocks hin hown hts hK hA => ?_)
  have hown : s.vm.findClass RX12 = some m.cls := hown
  have hS : va_S A s.heap s.heap [] := va_S.rf
  have hl : lv_has ls 2 [(0, .ref mm), (1, .int d)] := hl
  refine lv_iload_n hx hb dX12_isMood_0 rfl (lv_at hl 1 rfl) ?_
  refine lv_i2l hx hb dX12_isMood_1 rfl ?_
  refine lv_lconst (v := 0) hx hb dX12_isMood_2 (by decide) ?_
  refine lv_ldc2 (v := 9) hx hb hown (hts _ w_7_130) dX12_isMood_3 ?_
  refine sk_Si (n := 3) (rest := []) (wr := [(mm, .inr (12, mo g (nI ta) (nI pa) (nI pe) pd (nI pb) pp pf pg pn rt rn (nI cd) sn (nI il) tk am at_ aa mt_ (nI bh) wd wt wy (nI it_) (nI rm) (nI ud) (nI nu) sd (nI qn) (nI qw) qo (nI qb) (nI qp) qa (nI qi) (nI oc)))]) ⟨hx, hb, hml, hown, hts⟩ hl.1 (c_m_isIn l D cI cJ cC cZ cS (Int32.toInt64 d) 0 9) w_7_0 w_7_1 w_1_14 w_7_2 hd_X12_isIn_3 ⟨⟨(Nat.le_of_ble_eq_true rfl), (Nat.le_of_ble_eq_true rfl)⟩, (Nat.le_of_ble_eq_true rfl), (Nat.le_of_ble_eq_true rfl)⟩ hK hP hD hS hA [] [0] rfl rfl (by decide +kernel) (by decide +kernel) (by decide +kernel) rfl rfl (Nat.le_of_ble_eq_true rfl) dX12_isMood_6 (fun r_2 u H locs hw hP hD hS => ?_)
  obtain ⟨b_1, hb1_3, rfl, rfl⟩ := hw
  refine o_re (ws' := [(mm, .inr (12, mo g (nI ta) (nI pa) (nI pe) pd (nI pb) pp pf pg pn rt rn (nI cd) sn (nI il) tk am at_ aa mt_ (nI bh) wd wt wy (nI it_) (nI rm) (nI ud) (nI nu) sd (nI qn) (nI qw) qo (nI qb) (nI qp) qa (nI qi) (nI oc)))]) hP hD rfl (fun hP hD => ?_)
  exact sk_iret hx hb hr (nbool b_1 (by omega)) hlocks hK hP hD hS (⟨b_1, inD hb1_3 (by decide), rfl, rfl⟩) (Nat.le_of_ble_eq_true rfl) (Nat.le_of_ble_eq_true rfl) dX12_isMood_9
theorem dg_X12_bargeOf_0_0 : bqL cX12_bargeOf 0 [(0, [42]), (1, [180, 0, 63]), (4, [5]), (5, [6]), (6, [27]), (7, [104]), (8, [96]), (9, [46]), (10, [172])] = true := by decide +kernel
theorem dX12_bargeOf_0 : decode cX12_bargeOf 0 = .ok (.aload_n 0, 1) := q_aload_n0 (bat_get dg_X12_bargeOf_0_0 0 rfl rfl)
theorem dX12_bargeOf_1 : decode cX12_bargeOf 1 = .ok (.getfield 63, 3) := q_getfield (bat_get dg_X12_bargeOf_0_0 1 rfl rfl) rfl
theorem dX12_bargeOf_4 : decode cX12_bargeOf 4 = .ok (.iconst 2, 1) := q_iconst2 (bat_get dg_X12_bargeOf_0_0 2 rfl rfl)
theorem dX12_bargeOf_5 : decode cX12_bargeOf 5 = .ok (.iconst 3, 1) := q_iconst3 (bat_get dg_X12_bargeOf_0_0 3 rfl rfl)
theorem dX12_bargeOf_6 : decode cX12_bargeOf 6 = .ok (.iload_n 1, 1) := q_iload_n1 (bat_get dg_X12_bargeOf_0_0 4 rfl rfl)
theorem dX12_bargeOf_7 : decode cX12_bargeOf 7 = .ok (.imul, 1) := q_imul (bat_get dg_X12_bargeOf_0_0 5 rfl rfl)
theorem dX12_bargeOf_8 : decode cX12_bargeOf 8 = .ok (.iadd, 1) := q_iadd (bat_get dg_X12_bargeOf_0_0 6 rfl rfl)
theorem dX12_bargeOf_9 : decode cX12_bargeOf 9 = .ok (.iaload, 1) := q_iaload (bat_get dg_X12_bargeOf_0_0 7 rfl rfl)
theorem dX12_bargeOf_10 : decode cX12_bargeOf 10 = .ok (.ireturn, 1) := q_ireturn (bat_get dg_X12_bargeOf_0_0 8 rfl rfl)
theorem w_5_186 : (Cond.fieldLink RX12 63 "SameKeeperModel" "now" "[I") ∈ wsL_law := sk_mem (ck_5 _ (List.mem_of_getElem? (i := 186) rfl)) rfl
theorem w_7_150 : (Cond.code yX12_bargeOf cX12_bargeOf 2 (some .int)) ∈ wsL_law := sk_mem (ck_7 _ (List.mem_of_getElem? (i := 150) rfl)) rfl
set_option maxHeartbeats 4000000 in
set_option maxRecDepth 100000 in
theorem c_m_bargeOf (l : Launch) (D : va_G) (cI cJ cC cZ cS : ClassId) (mm : Nat) (g : Nat → Nat) (ta : Nat) (pa : Nat) (pe : Nat) (pd : Int32) (pb : Nat) (pp : Int32) (pf : Int32) (pg : Int32) (pn : Int32) (rt : Int32) (rn : Int32) (cd : Nat) (sn : Int32) (il : Nat) (tk : Int32) (am : Int32) (at_ : Int32) (aa : Int32) (mt_ : Int32) (bh : Nat) (wd : Int32) (wt : Int32) (wy : Int64) (it_ : Nat) (rm : Nat) (ud : Nat) (nu : Nat) (sd : Int64) (qn : Nat) (qw : Nat) (qo : Int32) (qb : Nat) (qp : Nat) (qa : Int64) (qi : Nat) (oc : Nat) (d : Nat) (nw : Nat → Int32) (hd : d < 9) (hnw : nowOk nw) : skM l yX12_bargeOf cX12_bargeOf 2 (some .int) 0 0 0 0 D (skT cI cJ cC cZ cS) [.ref mm, .int (nI d)] [(mm, .inr (12, mo g (nI ta) (nI pa) (nI pe) pd (nI pb) pp pf pg pn rt rn (nI cd) sn (nI il) tk am at_ aa mt_ (nI bh) wd wt wy (nI it_) (nI rm) (nI ud) (nI nu) sd (nI qn) (nI qw) qo (nI qb) (nI qp) qa (nI qi) (nI oc))), (g 31, .inl (cI, 120, .inl nw))] (skI D (skT cI cJ cC cZ cS) (fun (r : Int32) (u : va_W) => u = [(mm, .inr (12, mo g (nI ta) (nI pa) (nI pe) pd (nI pb) pp pf pg pn rt rn (nI cd) sn (nI il) tk am at_ aa mt_ (nI bh) wd wt wy (nI it_) (nI rm) (nI ud) (nI nu) sd (nI qn) (nI qw) qo (nI qb) (nI qp) qa (nI qi) (nI oc))), (g 31, .inl (cI, 120, .inl nw))])) := by
  refine skM_of pf_X12_bargeOf (Nat.le_of_ble_eq_true rfl) ?_
  intro p e s m below meth c A ls E hP hD hl
  refine skE_el E (fun hx hb hr hml hlocks hin hown hts hK hA => ?_)
  have hown : s.vm.findClass RX12 = some m.cls := hown
  have hS : va_S A s.heap s.heap [] := va_S.rf
  have hl : lv_has ls 2 [(0, .ref mm), (1, .int (nI d))] := hl
  refine lv_aload_n hx hb dX12_bargeOf_0 rfl (lv_at hl 0 rfl) ?_
  refine sk_get (v := .ref (g 31)) (C := RX12) (T := TX12) (N := 92) hx hb hts inlX12 hown hK hP 0 rfl rfl 31 (by decide) w_5_186 rfl dX12_bargeOf_1 ?_
  refine lv_iconst (v := 2) hx hb dX12_bargeOf_4 (by decide) ?_
  refine lv_iconst (v := 3) hx hb dX12_bargeOf_5 (by decide) ?_
  refine lv_iload_n hx hb dX12_bargeOf_6 rfl (lv_at hl 1 rfl) ?_
  refine lv_imul hx hb dX12_bargeOf_7 ?_
  refine sk_top (nI (3 * d)) (nmul 3 d) ?_
  refine lv_iadd hx hb dX12_bargeOf_8 ?_
  refine sk_top (nI (2 + (3 * d))) (nI_add 2 (3 * d)) ?_
  refine va_iald hx hb hK.1 hP 1 0 rfl rfl (vin (2 + (3 * d)) 120 (by omega) (by omega)) dX12_bargeOf_9 ?_
  refine lv_topi (fun v_1 ev_1 => ?_)
  exact sk_iret hx hb hr rfl hlocks hK hP hD hS rfl (Nat.le_of_ble_eq_true rfl) (Nat.le_of_ble_eq_true rfl) dX12_bargeOf_10
theorem dg_X12_wetOf_0_0 : bqL cX12_wetOf 0 [(0, [42]), (1, [180, 0, 63]), (4, [5]), (5, [6]), (6, [27]), (7, [104]), (8, [96]), (9, [4]), (10, [96]), (11, [46]), (12, [172])] = true := by decide +kernel
theorem dX12_wetOf_0 : decode cX12_wetOf 0 = .ok (.aload_n 0, 1) := q_aload_n0 (bat_get dg_X12_wetOf_0_0 0 rfl rfl)
theorem dX12_wetOf_1 : decode cX12_wetOf 1 = .ok (.getfield 63, 3) := q_getfield (bat_get dg_X12_wetOf_0_0 1 rfl rfl) rfl
theorem dX12_wetOf_4 : decode cX12_wetOf 4 = .ok (.iconst 2, 1) := q_iconst2 (bat_get dg_X12_wetOf_0_0 2 rfl rfl)
theorem dX12_wetOf_5 : decode cX12_wetOf 5 = .ok (.iconst 3, 1) := q_iconst3 (bat_get dg_X12_wetOf_0_0 3 rfl rfl)
theorem dX12_wetOf_6 : decode cX12_wetOf 6 = .ok (.iload_n 1, 1) := q_iload_n1 (bat_get dg_X12_wetOf_0_0 4 rfl rfl)
theorem dX12_wetOf_7 : decode cX12_wetOf 7 = .ok (.imul, 1) := q_imul (bat_get dg_X12_wetOf_0_0 5 rfl rfl)
theorem dX12_wetOf_8 : decode cX12_wetOf 8 = .ok (.iadd, 1) := q_iadd (bat_get dg_X12_wetOf_0_0 6 rfl rfl)
theorem dX12_wetOf_9 : decode cX12_wetOf 9 = .ok (.iconst 1, 1) := q_iconst1 (bat_get dg_X12_wetOf_0_0 7 rfl rfl)
theorem dX12_wetOf_10 : decode cX12_wetOf 10 = .ok (.iadd, 1) := q_iadd (bat_get dg_X12_wetOf_0_0 8 rfl rfl)
theorem dX12_wetOf_11 : decode cX12_wetOf 11 = .ok (.iaload, 1) := q_iaload (bat_get dg_X12_wetOf_0_0 9 rfl rfl)
theorem dX12_wetOf_12 : decode cX12_wetOf 12 = .ok (.ireturn, 1) := q_ireturn (bat_get dg_X12_wetOf_0_0 10 rfl rfl)
theorem w_7_154 : (Cond.code yX12_wetOf cX12_wetOf 2 (some .int)) ∈ wsL_law := sk_mem (ck_7 _ (List.mem_of_getElem? (i := 154) rfl)) rfl
set_option maxHeartbeats 4000000 in
set_option maxRecDepth 100000 in
theorem c_m_wetOf (l : Launch) (D : va_G) (cI cJ cC cZ cS : ClassId) (mm : Nat) (g : Nat → Nat) (ta : Nat) (pa : Nat) (pe : Nat) (pd : Int32) (pb : Nat) (pp : Int32) (pf : Int32) (pg : Int32) (pn : Int32) (rt : Int32) (rn : Int32) (cd : Nat) (sn : Int32) (il : Nat) (tk : Int32) (am : Int32) (at_ : Int32) (aa : Int32) (mt_ : Int32) (bh : Nat) (wd : Int32) (wt : Int32) (wy : Int64) (it_ : Nat) (rm : Nat) (ud : Nat) (nu : Nat) (sd : Int64) (qn : Nat) (qw : Nat) (qo : Int32) (qb : Nat) (qp : Nat) (qa : Int64) (qi : Nat) (oc : Nat) (d : Nat) (nw : Nat → Int32) (hd : d < 9) (hnw : nowOk nw) : skM l yX12_wetOf cX12_wetOf 2 (some .int) 0 0 0 0 D (skT cI cJ cC cZ cS) [.ref mm, .int (nI d)] [(mm, .inr (12, mo g (nI ta) (nI pa) (nI pe) pd (nI pb) pp pf pg pn rt rn (nI cd) sn (nI il) tk am at_ aa mt_ (nI bh) wd wt wy (nI it_) (nI rm) (nI ud) (nI nu) sd (nI qn) (nI qw) qo (nI qb) (nI qp) qa (nI qi) (nI oc))), (g 31, .inl (cI, 120, .inl nw))] (skI D (skT cI cJ cC cZ cS) (fun (r : Int32) (u : va_W) => u = [(mm, .inr (12, mo g (nI ta) (nI pa) (nI pe) pd (nI pb) pp pf pg pn rt rn (nI cd) sn (nI il) tk am at_ aa mt_ (nI bh) wd wt wy (nI it_) (nI rm) (nI ud) (nI nu) sd (nI qn) (nI qw) qo (nI qb) (nI qp) qa (nI qi) (nI oc))), (g 31, .inl (cI, 120, .inl nw))])) := by
  refine skM_of pf_X12_wetOf (Nat.le_of_ble_eq_true rfl) ?_
  intro p e s m below meth c A ls E hP hD hl
  refine skE_el E (fun hx hb hr hml hlocks hin hown hts hK hA => ?_)
  have hown : s.vm.findClass RX12 = some m.cls := hown
  have hS : va_S A s.heap s.heap [] := va_S.rf
  have hl : lv_has ls 2 [(0, .ref mm), (1, .int (nI d))] := hl
  refine lv_aload_n hx hb dX12_wetOf_0 rfl (lv_at hl 0 rfl) ?_
  refine sk_get (v := .ref (g 31)) (C := RX12) (T := TX12) (N := 92) hx hb hts inlX12 hown hK hP 0 rfl rfl 31 (by decide) w_5_186 rfl dX12_wetOf_1 ?_
  refine lv_iconst (v := 2) hx hb dX12_wetOf_4 (by decide) ?_
  refine lv_iconst (v := 3) hx hb dX12_wetOf_5 (by decide) ?_
  refine lv_iload_n hx hb dX12_wetOf_6 rfl (lv_at hl 1 rfl) ?_
  refine lv_imul hx hb dX12_wetOf_7 ?_
  refine sk_top (nI (3 * d)) (nmul 3 d) ?_
  refine lv_iadd hx hb dX12_wetOf_8 ?_
  refine sk_top (nI (2 + (3 * d))) (nI_add 2 (3 * d)) ?_
  refine lv_iconst (v := 1) hx hb dX12_wetOf_9 (by decide) ?_
  refine lv_iadd hx hb dX12_wetOf_10 ?_
  refine sk_top (nI (2 + (3 * d) + 1)) (nI_add (2 + (3 * d)) 1) ?_
  refine va_iald hx hb hK.1 hP 1 0 rfl rfl (vin (2 + (3 * d) + 1) 120 (by omega) (by omega)) dX12_wetOf_11 ?_
  refine lv_topi (fun v_1 ev_1 => ?_)
  exact sk_iret hx hb hr rfl hlocks hK hP hD hS rfl (Nat.le_of_ble_eq_true rfl) (Nat.le_of_ble_eq_true rfl) dX12_wetOf_12
theorem dg_X12_isMute_0_0 : bqL cX12_isMute 0 [(0, [42]), (1, [180, 0, 63]), (4, [5]), (5, [6]), (6, [27]), (7, [104]), (8, [96]), (9, [5]), (10, [96]), (11, [46]), (12, [4]), (13, [160, 0, 7]), (20, [3]), (21, [172]), (16, [4]), (17, [167, 0, 4])] = true := by decide +kernel
theorem dX12_isMute_0 : decode cX12_isMute 0 = .ok (.aload_n 0, 1) := q_aload_n0 (bat_get dg_X12_isMute_0_0 0 rfl rfl)
theorem dX12_isMute_1 : decode cX12_isMute 1 = .ok (.getfield 63, 3) := q_getfield (bat_get dg_X12_isMute_0_0 1 rfl rfl) rfl
theorem dX12_isMute_4 : decode cX12_isMute 4 = .ok (.iconst 2, 1) := q_iconst2 (bat_get dg_X12_isMute_0_0 2 rfl rfl)
theorem dX12_isMute_5 : decode cX12_isMute 5 = .ok (.iconst 3, 1) := q_iconst3 (bat_get dg_X12_isMute_0_0 3 rfl rfl)
theorem dX12_isMute_6 : decode cX12_isMute 6 = .ok (.iload_n 1, 1) := q_iload_n1 (bat_get dg_X12_isMute_0_0 4 rfl rfl)
theorem dX12_isMute_7 : decode cX12_isMute 7 = .ok (.imul, 1) := q_imul (bat_get dg_X12_isMute_0_0 5 rfl rfl)
theorem dX12_isMute_8 : decode cX12_isMute 8 = .ok (.iadd, 1) := q_iadd (bat_get dg_X12_isMute_0_0 6 rfl rfl)
theorem dX12_isMute_9 : decode cX12_isMute 9 = .ok (.iconst 2, 1) := q_iconst2 (bat_get dg_X12_isMute_0_0 7 rfl rfl)
theorem dX12_isMute_10 : decode cX12_isMute 10 = .ok (.iadd, 1) := q_iadd (bat_get dg_X12_isMute_0_0 8 rfl rfl)
theorem dX12_isMute_11 : decode cX12_isMute 11 = .ok (.iaload, 1) := q_iaload (bat_get dg_X12_isMute_0_0 9 rfl rfl)
theorem dX12_isMute_12 : decode cX12_isMute 12 = .ok (.iconst 1, 1) := q_iconst1 (bat_get dg_X12_isMute_0_0 10 rfl rfl)
theorem dX12_isMute_13 : decode cX12_isMute 13 = .ok (.if_icmp .ne 7, 3) := q_if_icmp_ne (bat_get dg_X12_isMute_0_0 11 rfl rfl) rfl
theorem dX12_isMute_20 : decode cX12_isMute 20 = .ok (.iconst 0, 1) := q_iconst0 (bat_get dg_X12_isMute_0_0 12 rfl rfl)
theorem dX12_isMute_21 : decode cX12_isMute 21 = .ok (.ireturn, 1) := q_ireturn (bat_get dg_X12_isMute_0_0 13 rfl rfl)
theorem dX12_isMute_16 : decode cX12_isMute 16 = .ok (.iconst 1, 1) := q_iconst1 (bat_get dg_X12_isMute_0_0 14 rfl rfl)
theorem dX12_isMute_17 : decode cX12_isMute 17 = .ok (.goto 4, 3) := q_goto (bat_get dg_X12_isMute_0_0 15 rfl rfl) rfl
theorem w_7_109 : (Cond.code yX12_isMute cX12_isMute 2 (some .boolean)) ∈ wsL_law := sk_mem (ck_7 _ (List.mem_of_getElem? (i := 109) rfl)) rfl
set_option maxHeartbeats 4000000 in
set_option maxRecDepth 100000 in
theorem c_m_isMute (l : Launch) (D : va_G) (cI cJ cC cZ cS : ClassId) (mm : Nat) (g : Nat → Nat) (ta : Nat) (pa : Nat) (pe : Nat) (pd : Int32) (pb : Nat) (pp : Int32) (pf : Int32) (pg : Int32) (pn : Int32) (rt : Int32) (rn : Int32) (cd : Nat) (sn : Int32) (il : Nat) (tk : Int32) (am : Int32) (at_ : Int32) (aa : Int32) (mt_ : Int32) (bh : Nat) (wd : Int32) (wt : Int32) (wy : Int64) (it_ : Nat) (rm : Nat) (ud : Nat) (nu : Nat) (sd : Int64) (qn : Nat) (qw : Nat) (qo : Int32) (qb : Nat) (qp : Nat) (qa : Int64) (qi : Nat) (oc : Nat) (d : Nat) (nw : Nat → Int32) (hd : d < 9) (hnw : nowOk nw) : skM l yX12_isMute cX12_isMute 2 (some .boolean) 0 0 0 0 D (skT cI cJ cC cZ cS) [.ref mm, .int (nI d)] [(mm, .inr (12, mo g (nI ta) (nI pa) (nI pe) pd (nI pb) pp pf pg pn rt rn (nI cd) sn (nI il) tk am at_ aa mt_ (nI bh) wd wt wy (nI it_) (nI rm) (nI ud) (nI nu) sd (nI qn) (nI qw) qo (nI qb) (nI qp) qa (nI qi) (nI oc))), (g 31, .inl (cI, 120, .inl nw))] (skI D (skT cI cJ cC cZ cS) (fun (r : Int32) (u : va_W) => ∃ (b : Nat), ((b = 0 ∧ ¬ nw (nI (2 + 3 * d + 2)).toNatClampNeg = 1) ∨ (b = 1 ∧ nw (nI (2 + 3 * d + 2)).toNatClampNeg = 1)) ∧ b ≤ 1 ∧ r = nI b ∧ u = [(mm, .inr (12, mo g (nI ta) (nI pa) (nI pe) pd (nI pb) pp pf pg pn rt rn (nI cd) sn (nI il) tk am at_ aa mt_ (nI bh) wd wt wy (nI it_) (nI rm) (nI ud) (nI nu) sd (nI qn) (nI qw) qo (nI qb) (nI qp) qa (nI qi) (nI oc))), (g 31, .inl (cI, 120, .inl nw))])) := by
  refine skM_of pf_X12_isMute (Nat.le_of_ble_eq_true rfl) ?_
  intro p e s m below meth c A ls E hP hD hl
  refine skE_el E (fun hx hb hr hml hlocks hin hown hts hK hA => ?_)
  have hown : s.vm.findClass RX12 = some m.cls := hown
  have hS : va_S A s.heap s.heap [] := va_S.rf
  have hl : lv_has ls 2 [(0, .ref mm), (1, .int (nI d))] := hl
  refine lv_aload_n hx hb dX12_isMute_0 rfl (lv_at hl 0 rfl) ?_
  refine sk_get (v := .ref (g 31)) (C := RX12) (T := TX12) (N := 92) hx hb hts inlX12 hown hK hP 0 rfl rfl 31 (by decide) w_5_186 rfl dX12_isMute_1 ?_
  refine lv_iconst (v := 2) hx hb dX12_isMute_4 (by decide) ?_
  refine lv_iconst (v := 3) hx hb dX12_isMute_5 (by decide) ?_
  refine lv_iload_n hx hb dX12_isMute_6 rfl (lv_at hl 1 rfl) ?_
  refine lv_imul hx hb dX12_isMute_7 ?_
  refine sk_top (nI (3 * d)) (nmul 3 d) ?_
  refine lv_iadd hx hb dX12_isMute_8 ?_
  refine sk_top (nI (2 + (3 * d))) (nI_add 2 (3 * d)) ?_
  refine lv_iconst (v := 2) hx hb dX12_isMute_9 (by decide) ?_
  refine lv_iadd hx hb dX12_isMute_10 ?_
  refine sk_top (nI (2 + (3 * d) + 2)) (nI_add (2 + (3 * d)) 2) ?_
  refine va_iald hx hb hK.1 hP 1 0 rfl rfl (vin (2 + (3 * d) + 2) 120 (by omega) (by omega)) dX12_isMute_11 ?_
  refine lv_topi (fun v_1 ev_1 => ?_)
  refine lv_iconst (v := 1) hx hb dX12_isMute_12 (by decide) ?_
  refine lv_icmp_ne (tgt := 20) hx hb dX12_isMute_13 (by decide) (fun c_2 => ?_) (fun c_2 => ?_)
  · skip
    refine lv_iconst (v := 0) hx hb dX12_isMute_20 (by decide) ?_
    exact sk_iret hx hb hr rfl hlocks hK hP hD hS (⟨0, Or.inl ⟨rfl, by rw [← ev_1]; exact c_2⟩, by omega, rfl, rfl⟩) (Nat.le_of_ble_eq_true rfl) (Nat.le_of_ble_eq_true rfl) dX12_isMute_21
  · skip
    refine lv_iconst (v := 1) hx hb dX12_isMute_16 (by decide) ?_
    refine lv_goto (tgt := 21) hx hb dX12_isMute_17 (by decide) ?_
    exact sk_iret hx hb hr rfl hlocks hK hP hD hS (⟨1, Or.inr ⟨rfl, by rw [← ev_1]; exact c_2⟩, by omega, rfl, rfl⟩) (Nat.le_of_ble_eq_true rfl) (Nat.le_of_ble_eq_true rfl) dX12_isMute_21
