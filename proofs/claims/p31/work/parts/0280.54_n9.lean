theorem dX12_status_6 : decode cX12_status 6 = .ok (.invokestatic 238, 3) := q_invokestatic (bat_get dg_X12_status_0_0 4 rfl rfl) rfl
theorem dX12_status_9 : decode cX12_status 9 = .ok (.ifCond .eq 12, 3) := q_ifCond_eq (bat_get dg_X12_status_0_0 5 rfl rfl) rfl
theorem dX12_status_21 : decode cX12_status 21 = .ok (.iconst (-1), 1) := q_iconstm1 (bat_get dg_X12_status_0_0 6 rfl rfl)
theorem dX12_status_22 : decode cX12_status 22 = .ok (.ireturn, 1) := q_ireturn (bat_get dg_X12_status_0_0 7 rfl rfl)
theorem dX12_status_12 : decode cX12_status 12 = .ok (.aload_n 0, 1) := q_aload_n0 (bat_get dg_X12_status_0_0 8 rfl rfl)
theorem dX12_status_13 : decode cX12_status 13 = .ok (.getfield 17, 3) := q_getfield (bat_get dg_X12_status_0_0 9 rfl rfl) rfl
theorem dX12_status_16 : decode cX12_status 16 = .ok (.iload_n 1, 1) := q_iload_n1 (bat_get dg_X12_status_0_0 10 rfl rfl)
theorem dX12_status_17 : decode cX12_status 17 = .ok (.iaload, 1) := q_iaload (bat_get dg_X12_status_0_0 11 rfl rfl)
theorem dX12_status_18 : decode cX12_status 18 = .ok (.goto 4, 3) := q_goto (bat_get dg_X12_status_0_0 12 rfl rfl) rfl
theorem w_8_230 : (Cond.constantLong RX12 608 (5)) ∈ wsL_law := sk_mem (ck_8 _ (List.mem_of_getElem? (i := 230) rfl)) rfl
theorem w_8_229 : (Cond.code yX12_status cX12_status 2 (some .int)) ∈ wsL_law := sk_mem (ck_8 _ (List.mem_of_getElem? (i := 229) rfl)) rfl
set_option maxHeartbeats 4000000 in
set_option maxRecDepth 100000 in
theorem c_nm_status (l : Launch) (D : va_G) (cI cJ cC cZ cS : ClassId) (mm : Nat) (g : Nat → Nat) (ta : Nat) (pa : Nat) (pe : Nat) (pd : Int32) (pb : Nat) (pp : Int32) (pf : Int32) (pg : Int32) (pn : Int32) (rt : Int32) (rn : Int32) (cd : Nat) (sn : Int32) (il : Nat) (tk : Int32) (am : Int32) (at_ : Int32) (aa : Int32) (wt : Int32) (wy : Int64) (rm : Nat) (ud : Nat) (nu : Nat) (sd : Int64) (qn : Nat) (qw : Nat) (qo : Int32) (qb : Nat) (qp : Nat) (qa : Int64) (qi : Nat) (oc : Nat) (w : Int32) (rf : Nat → Int32)  : skM l yX12_status cX12_status 2 (some .int) 1 25 0 0 D (skT cI cJ cC cZ cS) [.ref mm, .int w] [(mm, .inr (12, mo g (nI ta) (nI pa) (nI pe) pd (nI pb) pp pf pg pn rt rn (nI cd) sn (nI il) tk am at_ aa 0 0 (-1) wt wy 0 (nI rm) (nI ud) (nI nu) sd (nI qn) (nI qw) qo (nI qb) (nI qp) qa (nI qi) (nI oc))), (g 9, .inl (cI, 6, .inl rf))] (skI D (skT cI cJ cC cZ cS) (fun (r : Int32) (u : va_W) => statR rf w r ∧ u = [(mm, .inr (12, mo g (nI ta) (nI pa) (nI pe) pd (nI pb) pp pf pg pn rt rn (nI cd) sn (nI il) tk am at_ aa 0 0 (-1) wt wy 0 (nI rm) (nI ud) (nI nu) sd (nI qn) (nI qw) qo (nI qb) (nI qp) qa (nI qi) (nI oc))), (g 9, .inl (cI, 6, .inl rf))])) := by
  refine skM_of pf_X12_status (Nat.le_of_ble_eq_true rfl) ?_
  intro p e s m below meth c A ls E hP hD hl
  refine skE_el E (fun hx hb hr hml hlocks hin hown hts hK hA => ?_)
  have hown : s.vm.findClass RX12 = some m.cls := hown
  have hS : va_S A s.heap s.heap [] := va_S.rf
  have hl : lv_has ls 2 [(0, .ref mm), (1, .int w)] := hl
  refine lv_iload_n hx hb dX12_status_0 rfl (lv_at hl 1 rfl) ?_
  refine lv_i2l hx hb dX12_status_1 rfl ?_
  refine lv_lconst (v := 0) hx hb dX12_status_2 (by decide) ?_
  refine lv_ldc2 (v := 5) hx hb hown (hts _ w_8_230) dX12_status_3 ?_
  refine sk_Si (n := 3) (rest := []) (wr := [(mm, .inr (12, mo g (nI ta) (nI pa) (nI pe) pd (nI pb) pp pf pg pn rt rn (nI cd) sn (nI il) tk am at_ aa 0 0 (-1) wt wy 0 (nI rm) (nI ud) (nI nu) sd (nI qn) (nI qw) qo (nI qb) (nI qp) qa (nI qi) (nI oc))), (g 9, .inl (cI, 6, .inl rf))]) ⟨hx, hb, hml, hown, hts⟩ hl.1 (c_nm_isIn l D cI cJ cC cZ cS (Int32.toInt64 w) 0 5) w_7_0 w_7_1 w_1_14 w_7_2 hd_X12_isIn_3 ⟨⟨(Nat.le_of_ble_eq_true rfl), (Nat.le_of_ble_eq_true rfl)⟩, (Nat.le_of_ble_eq_true rfl), (Nat.le_of_ble_eq_true rfl)⟩ hK hP hD hS hA [] [0, 1] rfl rfl (by decide +kernel) (by decide +kernel) (by decide +kernel) rfl rfl (Nat.le_of_ble_eq_true rfl) dX12_status_6 (fun r_2 u H locs hw hP hD hS => ?_)
  obtain ⟨b_1, hb1_3, rfl, rfl⟩ := hw
  refine o_re (ws' := [(mm, .inr (12, mo g (nI ta) (nI pa) (nI pe) pd (nI pb) pp pf pg pn rt rn (nI cd) sn (nI il) tk am at_ aa 0 0 (-1) wt wy 0 (nI rm) (nI ud) (nI nu) sd (nI qn) (nI qw) qo (nI qb) (nI qp) qa (nI qi) (nI oc))), (g 9, .inl (cI, 6, .inl rf))]) hP hD rfl (fun hP hD => ?_)
  refine lv_if_eq (tgt := 21) hx hb dX12_status_9 (by decide) (fun c_4 => ?_) (fun c_4 => ?_)
  · have c_4 : b_1 = 0 := (neq b_1 0 (by omega) (by omega)).mp c_4
    refine lv_iconst (v := (-1)) hx hb dX12_status_21 (by decide) ?_
    exact sk_iret hx hb hr rfl hlocks hK hP hD hS (⟨stat_n (fun hq => rr_0 hb1_3 (by omega) ((kin0 (n := 6) (by decide) (by omega)).mpr hq)), rfl⟩) (Nat.le_of_ble_eq_true rfl) (Nat.le_of_ble_eq_true rfl) dX12_status_22
  · have c_4 : ¬ (b_1 = 0) := fun h => c_4 ((neq b_1 0 (by omega) (by omega)).mpr h)
    obtain ⟨kd_5, hkd_5, rfl⟩ := (kin0 (n := 6) (by decide) (by omega)).mp (rr_1 hb1_3 (by omega))
    refine lv_aload_n hx hb dX12_status_12 rfl (lv_at hl 0 rfl) ?_
    refine sk_get (v := .ref (g 9)) (C := RX12) (T := TX12) (N := 92) hx hb hts inlX12 hown hK hP 0 rfl rfl 9 (by decide) w_5_164 rfl dX12_status_13 ?_
    refine lv_iload_n hx hb dX12_status_16 rfl (lv_at hl 1 rfl) ?_
    refine va_iald hx hb hK.1 hP 1 0 rfl rfl (vin kd_5 6 (by omega) (by omega)) dX12_status_17 ?_
    refine sk_top (rf kd_5) (by rw [nI_clamp (by omega)]) ?_
    refine lv_goto (tgt := 22) hx hb dX12_status_18 (by decide) ?_
    exact sk_iret hx hb hr rfl hlocks hK hP hD hS (⟨stat_y hkd_5 rfl, rfl⟩) (Nat.le_of_ble_eq_true rfl) (Nat.le_of_ble_eq_true rfl) dX12_status_22
theorem dg_X12_keeps_0_0 : bqL cX12_keeps 0 [(0, [42]), (1, [42]), (2, [180, 1, 215]), (5, [4]), (6, [96]), (7, [16, 20]), (9, [112]), (10, [181, 1, 215]), (13, [3]), (14, [60]), (15, [27]), (16, [16, 120]), (18, [162, 0, 29]), (47, [42]), (48, [180, 1, 53]), (51, [16, 20]), (53, [162, 0, 13]), (66, [177]), (56, [42]), (57, [89]), (58, [180, 1, 53]), (61, [4]), (62, [96]), (63, [181, 1, 53]), (21, [42]), (22, [180, 0, 107]), (25, [16, 120]), (27, [42]), (28, [180, 1, 215]), (31, [104]), (32, [27]), (33, [96]), (34, [42]), (35, [180, 0, 63]), (38, [27]), (39, [46]), (40, [79]), (41, [132, 1, 1]), (44, [167, 255, 227])] = true := by decide +kernel
theorem dX12_keeps_0 : decode cX12_keeps 0 = .ok (.aload_n 0, 1) := q_aload_n0 (bat_get dg_X12_keeps_0_0 0 rfl rfl)
theorem dX12_keeps_1 : decode cX12_keeps 1 = .ok (.aload_n 0, 1) := q_aload_n0 (bat_get dg_X12_keeps_0_0 1 rfl rfl)
theorem dX12_keeps_2 : decode cX12_keeps 2 = .ok (.getfield 471, 3) := q_getfield (bat_get dg_X12_keeps_0_0 2 rfl rfl) rfl
theorem dX12_keeps_5 : decode cX12_keeps 5 = .ok (.iconst 1, 1) := q_iconst1 (bat_get dg_X12_keeps_0_0 3 rfl rfl)
theorem dX12_keeps_6 : decode cX12_keeps 6 = .ok (.iadd, 1) := q_iadd (bat_get dg_X12_keeps_0_0 4 rfl rfl)
theorem dX12_keeps_7 : decode cX12_keeps 7 = .ok (.bipush 20, 2) := q_bipush (bat_get dg_X12_keeps_0_0 5 rfl rfl) rfl
theorem dX12_keeps_9 : decode cX12_keeps 9 = .ok (.irem, 1) := q_irem (bat_get dg_X12_keeps_0_0 6 rfl rfl)
theorem dX12_keeps_10 : decode cX12_keeps 10 = .ok (.putfield 471, 3) := q_putfield (bat_get dg_X12_keeps_0_0 7 rfl rfl) rfl
theorem dX12_keeps_13 : decode cX12_keeps 13 = .ok (.iconst 0, 1) := q_iconst0 (bat_get dg_X12_keeps_0_0 8 rfl rfl)
theorem dX12_keeps_14 : decode cX12_keeps 14 = .ok (.istore_n 1, 1) := q_istore_n1 (bat_get dg_X12_keeps_0_0 9 rfl rfl)
theorem dX12_keeps_15 : decode cX12_keeps 15 = .ok (.iload_n 1, 1) := q_iload_n1 (bat_get dg_X12_keeps_0_0 10 rfl rfl)
theorem dX12_keeps_16 : decode cX12_keeps 16 = .ok (.bipush 120, 2) := q_bipush (bat_get dg_X12_keeps_0_0 11 rfl rfl) rfl
theorem dX12_keeps_18 : decode cX12_keeps 18 = .ok (.if_icmp .ge 29, 3) := q_if_icmp_ge (bat_get dg_X12_keeps_0_0 12 rfl rfl) rfl
theorem dX12_keeps_47 : decode cX12_keeps 47 = .ok (.aload_n 0, 1) := q_aload_n0 (bat_get dg_X12_keeps_0_0 13 rfl rfl)
theorem dX12_keeps_48 : decode cX12_keeps 48 = .ok (.getfield 309, 3) := q_getfield (bat_get dg_X12_keeps_0_0 14 rfl rfl) rfl
theorem dX12_keeps_51 : decode cX12_keeps 51 = .ok (.bipush 20, 2) := q_bipush (bat_get dg_X12_keeps_0_0 15 rfl rfl) rfl
theorem dX12_keeps_53 : decode cX12_keeps 53 = .ok (.if_icmp .ge 13, 3) := q_if_icmp_ge (bat_get dg_X12_keeps_0_0 16 rfl rfl) rfl
theorem dX12_keeps_66 : decode cX12_keeps 66 = .ok (.return_, 1) := q_return_ (bat_get dg_X12_keeps_0_0 17 rfl rfl)
theorem dX12_keeps_56 : decode cX12_keeps 56 = .ok (.aload_n 0, 1) := q_aload_n0 (bat_get dg_X12_keeps_0_0 18 rfl rfl)
theorem dX12_keeps_57 : decode cX12_keeps 57 = .ok (.dup, 1) := q_dup (bat_get dg_X12_keeps_0_0 19 rfl rfl)
theorem dX12_keeps_58 : decode cX12_keeps 58 = .ok (.getfield 309, 3) := q_getfield (bat_get dg_X12_keeps_0_0 20 rfl rfl) rfl
theorem dX12_keeps_61 : decode cX12_keeps 61 = .ok (.iconst 1, 1) := q_iconst1 (bat_get dg_X12_keeps_0_0 21 rfl rfl)
theorem dX12_keeps_62 : decode cX12_keeps 62 = .ok (.iadd, 1) := q_iadd (bat_get dg_X12_keeps_0_0 22 rfl rfl)
theorem dX12_keeps_63 : decode cX12_keeps 63 = .ok (.putfield 309, 3) := q_putfield (bat_get dg_X12_keeps_0_0 23 rfl rfl) rfl
theorem dX12_keeps_21 : decode cX12_keeps 21 = .ok (.aload_n 0, 1) := q_aload_n0 (bat_get dg_X12_keeps_0_0 24 rfl rfl)
theorem dX12_keeps_22 : decode cX12_keeps 22 = .ok (.getfield 107, 3) := q_getfield (bat_get dg_X12_keeps_0_0 25 rfl rfl) rfl
theorem dX12_keeps_25 : decode cX12_keeps 25 = .ok (.bipush 120, 2) := q_bipush (bat_get dg_X12_keeps_0_0 26 rfl rfl) rfl
theorem dX12_keeps_27 : decode cX12_keeps 27 = .ok (.aload_n 0, 1) := q_aload_n0 (bat_get dg_X12_keeps_0_0 27 rfl rfl)
theorem dX12_keeps_28 : decode cX12_keeps 28 = .ok (.getfield 471, 3) := q_getfield (bat_get dg_X12_keeps_0_0 28 rfl rfl) rfl
theorem dX12_keeps_31 : decode cX12_keeps 31 = .ok (.imul, 1) := q_imul (bat_get dg_X12_keeps_0_0 29 rfl rfl)
theorem dX12_keeps_32 : decode cX12_keeps 32 = .ok (.iload_n 1, 1) := q_iload_n1 (bat_get dg_X12_keeps_0_0 30 rfl rfl)
theorem dX12_keeps_33 : decode cX12_keeps 33 = .ok (.iadd, 1) := q_iadd (bat_get dg_X12_keeps_0_0 31 rfl rfl)
theorem dX12_keeps_34 : decode cX12_keeps 34 = .ok (.aload_n 0, 1) := q_aload_n0 (bat_get dg_X12_keeps_0_0 32 rfl rfl)
theorem dX12_keeps_35 : decode cX12_keeps 35 = .ok (.getfield 63, 3) := q_getfield (bat_get dg_X12_keeps_0_0 33 rfl rfl) rfl
theorem dX12_keeps_38 : decode cX12_keeps 38 = .ok (.iload_n 1, 1) := q_iload_n1 (bat_get dg_X12_keeps_0_0 34 rfl rfl)
theorem dX12_keeps_39 : decode cX12_keeps 39 = .ok (.iaload, 1) := q_iaload (bat_get dg_X12_keeps_0_0 35 rfl rfl)
theorem dX12_keeps_40 : decode cX12_keeps 40 = .ok (.iastore, 1) := q_iastore (bat_get dg_X12_keeps_0_0 36 rfl rfl)
theorem dX12_keeps_41 : decode cX12_keeps 41 = .ok (.iinc 1 1, 3) := q_iinc (bat_get dg_X12_keeps_0_0 37 rfl rfl) rfl
theorem dX12_keeps_44 : decode cX12_keeps 44 = .ok (.goto (-29), 3) := q_goto (bat_get dg_X12_keeps_0_0 38 rfl rfl) rfl
theorem w_5_211 : (Cond.fieldLink RX12 471 "SameKeeperModel" "newest" "I") ∈ wsL_law := sk_mem (ck_5 _ (List.mem_of_getElem? (i := 211) rfl)) rfl
theorem w_5_209 : (Cond.fieldLink RX12 107 "SameKeeperModel" "kept0" "[I") ∈ wsL_law := sk_mem (ck_5 _ (List.mem_of_getElem? (i := 209) rfl)) rfl
theorem w_8_133 : (Cond.code yX12_keeps cX12_keeps 2 none) ∈ wsL_law := sk_mem (ck_8 _ (List.mem_of_getElem? (i := 133) rfl)) rfl
set_option maxHeartbeats 4000000 in
set_option maxRecDepth 100000 in
theorem c_nm_keeps (l : Launch) (D : va_G) (cI cJ cC cZ cS : ClassId) (mm : Nat) (g : Nat → Nat) (ta : Nat) (pa : Nat) (pe : Nat) (pd : Int32) (pb : Nat) (pp : Int32) (pf : Int32) (pg : Int32) (pn : Int32) (rt : Int32) (rn : Int32) (cd : Nat) (sn : Int32) (il : Nat) (tk : Int32) (am : Int32) (at_ : Int32) (aa : Int32) (wt : Int32) (wy : Int64) (rm : Nat) (ud : Nat) (nu : Nat) (sd : Int64) (qn : Nat) (qw : Nat) (qo : Int32) (qb : Nat) (qp : Nat) (qa : Int64) (qi : Nat) (oc : Nat) (nw : Nat → Int32) (kp : Nat → Int32) (wn : Nat) (mN : Nat) (Ba : Nat → Nat) (We : Nat → Nat) (U : Nat → Bool) (ke : Nat) (lg : KLg) (su : Nat → KN) (hnu : nu < 20) (hud : ud ≤ 20) (hnw : nwX wn mN Ba We U ke lg nw) (hkp : kpX ud nu su lg kp) : skM l yX12_keeps cX12_keeps 2 none 0 0 0 0 D (skT cI cJ cC cZ cS) [.ref mm] [(mm, .inr (12, mo g (nI ta) (nI pa) (nI pe) pd (nI pb) pp pf pg pn rt rn (nI cd) sn (nI il) tk am at_ aa 0 0 (-1) wt wy 0 (nI rm) (nI ud) (nI nu) sd (nI qn) (nI qw) qo (nI qb) (nI qp) qa (nI qi) (nI oc))), (g 31, .inl (cI, 120, .inl nw)), (g 54, .inl (cI, 2400, .inl kp))] (skV D (skT cI cJ cC cZ cS) (fun (u : va_W) => ∃ (kp2 : Nat → Int32), ∃ (ud2 : Nat), ud2 = min (ud + 1) 20 ∧ kpX ud2 ((nu + 1) % 20) (psh ud su (wn, mN, Ba, We, U, ke)) lg kp2 ∧ u = [(mm, .inr (12, mo g (nI ta) (nI pa) (nI pe) pd (nI pb) pp pf pg pn rt rn (nI cd) sn (nI il) tk am at_ aa 0 0 (-1) wt wy 0 (nI rm) (nI ud2) (nI ((nu + 1) % 20)) sd (nI qn) (nI qw) qo (nI qb) (nI qp) qa (nI qi) (nI oc))), (g 31, .inl (cI, 120, .inl nw)), (g 54, .inl (cI, 2400, .inl kp2))])) := by
  refine skM_of pf_X12_keeps (Nat.le_of_ble_eq_true rfl) ?_
  intro p e s m below meth c A ls E hP hD hl
  refine skE_el E (fun hx hb hr hml hlocks hin hown hts hK hA => ?_)
  have hown : s.vm.findClass RX12 = some m.cls := hown
  have hS : va_S A s.heap s.heap [] := va_S.rf
  have hl : lv_has ls 2 [(0, .ref mm)] := hl
  refine lv_aload_n hx hb dX12_keeps_0 rfl (lv_at hl 0 rfl) ?_
  refine lv_aload_n hx hb dX12_keeps_1 rfl (lv_at hl 0 rfl) ?_
  refine sk_get (v := .int (nI nu)) (C := RX12) (T := TX12) (N := 92) hx hb hts inlX12 hown hK hP 0 rfl rfl 56 (by decide) w_5_211 rfl dX12_keeps_2 ?_
  refine lv_iconst (v := 1) hx hb dX12_keeps_5 (by decide) ?_
  refine lv_iadd hx hb dX12_keeps_6 ?_
  refine sk_top (nI (nu + 1)) (nI_add nu 1) ?_
  refine lv_bipush (v := 20) hx hb dX12_keeps_7 (by decide) ?_
  refine lv_irem hx hb dX12_keeps_9 (by decide) ?_
  refine sk_top (nI ((nu + 1) % 20)) (nrem (nu + 1) 20 (by omega) (by omega) (by omega)) ?_
  refine sk_put (ws' := [(mm, .inr (12, mo g (nI ta) (nI pa) (nI pe) pd (nI pb) pp pf pg pn rt rn (nI cd) sn (nI il) tk am at_ aa 0 0 (-1) wt wy 0 (nI rm) (nI ud) (nI ((nu + 1) % 20)) sd (nI qn) (nI qw) qo (nI qb) (nI qp) qa (nI qi) (nI oc))), (g 31, .inl (cI, 120, .inl nw)), (g 54, .inl (cI, 2400, .inl kp))]) (C := RX12) (T := TX12) (N := 92) (v := .int (nI ((nu + 1) % 20))) hx hb hts inlX12 tyX12 tyX12_ok nmX12 hown hK hP hD hS 0 rfl rfl 56 (by decide) w_5_211 rfl rfl rfl (Nat.le_of_ble_eq_true rfl) rfl dX12_keeps_10 (fun H locs hP hD hS => ?_)
  refine lv_iconst (v := 0) hx hb dX12_keeps_13 (by decide) ?_
  refine lv_istore_n (lv' := [(1, .int 0), (0, .ref mm)]) hx hb dX12_keeps_14 rfl hl (by decide) rfl (fun ls hl => ?_)
  have lp_1 : ∀ (n_2 : Nat) (i : Nat) (zk : Nat → Int32) (H : Heap) (locs : List Loc) (ls : Array Slot), 120 - i < n_2 → (i ≤ 120) → (kcp (120 * ((nu + 1) % 20)) i kp nw zk) → va_P D vwCl [(mm, .inr (12, mo g (nI ta) (nI pa) (nI pe) pd (nI pb) pp pf pg pn rt rn (nI cd) sn (nI il) tk am at_ aa 0 0 (-1) wt wy 0 (nI rm) (nI ud) (nI ((nu + 1) % 20)) sd (nI qn) (nI qw) qo (nI qb) (nI qp) qa (nI qi) (nI oc))), (g 31, .inl (cI, 120, .inl nw)), (g 54, .inl (cI, 2400, .inl zk))] H → va_D A [(mm, .inr (12, mo g (nI ta) (nI pa) (nI pe) pd (nI pb) pp pf pg pn rt rn (nI cd) sn (nI il) tk am at_ aa 0 0 (-1) wt wy 0 (nI rm) (nI ud) (nI ((nu + 1) % 20)) sd (nI qn) (nI qw) qo (nI qb) (nI qp) qa (nI qi) (nI oc))), (g 31, .inl (cI, 120, .inl nw)), (g 54, .inl (cI, 2400, .inl zk))] → va_S A s.heap H locs → lv_has ls 2 [(1, .int (nI i)), (0, .ref mm)] → W p l e { frames := 0, cells := 0, slots := 0, locals := 0 } s m ([.ref mm] : List Value).toArray below meth c H locs 0 0 (MQ below (skV D (skT cI cJ cC cZ cS) (fun (u : va_W) => ∃ (kp2 : Nat → Int32), ∃ (ud2 : Nat), ud2 = min (ud + 1) 20 ∧ kpX ud2 ((nu + 1) % 20) (psh ud su (wn, mN, Ba, We, U, ke)) lg kp2 ∧ u = [(mm, .inr (12, mo g (nI ta) (nI pa) (nI pe) pd (nI pb) pp pf pg pn rt rn (nI cd) sn (nI il) tk am at_ aa 0 0 (-1) wt wy 0 (nI rm) (nI ud2) (nI ((nu + 1) % 20)) sd (nI qn) (nI qw) qo (nI qb) (nI qp) qa (nI qi) (nI oc))), (g 31, .inl (cI, 120, .inl nw)), (g 54, .inl (cI, 2400, .inl kp2))]) A) ([.ref mm] : List Value).toArray s 0 0 A) (F0 m 15 ls []) := by
    intro n_2
    induction n_2 with
    | zero => intro i zk H locs ls hm; exact absurd hm (Nat.not_lt_zero _)
    | succ n_2 ih_lp_1 =>
      intro i zk H locs ls hm hi hcp hP hD hS hl
      refine lv_iload_n hx hb dX12_keeps_15 rfl (lv_at hl 0 rfl) ?_
      refine lv_bipush (v := 120) hx hb dX12_keeps_16 (by decide) ?_
      refine lv_icmp_ge (tgt := 47) hx hb dX12_keeps_18 (by decide) (fun c_3 => ?_) (fun c_3 => ?_)
      · have c_3 : 120 ≤ i := (nle 120 i (by omega) (by omega)).mp c_3
        have hcp2 := hcp
        rw [show i = 120 by omega] at hcp2
        refine lv_aload_n hx hb dX12_keeps_47 rfl (lv_at hl 1 rfl) ?_
        refine sk_get (v := .int (nI ud)) (C := RX12) (T := TX12) (N := 92) hx hb hts inlX12 hown hK hP 0 rfl rfl 55 (by decide) w_5_210 rfl dX12_keeps_48 ?_
        refine lv_bipush (v := 20) hx hb dX12_keeps_51 (by decide) ?_
        refine lv_icmp_ge (tgt := 66) hx hb dX12_keeps_53 (by decide) (fun c_4 => ?_) (fun c_4 => ?_)
        · have c_4 : 20 ≤ ud := (nle 20 ud (by omega) (by omega)).mp c_4
          have heu : ud = min (ud + 1) 20 := by omega
          have hkN : kpX ud ((nu + 1) % 20) (psh ud su (wn, mN, Ba, We, U, ke)) lg zk := (by have h9 := kpX_push (n := (wn, mN, Ba, We, U, ke)) hkp hnw hnu hud (fun k hk => hcp2.1 k (by omega)) hcp2.2; rw [← heu] at h9; exact h9)
          exact sk_vret hx hb hr hlocks hK hP hD hS (⟨zk, ud, by omega, hkN, rfl⟩) (Nat.le_of_ble_eq_true rfl) (Nat.le_of_ble_eq_true rfl) dX12_keeps_66
        · have c_4 : ¬ (20 ≤ ud) := fun h => c_4 ((nle 20 ud (by omega) (by omega)).mpr h)
          refine lv_aload_n hx hb dX12_keeps_56 rfl (lv_at hl 1 rfl) ?_
          refine lv_dup hx hb dX12_keeps_57 rfl ?_
          refine sk_get (v := .int (nI ud)) (C := RX12) (T := TX12) (N := 92) hx hb hts inlX12 hown hK hP 0 rfl rfl 55 (by decide) w_5_210 rfl dX12_keeps_58 ?_
          refine lv_iconst (v := 1) hx hb dX12_keeps_61 (by decide) ?_
          refine lv_iadd hx hb dX12_keeps_62 ?_
          refine sk_top (nI (ud + 1)) (nI_add ud 1) ?_
          refine sk_put (ws' := [(mm, .inr (12, mo g (nI ta) (nI pa) (nI pe) pd (nI pb) pp pf pg pn rt rn (nI cd) sn (nI il) tk am at_ aa 0 0 (-1) wt wy 0 (nI rm) (nI (ud + 1)) (nI ((nu + 1) % 20)) sd (nI qn) (nI qw) qo (nI qb) (nI qp) qa (nI qi) (nI oc))), (g 31, .inl (cI, 120, .inl nw)), (g 54, .inl (cI, 2400, .inl zk))]) (C := RX12) (T := TX12) (N := 92) (v := .int (nI (ud + 1))) hx hb hts inlX12 tyX12 tyX12_ok nmX12 hown hK hP hD hS 0 rfl rfl 55 (by decide) w_5_210 rfl rfl rfl (Nat.le_of_ble_eq_true rfl) rfl dX12_keeps_63 (fun H locs hP hD hS => ?_)
          have heu : ud + 1 = min (ud + 1) 20 := by omega
          have hkN : kpX (ud + 1) ((nu + 1) % 20) (psh ud su (wn, mN, Ba, We, U, ke)) lg zk := (by have h9 := kpX_push (n := (wn, mN, Ba, We, U, ke)) hkp hnw hnu hud (fun k hk => hcp2.1 k (by omega)) hcp2.2; rw [← heu] at h9; exact h9)
          exact sk_vret hx hb hr hlocks hK hP hD hS (⟨zk, ud + 1, by omega, hkN, rfl⟩) (Nat.le_of_ble_eq_true rfl) (Nat.le_of_ble_eq_true rfl) dX12_keeps_66
      · have c_3 : ¬ (120 ≤ i) := fun h => c_3 ((nle 120 i (by omega) (by omega)).mpr h)
        refine lv_aload_n hx hb dX12_keeps_21 rfl (lv_at hl 1 rfl) ?_
        refine sk_get (v := .ref (g 54)) (C := RX12) (T := TX12) (N := 92) hx hb hts inlX12 hown hK hP 0 rfl rfl 54 (by decide) w_5_209 rfl dX12_keeps_22 ?_
        refine lv_bipush (v := 120) hx hb dX12_keeps_25 (by decide) ?_
        refine lv_aload_n hx hb dX12_keeps_27 rfl (lv_at hl 1 rfl) ?_
        refine sk_get (v := .int (nI ((nu + 1) % 20))) (C := RX12) (T := TX12) (N := 92) hx hb hts inlX12 hown hK hP 0 rfl rfl 56 (by decide) w_5_211 rfl dX12_keeps_28 ?_
        refine lv_imul hx hb dX12_keeps_31 ?_
        refine sk_top (nI (120 * ((nu + 1) % 20))) (nmul 120 ((nu + 1) % 20)) ?_
        refine lv_iload_n hx hb dX12_keeps_32 rfl (lv_at hl 0 rfl) ?_
        refine lv_iadd hx hb dX12_keeps_33 ?_
        refine sk_top (nI (120 * ((nu + 1) % 20) + i)) (nI_add (120 * ((nu + 1) % 20)) i) ?_
        refine lv_aload_n hx hb dX12_keeps_34 rfl (lv_at hl 1 rfl) ?_
        refine sk_get (v := .ref (g 31)) (C := RX12) (T := TX12) (N := 92) hx hb hts inlX12 hown hK hP 0 rfl rfl 31 (by decide) w_5_186 rfl dX12_keeps_35 ?_
        refine lv_iload_n hx hb dX12_keeps_38 rfl (lv_at hl 0 rfl) ?_
        refine va_iald hx hb hK.1 hP 1 0 rfl rfl (vin i 120 (by omega) (by omega)) dX12_keeps_39 ?_
        refine sk_top (nw i) (by rw [nI_clamp (by omega)]) ?_
        refine sk_iastE (k := (120 * ((nu + 1) % 20) + i)) (x := (nw i)) (ws' := fun f_5 => [(mm, .inr (12, mo g (nI ta) (nI pa) (nI pe) pd (nI pb) pp pf pg pn rt rn (nI cd) sn (nI il) tk am at_ aa 0 0 (-1) wt wy 0 (nI rm) (nI ud) (nI ((nu + 1) % 20)) sd (nI qn) (nI qw) qo (nI qb) (nI qp) qa (nI qi) (nI oc))), (g 31, .inl (cI, 120, .inl nw)), (g 54, .inl (cI, 2400, .inl f_5))]) hx hb hK hP hD hS 2 0 rfl rfl (by omega) (by omega) (fun _ => rfl) dX12_keeps_40 (fun f_5 H locs ef_6 hP hD hS => ?_)
        refine lv_iinc (v := nI (i + 1)) (lv' := [(1, .int (nI (i + 1))), (0, .ref mm)]) hx hb dX12_keeps_41 hl (k := 0) rfl (ninc i 1 (by decide)) (by decide) rfl (fun ls hl => ?_)
        refine lv_goto (tgt := 15) hx hb dX12_keeps_44 (by decide) ?_
        exact ih_lp_1 (i + 1) f_5 _ _ _ (by omega) (by omega) (kcp_s hcp ef_6 rfl (by omega)) hP hD hS (lv_sub hl [0, 1] rfl)
  exact lp_1 (120 - 0 + 1) 0 kp _ _ _ (Nat.lt_succ_self _) (by omega) (kcp_0 _ _ _) hP hD hS (lv_sub hl [0, 1] rfl)
