theorem dg_X12_goesBy_0_0 : bqL cX12_goesBy 0 [(0, [42]), (1, [31]), (2, [182, 1, 138]), (5, [42]), (6, [182, 1, 141]), (9, [42]), (10, [180, 0, 63]), (13, [4]), (14, [42]), (15, [180, 0, 89]), (18, [42]), (19, [182, 1, 59]), (22, [4]), (23, [100]), (24, [46]), (25, [79]), (26, [42]), (27, [180, 0, 63]), (30, [3]), (31, [92]), (32, [46]), (33, [4]), (34, [96]), (35, [79]), (36, [177])] = true := by decide +kernel
theorem dX12_goesBy_0 : decode cX12_goesBy 0 = .ok (.aload_n 0, 1) := q_aload_n0 (bat_get dg_X12_goesBy_0_0 0 rfl rfl)
theorem dX12_goesBy_1 : decode cX12_goesBy 1 = .ok (.lload_n 1, 1) := q_lload_n1 (bat_get dg_X12_goesBy_0_0 1 rfl rfl)
theorem dX12_goesBy_2 : decode cX12_goesBy 2 = .ok (.invokevirtual 394, 3) := q_invokevirtual (bat_get dg_X12_goesBy_0_0 2 rfl rfl) rfl
theorem dX12_goesBy_5 : decode cX12_goesBy 5 = .ok (.aload_n 0, 1) := q_aload_n0 (bat_get dg_X12_goesBy_0_0 3 rfl rfl)
theorem dX12_goesBy_6 : decode cX12_goesBy 6 = .ok (.invokevirtual 397, 3) := q_invokevirtual (bat_get dg_X12_goesBy_0_0 4 rfl rfl) rfl
theorem dX12_goesBy_9 : decode cX12_goesBy 9 = .ok (.aload_n 0, 1) := q_aload_n0 (bat_get dg_X12_goesBy_0_0 5 rfl rfl)
theorem dX12_goesBy_10 : decode cX12_goesBy 10 = .ok (.getfield 63, 3) := q_getfield (bat_get dg_X12_goesBy_0_0 6 rfl rfl) rfl
theorem dX12_goesBy_13 : decode cX12_goesBy 13 = .ok (.iconst 1, 1) := q_iconst1 (bat_get dg_X12_goesBy_0_0 7 rfl rfl)
theorem dX12_goesBy_14 : decode cX12_goesBy 14 = .ok (.aload_n 0, 1) := q_aload_n0 (bat_get dg_X12_goesBy_0_0 8 rfl rfl)
theorem dX12_goesBy_15 : decode cX12_goesBy 15 = .ok (.getfield 89, 3) := q_getfield (bat_get dg_X12_goesBy_0_0 9 rfl rfl) rfl
theorem dX12_goesBy_18 : decode cX12_goesBy 18 = .ok (.aload_n 0, 1) := q_aload_n0 (bat_get dg_X12_goesBy_0_0 10 rfl rfl)
theorem dX12_goesBy_19 : decode cX12_goesBy 19 = .ok (.invokevirtual 315, 3) := q_invokevirtual (bat_get dg_X12_goesBy_0_0 11 rfl rfl) rfl
theorem dX12_goesBy_22 : decode cX12_goesBy 22 = .ok (.iconst 1, 1) := q_iconst1 (bat_get dg_X12_goesBy_0_0 12 rfl rfl)
theorem dX12_goesBy_23 : decode cX12_goesBy 23 = .ok (.isub, 1) := q_isub (bat_get dg_X12_goesBy_0_0 13 rfl rfl)
theorem dX12_goesBy_24 : decode cX12_goesBy 24 = .ok (.iaload, 1) := q_iaload (bat_get dg_X12_goesBy_0_0 14 rfl rfl)
theorem dX12_goesBy_25 : decode cX12_goesBy 25 = .ok (.iastore, 1) := q_iastore (bat_get dg_X12_goesBy_0_0 15 rfl rfl)
theorem dX12_goesBy_26 : decode cX12_goesBy 26 = .ok (.aload_n 0, 1) := q_aload_n0 (bat_get dg_X12_goesBy_0_0 16 rfl rfl)
theorem dX12_goesBy_27 : decode cX12_goesBy 27 = .ok (.getfield 63, 3) := q_getfield (bat_get dg_X12_goesBy_0_0 17 rfl rfl) rfl
theorem dX12_goesBy_30 : decode cX12_goesBy 30 = .ok (.iconst 0, 1) := q_iconst0 (bat_get dg_X12_goesBy_0_0 18 rfl rfl)
theorem dX12_goesBy_31 : decode cX12_goesBy 31 = .ok (.dup2, 1) := q_dup2 (bat_get dg_X12_goesBy_0_0 19 rfl rfl)
theorem dX12_goesBy_32 : decode cX12_goesBy 32 = .ok (.iaload, 1) := q_iaload (bat_get dg_X12_goesBy_0_0 20 rfl rfl)
theorem dX12_goesBy_33 : decode cX12_goesBy 33 = .ok (.iconst 1, 1) := q_iconst1 (bat_get dg_X12_goesBy_0_0 21 rfl rfl)
theorem dX12_goesBy_34 : decode cX12_goesBy 34 = .ok (.iadd, 1) := q_iadd (bat_get dg_X12_goesBy_0_0 22 rfl rfl)
theorem dX12_goesBy_35 : decode cX12_goesBy 35 = .ok (.iastore, 1) := q_iastore (bat_get dg_X12_goesBy_0_0 23 rfl rfl)
theorem dX12_goesBy_36 : decode cX12_goesBy 36 = .ok (.return_, 1) := q_return_ (bat_get dg_X12_goesBy_0_0 24 rfl rfl)
theorem w_8_21 : (Cond.methodLink RX12 397 yX12_isKept) ∈ wsL_law := sk_mem (ck_8 _ (List.mem_of_getElem? (i := 21) rfl)) rfl
theorem w_8_23 : (Cond.instanceMethod yX12_isKept) ∈ wsL_law := sk_mem (ck_8 _ (List.mem_of_getElem? (i := 23) rfl)) rfl
theorem w_0_94 : (Cond.selects RX12 yX12_isKept yX12_isKept) ∈ wsL_law := sk_mem (ck_0 _ (List.mem_of_getElem? (i := 94) rfl)) rfl
theorem w_8_20 : (Cond.code yX12_goesBy cX12_goesBy 3 none) ∈ wsL_law := sk_mem (ck_8 _ (List.mem_of_getElem? (i := 20) rfl)) rfl
def om_7_71 : List Bool := true :: true :: true :: false :: false :: false :: true :: []
theorem hd_X12_isKept_0 : skD yX12_isKept 0 := by decide +kernel
set_option maxHeartbeats 4000000 in
set_option maxRecDepth 100000 in
theorem c_nm_goesBy0 (l : Launch) (D : va_G) (cI cJ cC cZ cS : ClassId) (mm : Nat) (g : Nat → Nat) (ta : Nat) (pa : Nat) (pe : Nat) (pd : Int32) (pb : Nat) (pp : Int32) (pf : Int32) (pg : Int32) (pn : Int32) (rt : Int32) (rn : Int32) (cd : Nat) (sn : Int32) (il : Nat) (tk : Int32) (am : Int32) (at_ : Int32) (aa : Int32) (wt : Int32) (wy : Int64) (rm : Nat) (ud : Nat) (nu : Nat) (sd : Int64) (qn : Nat) (qw : Nat) (qo : Int32) (qb : Nat) (qp : Nat) (qa : Int64) (qi : Nat) (oc : Nat) (l0 : Nat) (l1 : Nat) (dm : Nat) (l3 : Nat) (nw : Nat → Int32) (yo : Nat → Int32) (yw : Nat → Int32) (be : Nat → Int64) (pt : Nat → Nat) (wn : Nat) (mN : Nat) (Ba : Nat → Nat) (We : Nat → Nat) (U : Nat → Bool) (ke : Nat) (lg : KLg) (L : LkS) (nz : Nat) (hdm : dm ≤ 9) (hdm1 : 1 ≤ dm) (hbe : beOk (cfN nw yw yo 0) dm 0 be) (hcf : ∀ d, d < dm → ∀ a m, a < 10 → m < 10 → (cfN nw yw yo 0) d a m = (kcFo L wn Ba We U 0) d a m) (hwy : wy = Int64.ofNat (kcC (kcFo L wn Ba We U 0) dm 0 mN)) (hnx : nz < kcC (kcFo L wn Ba We U 0) dm 0 mN) (hnw : nwX wn mN Ba We U ke lg nw) (hpt : ∀ j, pt j ≤ 9) : skM l yX12_goesBy cX12_goesBy 3 none 4 91 0 0 D (skT cI cJ cC cZ cS) [.ref mm, .long (nL nz)] [(mm, .inr (12, mo g (nI ta) (nI pa) (nI pe) pd (nI pb) pp pf pg pn rt rn (nI cd) sn (nI il) tk am at_ aa 0 0 (-1) wt wy 0 (nI rm) (nI ud) (nI nu) sd (nI qn) (nI qw) qo (nI qb) (nI qp) qa (nI qi) (nI oc))), (g 20, .inl (cI, 4, .inl (l4 (nI l0) (nI l1) (nI dm) (nI l3)))), (g 31, .inl (cI, 120, .inl nw)), (g 37, .inl (cZ, 900, .inl yo)), (g 36, .inl (cZ, 900, .inl yw)), (g 43, .inl (cJ, 90, .inr (.inl be))), (g 46, .inl (cI, 9, .inl (fun j => nI (pt j))))] (skV D (skT cI cJ cC cZ cS) (fun (u : va_W) => ∃ (nw2 : Nat → Int32), ∃ (pt2 : Nat → Nat), nwX (wn + 1) (kLast L dm (wn, mN, Ba, We, U, ke) nz) Ba We U (ke + 1) (kKeep L dm (wn, mN, Ba, We, U, ke) lg nz) nw2 ∧ (∀ j, pt2 j ≤ 9) ∧ u = [(mm, .inr (12, mo g (nI ta) (nI pa) (nI pe) pd (nI pb) pp pf pg pn rt rn (nI cd) sn (nI il) tk am at_ aa 0 0 (-1) wt wy 0 (nI rm) (nI ud) (nI nu) sd (nI qn) (nI qw) qo (nI qb) (nI qp) qa (nI qi) (nI oc))), (g 20, .inl (cI, 4, .inl (l4 (nI l0) (nI l1) (nI dm) (nI l3)))), (g 31, .inl (cI, 120, .inl nw2)), (g 37, .inl (cZ, 900, .inl yo)), (g 36, .inl (cZ, 900, .inl yw)), (g 43, .inl (cJ, 90, .inr (.inl be))), (g 46, .inl (cI, 9, .inl (fun j => nI (pt2 j))))])) := by
  refine skM_of pf_X12_goesBy (Nat.le_of_ble_eq_true rfl) ?_
  intro p e s m below meth c A ls E hP hD hl
  refine skE_el E (fun hx hb hr hml hlocks hin hown hts hK hA => ?_)
  have hown : s.vm.findClass RX12 = some m.cls := hown
  have hS : va_S A s.heap s.heap [] := va_S.rf
  have hl : lv_has ls 3 [(0, .ref mm), (1, .long (nL nz))] := hl
  refine lv_aload_n hx hb dX12_goesBy_0 rfl (lv_at hl 0 rfl) ?_
  refine lv_lload_n hx hb dX12_goesBy_1 rfl (lv_at hl 1 rfl) ?_
  refine sk_Vv (q0 := 0) (n := 1) (rest := []) (wr := fmR om_7_7f _) ⟨hx, hb, hml, hown, hts⟩ hl.1 (c_nm_walksTo l D cI cJ cC cZ cS mm g ta pa pe pd pb pp pf pg pn rt rn cd sn il tk am at_ aa 0 wt wy 0 rm ud nu sd qn qw qo qb qp qa qi oc l0 l1 dm l3 nw yo yw be pt nz (by omega) (by omega) hbe (nuX hcf (nwX_a0 hnw) hnw.1 hnx) (nwX_ok hnw) hpt) w_7_217 w_7_219 w_0_88 w_1_14 w_7_220 hd_X12_walksTo_1 ⟨⟨(Nat.le_of_ble_eq_true rfl), (Nat.le_of_ble_eq_true rfl)⟩, (Nat.le_of_ble_eq_true rfl), (Nat.le_of_ble_eq_true rfl)⟩ hK hP hD hS hA (fmT om_7_7f 0) (fmF om_7_7f 0) (fm_C1 rfl rfl) (fm_R rfl rfl) (fm_nT om_7_7f 0) (fm_nF om_7_7f 0) (fm_di om_7_7f 0) rfl rfl rfl rfl (Nat.le_of_ble_eq_true rfl) dX12_goesBy_2 (fun u H locs hw hP hD hS => ?_)
  refine exE hw (fun pt2_1 hw1 => anE hw1 (fun hpw_2 hw2 => anE hw2 (fun hpt2_3 eu_4 => ?_)))
  clear hw hw1 hw2
  refine o_mgE (ws' := [(mm, .inr (12, mo g (nI ta) (nI pa) (nI pe) pd (nI pb) pp pf pg pn rt rn (nI cd) sn (nI il) tk am at_ aa 0 0 (-1) wt wy 0 (nI rm) (nI ud) (nI nu) sd (nI qn) (nI qw) qo (nI qb) (nI qp) qa (nI qi) (nI oc))), (g 20, .inl (cI, 4, .inl (l4 (nI l0) (nI l1) (nI dm) (nI l3)))), (g 31, .inl (cI, 120, .inl nw)), (g 37, .inl (cZ, 900, .inl yo)), (g 36, .inl (cZ, 900, .inl yw)), (g 43, .inl (cJ, 90, .inr (.inl be))), (g 46, .inl (cI, 9, .inl (fun j => nI (pt2_1 j))))]) eu_4 hP hD rfl (fun hP hD => ?_)
  have hpx := mpX hcf (nwX_a0 hnw) hnw.1 hnx hpw_2
  refine lv_aload_n hx hb dX12_goesBy_5 rfl (lv_at hl 0 rfl) ?_
  refine sk_Vv (q0 := 0) (n := 0) (rest := []) (wr := fmR om_7_71 _) ⟨hx, hb, hml, hown, hts⟩ hl.1 (c_nm_isKept l D cI cJ cC cZ cS mm g ta pa pe pd pb pp pf pg pn rt rn cd sn il tk am at_ aa wt wy rm ud nu sd qn qw qo qb qp qa qi oc l0 l1 dm l3 nw pt2_1 wn mN Ba We U ke lg (kcC (kcFo L wn Ba We U 0) dm 0 mN) (by omega) (by omega) hwy (kcC_9 _ (show dm ≤ 9 by omega) _ _) hnw hpt2_3) w_8_21 w_8_23 w_0_94 w_1_14 w_8_24 hd_X12_isKept_0 ⟨⟨(Nat.le_of_ble_eq_true rfl), (Nat.le_of_ble_eq_true rfl)⟩, (Nat.le_of_ble_eq_true rfl), (Nat.le_of_ble_eq_true rfl)⟩ hK hP hD hS hA (fmT om_7_71 0) (fmF om_7_71 0) (fm_C1 rfl rfl) (fm_R rfl rfl) (fm_nT om_7_71 0) (fm_nF om_7_71 0) (fm_di om_7_71 0) rfl rfl rfl rfl (Nat.le_of_ble_eq_true rfl) dX12_goesBy_6 (fun u H locs hw hP hD hS => ?_)
  refine exE hw (fun nw2_5 hw1 => anE hw1 (fun hnw2_6 eu_7 => ?_))
  clear hw hw1
  refine o_mgE (ws' := [(mm, .inr (12, mo g (nI ta) (nI pa) (nI pe) pd (nI pb) pp pf pg pn rt rn (nI cd) sn (nI il) tk am at_ aa 0 0 (-1) wt wy 0 (nI rm) (nI ud) (nI nu) sd (nI qn) (nI qw) qo (nI qb) (nI qp) qa (nI qi) (nI oc))), (g 20, .inl (cI, 4, .inl (l4 (nI l0) (nI l1) (nI dm) (nI l3)))), (g 31, .inl (cI, 120, .inl nw2_5)), (g 37, .inl (cZ, 900, .inl yo)), (g 36, .inl (cZ, 900, .inl yw)), (g 43, .inl (cJ, 90, .inr (.inl be))), (g 46, .inl (cI, 9, .inl (fun j => nI (pt2_1 j))))]) eu_7 hP hD rfl (fun hP hD => ?_)
  have hpl : pt2_1 (dm - 1) = kLast L dm (wn, mN, Ba, We, U, ke) nz := hpx (dm - 1) (by omega)
  refine lv_aload_n hx hb dX12_goesBy_9 rfl (lv_at hl 0 rfl) ?_
  refine sk_get (v := .ref (g 31)) (C := RX12) (T := TX12) (N := 92) hx hb hts inlX12 hown hK hP 0 rfl rfl 31 (by decide) w_5_186 rfl dX12_goesBy_10 ?_
  refine lv_iconst (v := 1) hx hb dX12_goesBy_13 (by decide) ?_
  refine lv_aload_n hx hb dX12_goesBy_14 rfl (lv_at hl 0 rfl) ?_
  refine sk_get (v := .ref (g 46)) (C := RX12) (T := TX12) (N := 92) hx hb hts inlX12 hown hK hP 0 rfl rfl 46 (by decide) w_5_201 rfl dX12_goesBy_15 ?_
  refine lv_aload_n hx hb dX12_goesBy_18 rfl (lv_at hl 0 rfl) ?_
  refine sk_Vi (q0 := 0) (n := 0) (rest := [.ref (g 46), .int 1, .ref (g 31)]) (wr := fmR om_7_60 _) ⟨hx, hb, hml, hown, hts⟩ hl.1 (c_m_dayMany l D cI cJ cC cZ cS mm g ta pa pe pd pb pp pf pg pn rt rn cd sn il tk am at_ aa 0 0 (-1) wt wy 0 rm ud nu sd qn qw qo qb qp qa qi oc l0 l1 dm l3) w_7_98 w_7_100 w_0_69 w_1_14 w_7_101 hd_X12_dayMany_0 ⟨⟨(Nat.le_of_ble_eq_true rfl), (Nat.le_of_ble_eq_true rfl)⟩, (Nat.le_of_ble_eq_true rfl), (Nat.le_of_ble_eq_true rfl)⟩ hK hP hD hS hA (fmT om_7_60 0) (fmF om_7_60 0) (fm_C1 rfl rfl) (fm_R rfl rfl) (fm_nT om_7_60 0) (fm_nF om_7_60 0) (fm_di om_7_60 0) rfl rfl rfl rfl (Nat.le_of_ble_eq_true rfl) dX12_goesBy_19 (fun r_8 u H locs hw hP hD hS => ?_)
  refine anE hw (fun er_10 eu_9 => ?_)
  clear hw
  subst er_10
  refine o_mgE (ws' := [(mm, .inr (12, mo g (nI ta) (nI pa) (nI pe) pd (nI pb) pp pf pg pn rt rn (nI cd) sn (nI il) tk am at_ aa 0 0 (-1) wt wy 0 (nI rm) (nI ud) (nI nu) sd (nI qn) (nI qw) qo (nI qb) (nI qp) qa (nI qi) (nI oc))), (g 20, .inl (cI, 4, .inl (l4 (nI l0) (nI l1) (nI dm) (nI l3)))), (g 31, .inl (cI, 120, .inl nw2_5)), (g 37, .inl (cZ, 900, .inl yo)), (g 36, .inl (cZ, 900, .inl yw)), (g 43, .inl (cJ, 90, .inr (.inl be))), (g 46, .inl (cI, 9, .inl (fun j => nI (pt2_1 j))))]) eu_9 hP hD rfl (fun hP hD => ?_)
  refine lv_iconst (v := 1) hx hb dX12_goesBy_22 (by decide) ?_
  refine lv_isub hx hb dX12_goesBy_23 ?_
  refine sk_top (nI (dm - 1)) (nsub dm 1 (by omega)) ?_
  refine va_iald hx hb hK.1 hP 6 0 rfl rfl (vin (dm - 1) 9 (by omega) (by omega)) dX12_goesBy_24 ?_
  refine sk_top (nI (pt2_1 (dm - 1))) (nrd pt2_1 (dm - 1) (by omega)) ?_
  have hb_11 := hpt2_3 (dm - 1)
  refine sk_iastE (k := 1) (x := (nI (pt2_1 (dm - 1)))) (ws' := fun f_12 => [(mm, .inr (12, mo g (nI ta) (nI pa) (nI pe) pd (nI pb) pp pf pg pn rt rn (nI cd) sn (nI il) tk am at_ aa 0 0 (-1) wt wy 0 (nI rm) (nI ud) (nI nu) sd (nI qn) (nI qw) qo (nI qb) (nI qp) qa (nI qi) (nI oc))), (g 20, .inl (cI, 4, .inl (l4 (nI l0) (nI l1) (nI dm) (nI l3)))), (g 31, .inl (cI, 120, .inl f_12)), (g 37, .inl (cZ, 900, .inl yo)), (g 36, .inl (cZ, 900, .inl yw)), (g 43, .inl (cJ, 90, .inr (.inl be))), (g 46, .inl (cI, 9, .inl (fun j => nI (pt2_1 j))))]) hx hb hK hP hD hS 2 0 rfl rfl (by omega) (by omega) (fun _ => rfl) dX12_goesBy_25 (fun f_12 H locs ef_13 hP hD hS => ?_)
  have hN_14 : nwX wn (pt2_1 (dm - 1)) Ba We U (ke + 1) (updG lg ke (wn, kcC (kcFo L wn Ba We U 0) dm 0 mN, pt2_1 (dm - 1))) f_12 := nwX_up1 hnw2_6 ef_13 (by omega)
  refine lv_aload_n hx hb dX12_goesBy_26 rfl (lv_at hl 0 rfl) ?_
  refine sk_get (v := .ref (g 31)) (C := RX12) (T := TX12) (N := 92) hx hb hts inlX12 hown hK hP 0 rfl rfl 31 (by decide) w_5_186 rfl dX12_goesBy_27 ?_
  refine lv_iconst (v := 0) hx hb dX12_goesBy_30 (by decide) ?_
  refine lv_dup2_11 hx hb dX12_goesBy_31 rfl rfl ?_
  refine va_iald hx hb hK.1 hP 2 0 rfl rfl (by unfold vp_in; decide) dX12_goesBy_32 ?_
  refine sk_top (nI wn) (nwX_0 hN_14) ?_
  refine lv_iconst (v := 1) hx hb dX12_goesBy_33 (by decide) ?_
  refine lv_iadd hx hb dX12_goesBy_34 ?_
  refine sk_top (nI (wn + 1)) (nI_add wn 1) ?_
  refine sk_iastE (k := 0) (x := (nI (wn + 1))) (ws' := fun f_15 => [(mm, .inr (12, mo g (nI ta) (nI pa) (nI pe) pd (nI pb) pp pf pg pn rt rn (nI cd) sn (nI il) tk am at_ aa 0 0 (-1) wt wy 0 (nI rm) (nI ud) (nI nu) sd (nI qn) (nI qw) qo (nI qb) (nI qp) qa (nI qi) (nI oc))), (g 20, .inl (cI, 4, .inl (l4 (nI l0) (nI l1) (nI dm) (nI l3)))), (g 31, .inl (cI, 120, .inl f_15)), (g 37, .inl (cZ, 900, .inl yo)), (g 36, .inl (cZ, 900, .inl yw)), (g 43, .inl (cJ, 90, .inr (.inl be))), (g 46, .inl (cI, 9, .inl (fun j => nI (pt2_1 j))))]) hx hb hK hP hD hS 2 0 rfl rfl (by omega) (by omega) (fun _ => rfl) dX12_goesBy_35 (fun f_15 H locs ef_16 hP hD hS => ?_)
  have hN_17 : nwX (wn + 1) (kLast L dm (wn, mN, Ba, We, U, ke) nz) Ba We U (ke + 1) (kKeep L dm (wn, mN, Ba, We, U, ke) lg nz) f_15 := (by have h9 := nwX_up0 hN_14 ef_16; rw [hpl] at h9; exact h9)
  exact sk_vret hx hb hr hlocks hK hP hD hS (⟨f_15, pt2_1, hN_17, hpt2_3, rfl⟩) (Nat.le_of_ble_eq_true rfl) (Nat.le_of_ble_eq_true rfl) dX12_goesBy_36
theorem dg_X12_isKept_7_7 : bqL cX12_isKept 7 [(0, [177])] = true := by decide +kernel
theorem dX12_isKept_7 : decode cX12_isKept 7 = .ok (.return_, 1) := q_return_ (bat_get dg_X12_isKept_7_7 0 rfl rfl)
set_option maxHeartbeats 4000000 in
set_option maxRecDepth 100000 in
theorem c_nm_isKept1 (l : Launch) (D : va_G) (cI cJ cC cZ cS : ClassId) (mm : Nat) (g : Nat → Nat) (ta : Nat) (pa : Nat) (pe : Nat) (pd : Int32) (pb : Nat) (pp : Int32) (pf : Int32) (pg : Int32) (pn : Int32) (rt : Int32) (rn : Int32) (cd : Nat) (sn : Int32) (il : Nat) (tk : Int32) (am : Int32) (at_ : Int32) (aa : Int32) (wt : Int32) (wy : Int64) (rm : Nat) (ud : Nat) (nu : Nat) (sd : Int64) (qn : Nat) (qw : Nat) (qo : Int32) (qb : Nat) (qp : Nat) (qa : Int64) (qi : Nat) (oc : Nat)  : skM l yX12_isKept cX12_isKept 2 none 0 0 0 0 D (skT cI cJ cC cZ cS) [.ref mm] [(mm, .inr (12, mo g (nI ta) (nI pa) (nI pe) pd (nI pb) pp pf pg pn rt rn (nI cd) sn (nI il) tk am at_ aa 0 0 (-1) wt wy 1 (nI rm) (nI ud) (nI nu) sd (nI qn) (nI qw) qo (nI qb) (nI qp) qa (nI qi) (nI oc)))] (skV D (skT cI cJ cC cZ cS) (fun (u : va_W) => u = [(mm, .inr (12, mo g (nI ta) (nI pa) (nI pe) pd (nI pb) pp pf pg pn rt rn (nI cd) sn (nI il) tk am at_ aa 0 0 (-1) wt wy 1 (nI rm) (nI ud) (nI nu) sd (nI qn) (nI qw) qo (nI qb) (nI qp) qa (nI qi) (nI oc)))])) := by
  refine skM_of pf_X12_isKept (Nat.le_of_ble_eq_true rfl) ?_
  intro p e s m below meth c A ls E hP hD hl
  refine skE_el E (fun hx hb hr hml hlocks hin hown hts hK hA => ?_)
  have hown : s.vm.findClass RX12 = some m.cls := hown
  have hS : va_S A s.heap s.heap [] := va_S.rf
  have hl : lv_has ls 2 [(0, .ref mm)] := hl
  refine lv_aload_n hx hb dX12_isKept_0 rfl (lv_at hl 0 rfl) ?_
  refine sk_get (v := .int 1) (C := RX12) (T := TX12) (N := 92) hx hb hts inlX12 hown hK hP 0 rfl rfl 47 (by decide) w_5_202 rfl dX12_isKept_1 ?_
  refine lv_if_eq (tgt := 8) hx hb dX12_isKept_4 (by decide) (fun c => absurd c (by decide)) (fun c_1 => ?_)
  exact sk_vret hx hb hr hlocks hK hP hD hS rfl (Nat.le_of_ble_eq_true rfl) (Nat.le_of_ble_eq_true rfl) dX12_isKept_7
