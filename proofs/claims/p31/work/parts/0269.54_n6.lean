def om_7_40 : List Bool := true :: false :: false :: false :: false :: false :: false :: []
set_option maxHeartbeats 4000000 in
set_option maxRecDepth 100000 in
theorem c_nm_goesBy1 (l : Launch) (D : va_G) (cI cJ cC cZ cS : ClassId) (mm : Nat) (g : Nat → Nat) (ta : Nat) (pa : Nat) (pe : Nat) (pd : Int32) (pb : Nat) (pp : Int32) (pf : Int32) (pg : Int32) (pn : Int32) (rt : Int32) (rn : Int32) (cd : Nat) (sn : Int32) (il : Nat) (tk : Int32) (am : Int32) (at_ : Int32) (aa : Int32) (wt : Int32) (wy : Int64) (rm : Nat) (ud : Nat) (nu : Nat) (sd : Int64) (qn : Nat) (qw : Nat) (qo : Int32) (qb : Nat) (qp : Nat) (qa : Int64) (qi : Nat) (oc : Nat) (l0 : Nat) (l1 : Nat) (dm : Nat) (l3 : Nat) (nw : Nat → Int32) (yo : Nat → Int32) (yw : Nat → Int32) (be : Nat → Int64) (pt : Nat → Nat) (wn : Nat) (mN : Nat) (Ba : Nat → Nat) (We : Nat → Nat) (U : Nat → Bool) (ke : Nat) (lg : KLg) (L : LkS) (nz : Nat) (hdm : dm ≤ 9) (hdm1 : 1 ≤ dm) (hbe : beOk (cfN nw yw yo 0) dm 0 be) (hcf : ∀ d, d < dm → ∀ a m, a < 10 → m < 10 → (cfN nw yw yo 0) d a m = (kcFo L wn Ba We U 0) d a m) (hwy : wy = Int64.ofNat (kcC (kcFo L wn Ba We U 0) dm 0 mN)) (hnx : nz < kcC (kcFo L wn Ba We U 0) dm 0 mN) (hnw : nwX wn mN Ba We U ke lg nw) (hpt : ∀ j, pt j ≤ 9) : skM l yX12_goesBy cX12_goesBy 3 none 4 91 0 0 D (skT cI cJ cC cZ cS) [.ref mm, .long (nL nz)] [(mm, .inr (12, mo g (nI ta) (nI pa) (nI pe) pd (nI pb) pp pf pg pn rt rn (nI cd) sn (nI il) tk am at_ aa 0 0 (-1) wt wy 1 (nI rm) (nI ud) (nI nu) sd (nI qn) (nI qw) qo (nI qb) (nI qp) qa (nI qi) (nI oc))), (g 20, .inl (cI, 4, .inl (l4 (nI l0) (nI l1) (nI dm) (nI l3)))), (g 31, .inl (cI, 120, .inl nw)), (g 37, .inl (cZ, 900, .inl yo)), (g 36, .inl (cZ, 900, .inl yw)), (g 43, .inl (cJ, 90, .inr (.inl be))), (g 46, .inl (cI, 9, .inl (fun j => nI (pt j))))] (skV D (skT cI cJ cC cZ cS) (fun (u : va_W) => ∃ (nw2 : Nat → Int32), ∃ (pt2 : Nat → Nat), nwX (wn + 1) (kLast L dm (wn, mN, Ba, We, U, ke) nz) Ba We U ke lg nw2 ∧ (∀ j, pt2 j ≤ 9) ∧ u = [(mm, .inr (12, mo g (nI ta) (nI pa) (nI pe) pd (nI pb) pp pf pg pn rt rn (nI cd) sn (nI il) tk am at_ aa 0 0 (-1) wt wy 1 (nI rm) (nI ud) (nI nu) sd (nI qn) (nI qw) qo (nI qb) (nI qp) qa (nI qi) (nI oc))), (g 20, .inl (cI, 4, .inl (l4 (nI l0) (nI l1) (nI dm) (nI l3)))), (g 31, .inl (cI, 120, .inl nw2)), (g 37, .inl (cZ, 900, .inl yo)), (g 36, .inl (cZ, 900, .inl yw)), (g 43, .inl (cJ, 90, .inr (.inl be))), (g 46, .inl (cI, 9, .inl (fun j => nI (pt2 j))))])) := by
  refine skM_of pf_X12_goesBy (Nat.le_of_ble_eq_true rfl) ?_
  intro p e s m below meth c A ls E hP hD hl
  refine skE_el E (fun hx hb hr hml hlocks hin hown hts hK hA => ?_)
  have hown : s.vm.findClass RX12 = some m.cls := hown
  have hS : va_S A s.heap s.heap [] := va_S.rf
  have hl : lv_has ls 3 [(0, .ref mm), (1, .long (nL nz))] := hl
  refine lv_aload_n hx hb dX12_goesBy_0 rfl (lv_at hl 0 rfl) ?_
  refine lv_lload_n hx hb dX12_goesBy_1 rfl (lv_at hl 1 rfl) ?_
  refine sk_Vv (q0 := 0) (n := 1) (rest := []) (wr := fmR om_7_7f _) ⟨hx, hb, hml, hown, hts⟩ hl.1 (c_nm_walksTo l D cI cJ cC cZ cS mm g ta pa pe pd pb pp pf pg pn rt rn cd sn il tk am at_ aa 0 wt wy 1 rm ud nu sd qn qw qo qb qp qa qi oc l0 l1 dm l3 nw yo yw be pt nz (by omega) (by omega) hbe (nuX hcf (nwX_a0 hnw) hnw.1 hnx) (nwX_ok hnw) hpt) w_7_217 w_7_219 w_0_88 w_1_14 w_7_220 hd_X12_walksTo_1 ⟨⟨(Nat.le_of_ble_eq_true rfl), (Nat.le_of_ble_eq_true rfl)⟩, (Nat.le_of_ble_eq_true rfl), (Nat.le_of_ble_eq_true rfl)⟩ hK hP hD hS hA (fmT om_7_7f 0) (fmF om_7_7f 0) (fm_C1 rfl rfl) (fm_R rfl rfl) (fm_nT om_7_7f 0) (fm_nF om_7_7f 0) (fm_di om_7_7f 0) rfl rfl rfl rfl (Nat.le_of_ble_eq_true rfl) dX12_goesBy_2 (fun u H locs hw hP hD hS => ?_)
  refine exE hw (fun pt2_1 hw1 => anE hw1 (fun hpw_2 hw2 => anE hw2 (fun hpt2_3 eu_4 => ?_)))
  clear hw hw1 hw2
  refine o_mgE (ws' := [(mm, .inr (12, mo g (nI ta) (nI pa) (nI pe) pd (nI pb) pp pf pg pn rt rn (nI cd) sn (nI il) tk am at_ aa 0 0 (-1) wt wy 1 (nI rm) (nI ud) (nI nu) sd (nI qn) (nI qw) qo (nI qb) (nI qp) qa (nI qi) (nI oc))), (g 20, .inl (cI, 4, .inl (l4 (nI l0) (nI l1) (nI dm) (nI l3)))), (g 31, .inl (cI, 120, .inl nw)), (g 37, .inl (cZ, 900, .inl yo)), (g 36, .inl (cZ, 900, .inl yw)), (g 43, .inl (cJ, 90, .inr (.inl be))), (g 46, .inl (cI, 9, .inl (fun j => nI (pt2_1 j))))]) eu_4 hP hD rfl (fun hP hD => ?_)
  have hpx := mpX hcf (nwX_a0 hnw) hnw.1 hnx hpw_2
  refine lv_aload_n hx hb dX12_goesBy_5 rfl (lv_at hl 0 rfl) ?_
  have hpl : pt2_1 (dm - 1) = kLast L dm (wn, mN, Ba, We, U, ke) nz := hpx (dm - 1) (by omega)
  refine sk_Vv (q0 := 0) (n := 0) (rest := []) (wr := fmR om_7_40 _) ⟨hx, hb, hml, hown, hts⟩ hl.1 (c_nm_isKept1 l D cI cJ cC cZ cS mm g ta pa pe pd pb pp pf pg pn rt rn cd sn il tk am at_ aa wt wy rm ud nu sd qn qw qo qb qp qa qi oc) w_8_21 w_8_23 w_0_94 w_1_14 w_8_24 hd_X12_isKept_0 ⟨⟨(Nat.le_of_ble_eq_true rfl), (Nat.le_of_ble_eq_true rfl)⟩, (Nat.le_of_ble_eq_true rfl), (Nat.le_of_ble_eq_true rfl)⟩ hK hP hD hS hA (fmT om_7_40 0) (fmF om_7_40 0) (fm_C1 rfl rfl) (fm_R rfl rfl) (fm_nT om_7_40 0) (fm_nF om_7_40 0) (fm_di om_7_40 0) rfl rfl rfl rfl (Nat.le_of_ble_eq_true rfl) dX12_goesBy_6 (fun u H locs hw hP hD hS => ?_)
  refine o_mgE (ws' := [(mm, .inr (12, mo g (nI ta) (nI pa) (nI pe) pd (nI pb) pp pf pg pn rt rn (nI cd) sn (nI il) tk am at_ aa 0 0 (-1) wt wy 1 (nI rm) (nI ud) (nI nu) sd (nI qn) (nI qw) qo (nI qb) (nI qp) qa (nI qi) (nI oc))), (g 20, .inl (cI, 4, .inl (l4 (nI l0) (nI l1) (nI dm) (nI l3)))), (g 31, .inl (cI, 120, .inl nw)), (g 37, .inl (cZ, 900, .inl yo)), (g 36, .inl (cZ, 900, .inl yw)), (g 43, .inl (cJ, 90, .inr (.inl be))), (g 46, .inl (cI, 9, .inl (fun j => nI (pt2_1 j))))]) hw hP hD rfl (fun hP hD => ?_)
  refine lv_aload_n hx hb dX12_goesBy_9 rfl (lv_at hl 0 rfl) ?_
  refine sk_get (v := .ref (g 31)) (C := RX12) (T := TX12) (N := 92) hx hb hts inlX12 hown hK hP 0 rfl rfl 31 (by decide) w_5_186 rfl dX12_goesBy_10 ?_
  refine lv_iconst (v := 1) hx hb dX12_goesBy_13 (by decide) ?_
  refine lv_aload_n hx hb dX12_goesBy_14 rfl (lv_at hl 0 rfl) ?_
  refine sk_get (v := .ref (g 46)) (C := RX12) (T := TX12) (N := 92) hx hb hts inlX12 hown hK hP 0 rfl rfl 46 (by decide) w_5_201 rfl dX12_goesBy_15 ?_
  refine lv_aload_n hx hb dX12_goesBy_18 rfl (lv_at hl 0 rfl) ?_
  refine sk_Vi (q0 := 0) (n := 0) (rest := [.ref (g 46), .int 1, .ref (g 31)]) (wr := fmR om_7_60 _) ⟨hx, hb, hml, hown, hts⟩ hl.1 (c_m_dayMany l D cI cJ cC cZ cS mm g ta pa pe pd pb pp pf pg pn rt rn cd sn il tk am at_ aa 0 0 (-1) wt wy 1 rm ud nu sd qn qw qo qb qp qa qi oc l0 l1 dm l3) w_7_98 w_7_100 w_0_69 w_1_14 w_7_101 hd_X12_dayMany_0 ⟨⟨(Nat.le_of_ble_eq_true rfl), (Nat.le_of_ble_eq_true rfl)⟩, (Nat.le_of_ble_eq_true rfl), (Nat.le_of_ble_eq_true rfl)⟩ hK hP hD hS hA (fmT om_7_60 0) (fmF om_7_60 0) (fm_C1 rfl rfl) (fm_R rfl rfl) (fm_nT om_7_60 0) (fm_nF om_7_60 0) (fm_di om_7_60 0) rfl rfl rfl rfl (Nat.le_of_ble_eq_true rfl) dX12_goesBy_19 (fun r_5 u H locs hw hP hD hS => ?_)
  refine anE hw (fun er_7 eu_6 => ?_)
  clear hw
  subst er_7
  refine o_mgE (ws' := [(mm, .inr (12, mo g (nI ta) (nI pa) (nI pe) pd (nI pb) pp pf pg pn rt rn (nI cd) sn (nI il) tk am at_ aa 0 0 (-1) wt wy 1 (nI rm) (nI ud) (nI nu) sd (nI qn) (nI qw) qo (nI qb) (nI qp) qa (nI qi) (nI oc))), (g 20, .inl (cI, 4, .inl (l4 (nI l0) (nI l1) (nI dm) (nI l3)))), (g 31, .inl (cI, 120, .inl nw)), (g 37, .inl (cZ, 900, .inl yo)), (g 36, .inl (cZ, 900, .inl yw)), (g 43, .inl (cJ, 90, .inr (.inl be))), (g 46, .inl (cI, 9, .inl (fun j => nI (pt2_1 j))))]) eu_6 hP hD rfl (fun hP hD => ?_)
  refine lv_iconst (v := 1) hx hb dX12_goesBy_22 (by decide) ?_
  refine lv_isub hx hb dX12_goesBy_23 ?_
  refine sk_top (nI (dm - 1)) (nsub dm 1 (by omega)) ?_
  refine va_iald hx hb hK.1 hP 6 0 rfl rfl (vin (dm - 1) 9 (by omega) (by omega)) dX12_goesBy_24 ?_
  refine sk_top (nI (pt2_1 (dm - 1))) (nrd pt2_1 (dm - 1) (by omega)) ?_
  have hb_8 := hpt2_3 (dm - 1)
  refine sk_iastE (k := 1) (x := (nI (pt2_1 (dm - 1)))) (ws' := fun f_9 => [(mm, .inr (12, mo g (nI ta) (nI pa) (nI pe) pd (nI pb) pp pf pg pn rt rn (nI cd) sn (nI il) tk am at_ aa 0 0 (-1) wt wy 1 (nI rm) (nI ud) (nI nu) sd (nI qn) (nI qw) qo (nI qb) (nI qp) qa (nI qi) (nI oc))), (g 20, .inl (cI, 4, .inl (l4 (nI l0) (nI l1) (nI dm) (nI l3)))), (g 31, .inl (cI, 120, .inl f_9)), (g 37, .inl (cZ, 900, .inl yo)), (g 36, .inl (cZ, 900, .inl yw)), (g 43, .inl (cJ, 90, .inr (.inl be))), (g 46, .inl (cI, 9, .inl (fun j => nI (pt2_1 j))))]) hx hb hK hP hD hS 2 0 rfl rfl (by omega) (by omega) (fun _ => rfl) dX12_goesBy_25 (fun f_9 H locs ef_10 hP hD hS => ?_)
  have hN_11 : nwX wn (pt2_1 (dm - 1)) Ba We U ke lg f_9 := nwX_up1 hnw ef_10 (by omega)
  refine lv_aload_n hx hb dX12_goesBy_26 rfl (lv_at hl 0 rfl) ?_
  refine sk_get (v := .ref (g 31)) (C := RX12) (T := TX12) (N := 92) hx hb hts inlX12 hown hK hP 0 rfl rfl 31 (by decide) w_5_186 rfl dX12_goesBy_27 ?_
  refine lv_iconst (v := 0) hx hb dX12_goesBy_30 (by decide) ?_
  refine lv_dup2_11 hx hb dX12_goesBy_31 rfl rfl ?_
  refine va_iald hx hb hK.1 hP 2 0 rfl rfl (by unfold vp_in; decide) dX12_goesBy_32 ?_
  refine sk_top (nI wn) (nwX_0 hN_11) ?_
  refine lv_iconst (v := 1) hx hb dX12_goesBy_33 (by decide) ?_
  refine lv_iadd hx hb dX12_goesBy_34 ?_
  refine sk_top (nI (wn + 1)) (nI_add wn 1) ?_
  refine sk_iastE (k := 0) (x := (nI (wn + 1))) (ws' := fun f_12 => [(mm, .inr (12, mo g (nI ta) (nI pa) (nI pe) pd (nI pb) pp pf pg pn rt rn (nI cd) sn (nI il) tk am at_ aa 0 0 (-1) wt wy 1 (nI rm) (nI ud) (nI nu) sd (nI qn) (nI qw) qo (nI qb) (nI qp) qa (nI qi) (nI oc))), (g 20, .inl (cI, 4, .inl (l4 (nI l0) (nI l1) (nI dm) (nI l3)))), (g 31, .inl (cI, 120, .inl f_12)), (g 37, .inl (cZ, 900, .inl yo)), (g 36, .inl (cZ, 900, .inl yw)), (g 43, .inl (cJ, 90, .inr (.inl be))), (g 46, .inl (cI, 9, .inl (fun j => nI (pt2_1 j))))]) hx hb hK hP hD hS 2 0 rfl rfl (by omega) (by omega) (fun _ => rfl) dX12_goesBy_35 (fun f_12 H locs ef_13 hP hD hS => ?_)
  have hN_14 : nwX (wn + 1) (kLast L dm (wn, mN, Ba, We, U, ke) nz) Ba We U ke lg f_12 := (by have h9 := nwX_up0 hN_11 ef_13; rw [hpl] at h9; exact h9)
  exact sk_vret hx hb hr hlocks hK hP hD hS (⟨f_12, pt2_1, hN_14, hpt2_3, rfl⟩) (Nat.le_of_ble_eq_true rfl) (Nat.le_of_ble_eq_true rfl) dX12_goesBy_36

