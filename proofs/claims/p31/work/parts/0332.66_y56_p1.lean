set_option maxHeartbeats 4000000 in
set_option maxRecDepth 100000 in
theorem c_em_takes (l : Launch) (D : va_G) (cI cJ cC cZ cS : ClassId) (mm : Nat) (g : Nat → Nat) (ta : Nat) (pa : Nat) (pe : Nat) (pd : Int32) (pb : Nat) (pp : Int32) (pf : Int32) (pg : Int32) (pn : Int32) (rt : Int32) (rn : Int32) (cd : Nat) (sn : Int32) (il : Nat) (tk : Int32) (am : Int32) (at_ : Int32) (aa : Int32) (wt : Int32) (wy : Int64) (rm : Nat) (ud : Nat) (nu : Nat) (sd : Int64) (qn : Nat) (qw : Nat) (qo : Int32) (qb : Nat) (qp : Nat) (qa : Int64) (qi : Nat) (oc : Nat) (tb : Nat → Nat) (h1 : Nat) (L : Nat) (wv : List Nat) (og : Except Err Cur) (hpa : pa ≤ pe) (hpe : pe ≤ 1600) (hpb : pb ≤ 5) (hL : 1 ≤ L) (hL2 : L ≤ 10) (hwl : wv.length = L) (hwb : ∀ j, wv.getD j 0 ≤ 255) (hO : moO tb pe og pa pd pb pp) (htb : ∀ j, tb j ≤ 255) : skM l yX12_takes cX12_takes 2 (some .boolean) 2 43 0 0 D (skT cI cJ cC cZ cS) [.ref mm, .ref h1] [(mm, .inr (12, mo g (nI ta) (nI pa) (nI pe) pd (nI pb) pp pf pg pn rt rn (nI cd) sn (nI il) tk am at_ aa 0 0 (-1) wt wy 0 (nI rm) (nI ud) (nI nu) sd (nI qn) (nI qw) qo (nI qb) (nI qp) qa (nI qi) (nI oc))), (g 0, .inl (cI, 1600, .inl (fun j => nI (tb j)))), (h1, .inl (cC, L, .inl (cw wv)))] (skI D (skT cI cJ cC cZ cS) (fun (r : Int32) (u : va_W) => ∃ (b : Nat), ∃ (pa2 : Nat), ∃ (pd2 : Int32), pa ≤ pa2 ∧ pa2 ≤ pe ∧ (b = 0 ∨ (b = 1 ∧ pb = 0 ∧ pa + L ≤ pa2)) ∧ ((b = 0 ∧ (pb = 0 → pa2 = sk tb pe pa ∧ isW tb pe wv (cuO tb pe pa pd) = false) ∧ moO tb pe og pa2 pd2 pb pp) ∨ (b = 1 ∧ pb = 0 ∧ isW tb pe wv (cuO tb pe pa pd) = true ∧ moO tb pe (bindR og (nxF tb pe)) pa2 pd2 pb pp)) ∧ r = nI b ∧ u = [(mm, .inr (12, mo g (nI ta) (nI pa2) (nI pe) pd2 (nI pb) pp pf pg pn rt rn (nI cd) sn (nI il) tk am at_ aa 0 0 (-1) wt wy 0 (nI rm) (nI ud) (nI nu) sd (nI qn) (nI qw) qo (nI qb) (nI qp) qa (nI qi) (nI oc))), (g 0, .inl (cI, 1600, .inl (fun j => nI (tb j)))), (h1, .inl (cC, L, .inl (cw wv)))])) := by
  refine skM_of pf_X12_takes (Nat.le_of_ble_eq_true rfl) ?_
  intro p e s m below meth c A ls E hP hD hl
  refine skE_el E (fun hx hb hr hml hlocks hin hown hts hK hA => ?_)
  have hown : s.vm.findClass RX12 = some m.cls := hown
  have hS : va_S A s.heap s.heap [] := va_S.rf
  have hl : lv_has ls 2 [(0, .ref mm), (1, .ref h1)] := hl
  refine lv_aload_n hx hb dX12_takes_0 rfl (lv_at hl 0 rfl) ?_
  refine lv_aload_n hx hb dX12_takes_1 rfl (lv_at hl 1 rfl) ?_
  refine sk_Vi (q0 := 0) (n := 1) (rest := []) (wr := fmR om_3_7 _) ⟨hx, hb, hml, hown, hts⟩ hl.1 (c_em_isHere l D cI cJ cC cZ cS mm g ta pa pe pd pb pp pf pg pn rt rn cd sn il tk am at_ aa wt wy rm ud nu sd qn qw qo qb qp qa qi oc tb h1 L wv (by omega) (by omega) (by omega) (by omega) (by omega) hwl hwb htb) w_6_218 w_6_220 w_0_44 w_1_14 w_6_221 hd_X12_isHere_1 ⟨⟨(Nat.le_of_ble_eq_true rfl), (Nat.le_of_ble_eq_true rfl)⟩, (Nat.le_of_ble_eq_true rfl), (Nat.le_of_ble_eq_true rfl)⟩ hK hP hD hS hA (fmT om_3_7 0) (fmF om_3_7 0) (fm_C1 rfl rfl) (fm_R rfl rfl) (fm_nT om_3_7 0) (fm_nF om_3_7 0) (fm_di om_3_7 0) rfl rfl rfl rfl (Nat.le_of_ble_eq_true rfl) dX12_takes_2 (fun r_3 u H locs hw hP hD hS => ?_)
  refine exE hw (fun b_1 hw1 => exE hw1 (fun pa2_2 hw2 => anE hw2 (fun hpa2_4 hw3 => anE hw3 (fun hpa3_5 hw4 => anE hw4 (fun hst_6 hw5 => anE hw5 (fun hb1_7 hw6 => anE hw6 (fun hsk_8 hw7 => anE hw7 (fun hW_9 hw8 => anE hw8 (fun er_11 eu_10 => ?_)))))))))
  clear hw hw1 hw2 hw3 hw4 hw5 hw6 hw7 hw8
  subst er_11
  refine o_mgE (ws' := [(mm, .inr (12, mo g (nI ta) (nI pa2_2) (nI pe) pd (nI pb) pp pf pg pn rt rn (nI cd) sn (nI il) tk am at_ aa 0 0 (-1) wt wy 0 (nI rm) (nI ud) (nI nu) sd (nI qn) (nI qw) qo (nI qb) (nI qp) qa (nI qi) (nI oc))), (g 0, .inl (cI, 1600, .inl (fun j => nI (tb j)))), (h1, .inl (cC, L, .inl (cw wv)))]) eu_10 hP hD rfl (fun hP hD => ?_)
  refine lv_if_ne (tgt := 10) hx hb dX12_takes_5 (by decide) (fun c_12 => ?_) (fun c_12 => ?_)
  · have c_12 : ¬ (b_1 = 0) := fun h => c_12 ((neq b_1 0 (by omega) (by omega)).mpr h)
    refine lv_aload_n hx hb dX12_takes_10 rfl (lv_at hl 0 rfl) ?_
    refine lv_dup hx hb dX12_takes_11 rfl ?_
    refine sk_get (v := .int (nI pa2_2)) (C := RX12) (T := TX12) (N := 92) hx hb hts inlX12 hown hK hP 0 rfl rfl 2 (by decide) w_5_157 rfl dX12_takes_12 ?_
    refine lv_aload_n hx hb dX12_takes_15 rfl (lv_at hl 1 rfl) ?_
    refine va_alen (v := nI L) hx hb hK.1 hP 2 2 rfl rfl rfl dX12_takes_16 ?_
    refine lv_iadd hx hb dX12_takes_17 ?_
    refine sk_top (nI (pa2_2 + L)) (nI_add pa2_2 L) ?_
    refine sk_put (ws' := [(mm, .inr (12, mo g (nI ta) (nI (pa2_2 + L)) (nI pe) pd (nI pb) pp pf pg pn rt rn (nI cd) sn (nI il) tk am at_ aa 0 0 (-1) wt wy 0 (nI rm) (nI ud) (nI nu) sd (nI qn) (nI qw) qo (nI qb) (nI qp) qa (nI qi) (nI oc))), (g 0, .inl (cI, 1600, .inl (fun j => nI (tb j)))), (h1, .inl (cC, L, .inl (cw wv)))]) (C := RX12) (T := TX12) (N := 92) (v := .int (nI (pa2_2 + L))) hx hb hts inlX12 tyX12 tyX12_ok nmX12 hown hK hP hD hS 0 rfl rfl 2 (by decide) w_5_157 rfl rfl rfl (Nat.le_of_ble_eq_true rfl) rfl dX12_takes_18 (fun H locs hP hD hS => ?_)
    refine lv_aload_n hx hb dX12_takes_21 rfl (lv_at hl 0 rfl) ?_
    refine lv_aload_n hx hb dX12_takes_22 rfl (lv_at hl 0 rfl) ?_
    refine sk_get (v := .int (nI (pa2_2 + L))) (C := RX12) (T := TX12) (N := 92) hx hb hts inlX12 hown hK hP 0 rfl rfl 2 (by decide) w_5_157 rfl dX12_takes_23 ?_
    refine sk_put (ws' := [(mm, .inr (12, mo g (nI ta) (nI (pa2_2 + L)) (nI pe) (nI (pa2_2 + L)) (nI pb) pp pf pg pn rt rn (nI cd) sn (nI il) tk am at_ aa 0 0 (-1) wt wy 0 (nI rm) (nI ud) (nI nu) sd (nI qn) (nI qw) qo (nI qb) (nI qp) qa (nI qi) (nI oc))), (g 0, .inl (cI, 1600, .inl (fun j => nI (tb j)))), (h1, .inl (cC, L, .inl (cw wv)))]) (C := RX12) (T := TX12) (N := 92) (v := .int (nI (pa2_2 + L))) hx hb hts inlX12 tyX12 tyX12_ok nmX12 hown hK hP hD hS 0 rfl rfl 4 (by decide) w_5_159 rfl rfl rfl (Nat.le_of_ble_eq_true rfl) rfl dX12_takes_26 (fun H locs hP hD hS => ?_)
    refine lv_iconst (v := 1) hx hb dX12_takes_29 (by decide) ?_
    exact sk_iret hx hb hr rfl hlocks hK hP hD hS (⟨1, pa2_2 + L, nI (pa2_2 + L), by omega, by omega, by omega, (Or.inr ⟨rfl, by omega, (rr_1 hW_9 (by omega)).2, mo_takeW hO (by omega) hpe (rr_1 hW_9 (by omega)).2 (by rw [(hsk_8.resolve_right (fun z => z.1 (by omega))).2, hwl]) rfl⟩), rfl, rfl⟩) (Nat.le_of_ble_eq_true rfl) (Nat.le_of_ble_eq_true rfl) dX12_takes_30
  · have c_12 : b_1 = 0 := (neq b_1 0 (by omega) (by omega)).mp c_12
    refine lv_iconst (v := 0) hx hb dX12_takes_8 (by decide) ?_
    exact sk_iret hx hb hr rfl hlocks hK hP hD hS (⟨0, pa2_2, pd, by omega, by omega, by omega, (Or.inl ⟨rfl, fun hq => ⟨(hsk_8.resolve_right (fun z => z.1 hq)).2, rr_0 hW_9 (by omega) hq⟩, mo_here hO hsk_8⟩), rfl, rfl⟩) (Nat.le_of_ble_eq_true rfl) (Nat.le_of_ble_eq_true rfl) dX12_takes_9
set_option maxHeartbeats 4000000 in
set_option maxRecDepth 100000 in
theorem c_em_asks (l : Launch) (D : va_G) (cI cJ cC cZ cS : ClassId) (mm : Nat) (g : Nat → Nat) (ta : Nat) (pa : Nat) (pe : Nat) (pd : Int32) (pb : Nat) (pp : Int32) (pf : Int32) (pg : Int32) (pn : Int32) (rt : Int32) (rn : Int32) (cd : Nat) (sn : Int32) (il : Nat) (tk : Int32) (am : Int32) (at_ : Int32) (aa : Int32) (wt : Int32) (wy : Int64) (rm : Nat) (ud : Nat) (nu : Nat) (sd : Int64) (qn : Nat) (qw : Nat) (qo : Int32) (qb : Nat) (qp : Nat) (qa : Int64) (qi : Nat) (oc : Nat) (tb : Nat → Nat) (h1 : Nat) (L : Nat) (wv : List Nat) (og : Except Err Cur) (hpa : pa ≤ pe) (hpe : pe ≤ 1600) (hpb : pb ≤ 5) (hL : 1 ≤ L) (hL2 : L ≤ 10) (hwl : wv.length = L) (hwb : ∀ j, wv.getD j 0 ≤ 255) (hO : moO tb pe og pa pd pb pp) (htb : ∀ j, tb j ≤ 255) : skM l yX12_asks cX12_asks 2 none 3 64 0 0 D (skT cI cJ cC cZ cS) [.ref mm, .ref h1] [(mm, .inr (12, mo g (nI ta) (nI pa) (nI pe) pd (nI pb) pp pf pg pn rt rn (nI cd) sn (nI il) tk am at_ aa 0 0 (-1) wt wy 0 (nI rm) (nI ud) (nI nu) sd (nI qn) (nI qw) qo (nI qb) (nI qp) qa (nI qi) (nI oc))), (g 0, .inl (cI, 1600, .inl (fun j => nI (tb j)))), (h1, .inl (cC, L, .inl (cw wv)))] (skV D (skT cI cJ cC cZ cS) (fun (u : va_W) => ∃ (pa2 : Nat), ∃ (pd2 : Int32), ∃ (pb2 : Nat), ∃ (pp2 : Int32), pa ≤ pa2 ∧ pa2 ≤ pe ∧ pb2 ≤ 5 ∧ (¬ pb2 = 0 ∨ (pb = 0 ∧ pa + L ≤ pa2)) ∧ moO tb pe (bindR og (wordP tb pe wv)) pa2 pd2 pb2 pp2 ∧ u = [(mm, .inr (12, mo g (nI ta) (nI pa2) (nI pe) pd2 (nI pb2) pp2 pf pg pn rt rn (nI cd) sn (nI il) tk am at_ aa 0 0 (-1) wt wy 0 (nI rm) (nI ud) (nI nu) sd (nI qn) (nI qw) qo (nI qb) (nI qp) qa (nI qi) (nI oc))), (g 0, .inl (cI, 1600, .inl (fun j => nI (tb j)))), (h1, .inl (cC, L, .inl (cw wv)))])) := by
  refine skM_of pf_X12_asks (Nat.le_of_ble_eq_true rfl) ?_
  intro p e s m below meth c A ls E hP hD hl
  refine skE_el E (fun hx hb hr hml hlocks hin hown hts hK hA => ?_)
  have hown : s.vm.findClass RX12 = some m.cls := hown
  have hS : va_S A s.heap s.heap [] := va_S.rf
  have hl : lv_has ls 2 [(0, .ref mm), (1, .ref h1)] := hl
  refine lv_aload_n hx hb dX12_asks_0 rfl (lv_at hl 0 rfl) ?_
  refine sk_get (v := .int (nI pb)) (C := RX12) (T := TX12) (N := 92) hx hb hts inlX12 hown hK hP 0 rfl rfl 5 (by decide) w_5_160 rfl dX12_asks_1 ?_
  refine lv_if_ne (tgt := 24) hx hb dX12_asks_4 (by decide) (fun c_1 => ?_) (fun c_1 => ?_)
  · have c_1 : ¬ (pb = 0) := fun h => c_1 ((neq pb 0 (by omega) (by omega)).mpr h)
    exact sk_vret hx hb hr hlocks hK hP hD hS (⟨pa, pd, pb, pp, by omega, by omega, by omega, by omega, mo_er hO c_1, rfl⟩) (Nat.le_of_ble_eq_true rfl) (Nat.le_of_ble_eq_true rfl) dX12_asks_24
  · have c_1 : pb = 0 := (neq pb 0 (by omega) (by omega)).mp c_1
    refine lv_aload_n hx hb dX12_asks_7 rfl (lv_at hl 0 rfl) ?_
    refine lv_aload_n hx hb dX12_asks_8 rfl (lv_at hl 1 rfl) ?_
    refine sk_Vi (q0 := 0) (n := 1) (rest := []) (wr := fmR om_3_7 _) ⟨hx, hb, hml, hown, hts⟩ hl.1 (c_em_takes l D cI cJ cC cZ cS mm g ta pa pe pd pb pp pf pg pn rt rn cd sn il tk am at_ aa wt wy rm ud nu sd qn qw qo qb qp qa qi oc tb h1 L wv og (by omega) (by omega) (by omega) (by omega) (by omega) hwl hwb hO htb) w_6_214 w_6_216 w_0_43 w_1_14 w_6_217 hd_X12_takes_1 ⟨⟨(Nat.le_of_ble_eq_true rfl), (Nat.le_of_ble_eq_true rfl)⟩, (Nat.le_of_ble_eq_true rfl), (Nat.le_of_ble_eq_true rfl)⟩ hK hP hD hS hA (fmT om_3_7 0) (fmF om_3_7 0) (fm_C1 rfl rfl) (fm_R rfl rfl) (fm_nT om_3_7 0) (fm_nF om_3_7 0) (fm_di om_3_7 0) rfl rfl rfl rfl (Nat.le_of_ble_eq_true rfl) dX12_asks_9 (fun r_5 u H locs hw hP hD hS => ?_)
    refine exE hw (fun b_2 hw1 => exE hw1 (fun pa2_3 hw2 => exE hw2 (fun pd2_4 hw3 => anE hw3 (fun hpa2_6 hw4 => anE hw4 (fun hpa3_7 hw5 => anE hw5 (fun hb1_8 hw6 => anE hw6 (fun hT_9 hw7 => anE hw7 (fun er_11 eu_10 => ?_))))))))
    clear hw hw1 hw2 hw3 hw4 hw5 hw6 hw7
    subst er_11
    refine o_mgE (ws' := [(mm, .inr (12, mo g (nI ta) (nI pa2_3) (nI pe) pd2_4 (nI pb) pp pf pg pn rt rn (nI cd) sn (nI il) tk am at_ aa 0 0 (-1) wt wy 0 (nI rm) (nI ud) (nI nu) sd (nI qn) (nI qw) qo (nI qb) (nI qp) qa (nI qi) (nI oc))), (g 0, .inl (cI, 1600, .inl (fun j => nI (tb j)))), (h1, .inl (cC, L, .inl (cw wv)))]) eu_10 hP hD rfl (fun hP hD => ?_)
    refine lv_if_ne (tgt := 24) hx hb dX12_asks_12 (by decide) (fun c_12 => ?_) (fun c_12 => ?_)
    · have c_12 : ¬ (b_2 = 0) := fun h => c_12 ((neq b_2 0 (by omega) (by omega)).mpr h)
      exact sk_vret hx hb hr hlocks hK hP hD hS (⟨pa2_3, pd2_4, pb, pp, by omega, by omega, by omega, by omega, mo_swap hO (fun _ => (mo_asks2 (rr_1 hT_9 (by omega)).2.1).symm) (rr_1 hT_9 (by omega)).2.2, rfl⟩) (Nat.le_of_ble_eq_true rfl) (Nat.le_of_ble_eq_true rfl) dX12_asks_24
    · have c_12 : b_2 = 0 := (neq b_2 0 (by omega) (by omega)).mp c_12
      refine lv_aload_n hx hb dX12_asks_15 rfl (lv_at hl 0 rfl) ?_
      refine lv_iconst (v := 1) hx hb dX12_asks_16 (by decide) ?_
      refine lv_aload_n hx hb dX12_asks_17 rfl (lv_at hl 0 rfl) ?_
      refine sk_get (v := .int (nI pa2_3)) (C := RX12) (T := TX12) (N := 92) hx hb hts inlX12 hown hK hP 0 rfl rfl 2 (by decide) w_5_157 rfl dX12_asks_18 ?_
      refine sk_Vv (q0 := 0) (n := 2) (rest := []) (wr := fmR om_3_4 _) ⟨hx, hb, hml, hown, hts⟩ hl.1 (c_em_fail l D cI cJ cC cZ cS mm g ta pa2_3 pe pd2_4 pb pp pf pg pn rt rn cd sn il tk am at_ aa wt wy rm ud nu sd qn qw qo qb qp qa qi oc 1 (nI pa2_3) (by omega) (by omega) (by omega)) w_6_229 w_6_231 w_0_46 w_1_14 w_6_232 hd_X12_fail_2 ⟨⟨(Nat.le_of_ble_eq_true rfl), (Nat.le_of_ble_eq_true rfl)⟩, (Nat.le_of_ble_eq_true rfl), (Nat.le_of_ble_eq_true rfl)⟩ hK hP hD hS hA (fmT om_3_4 0) (fmF om_3_4 0) (fm_C1 rfl rfl) (fm_R rfl rfl) (fm_nT om_3_4 0) (fm_nF om_3_4 0) (fm_di om_3_4 0) rfl rfl rfl rfl (Nat.le_of_ble_eq_true rfl) dX12_asks_21 (fun u H locs hw hP hD hS => ?_)
      refine exE hw (fun pb2_13 hw1 => exE hw1 (fun pp2_14 hw2 => anE hw2 (fun hpb2_15 hw3 => anE hw3 (fun hpb3_16 hw4 => anE hw4 (fun hfl_17 eu_18 => ?_)))))
      clear hw hw1 hw2 hw3 hw4
      refine o_mgE (ws' := [(mm, .inr (12, mo g (nI ta) (nI pa2_3) (nI pe) pd2_4 (nI pb2_13) pp2_14 pf pg pn rt rn (nI cd) sn (nI il) tk am at_ aa 0 0 (-1) wt wy 0 (nI rm) (nI ud) (nI nu) sd (nI qn) (nI qw) qo (nI qb) (nI qp) qa (nI qi) (nI oc))), (g 0, .inl (cI, 1600, .inl (fun j => nI (tb j)))), (h1, .inl (cC, L, .inl (cw wv)))]) eu_18 hP hD rfl (fun hP hD => ?_)
      exact sk_vret hx hb hr hlocks hK hP hD hS (⟨pa2_3, pd2_4, pb2_13, pp2_14, by omega, by omega, by omega, by omega, (by have hq := (hT_9.resolve_right (fun z => absurd z.1 (by omega))).2.1 (by omega); have hf := (hfl_17.resolve_right (fun z => z.1 (by omega))).2; rw [hf.1, hf.2, hq.1]; exact mo_fail hO (by omega) (by decide) (by decide) (mo_asks1 hq.2)), rfl⟩) (Nat.le_of_ble_eq_true rfl) (Nat.le_of_ble_eq_true rfl) dX12_asks_24
set_option maxHeartbeats 4000000 in
set_option maxRecDepth 100000 in
theorem c_em_takesSign (l : Launch) (D : va_G) (cI cJ cC cZ cS : ClassId) (mm : Nat) (g : Nat → Nat) (ta : Nat) (pa : Nat) (pe : Nat) (pd : Int32) (pb : Nat) (pp : Int32) (pf : Int32) (pg : Int32) (pn : Int32) (rt : Int32) (rn : Int32) (cd : Nat) (sn : Int32) (il : Nat) (tk : Int32) (am : Int32) (at_ : Int32) (aa : Int32) (wt : Int32) (wy : Int64) (rm : Nat) (ud : Nat) (nu : Nat) (sd : Int64) (qn : Nat) (qw : Nat) (qo : Int32) (qb : Nat) (qp : Nat) (qa : Int64) (qi : Nat) (oc : Nat) (w : Nat) (tb : Nat → Nat) (og : Except Err Cur) (hpa : pa ≤ pe) (hpe : pe ≤ 1600) (hpb : pb ≤ 5) (hw : w ≤ 255) (hws : w < 256 ∧ ¬ (97 ≤ w ∧ w ≤ 122) ∧ ¬ (48 ≤ w ∧ w ≤ 57)) (hO : moO tb pe og pa pd pb pp) (htb : ∀ j, tb j ≤ 255) : skM l yX12_takesSign cX12_takesSign 2 (some .boolean) 1 20 0 0 D (skT cI cJ cC cZ cS) [.ref mm, .int (nI w)] [(mm, .inr (12, mo g (nI ta) (nI pa) (nI pe) pd (nI pb) pp pf pg pn rt rn (nI cd) sn (nI il) tk am at_ aa 0 0 (-1) wt wy 0 (nI rm) (nI ud) (nI nu) sd (nI qn) (nI qw) qo (nI qb) (nI qp) qa (nI qi) (nI oc))), (g 0, .inl (cI, 1600, .inl (fun j => nI (tb j))))] (skI D (skT cI cJ cC cZ cS) (fun (r : Int32) (u : va_W) => ∃ (b : Nat), ∃ (pa2 : Nat), pa ≤ pa2 ∧ pa2 ≤ pe ∧ (b = 0 ∨ (b = 1 ∧ pb = 0 ∧ pa + 1 ≤ pa2)) ∧ ((b = 0 ∧ (pb = 0 → pa2 = sk tb pe pa ∧ ¬ isS tb pe w (cuO tb pe pa pd) = true) ∧ moO tb pe og pa2 pd pb pp) ∨ (b = 1 ∧ pb = 0 ∧ isS tb pe w (cuO tb pe pa pd) = true ∧ moO tb pe (bindR og (nxF tb pe)) pa2 pd pb pp ∧ pa2 = sk tb pe pa + 1)) ∧ r = nI b ∧ u = [(mm, .inr (12, mo g (nI ta) (nI pa2) (nI pe) pd (nI pb) pp pf pg pn rt rn (nI cd) sn (nI il) tk am at_ aa 0 0 (-1) wt wy 0 (nI rm) (nI ud) (nI nu) sd (nI qn) (nI qw) qo (nI qb) (nI qp) qa (nI qi) (nI oc))), (g 0, .inl (cI, 1600, .inl (fun j => nI (tb j))))])) := by
  refine skM_of pf_X12_takesSign (Nat.le_of_ble_eq_true rfl) ?_
  intro p e s m below meth c A ls E hP hD hl
  refine skE_el E (fun hx hb hr hml hlocks hin hown hts hK hA => ?_)
  have hown : s.vm.findClass RX12 = some m.cls := hown
  have hS : va_S A s.heap s.heap [] := va_S.rf
  have hl : lv_has ls 2 [(0, .ref mm), (1, .int (nI w))] := hl
  refine lv_aload_n hx hb dX12_takesSign_0 rfl (lv_at hl 0 rfl) ?_
  refine sk_get (v := .int (nI pb)) (C := RX12) (T := TX12) (N := 92) hx hb hts inlX12 hown hK hP 0 rfl rfl 5 (by decide) w_5_160 rfl dX12_takesSign_1 ?_
  refine lv_if_ne (tgt := 15) hx hb dX12_takesSign_4 (by decide) (fun c_1 => ?_) (fun c_1 => ?_)
  · have c_1 : ¬ (pb = 0) := fun h => c_1 ((neq pb 0 (by omega) (by omega)).mpr h)
    refine lv_iconst (v := 0) hx hb dX12_takesSign_15 (by decide) ?_
    exact sk_iret hx hb hr rfl hlocks hK hP hD hS (⟨0, pa, by omega, by omega, by omega, (Or.inl ⟨rfl, fun hq => absurd hq c_1, hO⟩), rfl, rfl⟩) (Nat.le_of_ble_eq_true rfl) (Nat.le_of_ble_eq_true rfl) dX12_takesSign_16
  · have c_1 : pb = 0 := (neq pb 0 (by omega) (by omega)).mp c_1
    refine lv_aload_n hx hb dX12_takesSign_7 rfl (lv_at hl 0 rfl) ?_
    refine sk_Vi (q0 := 0) (n := 0) (rest := []) (wr := fmR om_2_3 _) ⟨hx, hb, hml, hown, hts⟩ hl.1 (c_em_look l D cI cJ cC cZ cS mm g ta pa pe pd pb pp pf pg pn rt rn cd sn il tk am at_ aa wt wy rm ud nu sd qn qw qo qb qp qa qi oc tb (by omega) (by omega) htb) w_6_222 w_6_224 w_0_45 w_1_14 w_6_225 hd_X12_look_0 ⟨⟨(Nat.le_of_ble_eq_true rfl), (Nat.le_of_ble_eq_true rfl)⟩, (Nat.le_of_ble_eq_true rfl), (Nat.le_of_ble_eq_true rfl)⟩ hK hP hD hS hA (fmT om_2_3 0) (fmF om_2_3 0) (fm_C1 rfl rfl) (fm_R rfl rfl) (fm_nT om_2_3 0) (fm_nF om_2_3 0) (fm_di om_2_3 0) rfl rfl rfl rfl (Nat.le_of_ble_eq_true rfl) dX12_takesSign_8 (fun r_3 u H locs hw hP hD hS => ?_)
    refine exE hw (fun pa2_2 hw1 => anE hw1 (fun hpa2_4 hw2 => anE hw2 (fun hpa3_5 hw3 => anE hw3 (fun hlk_6 hw4 => anE hw4 (fun hst_7 hw5 => anE hw5 (fun hsk_8 eu_9 => ?_))))))
    clear hw hw1 hw2 hw3 hw4 hw5
    refine o_mgE (ws' := [(mm, .inr (12, mo g (nI ta) (nI pa2_2) (nI pe) pd (nI pb) pp pf pg pn rt rn (nI cd) sn (nI il) tk am at_ aa 0 0 (-1) wt wy 0 (nI rm) (nI ud) (nI nu) sd (nI qn) (nI qw) qo (nI qb) (nI qp) qa (nI qi) (nI oc))), (g 0, .inl (cI, 1600, .inl (fun j => nI (tb j))))]) eu_9 hP hD rfl (fun hP hD => ?_)
    refine lv_iload_n hx hb dX12_takesSign_11 rfl (lv_at hl 1 rfl) ?_
    refine lv_icmp_eq (tgt := 17) hx hb dX12_takesSign_12 (by decide) (fun c_10 => ?_) (fun c_10 => ?_)
    · have hq_11 := lk_at hlk_6 htb (w := w) (by omega) c_10
      refine lv_aload_n hx hb dX12_takesSign_17 rfl (lv_at hl 0 rfl) ?_
      refine lv_dup hx hb dX12_takesSign_18 rfl ?_
      refine sk_get (v := .int (nI pa2_2)) (C := RX12) (T := TX12) (N := 92) hx hb hts inlX12 hown hK hP 0 rfl rfl 2 (by decide) w_5_157 rfl dX12_takesSign_19 ?_
      refine lv_iconst (v := 1) hx hb dX12_takesSign_22 (by decide) ?_
      refine lv_iadd hx hb dX12_takesSign_23 ?_
      refine sk_top (nI (pa2_2 + 1)) (nI_add pa2_2 1) ?_
      refine sk_put (ws' := [(mm, .inr (12, mo g (nI ta) (nI (pa2_2 + 1)) (nI pe) pd (nI pb) pp pf pg pn rt rn (nI cd) sn (nI il) tk am at_ aa 0 0 (-1) wt wy 0 (nI rm) (nI ud) (nI nu) sd (nI qn) (nI qw) qo (nI qb) (nI qp) qa (nI qi) (nI oc))), (g 0, .inl (cI, 1600, .inl (fun j => nI (tb j))))]) (C := RX12) (T := TX12) (N := 92) (v := .int (nI (pa2_2 + 1))) hx hb hts inlX12 tyX12 tyX12_ok nmX12 hown hK hP hD hS 0 rfl rfl 2 (by decide) w_5_157 rfl rfl rfl (Nat.le_of_ble_eq_true rfl) rfl dX12_takesSign_24 (fun H locs hP hD hS => ?_)
      refine lv_iconst (v := 1) hx hb dX12_takesSign_27 (by decide) ?_
      exact sk_iret hx hb hr rfl hlocks hK hP hD hS (⟨1, pa2_2 + 1, by omega, by omega, by omega, (Or.inr ⟨rfl, by omega, isS_cu.mpr (by have hq := (lk_S htb hw hlk_6).mp c_10; rw [hsk_8] at hq; exact hq), mo_takeS hO (by omega) hpe (by have hq := (lk_S htb hw hlk_6).mp c_10; rw [hsk_8] at hq; exact hq) hws (by rw [hsk_8]) rfl, by rw [hsk_8]⟩), rfl, rfl⟩) (Nat.le_of_ble_eq_true rfl) (Nat.le_of_ble_eq_true rfl) dX12_takesSign_28
    · skip
      refine lv_iconst (v := 0) hx hb dX12_takesSign_15 (by decide) ?_
      exact sk_iret hx hb hr rfl hlocks hK hP hD hS (⟨0, pa2_2, by omega, by omega, by omega, (Or.inl ⟨rfl, fun _ => ⟨hsk_8, fun hq => c_10 ((lk_S htb hw hlk_6).mpr (by rw [hsk_8]; exact isS_cu.mp hq))⟩, by rw [hsk_8]; exact mo_look hO⟩), rfl, rfl⟩) (Nat.le_of_ble_eq_true rfl) (Nat.le_of_ble_eq_true rfl) dX12_takesSign_16
