set_option maxHeartbeats 4000000 in
set_option maxRecDepth 100000 in
theorem c_em_asksSign (l : Launch) (D : va_G) (cI cJ cC cZ cS : ClassId) (mm : Nat) (g : Nat → Nat) (ta : Nat) (pa : Nat) (pe : Nat) (pd : Int32) (pb : Nat) (pp : Int32) (pf : Int32) (pg : Int32) (pn : Int32) (rt : Int32) (rn : Int32) (cd : Nat) (sn : Int32) (il : Nat) (tk : Int32) (am : Int32) (at_ : Int32) (aa : Int32) (wt : Int32) (wy : Int64) (rm : Nat) (ud : Nat) (nu : Nat) (sd : Int64) (qn : Nat) (qw : Nat) (qo : Int32) (qb : Nat) (qp : Nat) (qa : Int64) (qi : Nat) (oc : Nat) (w : Nat) (tb : Nat → Nat) (og : Except Err Cur) (hpa : pa ≤ pe) (hpe : pe ≤ 1600) (hpb : pb ≤ 5) (hw : w ≤ 255) (hws : w < 256 ∧ ¬ (97 ≤ w ∧ w ≤ 122) ∧ ¬ (48 ≤ w ∧ w ≤ 57)) (hO : moO tb pe og pa pd pb pp) (htb : ∀ j, tb j ≤ 255) : skM l yX12_asksSign cX12_asksSign 2 none 2 41 0 0 D (skT cI cJ cC cZ cS) [.ref mm, .int (nI w)] [(mm, .inr (12, mo g (nI ta) (nI pa) (nI pe) pd (nI pb) pp pf pg pn rt rn (nI cd) sn (nI il) tk am at_ aa 0 0 (-1) wt wy 0 (nI rm) (nI ud) (nI nu) sd (nI qn) (nI qw) qo (nI qb) (nI qp) qa (nI qi) (nI oc))), (g 0, .inl (cI, 1600, .inl (fun j => nI (tb j))))] (skV D (skT cI cJ cC cZ cS) (fun (u : va_W) => ∃ (pa2 : Nat), ∃ (pb2 : Nat), ∃ (pp2 : Int32), pa ≤ pa2 ∧ pa2 ≤ pe ∧ pb2 ≤ 5 ∧ (¬ pb2 = 0 ∨ (pb = 0 ∧ pa + 1 ≤ pa2)) ∧ moO tb pe (bindR og (signP tb pe w)) pa2 pd pb2 pp2 ∧ u = [(mm, .inr (12, mo g (nI ta) (nI pa2) (nI pe) pd (nI pb2) pp2 pf pg pn rt rn (nI cd) sn (nI il) tk am at_ aa 0 0 (-1) wt wy 0 (nI rm) (nI ud) (nI nu) sd (nI qn) (nI qw) qo (nI qb) (nI qp) qa (nI qi) (nI oc))), (g 0, .inl (cI, 1600, .inl (fun j => nI (tb j))))])) := by
  refine skM_of pf_X12_asksSign (Nat.le_of_ble_eq_true rfl) ?_
  intro p e s m below meth c A ls E hP hD hl
  refine skE_el E (fun hx hb hr hml hlocks hin hown hts hK hA => ?_)
  have hown : s.vm.findClass RX12 = some m.cls := hown
  have hS : va_S A s.heap s.heap [] := va_S.rf
  have hl : lv_has ls 2 [(0, .ref mm), (1, .int (nI w))] := hl
  refine lv_aload_n hx hb dX12_asksSign_0 rfl (lv_at hl 0 rfl) ?_
  refine sk_get (v := .int (nI pb)) (C := RX12) (T := TX12) (N := 92) hx hb hts inlX12 hown hK hP 0 rfl rfl 5 (by decide) w_5_160 rfl dX12_asksSign_1 ?_
  refine lv_if_ne (tgt := 24) hx hb dX12_asksSign_4 (by decide) (fun c_1 => ?_) (fun c_1 => ?_)
  · have c_1 : ¬ (pb = 0) := fun h => c_1 ((neq pb 0 (by omega) (by omega)).mpr h)
    exact sk_vret hx hb hr hlocks hK hP hD hS (⟨pa, pb, pp, by omega, by omega, by omega, by omega, mo_er hO c_1, rfl⟩) (Nat.le_of_ble_eq_true rfl) (Nat.le_of_ble_eq_true rfl) dX12_asksSign_24
  · have c_1 : pb = 0 := (neq pb 0 (by omega) (by omega)).mp c_1
    refine lv_aload_n hx hb dX12_asksSign_7 rfl (lv_at hl 0 rfl) ?_
    refine lv_iload_n hx hb dX12_asksSign_8 rfl (lv_at hl 1 rfl) ?_
    refine sk_Vi (q0 := 0) (n := 1) (rest := []) (wr := fmR om_2_3 _) ⟨hx, hb, hml, hown, hts⟩ hl.1 (c_em_takesSign l D cI cJ cC cZ cS mm g ta pa pe pd pb pp pf pg pn rt rn cd sn il tk am at_ aa wt wy rm ud nu sd qn qw qo qb qp qa qi oc w tb og (by omega) (by omega) (by omega) (by omega) hws hO htb) w_7_7 w_7_9 w_0_49 w_1_14 w_7_10 hd_X12_takesSign_1 ⟨⟨(Nat.le_of_ble_eq_true rfl), (Nat.le_of_ble_eq_true rfl)⟩, (Nat.le_of_ble_eq_true rfl), (Nat.le_of_ble_eq_true rfl)⟩ hK hP hD hS hA (fmT om_2_3 0) (fmF om_2_3 0) (fm_C1 rfl rfl) (fm_R rfl rfl) (fm_nT om_2_3 0) (fm_nF om_2_3 0) (fm_di om_2_3 0) rfl rfl rfl rfl (Nat.le_of_ble_eq_true rfl) dX12_asksSign_9 (fun r_4 u H locs hw hP hD hS => ?_)
    refine exE hw (fun b_2 hw1 => exE hw1 (fun pa2_3 hw2 => anE hw2 (fun hpa2_5 hw3 => anE hw3 (fun hpa3_6 hw4 => anE hw4 (fun hb1_7 hw5 => anE hw5 (fun hT_8 hw6 => anE hw6 (fun er_10 eu_9 => ?_)))))))
    clear hw hw1 hw2 hw3 hw4 hw5 hw6
    subst er_10
    refine o_mgE (ws' := [(mm, .inr (12, mo g (nI ta) (nI pa2_3) (nI pe) pd (nI pb) pp pf pg pn rt rn (nI cd) sn (nI il) tk am at_ aa 0 0 (-1) wt wy 0 (nI rm) (nI ud) (nI nu) sd (nI qn) (nI qw) qo (nI qb) (nI qp) qa (nI qi) (nI oc))), (g 0, .inl (cI, 1600, .inl (fun j => nI (tb j))))]) eu_9 hP hD rfl (fun hP hD => ?_)
    refine lv_if_ne (tgt := 24) hx hb dX12_asksSign_12 (by decide) (fun c_11 => ?_) (fun c_11 => ?_)
    · have c_11 : ¬ (b_2 = 0) := fun h => c_11 ((neq b_2 0 (by omega) (by omega)).mpr h)
      exact sk_vret hx hb hr hlocks hK hP hD hS (⟨pa2_3, pb, pp, by omega, by omega, by omega, by omega, mo_swap hO (fun _ => (signP_t (rr_1 hT_8 (by omega)).2.1).symm) (rr_1 hT_8 (by omega)).2.2.1, rfl⟩) (Nat.le_of_ble_eq_true rfl) (Nat.le_of_ble_eq_true rfl) dX12_asksSign_24
    · have c_11 : b_2 = 0 := (neq b_2 0 (by omega) (by omega)).mp c_11
      refine lv_aload_n hx hb dX12_asksSign_15 rfl (lv_at hl 0 rfl) ?_
      refine lv_iconst (v := 1) hx hb dX12_asksSign_16 (by decide) ?_
      refine lv_aload_n hx hb dX12_asksSign_17 rfl (lv_at hl 0 rfl) ?_
      refine sk_get (v := .int (nI pa2_3)) (C := RX12) (T := TX12) (N := 92) hx hb hts inlX12 hown hK hP 0 rfl rfl 2 (by decide) w_5_157 rfl dX12_asksSign_18 ?_
      refine sk_Vv (q0 := 0) (n := 2) (rest := []) (wr := fmR om_2_2 _) ⟨hx, hb, hml, hown, hts⟩ hl.1 (c_em_fail l D cI cJ cC cZ cS mm g ta pa2_3 pe pd pb pp pf pg pn rt rn cd sn il tk am at_ aa wt wy rm ud nu sd qn qw qo qb qp qa qi oc 1 (nI pa2_3) (by omega) (by omega) (by omega)) w_6_229 w_6_231 w_0_46 w_1_14 w_6_232 hd_X12_fail_2 ⟨⟨(Nat.le_of_ble_eq_true rfl), (Nat.le_of_ble_eq_true rfl)⟩, (Nat.le_of_ble_eq_true rfl), (Nat.le_of_ble_eq_true rfl)⟩ hK hP hD hS hA (fmT om_2_2 0) (fmF om_2_2 0) (fm_C1 rfl rfl) (fm_R rfl rfl) (fm_nT om_2_2 0) (fm_nF om_2_2 0) (fm_di om_2_2 0) rfl rfl rfl rfl (Nat.le_of_ble_eq_true rfl) dX12_asksSign_21 (fun u H locs hw hP hD hS => ?_)
      refine exE hw (fun pb2_12 hw1 => exE hw1 (fun pp2_13 hw2 => anE hw2 (fun hpb2_14 hw3 => anE hw3 (fun hpb3_15 hw4 => anE hw4 (fun hfl_16 eu_17 => ?_)))))
      clear hw hw1 hw2 hw3 hw4
      refine o_mgE (ws' := [(mm, .inr (12, mo g (nI ta) (nI pa2_3) (nI pe) pd (nI pb2_12) pp2_13 pf pg pn rt rn (nI cd) sn (nI il) tk am at_ aa 0 0 (-1) wt wy 0 (nI rm) (nI ud) (nI nu) sd (nI qn) (nI qw) qo (nI qb) (nI qp) qa (nI qi) (nI oc))), (g 0, .inl (cI, 1600, .inl (fun j => nI (tb j))))]) eu_17 hP hD rfl (fun hP hD => ?_)
      exact sk_vret hx hb hr hlocks hK hP hD hS (⟨pa2_3, pb2_12, pp2_13, by omega, by omega, by omega, by omega, (by have hq := (hT_8.resolve_right (fun z => absurd z.1 (by omega))).2.1 (by omega); have hf := (hfl_16.resolve_right (fun z => z.1 (by omega))).2; rw [hf.1, hf.2, hq.1]; exact mo_fail hO (by omega) (by decide) (by decide) (signP_f hq.2)), rfl⟩) (Nat.le_of_ble_eq_true rfl) (Nat.le_of_ble_eq_true rfl) dX12_asksSign_24
theorem i2l_ge {a b : Nat} (ha : a < 2147483648) (hb : b < 2147483648) (h : a ≤ b) : Int32.toInt64 (nI a) ≤ Int32.toInt64 (nI b) := by
  rw [Int64.le_iff_toInt_le, lgv a ha, lgv b hb]
  omega
set_option maxHeartbeats 4000000 in
set_option maxRecDepth 100000 in
theorem c_em_isInY (l : Launch) (D : va_G) (cI cJ cC cZ cS : ClassId) (v : Int64) (y : Int64) (z : Int64)  : skM l yX12_isIn cX12_isIn 6 (some .boolean) 0 0 0 0 D (skT cI cJ cC cZ cS) [.long v, .long y, .long z] [] (skI D (skT cI cJ cC cZ cS) (fun (r : Int32) (u : va_W) => ∃ (b : Nat), ((b = 0 ∧ ¬ (y ≤ v ∧ v ≤ z)) ∨ (b = 1 ∧ y ≤ v ∧ v ≤ z)) ∧ r = nI b ∧ u = [])) := by
  refine skM_of pf_X12_isIn (Nat.le_of_ble_eq_true rfl) ?_
  intro p e s m below meth c A ls E hP hD hl
  refine skE_el E (fun hx hb hr hml hlocks hin hown hts hK hA => ?_)
  have hown : s.vm.findClass RX12 = some m.cls := hown
  have hS : va_S A s.heap s.heap [] := va_S.rf
  have hl : lv_has ls 6 [(0, .long v), (2, .long y), (4, .long z)] := hl
  refine lv_lload_n hx hb dX12_isIn_0 rfl (lv_at hl 0 rfl) ?_
  refine lv_lload_n hx hb dX12_isIn_1 rfl (lv_at hl 1 rfl) ?_
  refine W.lcmp hx hb dX12_isIn_2 ?_
  refine lv_if_lt (tgt := 17) hx hb dX12_isIn_3 (by decide) (fun c_1 => ?_) (fun c_1 => ?_)
  · skip
    refine lv_iconst (v := 0) hx hb dX12_isIn_17 (by decide) ?_
    exact sk_iret hx hb hr rfl hlocks hK hP hD hS (⟨0, Or.inl ⟨rfl, fun q => absurd q.1 (Int64.not_le.mpr ((lg_cmp_lt _ _).mp c_1))⟩, rfl, rfl⟩) (Nat.le_of_ble_eq_true rfl) (Nat.le_of_ble_eq_true rfl) dX12_isIn_18
  · skip
    refine lv_lload_n hx hb dX12_isIn_6 rfl (lv_at hl 0 rfl) ?_
    refine lv_lload hx hb dX12_isIn_7 (lv_at hl 2 rfl) ?_
    refine W.lcmp hx hb dX12_isIn_9 ?_
    refine lv_if_gt (tgt := 17) hx hb dX12_isIn_10 (by decide) (fun c_2 => ?_) (fun c_2 => ?_)
    · skip
      refine lv_iconst (v := 0) hx hb dX12_isIn_17 (by decide) ?_
      exact sk_iret hx hb hr rfl hlocks hK hP hD hS (⟨0, Or.inl ⟨rfl, fun q => absurd q.2 (Int64.not_le.mpr ((lg_cmp_gt _ _).mp c_2))⟩, rfl, rfl⟩) (Nat.le_of_ble_eq_true rfl) (Nat.le_of_ble_eq_true rfl) dX12_isIn_18
    · skip
      refine lv_iconst (v := 1) hx hb dX12_isIn_13 (by decide) ?_
      refine lv_goto (tgt := 18) hx hb dX12_isIn_14 (by decide) ?_
      exact sk_iret hx hb hr rfl hlocks hK hP hD hS (⟨1, Or.inr ⟨rfl, lg_ge c_1, lg_le c_2⟩, rfl, rfl⟩) (Nat.le_of_ble_eq_true rfl) (Nat.le_of_ble_eq_true rfl) dX12_isIn_18
set_option maxHeartbeats 4000000 in
set_option maxRecDepth 100000 in
theorem c_em_number (l : Launch) (D : va_G) (cI cJ cC cZ cS : ClassId) (mm : Nat) (g : Nat → Nat) (ta : Nat) (pa : Nat) (pe : Nat) (pd : Int32) (pb : Nat) (pp : Int32) (pf : Int32) (pg : Int32) (pn : Int32) (rt : Int32) (rn : Int32) (cd : Nat) (sn : Int32) (il : Nat) (tk : Int32) (am : Int32) (at_ : Int32) (aa : Int32) (wt : Int32) (wy : Int64) (rm : Nat) (ud : Nat) (nu : Nat) (sd : Int64) (qn : Nat) (qw : Nat) (qo : Int32) (qb : Nat) (qp : Nat) (qa : Int64) (qi : Nat) (oc : Nat) (lo : Nat) (hi : Nat) (tb : Nat → Nat) (og : Except Err Cur) (hpa : pa ≤ pe) (hpe : pe ≤ 1600) (hpb : pb ≤ 5) (hlo : lo ≤ 9999) (hhi : hi ≤ 9999) (hO : moO tb pe og pa pd pb pp) (htb : ∀ j, tb j ≤ 255) : skM l yX12_number cX12_number 5 (some .int) 1 25 0 0 D (skT cI cJ cC cZ cS) [.ref mm, .int (nI lo), .int (nI hi)] [(mm, .inr (12, mo g (nI ta) (nI pa) (nI pe) pd (nI pb) pp pf pg pn rt rn (nI cd) sn (nI il) tk am at_ aa 0 0 (-1) wt wy 0 (nI rm) (nI ud) (nI nu) sd (nI qn) (nI qw) qo (nI qb) (nI qp) qa (nI qi) (nI oc))), (g 0, .inl (cI, 1600, .inl (fun j => nI (tb j))))] (skI D (skT cI cJ cC cZ cS) (fun (r : Int32) (u : va_W) => ∃ (nv : Nat), ∃ (pa2 : Nat), ∃ (pd2 : Int32), ∃ (pb2 : Nat), ∃ (pp2 : Int32), ∃ (pn2 : Int32), pa ≤ pa2 ∧ pa2 ≤ pe ∧ pb2 ≤ 5 ∧ (¬ pb2 = 0 ∨ (pb = 0 ∧ pa + 1 ≤ pa2 ∧ lo ≤ nv ∧ nv ≤ hi)) ∧ nv ≤ 9999 ∧ moO tb pe (bindR og (nmF tb pe lo hi)) pa2 pd2 pb2 pp2 ∧ nvO tb pe lo hi og nv ∧ (pb2 = 0 → pn2 = nI (sk tb pe pa)) ∧ r = nI nv ∧ u = [(mm, .inr (12, mo g (nI ta) (nI pa2) (nI pe) pd2 (nI pb2) pp2 pf pg pn2 rt rn (nI cd) sn (nI il) tk am at_ aa 0 0 (-1) wt wy 0 (nI rm) (nI ud) (nI nu) sd (nI qn) (nI qw) qo (nI qb) (nI qp) qa (nI qi) (nI oc))), (g 0, .inl (cI, 1600, .inl (fun j => nI (tb j))))])) := by
  refine skM_of pf_X12_number (Nat.le_of_ble_eq_true rfl) ?_
  intro p e s m below meth c A ls E hP hD hl
  refine skE_el E (fun hx hb hr hml hlocks hin hown hts hK hA => ?_)
  have hown : s.vm.findClass RX12 = some m.cls := hown
  have hS : va_S A s.heap s.heap [] := va_S.rf
  have hl : lv_has ls 5 [(0, .ref mm), (1, .int (nI lo)), (2, .int (nI hi))] := hl
  refine lv_aload_n hx hb dX12_number_0 rfl (lv_at hl 0 rfl) ?_
  refine sk_get (v := .int (nI pb)) (C := RX12) (T := TX12) (N := 92) hx hb hts inlX12 hown hK hP 0 rfl rfl 5 (by decide) w_5_160 rfl dX12_number_1 ?_
  refine lv_if_eq (tgt := 9) hx hb dX12_number_4 (by decide) (fun c_1 => ?_) (fun c_1 => ?_)
  · have c_1 : pb = 0 := (neq pb 0 (by omega) (by omega)).mp c_1
    refine lv_aload_n hx hb dX12_number_9 rfl (lv_at hl 0 rfl) ?_
    refine sk_Vi (q0 := 0) (n := 0) (rest := []) (wr := fmR om_2_3 _) ⟨hx, hb, hml, hown, hts⟩ hl.1 (c_em_look l D cI cJ cC cZ cS mm g ta pa pe pd pb pp pf pg pn rt rn cd sn il tk am at_ aa wt wy rm ud nu sd qn qw qo qb qp qa qi oc tb (by omega) (by omega) htb) w_6_222 w_6_224 w_0_45 w_1_14 w_6_225 hd_X12_look_0 ⟨⟨(Nat.le_of_ble_eq_true rfl), (Nat.le_of_ble_eq_true rfl)⟩, (Nat.le_of_ble_eq_true rfl), (Nat.le_of_ble_eq_true rfl)⟩ hK hP hD hS hA (fmT om_2_3 0) (fmF om_2_3 0) (fm_C1 rfl rfl) (fm_R rfl rfl) (fm_nT om_2_3 0) (fm_nF om_2_3 0) (fm_di om_2_3 0) rfl rfl rfl rfl (Nat.le_of_ble_eq_true rfl) dX12_number_10 (fun r_3 u H locs hw hP hD hS => ?_)
    refine exE hw (fun pa2_2 hw1 => anE hw1 (fun hpa2_4 hw2 => anE hw2 (fun hpa3_5 hw3 => anE hw3 (fun hlk_6 hw4 => anE hw4 (fun hst_7 hw5 => anE hw5 (fun hsk_8 eu_9 => ?_))))))
    clear hw hw1 hw2 hw3 hw4 hw5
    refine o_mgE (ws' := [(mm, .inr (12, mo g (nI ta) (nI pa2_2) (nI pe) pd (nI pb) pp pf pg pn rt rn (nI cd) sn (nI il) tk am at_ aa 0 0 (-1) wt wy 0 (nI rm) (nI ud) (nI nu) sd (nI qn) (nI qw) qo (nI qb) (nI qp) qa (nI qi) (nI oc))), (g 0, .inl (cI, 1600, .inl (fun j => nI (tb j))))]) eu_9 hP hD rfl (fun hP hD => ?_)
    refine sk_Si (n := 1) (rest := []) (wr := [(mm, .inr (12, mo g (nI ta) (nI pa2_2) (nI pe) pd (nI pb) pp pf pg pn rt rn (nI cd) sn (nI il) tk am at_ aa 0 0 (-1) wt wy 0 (nI rm) (nI ud) (nI nu) sd (nI qn) (nI qw) qo (nI qb) (nI qp) qa (nI qi) (nI oc))), (g 0, .inl (cI, 1600, .inl (fun j => nI (tb j))))]) ⟨hx, hb, hml, hown, hts⟩ hl.1 (c_em_isDigitX l D cI cJ cC cZ cS r_3) w_6_237 w_6_238 w_1_14 w_6_239 hd_X12_isDigit_1 ⟨⟨(Nat.le_of_ble_eq_true rfl), (Nat.le_of_ble_eq_true rfl)⟩, (Nat.le_of_ble_eq_true rfl), (Nat.le_of_ble_eq_true rfl)⟩ hK hP hD hS hA [] [0, 1] rfl rfl (by decide +kernel) (by decide +kernel) (by decide +kernel) rfl rfl (Nat.le_of_ble_eq_true rfl) dX12_number_13 (fun r_11 u H locs hw hP hD hS => ?_)
    obtain ⟨b_10, hb1_12, rfl, rfl⟩ := hw
    refine o_re (ws' := [(mm, .inr (12, mo g (nI ta) (nI pa2_2) (nI pe) pd (nI pb) pp pf pg pn rt rn (nI cd) sn (nI il) tk am at_ aa 0 0 (-1) wt wy 0 (nI rm) (nI ud) (nI nu) sd (nI qn) (nI qw) qo (nI qb) (nI qp) qa (nI qi) (nI oc))), (g 0, .inl (cI, 1600, .inl (fun j => nI (tb j))))]) hP hD rfl (fun hP hD => ?_)
    refine lv_if_eq (tgt := 30) hx hb dX12_number_16 (by decide) (fun c_13 => ?_) (fun c_13 => ?_)
    · have c_13 : b_10 = 0 := (neq b_10 0 (by omega) (by omega)).mp c_13
      refine lv_aload_n hx hb dX12_number_30 rfl (lv_at hl 0 rfl) ?_
      refine lv_iconst (v := 1) hx hb dX12_number_31 (by decide) ?_
      refine lv_aload_n hx hb dX12_number_32 rfl (lv_at hl 0 rfl) ?_
      refine sk_get (v := .int (nI pa2_2)) (C := RX12) (T := TX12) (N := 92) hx hb hts inlX12 hown hK hP 0 rfl rfl 2 (by decide) w_5_157 rfl dX12_number_33 ?_
      refine sk_Vv (q0 := 0) (n := 2) (rest := []) (wr := fmR om_2_2 _) ⟨hx, hb, hml, hown, hts⟩ hl.1 (c_em_fail l D cI cJ cC cZ cS mm g ta pa2_2 pe pd pb pp pf pg pn rt rn cd sn il tk am at_ aa wt wy rm ud nu sd qn qw qo qb qp qa qi oc 1 (nI pa2_2) (by omega) (by omega) (by omega)) w_6_229 w_6_231 w_0_46 w_1_14 w_6_232 hd_X12_fail_2 ⟨⟨(Nat.le_of_ble_eq_true rfl), (Nat.le_of_ble_eq_true rfl)⟩, (Nat.le_of_ble_eq_true rfl), (Nat.le_of_ble_eq_true rfl)⟩ hK hP hD hS hA (fmT om_2_2 0) (fmF om_2_2 0) (fm_C1 rfl rfl) (fm_R rfl rfl) (fm_nT om_2_2 0) (fm_nF om_2_2 0) (fm_di om_2_2 0) rfl rfl rfl rfl (Nat.le_of_ble_eq_true rfl) dX12_number_36 (fun u H locs hw hP hD hS => ?_)
      refine exE hw (fun pb2_14 hw1 => exE hw1 (fun pp2_15 hw2 => anE hw2 (fun hpb2_16 hw3 => anE hw3 (fun hpb3_17 hw4 => anE hw4 (fun hfl_18 eu_19 => ?_)))))
      clear hw hw1 hw2 hw3 hw4
      refine o_mgE (ws' := [(mm, .inr (12, mo g (nI ta) (nI pa2_2) (nI pe) pd (nI pb2_14) pp2_15 pf pg pn rt rn (nI cd) sn (nI il) tk am at_ aa 0 0 (-1) wt wy 0 (nI rm) (nI ud) (nI nu) sd (nI qn) (nI qw) qo (nI qb) (nI qp) qa (nI qi) (nI oc))), (g 0, .inl (cI, 1600, .inl (fun j => nI (tb j))))]) eu_19 hP hD rfl (fun hP hD => ?_)
      refine lv_iconst (v := 0) hx hb dX12_number_39 (by decide) ?_
      exact sk_iret hx hb hr rfl hlocks hK hP hD hS (⟨0, pa2_2, pd, pb2_14, pp2_15, pn, by omega, by omega, by omega, by omega, by omega, (by have hf := (hfl_18.resolve_right (fun z => z.1 (by omega))).2; rw [hf.1, hf.2, hsk_8]; exact mo_fail hO (by omega) (by decide) (by decide) (nm_no (lo := lo) (hi := hi) (fun hq => rr_0 hb1_12 (by omega) ((lk_D htb hlk_6).mpr (by rw [hsk_8]; exact ⟨hq.1, hq.2.1⟩))))), nv_bad hO (by omega) (nm_no (lo := lo) (hi := hi) (fun hq => rr_0 hb1_12 (by omega) ((lk_D htb hlk_6).mpr (by rw [hsk_8]; exact ⟨hq.1, hq.2.1⟩)))), (fun hq => absurd hq (by omega)), rfl, rfl⟩) (Nat.le_of_ble_eq_true rfl) (Nat.le_of_ble_eq_true rfl) dX12_number_40
    · have c_13 : ¬ (b_10 = 0) := fun h => c_13 ((neq b_10 0 (by omega) (by omega)).mpr h)
      have hdq := (lk_D htb hlk_6).mp (rr_1 hb1_12 (by omega))
      have hdg := qD_t.mp hdq.2
      refine lv_aload_n hx hb dX12_number_19 rfl (lv_at hl 0 rfl) ?_
      refine sk_get (v := .int (nI pa2_2)) (C := RX12) (T := TX12) (N := 92) hx hb hts inlX12 hown hK hP 0 rfl rfl 2 (by decide) w_5_157 rfl dX12_number_20 ?_
      refine lv_aload_n hx hb dX12_number_23 rfl (lv_at hl 0 rfl) ?_
      refine sk_get (v := .int pd) (C := RX12) (T := TX12) (N := 92) hx hb hts inlX12 hown hK hP 0 rfl rfl 4 (by decide) w_5_159 rfl dX12_number_24 ?_
      refine lv_icmp_ne (tgt := 41) hx hb dX12_number_27 (by decide) (fun c_20 => ?_) (fun c_20 => ?_)
      · have hcN : (cuO tb pe pa pd).1 < pe ∧ qD (tb (cuO tb pe pa pd).1) = true ∧ (cuO tb pe pa pd).2 = false := ⟨by show sk tb pe pa < pe; rw [← hsk_8]; exact hdq.1, by show qD (tb (sk tb pe pa)) = true; rw [← hsk_8]; exact hdq.2, cu_f (by rw [← hsk_8]; exact fun hq => c_20 hq.symm)⟩
        refine lv_aload_n hx hb dX12_number_41 rfl (lv_at hl 0 rfl) ?_
        refine sk_get (v := .int (nI pa2_2)) (C := RX12) (T := TX12) (N := 92) hx hb hts inlX12 hown hK hP 0 rfl rfl 2 (by decide) w_5_157 rfl dX12_number_42 ?_
        refine lv_istore_n (lv' := [(3, .int (nI pa2_2)), (0, .ref mm), (1, .int (nI lo)), (2, .int (nI hi))]) hx hb dX12_number_45 rfl hl (by decide) rfl (fun ls hl => ?_)
        refine lv_iconst (v := 0) hx hb dX12_number_46 (by decide) ?_
        refine lv_istore (lv' := [(4, .int 0), (3, .int (nI pa2_2)), (0, .ref mm), (1, .int (nI lo)), (2, .int (nI hi))]) hx hb dX12_number_47 hl (by decide) rfl (fun ls hl => ?_)
        have lp_21 : ∀ (n_22 : Nat) (v : Nat) (za : Nat) (H : Heap) (locs : List Loc) (ls : Array Slot), pe - za < n_22 → (pa2_2 ≤ za) → (za ≤ pe) → ((za = pa2_2 + 0 ∧ v ≤ 0) ∨ (za = pa2_2 + 1 ∧ v ≤ 9) ∨ (za = pa2_2 + 2 ∧ v ≤ 99) ∨ (za = pa2_2 + 3 ∧ v ≤ 999) ∨ (za = pa2_2 + 4 ∧ v ≤ 9999)) → (ext qD tb pe za = ext qD tb pe pa2_2) → (v = vd tb pa2_2 (za - pa2_2)) → va_P D vwCl [(mm, .inr (12, mo g (nI ta) (nI za) (nI pe) pd (nI pb) pp pf pg pn rt rn (nI cd) sn (nI il) tk am at_ aa 0 0 (-1) wt wy 0 (nI rm) (nI ud) (nI nu) sd (nI qn) (nI qw) qo (nI qb) (nI qp) qa (nI qi) (nI oc))), (g 0, .inl (cI, 1600, .inl (fun j => nI (tb j))))] H → va_D A [(mm, .inr (12, mo g (nI ta) (nI za) (nI pe) pd (nI pb) pp pf pg pn rt rn (nI cd) sn (nI il) tk am at_ aa 0 0 (-1) wt wy 0 (nI rm) (nI ud) (nI nu) sd (nI qn) (nI qw) qo (nI qb) (nI qp) qa (nI qi) (nI oc))), (g 0, .inl (cI, 1600, .inl (fun j => nI (tb j))))] → va_S A s.heap H locs → lv_has ls 5 [(4, .int (nI v)), (3, .int (nI pa2_2)), (0, .ref mm), (1, .int (nI lo)), (2, .int (nI hi))] → W p l e { frames := 1, cells := 0, slots := 0, locals := 25 } s m ([.ref mm, .int (nI lo), .int (nI hi)] : List Value).toArray below meth c H locs 0 0 (MQ below (skI D (skT cI cJ cC cZ cS) (fun (r : Int32) (u : va_W) => ∃ (nv : Nat), ∃ (pa2 : Nat), ∃ (pd2 : Int32), ∃ (pb2 : Nat), ∃ (pp2 : Int32), ∃ (pn2 : Int32), pa ≤ pa2 ∧ pa2 ≤ pe ∧ pb2 ≤ 5 ∧ (¬ pb2 = 0 ∨ (pb = 0 ∧ pa + 1 ≤ pa2 ∧ lo ≤ nv ∧ nv ≤ hi)) ∧ nv ≤ 9999 ∧ moO tb pe (bindR og (nmF tb pe lo hi)) pa2 pd2 pb2 pp2 ∧ nvO tb pe lo hi og nv ∧ (pb2 = 0 → pn2 = nI (sk tb pe pa)) ∧ r = nI nv ∧ u = [(mm, .inr (12, mo g (nI ta) (nI pa2) (nI pe) pd2 (nI pb2) pp2 pf pg pn2 rt rn (nI cd) sn (nI il) tk am at_ aa 0 0 (-1) wt wy 0 (nI rm) (nI ud) (nI nu) sd (nI qn) (nI qw) qo (nI qb) (nI qp) qa (nI qi) (nI oc))), (g 0, .inl (cI, 1600, .inl (fun j => nI (tb j))))]) A) ([.ref mm, .int (nI lo), .int (nI hi)] : List Value).toArray s 0 0 A) (F0 m 49 ls []) := by
          intro n_22
          induction n_22 with
          | zero => intro v za H locs ls hm; exact absurd hm (Nat.not_lt_zero _)
          | succ n_22 ih_lp_21 =>
            intro v za H locs ls hm hza1 hza2 hv hze hvd hP hD hS hl
            refine lv_aload_n hx hb dX12_number_49 rfl (lv_at hl 2 rfl) ?_
            refine sk_get (v := .int (nI za)) (C := RX12) (T := TX12) (N := 92) hx hb hts inlX12 hown hK hP 0 rfl rfl 2 (by decide) w_5_157 rfl dX12_number_50 ?_
            refine lv_aload_n hx hb dX12_number_53 rfl (lv_at hl 2 rfl) ?_
            refine sk_get (v := .int (nI pe)) (C := RX12) (T := TX12) (N := 92) hx hb hts inlX12 hown hK hP 0 rfl rfl 3 (by decide) w_5_158 rfl dX12_number_54 ?_
            refine lv_icmp_ge (tgt := 129) hx hb dX12_number_57 (by decide) (fun c_23 => ?_) (fun c_23 => ?_)
            · have c_23 : pe ≤ za := (nle pe za (by omega) (by omega)).mp c_23
              have hzx : za = ext qD tb pe (sk tb pe pa) := by rw [← hsk_8]; exact ext_fin hze (by omega)
              refine lv_aload_n hx hb dX12_number_129 rfl (lv_at hl 2 rfl) ?_
              refine lv_aload_n hx hb dX12_number_130 rfl (lv_at hl 2 rfl) ?_
              refine sk_get (v := .int (nI za)) (C := RX12) (T := TX12) (N := 92) hx hb hts inlX12 hown hK hP 0 rfl rfl 2 (by decide) w_5_157 rfl dX12_number_131 ?_
              refine sk_put (ws' := [(mm, .inr (12, mo g (nI ta) (nI za) (nI pe) (nI za) (nI pb) pp pf pg pn rt rn (nI cd) sn (nI il) tk am at_ aa 0 0 (-1) wt wy 0 (nI rm) (nI ud) (nI nu) sd (nI qn) (nI qw) qo (nI qb) (nI qp) qa (nI qi) (nI oc))), (g 0, .inl (cI, 1600, .inl (fun j => nI (tb j))))]) (C := RX12) (T := TX12) (N := 92) (v := .int (nI za)) hx hb hts inlX12 tyX12 tyX12_ok nmX12 hown hK hP hD hS 0 rfl rfl 4 (by decide) w_5_159 rfl rfl rfl (Nat.le_of_ble_eq_true rfl) rfl dX12_number_134 (fun H locs hP hD hS => ?_)
              refine lv_aload_n hx hb dX12_number_137 rfl (lv_at hl 2 rfl) ?_
              refine lv_iload_n hx hb dX12_number_138 rfl (lv_at hl 1 rfl) ?_
              refine sk_put (ws' := [(mm, .inr (12, mo g (nI ta) (nI za) (nI pe) (nI za) (nI pb) pp pf pg (nI pa2_2) rt rn (nI cd) sn (nI il) tk am at_ aa 0 0 (-1) wt wy 0 (nI rm) (nI ud) (nI nu) sd (nI qn) (nI qw) qo (nI qb) (nI qp) qa (nI qi) (nI oc))), (g 0, .inl (cI, 1600, .inl (fun j => nI (tb j))))]) (C := RX12) (T := TX12) (N := 92) (v := .int (nI pa2_2)) hx hb hts inlX12 tyX12 tyX12_ok nmX12 hown hK hP hD hS 0 rfl rfl 10 (by decide) w_5_165 rfl rfl rfl (Nat.le_of_ble_eq_true rfl) rfl dX12_number_139 (fun H locs hP hD hS => ?_)
              refine lv_iload hx hb dX12_number_142 (lv_at hl 0 rfl) ?_
              refine lv_i2l hx hb dX12_number_144 rfl ?_
              refine lv_iload_n hx hb dX12_number_145 rfl (lv_at hl 3 rfl) ?_
              refine lv_i2l hx hb dX12_number_146 rfl ?_
              refine lv_iload_n hx hb dX12_number_147 rfl (lv_at hl 4 rfl) ?_
              refine lv_i2l hx hb dX12_number_148 rfl ?_
              refine sk_Si (n := 3) (rest := []) (wr := [(mm, .inr (12, mo g (nI ta) (nI za) (nI pe) (nI za) (nI pb) pp pf pg (nI pa2_2) rt rn (nI cd) sn (nI il) tk am at_ aa 0 0 (-1) wt wy 0 (nI rm) (nI ud) (nI nu) sd (nI qn) (nI qw) qo (nI qb) (nI qp) qa (nI qi) (nI oc))), (g 0, .inl (cI, 1600, .inl (fun j => nI (tb j))))]) ⟨hx, hb, hml, hown, hts⟩ hl.1 (c_em_isInY l D cI cJ cC cZ cS (Int32.toInt64 (nI v)) (Int32.toInt64 (nI lo)) (Int32.toInt64 (nI hi))) w_7_0 w_7_1 w_1_14 w_7_2 hd_X12_isIn_3 ⟨⟨(Nat.le_of_ble_eq_true rfl), (Nat.le_of_ble_eq_true rfl)⟩, (Nat.le_of_ble_eq_true rfl), (Nat.le_of_ble_eq_true rfl)⟩ hK hP hD hS hA [] [0, 1] rfl rfl (by decide +kernel) (by decide +kernel) (by decide +kernel) rfl rfl (Nat.le_of_ble_eq_true rfl) dX12_number_149 (fun r_25 u H locs hw hP hD hS => ?_)
              obtain ⟨b_24, hb1_26, rfl, rfl⟩ := hw
              refine o_re (ws' := [(mm, .inr (12, mo g (nI ta) (nI za) (nI pe) (nI za) (nI pb) pp pf pg (nI pa2_2) rt rn (nI cd) sn (nI il) tk am at_ aa 0 0 (-1) wt wy 0 (nI rm) (nI ud) (nI nu) sd (nI qn) (nI qw) qo (nI qb) (nI qp) qa (nI qi) (nI oc))), (g 0, .inl (cI, 1600, .inl (fun j => nI (tb j))))]) hP hD rfl (fun hP hD => ?_)
              refine lv_if_ne (tgt := 161) hx hb dX12_number_152 (by decide) (fun c_27 => ?_) (fun c_27 => ?_)
              · have c_27 : ¬ (b_24 = 0) := fun h => c_27 ((neq b_24 0 (by omega) (by omega)).mpr h)
                have hr_ := (hb1_26.resolve_left (fun hq => absurd hq.1 (by omega))).2
                have hlo2 := i2l_le (by omega) (by omega) hr_.1
                have hhi2 := i2l_le (by omega) (by omega) hr_.2
                refine lv_iload hx hb dX12_number_161 (lv_at hl 0 rfl) ?_
                exact sk_iret hx hb hr rfl hlocks hK hP hD hS (⟨v, za, nI za, pb, pp, nI pa2_2, by omega, by omega, by omega, by omega, by omega, (mo_nxW hO (by omega) hpe (by rw [te_n (tb := tb) (n := pe) (z := sk tb pe pa) (qLD hcN.2.1) hcN.2.1]; exact hzx) (by rw [show qD (tb (sk tb pe pa)) = true from hcN.2.1, Bool.or_true]) hcN.1 (nm_okF (nm_ok hcN (show ¬ 4 < ext qD tb pe (sk tb pe pa) - sk tb pe pa by rw [← hzx, ← hsk_8]; omega) (show v = vd tb (sk tb pe pa) (ext qD tb pe (sk tb pe pa) - sk tb pe pa) by rw [← hzx, ← hsk_8]; exact hvd) ⟨by omega, by omega⟩))), nv_of hO (by omega) (nm_ok hcN (show ¬ 4 < ext qD tb pe (sk tb pe pa) - sk tb pe pa by rw [← hzx, ← hsk_8]; omega) (show v = vd tb (sk tb pe pa) (ext qD tb pe (sk tb pe pa) - sk tb pe pa) by rw [← hzx, ← hsk_8]; exact hvd) ⟨by omega, by omega⟩), (fun _ => by rw [← hsk_8]), rfl, rfl⟩) (Nat.le_of_ble_eq_true rfl) (Nat.le_of_ble_eq_true rfl) dX12_number_163
              · have c_27 : b_24 = 0 := (neq b_24 0 (by omega) (by omega)).mp c_27
                have hr_ : ¬ (lo ≤ v ∧ v ≤ hi) := fun hq => (rr_0 hb1_26 (by omega)) ⟨i2l_ge (by omega) (by omega) hq.1, i2l_ge (by omega) (by omega) hq.2⟩
                refine lv_aload_n hx hb dX12_number_155 rfl (lv_at hl 2 rfl) ?_
                refine lv_iconst (v := 2) hx hb dX12_number_156 (by decide) ?_
                refine lv_iload_n hx hb dX12_number_157 rfl (lv_at hl 1 rfl) ?_
                refine sk_Vv (q0 := 0) (n := 2) (rest := []) (wr := fmR om_2_2 _) ⟨hx, hb, hml, hown, hts⟩ hl.1 (c_em_fail l D cI cJ cC cZ cS mm g ta za pe (nI za) pb pp pf pg (nI pa2_2) rt rn cd sn il tk am at_ aa wt wy rm ud nu sd qn qw qo qb qp qa qi oc 2 (nI pa2_2) (by omega) (by omega) (by omega)) w_6_229 w_6_231 w_0_46 w_1_14 w_6_232 hd_X12_fail_2 ⟨⟨(Nat.le_of_ble_eq_true rfl), (Nat.le_of_ble_eq_true rfl)⟩, (Nat.le_of_ble_eq_true rfl), (Nat.le_of_ble_eq_true rfl)⟩ hK hP hD hS hA (fmT om_2_2 0) (fmF om_2_2 0) (fm_C1 rfl rfl) (fm_R rfl rfl) (fm_nT om_2_2 0) (fm_nF om_2_2 0) (fm_di om_2_2 0) rfl rfl rfl rfl (Nat.le_of_ble_eq_true rfl) dX12_number_158 (fun u H locs hw hP hD hS => ?_)
                refine exE hw (fun pb2_28 hw1 => exE hw1 (fun pp2_29 hw2 => anE hw2 (fun hpb2_30 hw3 => anE hw3 (fun hpb3_31 hw4 => anE hw4 (fun hfl_32 eu_33 => ?_)))))
                clear hw hw1 hw2 hw3 hw4
                refine o_mgE (ws' := [(mm, .inr (12, mo g (nI ta) (nI za) (nI pe) (nI za) (nI pb2_28) pp2_29 pf pg (nI pa2_2) rt rn (nI cd) sn (nI il) tk am at_ aa 0 0 (-1) wt wy 0 (nI rm) (nI ud) (nI nu) sd (nI qn) (nI qw) qo (nI qb) (nI qp) qa (nI qi) (nI oc))), (g 0, .inl (cI, 1600, .inl (fun j => nI (tb j))))]) eu_33 hP hD rfl (fun hP hD => ?_)
                refine lv_iload hx hb dX12_number_161 (lv_at hl 0 rfl) ?_
                exact sk_iret hx hb hr rfl hlocks hK hP hD hS (⟨v, za, nI za, pb2_28, pp2_29, nI pa2_2, by omega, by omega, by omega, by omega, by omega, (by have hf := (hfl_32.resolve_right (fun z => z.1 (by omega))).2; rw [hf.1, hf.2, hsk_8]; exact mo_fail hO (by omega) (by decide) (by decide) (nm_out hcN (show ¬ 4 < ext qD tb pe (sk tb pe pa) - sk tb pe pa by rw [← hzx, ← hsk_8]; omega) (show v = vd tb (sk tb pe pa) (ext qD tb pe (sk tb pe pa) - sk tb pe pa) by rw [← hzx, ← hsk_8]; exact hvd) hr_)), nv_bad hO (by omega) (nm_out hcN (show ¬ 4 < ext qD tb pe (sk tb pe pa) - sk tb pe pa by rw [← hzx, ← hsk_8]; omega) (show v = vd tb (sk tb pe pa) (ext qD tb pe (sk tb pe pa) - sk tb pe pa) by rw [← hzx, ← hsk_8]; exact hvd) hr_), (fun hq => absurd hq (by omega)), rfl, rfl⟩) (Nat.le_of_ble_eq_true rfl) (Nat.le_of_ble_eq_true rfl) dX12_number_163
            · have c_23 : ¬ (pe ≤ za) := fun h => c_23 ((nle pe za (by omega) (by omega)).mpr h)
              refine lv_aload_n hx hb dX12_number_60 rfl (lv_at hl 2 rfl) ?_
              refine sk_get (v := .ref (g 0)) (C := RX12) (T := TX12) (N := 92) hx hb hts inlX12 hown hK hP 0 rfl rfl 0 (by decide) w_5_155 rfl dX12_number_61 ?_
              refine lv_aload_n hx hb dX12_number_64 rfl (lv_at hl 2 rfl) ?_
              refine sk_get (v := .int (nI za)) (C := RX12) (T := TX12) (N := 92) hx hb hts inlX12 hown hK hP 0 rfl rfl 2 (by decide) w_5_157 rfl dX12_number_65 ?_
              refine va_iald hx hb hK.1 hP 1 0 rfl rfl (vin za 1600 (by omega) (by omega)) dX12_number_68 ?_
              refine sk_top (nI (tb za)) (nrd tb za (by omega)) ?_
              have hb_34 := htb za
              refine sk_Si (n := 1) (rest := []) (wr := [(mm, .inr (12, mo g (nI ta) (nI za) (nI pe) pd (nI pb) pp pf pg pn rt rn (nI cd) sn (nI il) tk am at_ aa 0 0 (-1) wt wy 0 (nI rm) (nI ud) (nI nu) sd (nI qn) (nI qw) qo (nI qb) (nI qp) qa (nI qi) (nI oc))), (g 0, .inl (cI, 1600, .inl (fun j => nI (tb j))))]) ⟨hx, hb, hml, hown, hts⟩ hl.1 (c_em_isDigitN l D cI cJ cC cZ cS (tb za) (by omega)) w_6_237 w_6_238 w_1_14 w_6_239 hd_X12_isDigit_1 ⟨⟨(Nat.le_of_ble_eq_true rfl), (Nat.le_of_ble_eq_true rfl)⟩, (Nat.le_of_ble_eq_true rfl), (Nat.le_of_ble_eq_true rfl)⟩ hK hP hD hS hA [] [0, 1] rfl rfl (by decide +kernel) (by decide +kernel) (by decide +kernel) rfl rfl (Nat.le_of_ble_eq_true rfl) dX12_number_69 (fun r_36 u H locs hw hP hD hS => ?_)
              obtain ⟨b_35, hb1_37, rfl, rfl⟩ := hw
              refine o_re (ws' := [(mm, .inr (12, mo g (nI ta) (nI za) (nI pe) pd (nI pb) pp pf pg pn rt rn (nI cd) sn (nI il) tk am at_ aa 0 0 (-1) wt wy 0 (nI rm) (nI ud) (nI nu) sd (nI qn) (nI qw) qo (nI qb) (nI qp) qa (nI qi) (nI oc))), (g 0, .inl (cI, 1600, .inl (fun j => nI (tb j))))]) hP hD rfl (fun hP hD => ?_)
              refine lv_if_eq (tgt := 129) hx hb dX12_number_72 (by decide) (fun c_38 => ?_) (fun c_38 => ?_)
              · have c_38 : b_35 = 0 := (neq b_35 0 (by omega) (by omega)).mp c_38
                have hne : ¬ za = pa2_2 := fun q => absurd hdg (by rw [← q]; omega)
                have hzx : za = ext qD tb pe (sk tb pe pa) := by rw [← hsk_8]; exact ext_fin hze (by rw [qD_t]; omega)
                refine lv_aload_n hx hb dX12_number_129 rfl (lv_at hl 2 rfl) ?_
                refine lv_aload_n hx hb dX12_number_130 rfl (lv_at hl 2 rfl) ?_
                refine sk_get (v := .int (nI za)) (C := RX12) (T := TX12) (N := 92) hx hb hts inlX12 hown hK hP 0 rfl rfl 2 (by decide) w_5_157 rfl dX12_number_131 ?_
                refine sk_put (ws' := [(mm, .inr (12, mo g (nI ta) (nI za) (nI pe) (nI za) (nI pb) pp pf pg pn rt rn (nI cd) sn (nI il) tk am at_ aa 0 0 (-1) wt wy 0 (nI rm) (nI ud) (nI nu) sd (nI qn) (nI qw) qo (nI qb) (nI qp) qa (nI qi) (nI oc))), (g 0, .inl (cI, 1600, .inl (fun j => nI (tb j))))]) (C := RX12) (T := TX12) (N := 92) (v := .int (nI za)) hx hb hts inlX12 tyX12 tyX12_ok nmX12 hown hK hP hD hS 0 rfl rfl 4 (by decide) w_5_159 rfl rfl rfl (Nat.le_of_ble_eq_true rfl) rfl dX12_number_134 (fun H locs hP hD hS => ?_)
                refine lv_aload_n hx hb dX12_number_137 rfl (lv_at hl 2 rfl) ?_
                refine lv_iload_n hx hb dX12_number_138 rfl (lv_at hl 1 rfl) ?_
                refine sk_put (ws' := [(mm, .inr (12, mo g (nI ta) (nI za) (nI pe) (nI za) (nI pb) pp pf pg (nI pa2_2) rt rn (nI cd) sn (nI il) tk am at_ aa 0 0 (-1) wt wy 0 (nI rm) (nI ud) (nI nu) sd (nI qn) (nI qw) qo (nI qb) (nI qp) qa (nI qi) (nI oc))), (g 0, .inl (cI, 1600, .inl (fun j => nI (tb j))))]) (C := RX12) (T := TX12) (N := 92) (v := .int (nI pa2_2)) hx hb hts inlX12 tyX12 tyX12_ok nmX12 hown hK hP hD hS 0 rfl rfl 10 (by decide) w_5_165 rfl rfl rfl (Nat.le_of_ble_eq_true rfl) rfl dX12_number_139 (fun H locs hP hD hS => ?_)
                refine lv_iload hx hb dX12_number_142 (lv_at hl 0 rfl) ?_
                refine lv_i2l hx hb dX12_number_144 rfl ?_
                refine lv_iload_n hx hb dX12_number_145 rfl (lv_at hl 3 rfl) ?_
                refine lv_i2l hx hb dX12_number_146 rfl ?_
                refine lv_iload_n hx hb dX12_number_147 rfl (lv_at hl 4 rfl) ?_
                refine lv_i2l hx hb dX12_number_148 rfl ?_
                refine sk_Si (n := 3) (rest := []) (wr := [(mm, .inr (12, mo g (nI ta) (nI za) (nI pe) (nI za) (nI pb) pp pf pg (nI pa2_2) rt rn (nI cd) sn (nI il) tk am at_ aa 0 0 (-1) wt wy 0 (nI rm) (nI ud) (nI nu) sd (nI qn) (nI qw) qo (nI qb) (nI qp) qa (nI qi) (nI oc))), (g 0, .inl (cI, 1600, .inl (fun j => nI (tb j))))]) ⟨hx, hb, hml, hown, hts⟩ hl.1 (c_em_isInY l D cI cJ cC cZ cS (Int32.toInt64 (nI v)) (Int32.toInt64 (nI lo)) (Int32.toInt64 (nI hi))) w_7_0 w_7_1 w_1_14 w_7_2 hd_X12_isIn_3 ⟨⟨(Nat.le_of_ble_eq_true rfl), (Nat.le_of_ble_eq_true rfl)⟩, (Nat.le_of_ble_eq_true rfl), (Nat.le_of_ble_eq_true rfl)⟩ hK hP hD hS hA [] [0, 1] rfl rfl (by decide +kernel) (by decide +kernel) (by decide +kernel) rfl rfl (Nat.le_of_ble_eq_true rfl) dX12_number_149 (fun r_40 u H locs hw hP hD hS => ?_)
                obtain ⟨b_39, hb1_41, rfl, rfl⟩ := hw
                refine o_re (ws' := [(mm, .inr (12, mo g (nI ta) (nI za) (nI pe) (nI za) (nI pb) pp pf pg (nI pa2_2) rt rn (nI cd) sn (nI il) tk am at_ aa 0 0 (-1) wt wy 0 (nI rm) (nI ud) (nI nu) sd (nI qn) (nI qw) qo (nI qb) (nI qp) qa (nI qi) (nI oc))), (g 0, .inl (cI, 1600, .inl (fun j => nI (tb j))))]) hP hD rfl (fun hP hD => ?_)
                refine lv_if_ne (tgt := 161) hx hb dX12_number_152 (by decide) (fun c_42 => ?_) (fun c_42 => ?_)
                · have c_42 : ¬ (b_39 = 0) := fun h => c_42 ((neq b_39 0 (by omega) (by omega)).mpr h)
                  have hr_ := (hb1_41.resolve_left (fun hq => absurd hq.1 (by omega))).2
                  have hlo2 := i2l_le (by omega) (by omega) hr_.1
                  have hhi2 := i2l_le (by omega) (by omega) hr_.2
                  refine lv_iload hx hb dX12_number_161 (lv_at hl 0 rfl) ?_
                  exact sk_iret hx hb hr rfl hlocks hK hP hD hS (⟨v, za, nI za, pb, pp, nI pa2_2, by omega, by omega, by omega, by omega, by omega, (mo_nxW hO (by omega) hpe (by rw [te_n (tb := tb) (n := pe) (z := sk tb pe pa) (qLD hcN.2.1) hcN.2.1]; exact hzx) (by rw [show qD (tb (sk tb pe pa)) = true from hcN.2.1, Bool.or_true]) hcN.1 (nm_okF (nm_ok hcN (show ¬ 4 < ext qD tb pe (sk tb pe pa) - sk tb pe pa by rw [← hzx, ← hsk_8]; omega) (show v = vd tb (sk tb pe pa) (ext qD tb pe (sk tb pe pa) - sk tb pe pa) by rw [← hzx, ← hsk_8]; exact hvd) ⟨by omega, by omega⟩))), nv_of hO (by omega) (nm_ok hcN (show ¬ 4 < ext qD tb pe (sk tb pe pa) - sk tb pe pa by rw [← hzx, ← hsk_8]; omega) (show v = vd tb (sk tb pe pa) (ext qD tb pe (sk tb pe pa) - sk tb pe pa) by rw [← hzx, ← hsk_8]; exact hvd) ⟨by omega, by omega⟩), (fun _ => by rw [← hsk_8]), rfl, rfl⟩) (Nat.le_of_ble_eq_true rfl) (Nat.le_of_ble_eq_true rfl) dX12_number_163
                · have c_42 : b_39 = 0 := (neq b_39 0 (by omega) (by omega)).mp c_42
                  have hr_ : ¬ (lo ≤ v ∧ v ≤ hi) := fun hq => (rr_0 hb1_41 (by omega)) ⟨i2l_ge (by omega) (by omega) hq.1, i2l_ge (by omega) (by omega) hq.2⟩
                  refine lv_aload_n hx hb dX12_number_155 rfl (lv_at hl 2 rfl) ?_
                  refine lv_iconst (v := 2) hx hb dX12_number_156 (by decide) ?_
                  refine lv_iload_n hx hb dX12_number_157 rfl (lv_at hl 1 rfl) ?_
                  refine sk_Vv (q0 := 0) (n := 2) (rest := []) (wr := fmR om_2_2 _) ⟨hx, hb, hml, hown, hts⟩ hl.1 (c_em_fail l D cI cJ cC cZ cS mm g ta za pe (nI za) pb pp pf pg (nI pa2_2) rt rn cd sn il tk am at_ aa wt wy rm ud nu sd qn qw qo qb qp qa qi oc 2 (nI pa2_2) (by omega) (by omega) (by omega)) w_6_229 w_6_231 w_0_46 w_1_14 w_6_232 hd_X12_fail_2 ⟨⟨(Nat.le_of_ble_eq_true rfl), (Nat.le_of_ble_eq_true rfl)⟩, (Nat.le_of_ble_eq_true rfl), (Nat.le_of_ble_eq_true rfl)⟩ hK hP hD hS hA (fmT om_2_2 0) (fmF om_2_2 0) (fm_C1 rfl rfl) (fm_R rfl rfl) (fm_nT om_2_2 0) (fm_nF om_2_2 0) (fm_di om_2_2 0) rfl rfl rfl rfl (Nat.le_of_ble_eq_true rfl) dX12_number_158 (fun u H locs hw hP hD hS => ?_)
                  refine exE hw (fun pb2_43 hw1 => exE hw1 (fun pp2_44 hw2 => anE hw2 (fun hpb2_45 hw3 => anE hw3 (fun hpb3_46 hw4 => anE hw4 (fun hfl_47 eu_48 => ?_)))))
                  clear hw hw1 hw2 hw3 hw4
                  refine o_mgE (ws' := [(mm, .inr (12, mo g (nI ta) (nI za) (nI pe) (nI za) (nI pb2_43) pp2_44 pf pg (nI pa2_2) rt rn (nI cd) sn (nI il) tk am at_ aa 0 0 (-1) wt wy 0 (nI rm) (nI ud) (nI nu) sd (nI qn) (nI qw) qo (nI qb) (nI qp) qa (nI qi) (nI oc))), (g 0, .inl (cI, 1600, .inl (fun j => nI (tb j))))]) eu_48 hP hD rfl (fun hP hD => ?_)
                  refine lv_iload hx hb dX12_number_161 (lv_at hl 0 rfl) ?_
                  exact sk_iret hx hb hr rfl hlocks hK hP hD hS (⟨v, za, nI za, pb2_43, pp2_44, nI pa2_2, by omega, by omega, by omega, by omega, by omega, (by have hf := (hfl_47.resolve_right (fun z => z.1 (by omega))).2; rw [hf.1, hf.2, hsk_8]; exact mo_fail hO (by omega) (by decide) (by decide) (nm_out hcN (show ¬ 4 < ext qD tb pe (sk tb pe pa) - sk tb pe pa by rw [← hzx, ← hsk_8]; omega) (show v = vd tb (sk tb pe pa) (ext qD tb pe (sk tb pe pa) - sk tb pe pa) by rw [← hzx, ← hsk_8]; exact hvd) hr_)), nv_bad hO (by omega) (nm_out hcN (show ¬ 4 < ext qD tb pe (sk tb pe pa) - sk tb pe pa by rw [← hzx, ← hsk_8]; omega) (show v = vd tb (sk tb pe pa) (ext qD tb pe (sk tb pe pa) - sk tb pe pa) by rw [← hzx, ← hsk_8]; exact hvd) hr_), (fun hq => absurd hq (by omega)), rfl, rfl⟩) (Nat.le_of_ble_eq_true rfl) (Nat.le_of_ble_eq_true rfl) dX12_number_163
              · have c_38 : ¬ (b_35 = 0) := fun h => c_38 ((neq b_35 0 (by omega) (by omega)).mpr h)
                refine lv_aload_n hx hb dX12_number_75 rfl (lv_at hl 2 rfl) ?_
                refine sk_get (v := .int (nI za)) (C := RX12) (T := TX12) (N := 92) hx hb hts inlX12 hown hK hP 0 rfl rfl 2 (by decide) w_5_157 rfl dX12_number_76 ?_
                refine lv_iload_n hx hb dX12_number_79 rfl (lv_at hl 1 rfl) ?_
                refine lv_isub hx hb dX12_number_80 ?_
                refine sk_top (nI (za - pa2_2)) (nsub za pa2_2 (by omega)) ?_
                refine lv_iconst (v := 4) hx hb dX12_number_81 (by decide) ?_
                refine lv_icmp_ne (tgt := 96) hx hb dX12_number_82 (by decide) (fun c_49 => ?_) (fun c_49 => ?_)
                · have c_49 : ¬ (za - pa2_2 = 4) := fun h => c_49 ((neq (za - pa2_2) 4 (by omega) (by omega)).mpr h)
                  refine lv_bipush (v := 10) hx hb dX12_number_96 (by decide) ?_
                  refine lv_iload hx hb dX12_number_98 (lv_at hl 0 rfl) ?_
                  refine lv_imul hx hb dX12_number_100 ?_
                  refine sk_top (nI (10 * v)) (nmul 10 v) ?_
                  refine lv_aload_n hx hb dX12_number_101 rfl (lv_at hl 2 rfl) ?_
                  refine sk_get (v := .ref (g 0)) (C := RX12) (T := TX12) (N := 92) hx hb hts inlX12 hown hK hP 0 rfl rfl 0 (by decide) w_5_155 rfl dX12_number_102 ?_
                  refine lv_aload_n hx hb dX12_number_105 rfl (lv_at hl 2 rfl) ?_
                  refine sk_get (v := .int (nI za)) (C := RX12) (T := TX12) (N := 92) hx hb hts inlX12 hown hK hP 0 rfl rfl 2 (by decide) w_5_157 rfl dX12_number_106 ?_
                  refine va_iald hx hb hK.1 hP 1 0 rfl rfl (vin za 1600 (by omega) (by omega)) dX12_number_109 ?_
                  refine sk_top (nI (tb za)) (nrd tb za (by omega)) ?_
                  have hb_50 := htb za
                  refine lv_iadd hx hb dX12_number_110 ?_
                  refine sk_top (nI (10 * v + (tb za))) (nI_add (10 * v) (tb za)) ?_
                  refine lv_bipush (v := 48) hx hb dX12_number_111 (by decide) ?_
                  refine lv_isub hx hb dX12_number_113 ?_
                  refine sk_top (nI (10 * v + (tb za) - 48)) (nsub (10 * v + (tb za)) 48 (by omega)) ?_
                  refine lv_istore (lv' := [(4, .int (nI (10 * v + (tb za) - 48))), (3, .int (nI pa2_2)), (0, .ref mm), (1, .int (nI lo)), (2, .int (nI hi))]) hx hb dX12_number_114 hl (by decide) rfl (fun ls hl => ?_)
                  refine lv_aload_n hx hb dX12_number_116 rfl (lv_at hl 2 rfl) ?_
                  refine lv_dup hx hb dX12_number_117 rfl ?_
                  refine sk_get (v := .int (nI za)) (C := RX12) (T := TX12) (N := 92) hx hb hts inlX12 hown hK hP 0 rfl rfl 2 (by decide) w_5_157 rfl dX12_number_118 ?_
                  refine lv_iconst (v := 1) hx hb dX12_number_121 (by decide) ?_
                  refine lv_iadd hx hb dX12_number_122 ?_
                  refine sk_top (nI (za + 1)) (nI_add za 1) ?_
                  refine sk_put (ws' := [(mm, .inr (12, mo g (nI ta) (nI (za + 1)) (nI pe) pd (nI pb) pp pf pg pn rt rn (nI cd) sn (nI il) tk am at_ aa 0 0 (-1) wt wy 0 (nI rm) (nI ud) (nI nu) sd (nI qn) (nI qw) qo (nI qb) (nI qp) qa (nI qi) (nI oc))), (g 0, .inl (cI, 1600, .inl (fun j => nI (tb j))))]) (C := RX12) (T := TX12) (N := 92) (v := .int (nI (za + 1))) hx hb hts inlX12 tyX12 tyX12_ok nmX12 hown hK hP hD hS 0 rfl rfl 2 (by decide) w_5_157 rfl rfl rfl (Nat.le_of_ble_eq_true rfl) rfl dX12_number_123 (fun H locs hP hD hS => ?_)
                  refine lv_goto (tgt := 49) hx hb dX12_number_126 (by decide) ?_
                  exact ih_lp_21 (10 * v + (tb za) - 48) (za + 1) _ _ _ (by omega) (by omega) (by omega) (by omega) (ext_nxt hze (by omega) (qD_t.mpr (by omega))) (vd_s (by omega) hvd (by omega)) hP hD hS (lv_sub hl [0, 1, 2, 3, 4] rfl)
                · have c_49 : za - pa2_2 = 4 := (neq (za - pa2_2) 4 (by omega) (by omega)).mp c_49
                  refine lv_aload_n hx hb dX12_number_85 rfl (lv_at hl 2 rfl) ?_
                  refine lv_iconst (v := 1) hx hb dX12_number_86 (by decide) ?_
                  refine lv_aload_n hx hb dX12_number_87 rfl (lv_at hl 2 rfl) ?_
                  refine sk_get (v := .int (nI za)) (C := RX12) (T := TX12) (N := 92) hx hb hts inlX12 hown hK hP 0 rfl rfl 2 (by decide) w_5_157 rfl dX12_number_88 ?_
                  refine sk_Vv (q0 := 0) (n := 2) (rest := []) (wr := fmR om_2_2 _) ⟨hx, hb, hml, hown, hts⟩ hl.1 (c_em_fail l D cI cJ cC cZ cS mm g ta za pe pd pb pp pf pg pn rt rn cd sn il tk am at_ aa wt wy rm ud nu sd qn qw qo qb qp qa qi oc 1 (nI za) (by omega) (by omega) (by omega)) w_6_229 w_6_231 w_0_46 w_1_14 w_6_232 hd_X12_fail_2 ⟨⟨(Nat.le_of_ble_eq_true rfl), (Nat.le_of_ble_eq_true rfl)⟩, (Nat.le_of_ble_eq_true rfl), (Nat.le_of_ble_eq_true rfl)⟩ hK hP hD hS hA (fmT om_2_2 0) (fmF om_2_2 0) (fm_C1 rfl rfl) (fm_R rfl rfl) (fm_nT om_2_2 0) (fm_nF om_2_2 0) (fm_di om_2_2 0) rfl rfl rfl rfl (Nat.le_of_ble_eq_true rfl) dX12_number_91 (fun u H locs hw hP hD hS => ?_)
                  refine exE hw (fun pb2_51 hw1 => exE hw1 (fun pp2_52 hw2 => anE hw2 (fun hpb2_53 hw3 => anE hw3 (fun hpb3_54 hw4 => anE hw4 (fun hfl_55 eu_56 => ?_)))))
                  clear hw hw1 hw2 hw3 hw4
                  refine o_mgE (ws' := [(mm, .inr (12, mo g (nI ta) (nI za) (nI pe) pd (nI pb2_51) pp2_52 pf pg pn rt rn (nI cd) sn (nI il) tk am at_ aa 0 0 (-1) wt wy 0 (nI rm) (nI ud) (nI nu) sd (nI qn) (nI qw) qo (nI qb) (nI qp) qa (nI qi) (nI oc))), (g 0, .inl (cI, 1600, .inl (fun j => nI (tb j))))]) eu_56 hP hD rfl (fun hP hD => ?_)
                  refine lv_iconst (v := 0) hx hb dX12_number_94 (by decide) ?_
                  exact sk_iret hx hb hr rfl hlocks hK hP hD hS (⟨0, za, pd, pb2_51, pp2_52, pn, by omega, by omega, by omega, by omega, by omega, (by have hf := (hfl_55.resolve_right (fun z => z.1 (by omega))).2; rw [hf.1, hf.2, show za = sk tb pe pa + 4 by rw [← hsk_8]; omega]; exact mo_fail hO (by omega) (by decide) (by decide) (nm_many (lo := lo) (hi := hi) hcN (show 4 < ext qD tb pe (sk tb pe pa) - sk tb pe pa by have hgt := ext_gt (show za < pe by omega) (qD_t.mpr (show 48 ≤ tb za ∧ tb za ≤ 57 by omega)); rw [← hsk_8]; rw [hze] at hgt; omega))), nv_bad hO (by omega) (nm_many (lo := lo) (hi := hi) hcN (show 4 < ext qD tb pe (sk tb pe pa) - sk tb pe pa by have hgt := ext_gt (show za < pe by omega) (qD_t.mpr (show 48 ≤ tb za ∧ tb za ≤ 57 by omega)); rw [← hsk_8]; rw [hze] at hgt; omega)), (fun hq => absurd hq (by omega)), rfl, rfl⟩) (Nat.le_of_ble_eq_true rfl) (Nat.le_of_ble_eq_true rfl) dX12_number_95
        exact lp_21 (pe - pa2_2 + 1) 0 pa2_2 _ _ _ (Nat.lt_succ_self _) (by omega) (by omega) (by omega) rfl (by rw [Nat.sub_self]; rfl) hP hD hS (lv_sub hl [0, 1, 2, 3, 4] rfl)
      · skip
        refine lv_aload_n hx hb dX12_number_30 rfl (lv_at hl 0 rfl) ?_
        refine lv_iconst (v := 1) hx hb dX12_number_31 (by decide) ?_
        refine lv_aload_n hx hb dX12_number_32 rfl (lv_at hl 0 rfl) ?_
        refine sk_get (v := .int (nI pa2_2)) (C := RX12) (T := TX12) (N := 92) hx hb hts inlX12 hown hK hP 0 rfl rfl 2 (by decide) w_5_157 rfl dX12_number_33 ?_
        refine sk_Vv (q0 := 0) (n := 2) (rest := []) (wr := fmR om_2_2 _) ⟨hx, hb, hml, hown, hts⟩ hl.1 (c_em_fail l D cI cJ cC cZ cS mm g ta pa2_2 pe pd pb pp pf pg pn rt rn cd sn il tk am at_ aa wt wy rm ud nu sd qn qw qo qb qp qa qi oc 1 (nI pa2_2) (by omega) (by omega) (by omega)) w_6_229 w_6_231 w_0_46 w_1_14 w_6_232 hd_X12_fail_2 ⟨⟨(Nat.le_of_ble_eq_true rfl), (Nat.le_of_ble_eq_true rfl)⟩, (Nat.le_of_ble_eq_true rfl), (Nat.le_of_ble_eq_true rfl)⟩ hK hP hD hS hA (fmT om_2_2 0) (fmF om_2_2 0) (fm_C1 rfl rfl) (fm_R rfl rfl) (fm_nT om_2_2 0) (fm_nF om_2_2 0) (fm_di om_2_2 0) rfl rfl rfl rfl (Nat.le_of_ble_eq_true rfl) dX12_number_36 (fun u H locs hw hP hD hS => ?_)
        refine exE hw (fun pb2_57 hw1 => exE hw1 (fun pp2_58 hw2 => anE hw2 (fun hpb2_59 hw3 => anE hw3 (fun hpb3_60 hw4 => anE hw4 (fun hfl_61 eu_62 => ?_)))))
        clear hw hw1 hw2 hw3 hw4
        refine o_mgE (ws' := [(mm, .inr (12, mo g (nI ta) (nI pa2_2) (nI pe) pd (nI pb2_57) pp2_58 pf pg pn rt rn (nI cd) sn (nI il) tk am at_ aa 0 0 (-1) wt wy 0 (nI rm) (nI ud) (nI nu) sd (nI qn) (nI qw) qo (nI qb) (nI qp) qa (nI qi) (nI oc))), (g 0, .inl (cI, 1600, .inl (fun j => nI (tb j))))]) eu_62 hP hD rfl (fun hP hD => ?_)
        refine lv_iconst (v := 0) hx hb dX12_number_39 (by decide) ?_
        exact sk_iret hx hb hr rfl hlocks hK hP hD hS (⟨0, pa2_2, pd, pb2_57, pp2_58, pn, by omega, by omega, by omega, by omega, by omega, (by have hf := (hfl_61.resolve_right (fun z => z.1 (by omega))).2; rw [hf.1, hf.2, hsk_8]; exact mo_fail hO (by omega) (by decide) (by decide) (nm_no (lo := lo) (hi := hi) (fun hq => by have h9 := hq.2.2; unfold cuO at h9; rw [← hsk_8, c_20] at h9; simp at h9))), nv_bad hO (by omega) (nm_no (lo := lo) (hi := hi) (fun hq => by have h9 := hq.2.2; unfold cuO at h9; rw [← hsk_8, c_20] at h9; simp at h9)), (fun hq => absurd hq (by omega)), rfl, rfl⟩) (Nat.le_of_ble_eq_true rfl) (Nat.le_of_ble_eq_true rfl) dX12_number_40
  · have c_1 : ¬ (pb = 0) := fun h => c_1 ((neq pb 0 (by omega) (by omega)).mpr h)
    refine lv_iconst (v := 0) hx hb dX12_number_7 (by decide) ?_
    exact sk_iret hx hb hr rfl hlocks hK hP hD hS (⟨0, pa, pd, pb, pp, pn, by omega, by omega, by omega, by omega, by omega, mo_er hO c_1, nv_er hO c_1, (fun hq => absurd hq c_1), rfl, rfl⟩) (Nat.le_of_ble_eq_true rfl) (Nat.le_of_ble_eq_true rfl) dX12_number_8

