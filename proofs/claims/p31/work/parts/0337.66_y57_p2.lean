set_option maxHeartbeats 4000000 in
set_option maxRecDepth 100000 in
theorem c_em_qCode (l : Launch) (D : va_G) (cI cJ cC cZ cS : ClassId) (mm : Nat) (g : Nat → Nat) (ta : Nat) (pa : Nat) (pe : Nat) (pd : Int32) (pb : Nat) (pp : Int32) (pf : Int32) (pg : Int32) (pn : Int32) (rt : Int32) (rn : Int32) (cd : Nat) (sn : Int32) (il : Nat) (tk : Int32) (am : Int32) (at_ : Int32) (aa : Int32) (wt : Int32) (wy : Int64) (rm : Nat) (ud : Nat) (nu : Nat) (sd : Int64) (qn : Nat) (qw : Nat) (qo : Int32) (qb : Nat) (qp : Nat) (qa : Int64) (qi : Nat) (oc : Nat) (o : Nat) (qs : Nat → Nat) (hqn : qn < 1700) (ho : o ≤ 20000) (hqs : ∀ j, qs j ≤ 20000) : skM l yX12_qCode cX12_qCode 2 none 0 0 0 0 D (skT cI cJ cC cZ cS) [.ref mm, .int (nI o)] [(mm, .inr (12, mo g (nI ta) (nI pa) (nI pe) pd (nI pb) pp pf pg pn rt rn (nI cd) sn (nI il) tk am at_ aa 0 0 (-1) wt wy 0 (nI rm) (nI ud) (nI nu) sd (nI qn) (nI qw) qo (nI qb) (nI qp) qa (nI qi) (nI oc))), (g 80, .inl (cI, 1700, .inl (fun j => nI (qs j))))] (skV D (skT cI cJ cC cZ cS) (fun (u : va_W) => ∃ (qs2 : Nat → Nat), qs2 = updN qs qn o ∧ (∀ j, qs2 j ≤ 20000) ∧ u = [(mm, .inr (12, mo g (nI ta) (nI pa) (nI pe) pd (nI pb) pp pf pg pn rt rn (nI cd) sn (nI il) tk am at_ aa 0 0 (-1) wt wy 0 (nI rm) (nI ud) (nI nu) sd (nI (qn + 1)) (nI qw) qo (nI qb) (nI qp) qa (nI qi) (nI oc))), (g 80, .inl (cI, 1700, .inl (fun j => nI (qs2 j))))])) := by
  refine skM_of pf_X12_qCode (Nat.le_of_ble_eq_true rfl) ?_
  intro p e s m below meth c A ls E hP hD hl
  refine skE_el E (fun hx hb hr hml hlocks hin hown hts hK hA => ?_)
  have hown : s.vm.findClass RX12 = some m.cls := hown
  have hS : va_S A s.heap s.heap [] := va_S.rf
  have hl : lv_has ls 2 [(0, .ref mm), (1, .int (nI o))] := hl
  refine lv_aload_n hx hb dX12_qCode_0 rfl (lv_at hl 0 rfl) ?_
  refine sk_get (v := .ref (g 80)) (C := RX12) (T := TX12) (N := 92) hx hb hts inlX12 hown hK hP 0 rfl rfl 80 (by decide) w_5_235 rfl dX12_qCode_1 ?_
  refine lv_aload_n hx hb dX12_qCode_4 rfl (lv_at hl 0 rfl) ?_
  refine sk_get (v := .int (nI qn)) (C := RX12) (T := TX12) (N := 92) hx hb hts inlX12 hown hK hP 0 rfl rfl 81 (by decide) w_5_236 rfl dX12_qCode_5 ?_
  refine lv_iload_n hx hb dX12_qCode_8 rfl (lv_at hl 1 rfl) ?_
  refine sk_iastB (k := qn) (v := o) (B := 20000) (ws' := fun f_1 => [(mm, .inr (12, mo g (nI ta) (nI pa) (nI pe) pd (nI pb) pp pf pg pn rt rn (nI cd) sn (nI il) tk am at_ aa 0 0 (-1) wt wy 0 (nI rm) (nI ud) (nI nu) sd (nI qn) (nI qw) qo (nI qb) (nI qp) qa (nI qi) (nI oc))), (g 80, .inl (cI, 1700, .inl (fun j => nI (f_1 j))))]) hx hb hK hP hD hS 1 0 rfl rfl (by omega) (by omega) hqs (by omega) (fun _ => rfl) dX12_qCode_9 (fun f_1 H locs hf_2 ef_3 hP hD hS => ?_)
  refine lv_aload_n hx hb dX12_qCode_10 rfl (lv_at hl 0 rfl) ?_
  refine lv_dup hx hb dX12_qCode_11 rfl ?_
  refine sk_get (v := .int (nI qn)) (C := RX12) (T := TX12) (N := 92) hx hb hts inlX12 hown hK hP 0 rfl rfl 81 (by decide) w_5_236 rfl dX12_qCode_12 ?_
  refine lv_iconst (v := 1) hx hb dX12_qCode_15 (by decide) ?_
  refine lv_iadd hx hb dX12_qCode_16 ?_
  refine sk_top (nI (qn + 1)) (nI_add qn 1) ?_
  refine sk_put (ws' := [(mm, .inr (12, mo g (nI ta) (nI pa) (nI pe) pd (nI pb) pp pf pg pn rt rn (nI cd) sn (nI il) tk am at_ aa 0 0 (-1) wt wy 0 (nI rm) (nI ud) (nI nu) sd (nI (qn + 1)) (nI qw) qo (nI qb) (nI qp) qa (nI qi) (nI oc))), (g 80, .inl (cI, 1700, .inl (fun j => nI (f_1 j))))]) (C := RX12) (T := TX12) (N := 92) (v := .int (nI (qn + 1))) hx hb hts inlX12 tyX12 tyX12_ok nmX12 hown hK hP hD hS 0 rfl rfl 81 (by decide) w_5_236 rfl rfl rfl (Nat.le_of_ble_eq_true rfl) rfl dX12_qCode_17 (fun H locs hP hD hS => ?_)
  exact sk_vret hx hb hr hlocks hK hP hD hS (⟨f_1, ef_3, hf_2, rfl⟩) (Nat.le_of_ble_eq_true rfl) (Nat.le_of_ble_eq_true rfl) dX12_qCode_20
set_option maxHeartbeats 4000000 in
set_option maxRecDepth 100000 in
theorem c_em_qOpens (l : Launch) (D : va_G) (cI cJ cC cZ cS : ClassId) (mm : Nat) (g : Nat → Nat) (ta : Nat) (pa : Nat) (pe : Nat) (pd : Int32) (pb : Nat) (pp : Int32) (pf : Int32) (pg : Int32) (pn : Int32) (rt : Int32) (rn : Int32) (cd : Nat) (sn : Int32) (il : Nat) (tk : Int32) (am : Int32) (at_ : Int32) (aa : Int32) (wt : Int32) (wy : Int64) (rm : Nat) (ud : Nat) (nu : Nat) (sd : Int64) (qn : Nat) (qw : Nat) (qo : Int32) (qb : Nat) (qp : Nat) (qa : Int64) (qi : Nat) (oc : Nat) (w : Nat) (o : Int32) (qt : Nat → Nat) (hpb : pb ≤ 5) (hw : w ≤ 100) (hqw : qw < 1700) (hqt : ∀ j, qt j ≤ 100) : skM l yX12_qOpens cX12_qOpens 3 none 1 22 0 0 D (skT cI cJ cC cZ cS) [.ref mm, .int (nI w), .int o] [(mm, .inr (12, mo g (nI ta) (nI pa) (nI pe) pd (nI pb) pp pf pg pn rt rn (nI cd) sn (nI il) tk am at_ aa 0 0 (-1) wt wy 0 (nI rm) (nI ud) (nI nu) sd (nI qn) (nI qw) qo (nI qb) (nI qp) qa (nI qi) (nI oc))), (g 82, .inl (cI, 1700, .inl (fun j => nI (qt j))))] (skV D (skT cI cJ cC cZ cS) (fun (u : va_W) => ∃ (pb2 : Nat), ∃ (pp2 : Int32), ∃ (qo2 : Int32), ∃ (qw2 : Nat), ∃ (qt2 : Nat → Nat), pb2 ≤ 5 ∧ ((pb2 = 0 ∧ pb = 0 ∧ qw2 = qw + 1) ∨ (¬ pb2 = 0 ∧ qw2 = qw)) ∧ (pb2 = 0 → qt2 = updN qt qw w) ∧ ((pb = 0 ∧ qo = 6 ∧ pb2 = 4 ∧ pp2 = o ∧ qo2 = qo ∧ qw2 = qw ∧ qt2 = qt) ∨ (pb = 0 ∧ ¬ qo = 6 ∧ pb2 = pb ∧ pp2 = pp ∧ qo2 = qo + 1 ∧ qw2 = qw + 1 ∧ qt2 = updN qt qw w) ∨ (¬ pb = 0 ∧ pb2 = pb ∧ pp2 = pp ∧ qo2 = qo ∧ qw2 = qw ∧ qt2 = qt)) ∧ (∀ j, qt2 j ≤ 100) ∧ u = [(mm, .inr (12, mo g (nI ta) (nI pa) (nI pe) pd (nI pb2) pp2 pf pg pn rt rn (nI cd) sn (nI il) tk am at_ aa 0 0 (-1) wt wy 0 (nI rm) (nI ud) (nI nu) sd (nI qn) (nI qw2) qo2 (nI qb) (nI qp) qa (nI qi) (nI oc))), (g 82, .inl (cI, 1700, .inl (fun j => nI (qt2 j))))])) := by
  refine skM_of pf_X12_qOpens (Nat.le_of_ble_eq_true rfl) ?_
  intro p e s m below meth c A ls E hP hD hl
  refine skE_el E (fun hx hb hr hml hlocks hin hown hts hK hA => ?_)
  have hown : s.vm.findClass RX12 = some m.cls := hown
  have hS : va_S A s.heap s.heap [] := va_S.rf
  have hl : lv_has ls 3 [(0, .ref mm), (1, .int (nI w)), (2, .int o)] := hl
  refine lv_aload_n hx hb dX12_qOpens_0 rfl (lv_at hl 0 rfl) ?_
  refine sk_get (v := .int (nI pb)) (C := RX12) (T := TX12) (N := 92) hx hb hts inlX12 hown hK hP 0 rfl rfl 5 (by decide) w_5_160 rfl dX12_qOpens_1 ?_
  refine lv_if_eq (tgt := 8) hx hb dX12_qOpens_4 (by decide) (fun c_1 => ?_) (fun c_1 => ?_)
  · have c_1 : pb = 0 := (neq pb 0 (by omega) (by omega)).mp c_1
    refine lv_aload_n hx hb dX12_qOpens_8 rfl (lv_at hl 0 rfl) ?_
    refine sk_get (v := .int qo) (C := RX12) (T := TX12) (N := 92) hx hb hts inlX12 hown hK hP 0 rfl rfl 84 (by decide) w_5_239 rfl dX12_qOpens_9 ?_
    refine lv_bipush (v := 6) hx hb dX12_qOpens_12 (by decide) ?_
    refine lv_icmp_ne (tgt := 24) hx hb dX12_qOpens_14 (by decide) (fun c_2 => ?_) (fun c_2 => ?_)
    · skip
      refine lv_aload_n hx hb dX12_qOpens_24 rfl (lv_at hl 0 rfl) ?_
      refine lv_dup hx hb dX12_qOpens_25 rfl ?_
      refine sk_get (v := .int qo) (C := RX12) (T := TX12) (N := 92) hx hb hts inlX12 hown hK hP 0 rfl rfl 84 (by decide) w_5_239 rfl dX12_qOpens_26 ?_
      refine lv_iconst (v := 1) hx hb dX12_qOpens_29 (by decide) ?_
      refine lv_iadd hx hb dX12_qOpens_30 ?_
      refine lv_topi (fun v_3 ev_3 => ?_)
      refine sk_put (ws' := [(mm, .inr (12, mo g (nI ta) (nI pa) (nI pe) pd (nI pb) pp pf pg pn rt rn (nI cd) sn (nI il) tk am at_ aa 0 0 (-1) wt wy 0 (nI rm) (nI ud) (nI nu) sd (nI qn) (nI qw) v_3 (nI qb) (nI qp) qa (nI qi) (nI oc))), (g 82, .inl (cI, 1700, .inl (fun j => nI (qt j))))]) (C := RX12) (T := TX12) (N := 92) (v := .int v_3) hx hb hts inlX12 tyX12 tyX12_ok nmX12 hown hK hP hD hS 0 rfl rfl 84 (by decide) w_5_239 rfl rfl rfl (Nat.le_of_ble_eq_true rfl) rfl dX12_qOpens_31 (fun H locs hP hD hS => ?_)
      refine lv_aload_n hx hb dX12_qOpens_34 rfl (lv_at hl 0 rfl) ?_
      refine sk_get (v := .ref (g 82)) (C := RX12) (T := TX12) (N := 92) hx hb hts inlX12 hown hK hP 0 rfl rfl 82 (by decide) w_5_237 rfl dX12_qOpens_35 ?_
      refine lv_aload_n hx hb dX12_qOpens_38 rfl (lv_at hl 0 rfl) ?_
      refine sk_get (v := .int (nI qw)) (C := RX12) (T := TX12) (N := 92) hx hb hts inlX12 hown hK hP 0 rfl rfl 83 (by decide) w_5_238 rfl dX12_qOpens_39 ?_
      refine lv_iload_n hx hb dX12_qOpens_42 rfl (lv_at hl 1 rfl) ?_
      refine sk_iastB (k := qw) (v := w) (B := 100) (ws' := fun f_4 => [(mm, .inr (12, mo g (nI ta) (nI pa) (nI pe) pd (nI pb) pp pf pg pn rt rn (nI cd) sn (nI il) tk am at_ aa 0 0 (-1) wt wy 0 (nI rm) (nI ud) (nI nu) sd (nI qn) (nI qw) v_3 (nI qb) (nI qp) qa (nI qi) (nI oc))), (g 82, .inl (cI, 1700, .inl (fun j => nI (f_4 j))))]) hx hb hK hP hD hS 1 0 rfl rfl (by omega) (by omega) hqt (by omega) (fun _ => rfl) dX12_qOpens_43 (fun f_4 H locs hf_5 ef_6 hP hD hS => ?_)
      refine lv_aload_n hx hb dX12_qOpens_44 rfl (lv_at hl 0 rfl) ?_
      refine lv_dup hx hb dX12_qOpens_45 rfl ?_
      refine sk_get (v := .int (nI qw)) (C := RX12) (T := TX12) (N := 92) hx hb hts inlX12 hown hK hP 0 rfl rfl 83 (by decide) w_5_238 rfl dX12_qOpens_46 ?_
      refine lv_iconst (v := 1) hx hb dX12_qOpens_49 (by decide) ?_
      refine lv_iadd hx hb dX12_qOpens_50 ?_
      refine sk_top (nI (qw + 1)) (nI_add qw 1) ?_
      refine sk_put (ws' := [(mm, .inr (12, mo g (nI ta) (nI pa) (nI pe) pd (nI pb) pp pf pg pn rt rn (nI cd) sn (nI il) tk am at_ aa 0 0 (-1) wt wy 0 (nI rm) (nI ud) (nI nu) sd (nI qn) (nI (qw + 1)) v_3 (nI qb) (nI qp) qa (nI qi) (nI oc))), (g 82, .inl (cI, 1700, .inl (fun j => nI (f_4 j))))]) (C := RX12) (T := TX12) (N := 92) (v := .int (nI (qw + 1))) hx hb hts inlX12 tyX12 tyX12_ok nmX12 hown hK hP hD hS 0 rfl rfl 83 (by decide) w_5_238 rfl rfl rfl (Nat.le_of_ble_eq_true rfl) rfl dX12_qOpens_51 (fun H locs hP hD hS => ?_)
      exact sk_vret hx hb hr hlocks hK hP hD hS (⟨pb, pp, v_3, qw + 1, f_4, by omega, by omega, (fun _ => ef_6), (Or.inr (Or.inl ⟨by omega, c_2, rfl, rfl, ev_3, rfl, ef_6⟩)), hf_5, rfl⟩) (Nat.le_of_ble_eq_true rfl) (Nat.le_of_ble_eq_true rfl) dX12_qOpens_54
    · skip
      refine lv_aload_n hx hb dX12_qOpens_17 rfl (lv_at hl 0 rfl) ?_
      refine lv_iconst (v := 4) hx hb dX12_qOpens_18 (by decide) ?_
      refine lv_iload_n hx hb dX12_qOpens_19 rfl (lv_at hl 2 rfl) ?_
      refine sk_Vv (q0 := 0) (n := 2) (rest := []) (wr := fmR om_2_2 _) ⟨hx, hb, hml, hown, hts⟩ hl.1 (c_em_fail l D cI cJ cC cZ cS mm g ta pa pe pd pb pp pf pg pn rt rn cd sn il tk am at_ aa wt wy rm ud nu sd qn qw qo qb qp qa qi oc 4 o (by omega) (by omega) (by omega)) w_6_229 w_6_231 w_0_46 w_1_14 w_6_232 hd_X12_fail_2 ⟨⟨(Nat.le_of_ble_eq_true rfl), (Nat.le_of_ble_eq_true rfl)⟩, (Nat.le_of_ble_eq_true rfl), (Nat.le_of_ble_eq_true rfl)⟩ hK hP hD hS hA (fmT om_2_2 0) (fmF om_2_2 0) (fm_C1 rfl rfl) (fm_R rfl rfl) (fm_nT om_2_2 0) (fm_nF om_2_2 0) (fm_di om_2_2 0) rfl rfl rfl rfl (Nat.le_of_ble_eq_true rfl) dX12_qOpens_20 (fun u H locs hw hP hD hS => ?_)
      refine exE hw (fun pb2_7 hw1 => exE hw1 (fun pp2_8 hw2 => anE hw2 (fun hpb2_9 hw3 => anE hw3 (fun hpb3_10 hw4 => anE hw4 (fun hfl_11 eu_12 => ?_)))))
      clear hw hw1 hw2 hw3 hw4
      refine o_mgE (ws' := [(mm, .inr (12, mo g (nI ta) (nI pa) (nI pe) pd (nI pb2_7) pp2_8 pf pg pn rt rn (nI cd) sn (nI il) tk am at_ aa 0 0 (-1) wt wy 0 (nI rm) (nI ud) (nI nu) sd (nI qn) (nI qw) qo (nI qb) (nI qp) qa (nI qi) (nI oc))), (g 82, .inl (cI, 1700, .inl (fun j => nI (qt j))))]) eu_12 hP hD rfl (fun hP hD => ?_)
      exact sk_vret hx hb hr hlocks hK hP hD hS (⟨pb2_7, pp2_8, qo, qw, qt, by omega, by omega, (fun h => absurd h (by omega)), (Or.inl ⟨by omega, c_2, (hfl_11.resolve_right (fun z => z.1 (by omega))).2.1, (hfl_11.resolve_right (fun z => z.1 (by omega))).2.2, rfl, rfl, rfl⟩), hqt, rfl⟩) (Nat.le_of_ble_eq_true rfl) (Nat.le_of_ble_eq_true rfl) dX12_qOpens_23
  · have c_1 : ¬ (pb = 0) := fun h => c_1 ((neq pb 0 (by omega) (by omega)).mpr h)
    exact sk_vret hx hb hr hlocks hK hP hD hS (⟨pb, pp, qo, qw, qt, by omega, by omega, (fun h => absurd h (by omega)), (Or.inr (Or.inr ⟨c_1, rfl, rfl, rfl, rfl, rfl⟩)), hqt, rfl⟩) (Nat.le_of_ble_eq_true rfl) (Nat.le_of_ble_eq_true rfl) dX12_qOpens_7
set_option maxHeartbeats 4000000 in
set_option maxRecDepth 100000 in
theorem c_em_qIsOn (l : Launch) (D : va_G) (cI cJ cC cZ cS : ClassId) (mm : Nat) (g : Nat → Nat) (ta : Nat) (pa : Nat) (pe : Nat) (pd : Int32) (pb : Nat) (pp : Int32) (pf : Int32) (pg : Int32) (pn : Int32) (rt : Int32) (rn : Int32) (cd : Nat) (sn : Int32) (il : Nat) (tk : Int32) (am : Int32) (at_ : Int32) (aa : Int32) (wt : Int32) (wy : Int64) (rm : Nat) (ud : Nat) (nu : Nat) (sd : Int64) (qn : Nat) (qw : Nat) (qo : Int32) (qb : Nat) (qp : Nat) (qa : Int64) (qi : Nat) (oc : Nat) (w : Nat) (qt : Nat → Nat) (hw : w ≤ 100) (hqw : qw ≤ 1700) (hqt : ∀ j, qt j ≤ 100) : skM l yX12_qIsOn cX12_qIsOn 2 (some .boolean) 0 0 0 0 D (skT cI cJ cC cZ cS) [.ref mm, .int (nI w)] [(mm, .inr (12, mo g (nI ta) (nI pa) (nI pe) pd (nI pb) pp pf pg pn rt rn (nI cd) sn (nI il) tk am at_ aa 0 0 (-1) wt wy 0 (nI rm) (nI ud) (nI nu) sd (nI qn) (nI qw) qo (nI qb) (nI qp) qa (nI qi) (nI oc))), (g 82, .inl (cI, 1700, .inl (fun j => nI (qt j))))] (skI D (skT cI cJ cC cZ cS) (fun (r : Int32) (u : va_W) => ∃ (b : Nat), ((b = 0 ∧ (qw = 0 ∨ ¬ qt (qw - 1) = w)) ∨ (b = 1 ∧ 1 ≤ qw ∧ qt (qw - 1) = w)) ∧ r = nI b ∧ u = [(mm, .inr (12, mo g (nI ta) (nI pa) (nI pe) pd (nI pb) pp pf pg pn rt rn (nI cd) sn (nI il) tk am at_ aa 0 0 (-1) wt wy 0 (nI rm) (nI ud) (nI nu) sd (nI qn) (nI qw) qo (nI qb) (nI qp) qa (nI qi) (nI oc))), (g 82, .inl (cI, 1700, .inl (fun j => nI (qt j))))])) := by
  refine skM_of pf_X12_qIsOn (Nat.le_of_ble_eq_true rfl) ?_
  intro p e s m below meth c A ls E hP hD hl
  refine skE_el E (fun hx hb hr hml hlocks hin hown hts hK hA => ?_)
  have hown : s.vm.findClass RX12 = some m.cls := hown
  have hS : va_S A s.heap s.heap [] := va_S.rf
  have hl : lv_has ls 2 [(0, .ref mm), (1, .int (nI w))] := hl
  refine lv_aload_n hx hb dX12_qIsOn_0 rfl (lv_at hl 0 rfl) ?_
  refine sk_get (v := .int (nI qw)) (C := RX12) (T := TX12) (N := 92) hx hb hts inlX12 hown hK hP 0 rfl rfl 83 (by decide) w_5_238 rfl dX12_qIsOn_1 ?_
  refine lv_if_le (tgt := 26) hx hb dX12_qIsOn_4 (by decide) (fun c_1 => ?_) (fun c_1 => ?_)
  · have c_1 : qw ≤ 0 := (nle qw 0 (by omega) (by omega)).mp c_1
    refine lv_iconst (v := 0) hx hb dX12_qIsOn_26 (by decide) ?_
    exact sk_iret hx hb hr rfl hlocks hK hP hD hS (⟨0, by omega, rfl, rfl⟩) (Nat.le_of_ble_eq_true rfl) (Nat.le_of_ble_eq_true rfl) dX12_qIsOn_27
  · have c_1 : ¬ (qw ≤ 0) := fun h => c_1 ((nle qw 0 (by omega) (by omega)).mpr h)
    refine lv_aload_n hx hb dX12_qIsOn_7 rfl (lv_at hl 0 rfl) ?_
    refine sk_get (v := .ref (g 82)) (C := RX12) (T := TX12) (N := 92) hx hb hts inlX12 hown hK hP 0 rfl rfl 82 (by decide) w_5_237 rfl dX12_qIsOn_8 ?_
    refine lv_aload_n hx hb dX12_qIsOn_11 rfl (lv_at hl 0 rfl) ?_
    refine sk_get (v := .int (nI qw)) (C := RX12) (T := TX12) (N := 92) hx hb hts inlX12 hown hK hP 0 rfl rfl 83 (by decide) w_5_238 rfl dX12_qIsOn_12 ?_
    refine lv_iconst (v := 1) hx hb dX12_qIsOn_15 (by decide) ?_
    refine lv_isub hx hb dX12_qIsOn_16 ?_
    refine sk_top (nI (qw - 1)) (nsub qw 1 (by omega)) ?_
    refine va_iald hx hb hK.1 hP 1 0 rfl rfl (vin (qw - 1) 1700 (by omega) (by omega)) dX12_qIsOn_17 ?_
    refine sk_top (nI (qt (qw - 1))) (nrd qt (qw - 1) (by omega)) ?_
    have hb_2 := hqt (qw - 1)
    refine lv_iload_n hx hb dX12_qIsOn_18 rfl (lv_at hl 1 rfl) ?_
    refine lv_icmp_ne (tgt := 26) hx hb dX12_qIsOn_19 (by decide) (fun c_3 => ?_) (fun c_3 => ?_)
    · have c_3 : ¬ (qt (qw - 1) = w) := fun h => c_3 ((neq (qt (qw - 1)) w (by omega) (by omega)).mpr h)
      refine lv_iconst (v := 0) hx hb dX12_qIsOn_26 (by decide) ?_
      exact sk_iret hx hb hr rfl hlocks hK hP hD hS (⟨0, by omega, rfl, rfl⟩) (Nat.le_of_ble_eq_true rfl) (Nat.le_of_ble_eq_true rfl) dX12_qIsOn_27
    · have c_3 : qt (qw - 1) = w := (neq (qt (qw - 1)) w (by omega) (by omega)).mp c_3
      refine lv_iconst (v := 1) hx hb dX12_qIsOn_22 (by decide) ?_
      refine lv_goto (tgt := 27) hx hb dX12_qIsOn_23 (by decide) ?_
      exact sk_iret hx hb hr rfl hlocks hK hP hD hS (⟨1, by omega, rfl, rfl⟩) (Nat.le_of_ble_eq_true rfl) (Nat.le_of_ble_eq_true rfl) dX12_qIsOn_27
set_option maxHeartbeats 4000000 in
set_option maxRecDepth 100000 in
theorem c_em_qDrops (l : Launch) (D : va_G) (cI cJ cC cZ cS : ClassId) (mm : Nat) (g : Nat → Nat) (ta : Nat) (pa : Nat) (pe : Nat) (pd : Int32) (pb : Nat) (pp : Int32) (pf : Int32) (pg : Int32) (pn : Int32) (rt : Int32) (rn : Int32) (cd : Nat) (sn : Int32) (il : Nat) (tk : Int32) (am : Int32) (at_ : Int32) (aa : Int32) (wt : Int32) (wy : Int64) (rm : Nat) (ud : Nat) (nu : Nat) (sd : Int64) (qn : Nat) (qw : Nat) (qo : Int32) (qb : Nat) (qp : Nat) (qa : Int64) (qi : Nat) (oc : Nat) (qs : Nat → Nat) (qt : Nat → Nat) (hqn : qn < 1700) (hqw1 : 1 ≤ qw) (hqw : qw ≤ 1700) (hqs : ∀ j, qs j ≤ 20000) (hqt : ∀ j, qt j ≤ 100) : skM l yX12_qDrops cX12_qDrops 1 none 1 21 0 0 D (skT cI cJ cC cZ cS) [.ref mm] [(mm, .inr (12, mo g (nI ta) (nI pa) (nI pe) pd (nI pb) pp pf pg pn rt rn (nI cd) sn (nI il) tk am at_ aa 0 0 (-1) wt wy 0 (nI rm) (nI ud) (nI nu) sd (nI qn) (nI qw) qo (nI qb) (nI qp) qa (nI qi) (nI oc))), (g 80, .inl (cI, 1700, .inl (fun j => nI (qs j)))), (g 82, .inl (cI, 1700, .inl (fun j => nI (qt j))))] (skV D (skT cI cJ cC cZ cS) (fun (u : va_W) => ∃ (qs2 : Nat → Nat), qs2 = updN qs qn (qt (qw - 1)) ∧ (∀ j, qs2 j ≤ 20000) ∧ u = [(mm, .inr (12, mo g (nI ta) (nI pa) (nI pe) pd (nI pb) pp pf pg pn rt rn (nI cd) sn (nI il) tk am at_ aa 0 0 (-1) wt wy 0 (nI rm) (nI ud) (nI nu) sd (nI (qn + 1)) (nI (qw - 1)) qo (nI qb) (nI qp) qa (nI qi) (nI oc))), (g 80, .inl (cI, 1700, .inl (fun j => nI (qs2 j)))), (g 82, .inl (cI, 1700, .inl (fun j => nI (qt j))))])) := by
  refine skM_of pf_X12_qDrops (Nat.le_of_ble_eq_true rfl) ?_
  intro p e s m below meth c A ls E hP hD hl
  refine skE_el E (fun hx hb hr hml hlocks hin hown hts hK hA => ?_)
  have hown : s.vm.findClass RX12 = some m.cls := hown
  have hS : va_S A s.heap s.heap [] := va_S.rf
  have hl : lv_has ls 1 [(0, .ref mm)] := hl
  refine lv_aload_n hx hb dX12_qDrops_0 rfl (lv_at hl 0 rfl) ?_
  refine lv_dup hx hb dX12_qDrops_1 rfl ?_
  refine sk_get (v := .int (nI qw)) (C := RX12) (T := TX12) (N := 92) hx hb hts inlX12 hown hK hP 0 rfl rfl 83 (by decide) w_5_238 rfl dX12_qDrops_2 ?_
  refine lv_iconst (v := 1) hx hb dX12_qDrops_5 (by decide) ?_
  refine lv_isub hx hb dX12_qDrops_6 ?_
  refine sk_top (nI (qw - 1)) (nsub qw 1 (by omega)) ?_
  refine sk_put (ws' := [(mm, .inr (12, mo g (nI ta) (nI pa) (nI pe) pd (nI pb) pp pf pg pn rt rn (nI cd) sn (nI il) tk am at_ aa 0 0 (-1) wt wy 0 (nI rm) (nI ud) (nI nu) sd (nI qn) (nI (qw - 1)) qo (nI qb) (nI qp) qa (nI qi) (nI oc))), (g 80, .inl (cI, 1700, .inl (fun j => nI (qs j)))), (g 82, .inl (cI, 1700, .inl (fun j => nI (qt j))))]) (C := RX12) (T := TX12) (N := 92) (v := .int (nI (qw - 1))) hx hb hts inlX12 tyX12 tyX12_ok nmX12 hown hK hP hD hS 0 rfl rfl 83 (by decide) w_5_238 rfl rfl rfl (Nat.le_of_ble_eq_true rfl) rfl dX12_qDrops_7 (fun H locs hP hD hS => ?_)
  refine lv_aload_n hx hb dX12_qDrops_10 rfl (lv_at hl 0 rfl) ?_
  refine lv_aload_n hx hb dX12_qDrops_11 rfl (lv_at hl 0 rfl) ?_
  refine sk_get (v := .ref (g 82)) (C := RX12) (T := TX12) (N := 92) hx hb hts inlX12 hown hK hP 0 rfl rfl 82 (by decide) w_5_237 rfl dX12_qDrops_12 ?_
  refine lv_aload_n hx hb dX12_qDrops_15 rfl (lv_at hl 0 rfl) ?_
  refine sk_get (v := .int (nI (qw - 1))) (C := RX12) (T := TX12) (N := 92) hx hb hts inlX12 hown hK hP 0 rfl rfl 83 (by decide) w_5_238 rfl dX12_qDrops_16 ?_
  refine va_iald hx hb hK.1 hP 2 0 rfl rfl (vin (qw - 1) 1700 (by omega) (by omega)) dX12_qDrops_19 ?_
  refine sk_top (nI (qt (qw - 1))) (nrd qt (qw - 1) (by omega)) ?_
  have hb_1 := hqt (qw - 1)
  refine sk_Vv (q0 := 0) (n := 1) (rest := []) (wr := fmR om_3_6 _) ⟨hx, hb, hml, hown, hts⟩ hl.1 (c_em_qCode l D cI cJ cC cZ cS mm g ta pa pe pd pb pp pf pg pn rt rn cd sn il tk am at_ aa wt wy rm ud nu sd qn (qw - 1) qo qb qp qa qi oc (qt (qw - 1)) qs (by omega) (by omega) hqs) w_7_55 w_7_57 w_0_61 w_1_14 w_7_58 hd_X12_qCode_1 ⟨⟨(Nat.le_of_ble_eq_true rfl), (Nat.le_of_ble_eq_true rfl)⟩, (Nat.le_of_ble_eq_true rfl), (Nat.le_of_ble_eq_true rfl)⟩ hK hP hD hS hA (fmT om_3_6 0) (fmF om_3_6 0) (fm_C1 rfl rfl) (fm_R rfl rfl) (fm_nT om_3_6 0) (fm_nF om_3_6 0) (fm_di om_3_6 0) rfl rfl rfl rfl (Nat.le_of_ble_eq_true rfl) dX12_qDrops_20 (fun u H locs hw hP hD hS => ?_)
  refine exE hw (fun qs2_2 hw1 => anE hw1 (fun hqe_3 hw2 => anE hw2 (fun hqs2_4 eu_5 => ?_)))
  clear hw hw1 hw2
  refine o_mgE (ws' := [(mm, .inr (12, mo g (nI ta) (nI pa) (nI pe) pd (nI pb) pp pf pg pn rt rn (nI cd) sn (nI il) tk am at_ aa 0 0 (-1) wt wy 0 (nI rm) (nI ud) (nI nu) sd (nI (qn + 1)) (nI (qw - 1)) qo (nI qb) (nI qp) qa (nI qi) (nI oc))), (g 80, .inl (cI, 1700, .inl (fun j => nI (qs2_2 j)))), (g 82, .inl (cI, 1700, .inl (fun j => nI (qt j))))]) eu_5 hP hD rfl (fun hP hD => ?_)
  exact sk_vret hx hb hr hlocks hK hP hD hS (⟨qs2_2, hqe_3, hqs2_4, rfl⟩) (Nat.le_of_ble_eq_true rfl) (Nat.le_of_ble_eq_true rfl) dX12_qDrops_23
