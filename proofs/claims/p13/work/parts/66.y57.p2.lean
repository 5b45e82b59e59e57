set_option maxHeartbeats 4000000 in
set_option maxRecDepth 100000 in
theorem c_em_qCode (l : Launch) (D : va_G) (cI cJ cC cZ cS : ClassId) (mm : Nat) (g : Nat → Nat) (ta : Nat) (pa : Nat) (pe : Nat) (pd : Int32) (pb : Nat) (pp : Int32) (pf : Int32) (pg : Int32) (pn : Int32) (rt : Int32) (rn : Int32) (cd : Nat) (sn : Int32) (il : Nat) (tk : Int32) (am : Int32) (at_ : Int32) (aa : Int32) (wt : Int32) (wy : Int64) (rm : Nat) (ud : Nat) (nu : Nat) (sd : Int64) (qn : Nat) (qw : Nat) (qo : Int32) (qb : Nat) (qp : Nat) (qa : Int64) (qi : Nat) (oc : Nat) (o : Nat) (qs : Nat → Nat) (hqn : qn < 1700) (ho : o ≤ 20000) (hqs : ∀ j, qs j ≤ 20000) : skM l yX12_qCode cX12_qCode 2 none 0 0 0 0 D (skT cI cJ cC cZ cS) [.ref mm, .int (nI o)] [ro_ mm 12 (mo g (nI ta) (nI pa) (nI pe) pd (nI pb) pp pf pg pn rt rn (nI cd) sn (nI il) tk am at_ aa 0 0 (-1) wt wy 0 (nI rm) (nI ud) (nI nu) sd (nI qn) (nI qw) qo (nI qb) (nI qp) qa (nI qi) (nI oc)), ra_N (g 80) cI 1700 qs] (skV D (skT cI cJ cC cZ cS) (fun (u : va_W) => ∃ (qs2 : Nat → Nat), qs2 = updN qs qn o ∧ (∀ j, qs2 j ≤ 20000) ∧ u = [ro_ mm 12 (mo g (nI ta) (nI pa) (nI pe) pd (nI pb) pp pf pg pn rt rn (nI cd) sn (nI il) tk am at_ aa 0 0 (-1) wt wy 0 (nI rm) (nI ud) (nI nu) sd (nI (qn + 1)) (nI qw) qo (nI qb) (nI qp) qa (nI qi) (nI oc)), ra_N (g 80) cI 1700 qs2])) := by
  refine skM_of pf_X12_qCode (Nat.le_of_ble_eq_true rfl) ?_
  intro p e s m below meth c A ls E hP hD hl
  refine skE_el E (fun hx hb hr hml hlocks hin hown hts hK hA => ?_)
  have hown : s.vm.findClass RX12 = some m.cls := hown
  have hS : va_S A s.heap s.heap [] := va_S.rf
  have hl : lv_has ls 2 [(0, .ref mm), (1, .int (nI o))] := hl
  refine lv_aload_n hx hb dX12_qCode_0 rfl (lv_at hl 0 rfl) ?_
  refine sk_get (v := .ref (g 80)) (C := RX12) (T := TX12) (N := 92) hx hb hts inlX12 hown hK hP 0 rfl rfl 80 (Nat.le_of_ble_eq_true rfl) w_5_235 rfl dX12_qCode_1 ?_
  refine lv_aload_n hx hb dX12_qCode_4 rfl (lv_at hl 0 rfl) ?_
  refine sk_get (v := .int (nI qn)) (C := RX12) (T := TX12) (N := 92) hx hb hts inlX12 hown hK hP 0 rfl rfl 81 (Nat.le_of_ble_eq_true rfl) w_5_236 rfl dX12_qCode_5 ?_
  refine lv_iload_n hx hb dX12_qCode_8 rfl (lv_at hl 1 rfl) ?_
  refine sk_iastB (k := qn) (v := o) (B := 20000) (ws' := fun f_1 => [ro_ mm 12 (mo g (nI ta) (nI pa) (nI pe) pd (nI pb) pp pf pg pn rt rn (nI cd) sn (nI il) tk am at_ aa 0 0 (-1) wt wy 0 (nI rm) (nI ud) (nI nu) sd (nI qn) (nI qw) qo (nI qb) (nI qp) qa (nI qi) (nI oc)), ra_N (g 80) cI 1700 f_1]) hx hb hK hP hD hS 1 0 rfl rfl (by omega) (by omega) hqs (by omega) (fun _ => rfl) dX12_qCode_9 (fun f_1 H locs hf_2 ef_3 hP hD hS => ?_)
  refine lv_aload_n hx hb dX12_qCode_10 rfl (lv_at hl 0 rfl) ?_
  refine lv_dup hx hb dX12_qCode_11 rfl ?_
  refine sk_get (v := .int (nI qn)) (C := RX12) (T := TX12) (N := 92) hx hb hts inlX12 hown hK hP 0 rfl rfl 81 (Nat.le_of_ble_eq_true rfl) w_5_236 rfl dX12_qCode_12 ?_
  refine lv_iconst (v := 1) hx hb dX12_qCode_15 ic_1 ?_
  refine lv_iadd hx hb dX12_qCode_16 ?_
  refine sk_top (nI (qn + 1)) (nI_add qn 1) ?_
  refine sk_put (ws' := [ro_ mm 12 (mo g (nI ta) (nI pa) (nI pe) pd (nI pb) pp pf pg pn rt rn (nI cd) sn (nI il) tk am at_ aa 0 0 (-1) wt wy 0 (nI rm) (nI ud) (nI nu) sd (nI (qn + 1)) (nI qw) qo (nI qb) (nI qp) qa (nI qi) (nI oc)), ra_N (g 80) cI 1700 f_1]) (C := RX12) (T := TX12) (N := 92) (v := .int (nI (qn + 1))) hx hb hts inlX12 tyX12 tyX12_ok nmX12 hown hK hP hD hS 0 rfl rfl 81 (Nat.le_of_ble_eq_true rfl) w_5_236 rfl rfl rfl (Nat.le_of_ble_eq_true rfl) rfl dX12_qCode_17 (fun H locs hP hD hS => ?_)
  exact sk_vret hx hb hr hlocks hK hP hD hS (⟨f_1, ef_3, hf_2, rfl⟩) (Nat.le_of_ble_eq_true rfl) (Nat.le_of_ble_eq_true rfl) dX12_qCode_20
set_option maxHeartbeats 4000000 in
set_option maxRecDepth 100000 in
theorem c_em_qOpens (l : Launch) (D : va_G) (cI cJ cC cZ cS : ClassId) (mm : Nat) (g : Nat → Nat) (ta : Nat) (pa : Nat) (pe : Nat) (pd : Int32) (pb : Nat) (pp : Int32) (pf : Int32) (pg : Int32) (pn : Int32) (rt : Int32) (rn : Int32) (cd : Nat) (sn : Int32) (il : Nat) (tk : Int32) (am : Int32) (at_ : Int32) (aa : Int32) (wt : Int32) (wy : Int64) (rm : Nat) (ud : Nat) (nu : Nat) (sd : Int64) (qn : Nat) (qw : Nat) (qo : Int32) (qb : Nat) (qp : Nat) (qa : Int64) (qi : Nat) (oc : Nat) (w : Nat) (o : Int32) (qt : Nat → Nat) (hpb : pb ≤ 5) (hw : w ≤ 100) (hqw : qw < 1700) (hqt : ∀ j, qt j ≤ 100) : skM l yX12_qOpens cX12_qOpens 3 none 1 22 0 0 D (skT cI cJ cC cZ cS) [.ref mm, .int (nI w), .int o] [ro_ mm 12 (mo g (nI ta) (nI pa) (nI pe) pd (nI pb) pp pf pg pn rt rn (nI cd) sn (nI il) tk am at_ aa 0 0 (-1) wt wy 0 (nI rm) (nI ud) (nI nu) sd (nI qn) (nI qw) qo (nI qb) (nI qp) qa (nI qi) (nI oc)), ra_N (g 82) cI 1700 qt] (skV D (skT cI cJ cC cZ cS) (fun (u : va_W) => ∃ (pb2 : Nat), ∃ (pp2 : Int32), ∃ (qo2 : Int32), ∃ (qw2 : Nat), ∃ (qt2 : Nat → Nat), pb2 ≤ 5 ∧ ((pb2 = 0 ∧ pb = 0 ∧ qw2 = qw + 1) ∨ (¬ pb2 = 0 ∧ qw2 = qw)) ∧ (hide (pb2 = 0 → qt2 = updN qt qw w)) ∧ ((pb = 0 ∧ qo = 6 ∧ pb2 = 4 ∧ pp2 = o ∧ qo2 = qo ∧ qw2 = qw ∧ qt2 = qt) ∨ (pb = 0 ∧ ¬ qo = 6 ∧ pb2 = pb ∧ pp2 = pp ∧ qo2 = qo + 1 ∧ qw2 = qw + 1 ∧ qt2 = updN qt qw w) ∨ (¬ pb = 0 ∧ pb2 = pb ∧ pp2 = pp ∧ qo2 = qo ∧ qw2 = qw ∧ qt2 = qt)) ∧ (∀ j, qt2 j ≤ 100) ∧ u = [ro_ mm 12 (mo g (nI ta) (nI pa) (nI pe) pd (nI pb2) pp2 pf pg pn rt rn (nI cd) sn (nI il) tk am at_ aa 0 0 (-1) wt wy 0 (nI rm) (nI ud) (nI nu) sd (nI qn) (nI qw2) qo2 (nI qb) (nI qp) qa (nI qi) (nI oc)), ra_N (g 82) cI 1700 qt2])) := by
  refine skM_of pf_X12_qOpens (Nat.le_of_ble_eq_true rfl) ?_
  intro p e s m below meth c A ls E hP hD hl
  refine skE_el E (fun hx hb hr hml hlocks hin hown hts hK hA => ?_)
  have hown : s.vm.findClass RX12 = some m.cls := hown
  have hS : va_S A s.heap s.heap [] := va_S.rf
  have hl : lv_has ls 3 [(0, .ref mm), (1, .int (nI w)), (2, .int o)] := hl
  refine lv_aload_n hx hb dX12_qOpens_0 rfl (lv_at hl 0 rfl) ?_
  refine sk_get (v := .int (nI pb)) (C := RX12) (T := TX12) (N := 92) hx hb hts inlX12 hown hK hP 0 rfl rfl 5 (Nat.le_of_ble_eq_true rfl) w_5_160 rfl dX12_qOpens_1 ?_
  refine lv_if_eq (tgt := 8) hx hb dX12_qOpens_4 (by decide) (fun c_1 => ?_) (fun c_1 => ?_)
  · have c_1 : pb = 0 := (neq pb 0 (by omega) (Nat.le_of_ble_eq_true rfl)).mp c_1
    refine lv_aload_n hx hb dX12_qOpens_8 rfl (lv_at hl 0 rfl) ?_
    refine sk_get (v := .int qo) (C := RX12) (T := TX12) (N := 92) hx hb hts inlX12 hown hK hP 0 rfl rfl 84 (Nat.le_of_ble_eq_true rfl) w_5_239 rfl dX12_qOpens_9 ?_
    refine lv_bipush (v := 6) hx hb dX12_qOpens_12 (by decide) ?_
    refine lv_icmp_ne (tgt := 24) hx hb dX12_qOpens_14 (by decide) (fun c_2 => ?_) (fun c_2 => ?_)
    · skip
      refine lv_aload_n hx hb dX12_qOpens_24 rfl (lv_at hl 0 rfl) ?_
      refine lv_dup hx hb dX12_qOpens_25 rfl ?_
      refine sk_get (v := .int qo) (C := RX12) (T := TX12) (N := 92) hx hb hts inlX12 hown hK hP 0 rfl rfl 84 (Nat.le_of_ble_eq_true rfl) w_5_239 rfl dX12_qOpens_26 ?_
      refine lv_iconst (v := 1) hx hb dX12_qOpens_29 ic_1 ?_
      refine lv_iadd hx hb dX12_qOpens_30 ?_
      refine lv_topi (fun v_3 ev_3 => ?_)
      refine sk_put (ws' := [ro_ mm 12 (mo g (nI ta) (nI pa) (nI pe) pd (nI pb) pp pf pg pn rt rn (nI cd) sn (nI il) tk am at_ aa 0 0 (-1) wt wy 0 (nI rm) (nI ud) (nI nu) sd (nI qn) (nI qw) v_3 (nI qb) (nI qp) qa (nI qi) (nI oc)), ra_N (g 82) cI 1700 qt]) (C := RX12) (T := TX12) (N := 92) (v := .int v_3) hx hb hts inlX12 tyX12 tyX12_ok nmX12 hown hK hP hD hS 0 rfl rfl 84 (Nat.le_of_ble_eq_true rfl) w_5_239 rfl rfl rfl (Nat.le_of_ble_eq_true rfl) rfl dX12_qOpens_31 (fun H locs hP hD hS => ?_)
      refine lv_aload_n hx hb dX12_qOpens_34 rfl (lv_at hl 0 rfl) ?_
      refine sk_get (v := .ref (g 82)) (C := RX12) (T := TX12) (N := 92) hx hb hts inlX12 hown hK hP 0 rfl rfl 82 (Nat.le_of_ble_eq_true rfl) w_5_237 rfl dX12_qOpens_35 ?_
      refine lv_aload_n hx hb dX12_qOpens_38 rfl (lv_at hl 0 rfl) ?_
      refine sk_get (v := .int (nI qw)) (C := RX12) (T := TX12) (N := 92) hx hb hts inlX12 hown hK hP 0 rfl rfl 83 (Nat.le_of_ble_eq_true rfl) w_5_238 rfl dX12_qOpens_39 ?_
      refine lv_iload_n hx hb dX12_qOpens_42 rfl (lv_at hl 1 rfl) ?_
      refine sk_iastB (k := qw) (v := w) (B := 100) (ws' := fun f_4 => [ro_ mm 12 (mo g (nI ta) (nI pa) (nI pe) pd (nI pb) pp pf pg pn rt rn (nI cd) sn (nI il) tk am at_ aa 0 0 (-1) wt wy 0 (nI rm) (nI ud) (nI nu) sd (nI qn) (nI qw) v_3 (nI qb) (nI qp) qa (nI qi) (nI oc)), ra_N (g 82) cI 1700 f_4]) hx hb hK hP hD hS 1 0 rfl rfl (by omega) (by omega) hqt (by omega) (fun _ => rfl) dX12_qOpens_43 (fun f_4 H locs hf_5 ef_6 hP hD hS => ?_)
      refine lv_aload_n hx hb dX12_qOpens_44 rfl (lv_at hl 0 rfl) ?_
      refine lv_dup hx hb dX12_qOpens_45 rfl ?_
      refine sk_get (v := .int (nI qw)) (C := RX12) (T := TX12) (N := 92) hx hb hts inlX12 hown hK hP 0 rfl rfl 83 (Nat.le_of_ble_eq_true rfl) w_5_238 rfl dX12_qOpens_46 ?_
      refine lv_iconst (v := 1) hx hb dX12_qOpens_49 ic_1 ?_
      refine lv_iadd hx hb dX12_qOpens_50 ?_
      refine sk_top (nI (qw + 1)) (nI_add qw 1) ?_
      refine sk_put (ws' := [ro_ mm 12 (mo g (nI ta) (nI pa) (nI pe) pd (nI pb) pp pf pg pn rt rn (nI cd) sn (nI il) tk am at_ aa 0 0 (-1) wt wy 0 (nI rm) (nI ud) (nI nu) sd (nI qn) (nI (qw + 1)) v_3 (nI qb) (nI qp) qa (nI qi) (nI oc)), ra_N (g 82) cI 1700 f_4]) (C := RX12) (T := TX12) (N := 92) (v := .int (nI (qw + 1))) hx hb hts inlX12 tyX12 tyX12_ok nmX12 hown hK hP hD hS 0 rfl rfl 83 (Nat.le_of_ble_eq_true rfl) w_5_238 rfl rfl rfl (Nat.le_of_ble_eq_true rfl) rfl dX12_qOpens_51 (fun H locs hP hD hS => ?_)
      exact sk_vret hx hb hr hlocks hK hP hD hS (⟨pb, pp, v_3, qw + 1, f_4, hpb, by omega, (fun _ => ef_6), (Or.inr (Or.inl ⟨by omega, c_2, rfl, rfl, ev_3, rfl, ef_6⟩)), hf_5, rfl⟩) (Nat.le_of_ble_eq_true rfl) (Nat.le_of_ble_eq_true rfl) dX12_qOpens_54
    · skip
      refine lv_aload_n hx hb dX12_qOpens_17 rfl (lv_at hl 0 rfl) ?_
      refine lv_iconst (v := 4) hx hb dX12_qOpens_18 ic_4 ?_
      refine lv_iload_n hx hb dX12_qOpens_19 rfl (lv_at hl 2 rfl) ?_
      refine sk_Vv (q0 := 0) (n := 2) (rest := []) (wr := fmR om_2_2 _) ⟨hx, hb, hml, hown, hts⟩ hl.1 (c_em_fail l D cI cJ cC cZ cS mm g ta pa pe pd pb pp pf pg pn rt rn cd sn il tk am at_ aa wt wy rm ud nu sd qn qw qo qb qp qa qi oc 4 o hpb (by omega) (by omega)) w_6_229 w_6_231 w_0_46 w_1_14 w_6_232 hd_X12_fail_2 ⟨⟨(Nat.le_of_ble_eq_true rfl), (Nat.le_of_ble_eq_true rfl)⟩, (Nat.le_of_ble_eq_true rfl), (Nat.le_of_ble_eq_true rfl)⟩ hK hP hD hS hA (fmT om_2_2 0) (fmF om_2_2 0) (fm_C1 rfl rfl) (fm_R rfl rfl) (fm_nT om_2_2 0) (fm_nF om_2_2 0) (fm_di om_2_2 0) rfl rfl rfl rfl (Nat.le_of_ble_eq_true rfl) dX12_qOpens_20 (fun u H locs hw hP hD hS => ?_)
      refine exE hw (fun pb2_7 hw1 => exE hw1 (fun pp2_8 hw2 => anE hw2 (fun hpb2_9 hw3 => anE hw3 (fun hpb3_10 hw4 => anE hw4 (fun hfl_11 eu_12 => ?_)))))
      clear hw hw1 hw2 hw3 hw4
      refine o_mgE (ws' := [ro_ mm 12 (mo g (nI ta) (nI pa) (nI pe) pd (nI pb2_7) pp2_8 pf pg pn rt rn (nI cd) sn (nI il) tk am at_ aa 0 0 (-1) wt wy 0 (nI rm) (nI ud) (nI nu) sd (nI qn) (nI qw) qo (nI qb) (nI qp) qa (nI qi) (nI oc)), ra_N (g 82) cI 1700 qt]) eu_12 hP hD rfl (fun hP hD => ?_)
      exact sk_vret hx hb hr hlocks hK hP hD hS (⟨pb2_7, pp2_8, qo, qw, qt, hpb2_9, by omega, (fun h => absurd h (by omega)), (Or.inl ⟨by omega, c_2, (hfl_11.resolve_right (fun z => z.1 (by omega))).2.1, (hfl_11.resolve_right (fun z => z.1 (by omega))).2.2, rfl, rfl, rfl⟩), hqt, rfl⟩) (Nat.le_of_ble_eq_true rfl) (Nat.le_of_ble_eq_true rfl) dX12_qOpens_23
  · have c_1 : ¬ (pb = 0) := fun h => c_1 ((neq pb 0 (by omega) (Nat.le_of_ble_eq_true rfl)).mpr h)
    exact sk_vret hx hb hr hlocks hK hP hD hS (⟨pb, pp, qo, qw, qt, hpb, by omega, (fun h => absurd h (by omega)), (Or.inr (Or.inr ⟨c_1, rfl, rfl, rfl, rfl, rfl⟩)), hqt, rfl⟩) (Nat.le_of_ble_eq_true rfl) (Nat.le_of_ble_eq_true rfl) dX12_qOpens_7
set_option maxHeartbeats 4000000 in
set_option maxRecDepth 100000 in
theorem c_em_qIsOn (l : Launch) (D : va_G) (cI cJ cC cZ cS : ClassId) (mm : Nat) (g : Nat → Nat) (ta : Nat) (pa : Nat) (pe : Nat) (pd : Int32) (pb : Nat) (pp : Int32) (pf : Int32) (pg : Int32) (pn : Int32) (rt : Int32) (rn : Int32) (cd : Nat) (sn : Int32) (il : Nat) (tk : Int32) (am : Int32) (at_ : Int32) (aa : Int32) (wt : Int32) (wy : Int64) (rm : Nat) (ud : Nat) (nu : Nat) (sd : Int64) (qn : Nat) (qw : Nat) (qo : Int32) (qb : Nat) (qp : Nat) (qa : Int64) (qi : Nat) (oc : Nat) (w : Nat) (qt : Nat → Nat) (hw : w ≤ 100) (hqw : qw ≤ 1700) (hqt : ∀ j, qt j ≤ 100) : skM l yX12_qIsOn cX12_qIsOn 2 (some .boolean) 0 0 0 0 D (skT cI cJ cC cZ cS) [.ref mm, .int (nI w)] [ro_ mm 12 (mo g (nI ta) (nI pa) (nI pe) pd (nI pb) pp pf pg pn rt rn (nI cd) sn (nI il) tk am at_ aa 0 0 (-1) wt wy 0 (nI rm) (nI ud) (nI nu) sd (nI qn) (nI qw) qo (nI qb) (nI qp) qa (nI qi) (nI oc)), ra_N (g 82) cI 1700 qt] (skI D (skT cI cJ cC cZ cS) (fun (r : Int32) (u : va_W) => ∃ (b : Nat), ((b = 0 ∧ (qw = 0 ∨ ¬ qt (qw - 1) = w)) ∨ (b = 1 ∧ 1 ≤ qw ∧ qt (qw - 1) = w)) ∧ r = nI b ∧ u = [ro_ mm 12 (mo g (nI ta) (nI pa) (nI pe) pd (nI pb) pp pf pg pn rt rn (nI cd) sn (nI il) tk am at_ aa 0 0 (-1) wt wy 0 (nI rm) (nI ud) (nI nu) sd (nI qn) (nI qw) qo (nI qb) (nI qp) qa (nI qi) (nI oc)), ra_N (g 82) cI 1700 qt])) := by
  refine skM_of pf_X12_qIsOn (Nat.le_of_ble_eq_true rfl) ?_
  intro p e s m below meth c A ls E hP hD hl
  refine skE_el E (fun hx hb hr hml hlocks hin hown hts hK hA => ?_)
  have hown : s.vm.findClass RX12 = some m.cls := hown
  have hS : va_S A s.heap s.heap [] := va_S.rf
  have hl : lv_has ls 2 [(0, .ref mm), (1, .int (nI w))] := hl
  refine lv_aload_n hx hb dX12_qIsOn_0 rfl (lv_at hl 0 rfl) ?_
  refine sk_get (v := .int (nI qw)) (C := RX12) (T := TX12) (N := 92) hx hb hts inlX12 hown hK hP 0 rfl rfl 83 (Nat.le_of_ble_eq_true rfl) w_5_238 rfl dX12_qIsOn_1 ?_
  refine lv_if_le (tgt := 26) hx hb dX12_qIsOn_4 (by decide) (fun c_1 => ?_) (fun c_1 => ?_)
  · have c_1 : qw ≤ 0 := (nle qw 0 (by omega) (Nat.le_of_ble_eq_true rfl)).mp c_1
    refine lv_iconst (v := 0) hx hb dX12_qIsOn_26 ic_0 ?_
    exact sk_iret hx hb hr rfl hlocks hK hP hD hS (⟨0, by omega, rfl, rfl⟩) (Nat.le_of_ble_eq_true rfl) (Nat.le_of_ble_eq_true rfl) dX12_qIsOn_27
  · have c_1 : ¬ (qw ≤ 0) := fun h => c_1 ((nle qw 0 (by omega) (Nat.le_of_ble_eq_true rfl)).mpr h)
    refine lv_aload_n hx hb dX12_qIsOn_7 rfl (lv_at hl 0 rfl) ?_
    refine sk_get (v := .ref (g 82)) (C := RX12) (T := TX12) (N := 92) hx hb hts inlX12 hown hK hP 0 rfl rfl 82 (Nat.le_of_ble_eq_true rfl) w_5_237 rfl dX12_qIsOn_8 ?_
    refine lv_aload_n hx hb dX12_qIsOn_11 rfl (lv_at hl 0 rfl) ?_
    refine sk_get (v := .int (nI qw)) (C := RX12) (T := TX12) (N := 92) hx hb hts inlX12 hown hK hP 0 rfl rfl 83 (Nat.le_of_ble_eq_true rfl) w_5_238 rfl dX12_qIsOn_12 ?_
    refine lv_iconst (v := 1) hx hb dX12_qIsOn_15 ic_1 ?_
    refine lv_isub hx hb dX12_qIsOn_16 ?_
    refine sk_top (nI (qw - 1)) (nsub qw 1 (by omega)) ?_
    refine va_iald hx hb hK.1 hP 1 0 rfl rfl (vin (qw - 1) 1700 (by omega) (Nat.le_of_ble_eq_true rfl)) dX12_qIsOn_17 ?_
    refine sk_top (nI (qt (qw - 1))) (nrd qt (qw - 1) (by omega)) ?_
    have hb_2 := hqt (qw - 1)
    refine lv_iload_n hx hb dX12_qIsOn_18 rfl (lv_at hl 1 rfl) ?_
    refine lv_icmp_ne (tgt := 26) hx hb dX12_qIsOn_19 (by decide) (fun c_3 => ?_) (fun c_3 => ?_)
    · have c_3 : ¬ (qt (qw - 1) = w) := fun h => c_3 ((neq (qt (qw - 1)) w (by omega) (by omega)).mpr h)
      refine lv_iconst (v := 0) hx hb dX12_qIsOn_26 ic_0 ?_
      exact sk_iret hx hb hr rfl hlocks hK hP hD hS (⟨0, by omega, rfl, rfl⟩) (Nat.le_of_ble_eq_true rfl) (Nat.le_of_ble_eq_true rfl) dX12_qIsOn_27
    · have c_3 : qt (qw - 1) = w := (neq (qt (qw - 1)) w (by omega) (by omega)).mp c_3
      refine lv_iconst (v := 1) hx hb dX12_qIsOn_22 ic_1 ?_
      refine lv_goto (tgt := 27) hx hb dX12_qIsOn_23 (by decide) ?_
      exact sk_iret hx hb hr rfl hlocks hK hP hD hS (⟨1, by omega, rfl, rfl⟩) (Nat.le_of_ble_eq_true rfl) (Nat.le_of_ble_eq_true rfl) dX12_qIsOn_27
set_option maxHeartbeats 4000000 in
set_option maxRecDepth 100000 in
theorem c_em_qDrops (l : Launch) (D : va_G) (cI cJ cC cZ cS : ClassId) (mm : Nat) (g : Nat → Nat) (ta : Nat) (pa : Nat) (pe : Nat) (pd : Int32) (pb : Nat) (pp : Int32) (pf : Int32) (pg : Int32) (pn : Int32) (rt : Int32) (rn : Int32) (cd : Nat) (sn : Int32) (il : Nat) (tk : Int32) (am : Int32) (at_ : Int32) (aa : Int32) (wt : Int32) (wy : Int64) (rm : Nat) (ud : Nat) (nu : Nat) (sd : Int64) (qn : Nat) (qw : Nat) (qo : Int32) (qb : Nat) (qp : Nat) (qa : Int64) (qi : Nat) (oc : Nat) (qs : Nat → Nat) (qt : Nat → Nat) (hqn : qn < 1700) (hqw1 : 1 ≤ qw) (hqw : qw ≤ 1700) (hqs : ∀ j, qs j ≤ 20000) (hqt : ∀ j, qt j ≤ 100) : skM l yX12_qDrops cX12_qDrops 1 none 1 21 0 0 D (skT cI cJ cC cZ cS) [.ref mm] [ro_ mm 12 (mo g (nI ta) (nI pa) (nI pe) pd (nI pb) pp pf pg pn rt rn (nI cd) sn (nI il) tk am at_ aa 0 0 (-1) wt wy 0 (nI rm) (nI ud) (nI nu) sd (nI qn) (nI qw) qo (nI qb) (nI qp) qa (nI qi) (nI oc)), ra_N (g 80) cI 1700 qs, ra_N (g 82) cI 1700 qt] (skV D (skT cI cJ cC cZ cS) (fun (u : va_W) => ∃ (qs2 : Nat → Nat), qs2 = updN qs qn (qt (qw - 1)) ∧ (∀ j, qs2 j ≤ 20000) ∧ u = [ro_ mm 12 (mo g (nI ta) (nI pa) (nI pe) pd (nI pb) pp pf pg pn rt rn (nI cd) sn (nI il) tk am at_ aa 0 0 (-1) wt wy 0 (nI rm) (nI ud) (nI nu) sd (nI (qn + 1)) (nI (qw - 1)) qo (nI qb) (nI qp) qa (nI qi) (nI oc)), ra_N (g 80) cI 1700 qs2, ra_N (g 82) cI 1700 qt])) := by
  refine skM_of pf_X12_qDrops (Nat.le_of_ble_eq_true rfl) ?_
  intro p e s m below meth c A ls E hP hD hl
  refine skE_el E (fun hx hb hr hml hlocks hin hown hts hK hA => ?_)
  have hown : s.vm.findClass RX12 = some m.cls := hown
  have hS : va_S A s.heap s.heap [] := va_S.rf
  have hl : lv_has ls 1 [(0, .ref mm)] := hl
  refine lv_aload_n hx hb dX12_qDrops_0 rfl (lv_at hl 0 rfl) ?_
  refine lv_dup hx hb dX12_qDrops_1 rfl ?_
  refine sk_get (v := .int (nI qw)) (C := RX12) (T := TX12) (N := 92) hx hb hts inlX12 hown hK hP 0 rfl rfl 83 (Nat.le_of_ble_eq_true rfl) w_5_238 rfl dX12_qDrops_2 ?_
  refine lv_iconst (v := 1) hx hb dX12_qDrops_5 ic_1 ?_
  refine lv_isub hx hb dX12_qDrops_6 ?_
  refine sk_top (nI (qw - 1)) (nsub qw 1 (by omega)) ?_
  refine sk_put (ws' := [ro_ mm 12 (mo g (nI ta) (nI pa) (nI pe) pd (nI pb) pp pf pg pn rt rn (nI cd) sn (nI il) tk am at_ aa 0 0 (-1) wt wy 0 (nI rm) (nI ud) (nI nu) sd (nI qn) (nI (qw - 1)) qo (nI qb) (nI qp) qa (nI qi) (nI oc)), ra_N (g 80) cI 1700 qs, ra_N (g 82) cI 1700 qt]) (C := RX12) (T := TX12) (N := 92) (v := .int (nI (qw - 1))) hx hb hts inlX12 tyX12 tyX12_ok nmX12 hown hK hP hD hS 0 rfl rfl 83 (Nat.le_of_ble_eq_true rfl) w_5_238 rfl rfl rfl (Nat.le_of_ble_eq_true rfl) rfl dX12_qDrops_7 (fun H locs hP hD hS => ?_)
  refine lv_aload_n hx hb dX12_qDrops_10 rfl (lv_at hl 0 rfl) ?_
  refine lv_aload_n hx hb dX12_qDrops_11 rfl (lv_at hl 0 rfl) ?_
  refine sk_get (v := .ref (g 82)) (C := RX12) (T := TX12) (N := 92) hx hb hts inlX12 hown hK hP 0 rfl rfl 82 (Nat.le_of_ble_eq_true rfl) w_5_237 rfl dX12_qDrops_12 ?_
  refine lv_aload_n hx hb dX12_qDrops_15 rfl (lv_at hl 0 rfl) ?_
  refine sk_get (v := .int (nI (qw - 1))) (C := RX12) (T := TX12) (N := 92) hx hb hts inlX12 hown hK hP 0 rfl rfl 83 (Nat.le_of_ble_eq_true rfl) w_5_238 rfl dX12_qDrops_16 ?_
  refine va_iald hx hb hK.1 hP 2 0 rfl rfl (vin (qw - 1) 1700 (by omega) (Nat.le_of_ble_eq_true rfl)) dX12_qDrops_19 ?_
  refine sk_top (nI (qt (qw - 1))) (nrd qt (qw - 1) (by omega)) ?_
  have hb_1 := hqt (qw - 1)
  refine sk_Vv (q0 := 0) (n := 1) (rest := []) (wr := fmR om_3_6 _) ⟨hx, hb, hml, hown, hts⟩ hl.1 (c_em_qCode l D cI cJ cC cZ cS mm g ta pa pe pd pb pp pf pg pn rt rn cd sn il tk am at_ aa wt wy rm ud nu sd qn (qw - 1) qo qb qp qa qi oc (qt (qw - 1)) qs hqn (by omega) hqs) w_7_55 w_7_57 w_0_61 w_1_14 w_7_58 hd_X12_qCode_1 ⟨⟨(Nat.le_of_ble_eq_true rfl), (Nat.le_of_ble_eq_true rfl)⟩, (Nat.le_of_ble_eq_true rfl), (Nat.le_of_ble_eq_true rfl)⟩ hK hP hD hS hA (fmT om_3_6 0) (fmF om_3_6 0) (fm_C1 rfl rfl) (fm_R rfl rfl) (fm_nT om_3_6 0) (fm_nF om_3_6 0) (fm_di om_3_6 0) rfl rfl rfl rfl (Nat.le_of_ble_eq_true rfl) dX12_qDrops_20 (fun u H locs hw hP hD hS => ?_)
  refine exE hw (fun qs2_2 hw1 => anE hw1 (fun hqe_3 hw2 => anE hw2 (fun hqs2_4 eu_5 => ?_)))
  clear hw hw1 hw2
  refine o_mgE (ws' := [ro_ mm 12 (mo g (nI ta) (nI pa) (nI pe) pd (nI pb) pp pf pg pn rt rn (nI cd) sn (nI il) tk am at_ aa 0 0 (-1) wt wy 0 (nI rm) (nI ud) (nI nu) sd (nI (qn + 1)) (nI (qw - 1)) qo (nI qb) (nI qp) qa (nI qi) (nI oc)), ra_N (g 80) cI 1700 qs2_2, ra_N (g 82) cI 1700 qt]) eu_5 hP hD rfl (fun hP hD => ?_)
  exact sk_vret hx hb hr hlocks hK hP hD hS (⟨qs2_2, hqe_3, hqs2_4, rfl⟩) (Nat.le_of_ble_eq_true rfl) (Nat.le_of_ble_eq_true rfl) dX12_qDrops_23
set_option maxHeartbeats 4000000 in
set_option maxRecDepth 100000 in
theorem c_em_qIsBracket (l : Launch) (D : va_G) (cI cJ cC cZ cS : ClassId) (o : Nat) (ho : o ≤ 100) : skM l yX12_qIsBracket cX12_qIsBracket 1 (some .boolean) 0 0 0 0 D (skT cI cJ cC cZ cS) [.int (nI o)] [] (skI D (skT cI cJ cC cZ cS) (fun (r : Int32) (u : va_W) => ∃ (b : Nat), ((b = 0 ∧ ¬ (20 ≤ o ∧ o ≤ 24)) ∨ (b = 1 ∧ 20 ≤ o ∧ o ≤ 24)) ∧ r = nI b ∧ u = [])) := by
  refine skM_of pf_X12_qIsBracket (Nat.le_of_ble_eq_true rfl) ?_
  intro p e s m below meth c A ls E hP hD hl
  refine skE_el E (fun hx hb hr hml hlocks hin hown hts hK hA => ?_)
  have hown : s.vm.findClass RX12 = some m.cls := hown
  have hS : va_S A s.heap s.heap [] := va_S.rf
  have hl : lv_has ls 1 [(0, .int (nI o))] := hl
  refine lv_iload_n hx hb dX12_qIsBracket_0 rfl (lv_at hl 0 rfl) ?_
  refine lv_bipush (v := 20) hx hb dX12_qIsBracket_1 (by decide) ?_
  refine lv_icmp_lt (tgt := 16) hx hb dX12_qIsBracket_3 (by decide) (fun c_1 => ?_) (fun c_1 => ?_)
  · have c_1 : o < 20 := (nlt o 20 (by omega) (Nat.le_of_ble_eq_true rfl)).mp c_1
    refine lv_iconst (v := 0) hx hb dX12_qIsBracket_16 ic_0 ?_
    exact sk_iret hx hb hr rfl hlocks hK hP hD hS (⟨0, by omega, rfl, rfl⟩) (Nat.le_of_ble_eq_true rfl) (Nat.le_of_ble_eq_true rfl) dX12_qIsBracket_17
  · have c_1 : ¬ (o < 20) := fun h => c_1 ((nlt o 20 (by omega) (Nat.le_of_ble_eq_true rfl)).mpr h)
    refine lv_iload_n hx hb dX12_qIsBracket_6 rfl (lv_at hl 0 rfl) ?_
    refine lv_bipush (v := 24) hx hb dX12_qIsBracket_7 (by decide) ?_
    refine lv_icmp_gt (tgt := 16) hx hb dX12_qIsBracket_9 (by decide) (fun c_2 => ?_) (fun c_2 => ?_)
    · have c_2 : 24 < o := (nlt 24 o (Nat.le_of_ble_eq_true rfl) (by omega)).mp c_2
      refine lv_iconst (v := 0) hx hb dX12_qIsBracket_16 ic_0 ?_
      exact sk_iret hx hb hr rfl hlocks hK hP hD hS (⟨0, by omega, rfl, rfl⟩) (Nat.le_of_ble_eq_true rfl) (Nat.le_of_ble_eq_true rfl) dX12_qIsBracket_17
    · have c_2 : ¬ (24 < o) := fun h => c_2 ((nlt 24 o (Nat.le_of_ble_eq_true rfl) (by omega)).mpr h)
      refine lv_iconst (v := 1) hx hb dX12_qIsBracket_12 ic_1 ?_
      refine lv_goto (tgt := 17) hx hb dX12_qIsBracket_13 (by decide) ?_
      exact sk_iret hx hb hr rfl hlocks hK hP hD hS (⟨1, by omega, rfl, rfl⟩) (Nat.le_of_ble_eq_true rfl) (Nat.le_of_ble_eq_true rfl) dX12_qIsBracket_17
set_option maxHeartbeats 4000000 in
set_option maxRecDepth 100000 in
theorem c_em_qBracket (l : Launch) (D : va_G) (cI cJ cC cZ cS : ClassId) (mm : Nat) (g : Nat → Nat) (ta : Nat) (pa : Nat) (pe : Nat) (pd : Int32) (pb : Nat) (pp : Int32) (pf : Int32) (pg : Int32) (pn : Int32) (rt : Int32) (rn : Int32) (cd : Nat) (sn : Int32) (il : Nat) (tk : Int32) (am : Int32) (at_ : Int32) (aa : Int32) (wt : Int32) (wy : Int64) (rm : Nat) (ud : Nat) (nu : Nat) (sd : Int64) (qn : Nat) (qw : Nat) (qo : Int32) (qb : Nat) (qp : Nat) (qa : Int64) (qi : Nat) (oc : Nat) (qt : Nat → Nat) (hqw : qw ≤ 1700) (hqb : qb ≤ 1700) (hqt : ∀ j, qt j ≤ 100) : skM l yX12_qBracket cX12_qBracket 2 (some .int) 1 20 0 0 D (skT cI cJ cC cZ cS) [.ref mm] [ro_ mm 12 (mo g (nI ta) (nI pa) (nI pe) pd (nI pb) pp pf pg pn rt rn (nI cd) sn (nI il) tk am at_ aa 0 0 (-1) wt wy 0 (nI rm) (nI ud) (nI nu) sd (nI qn) (nI qw) qo (nI qb) (nI qp) qa (nI qi) (nI oc)), ra_N (g 82) cI 1700 qt] (skI D (skT cI cJ cC cZ cS) (fun (r : Int32) (u : va_W) => lbO qt qb qw r ∧ u = [ro_ mm 12 (mo g (nI ta) (nI pa) (nI pe) pd (nI pb) pp pf pg pn rt rn (nI cd) sn (nI il) tk am at_ aa 0 0 (-1) wt wy 0 (nI rm) (nI ud) (nI nu) sd (nI qn) (nI qw) qo (nI qb) (nI qp) qa (nI qi) (nI oc)), ra_N (g 82) cI 1700 qt])) := by
  refine skM_of pf_X12_qBracket (Nat.le_of_ble_eq_true rfl) ?_
  intro p e s m below meth c A ls E hP hD hl
  refine skE_el E (fun hx hb hr hml hlocks hin hown hts hK hA => ?_)
  have hown : s.vm.findClass RX12 = some m.cls := hown
  have hS : va_S A s.heap s.heap [] := va_S.rf
  have hl : lv_has ls 2 [(0, .ref mm)] := hl
  refine lv_aload_n hx hb dX12_qBracket_0 rfl (lv_at hl 0 rfl) ?_
  refine sk_get (v := .int (nI qw)) (C := RX12) (T := TX12) (N := 92) hx hb hts inlX12 hown hK hP 0 rfl rfl 83 (Nat.le_of_ble_eq_true rfl) w_5_238 rfl dX12_qBracket_1 ?_
  refine lv_iconst (v := 1) hx hb dX12_qBracket_4 ic_1 ?_
  refine lv_isub hx hb dX12_qBracket_5 ?_
  refine lv_istore_n (lv' := [(1, .int (nI qw - 1)), (0, .ref mm)]) hx hb dX12_qBracket_6 rfl hl (by decide) rfl (fun ls hl => ?_)
  have lp_1 : ∀ (n_2 : Nat) (zk : Nat) (H : Heap) (locs : List Loc) (ls : Array Slot), zk < n_2 → (zk ≤ qw) → (nbr qt zk qw) → va_P D vwCl [ro_ mm 12 (mo g (nI ta) (nI pa) (nI pe) pd (nI pb) pp pf pg pn rt rn (nI cd) sn (nI il) tk am at_ aa 0 0 (-1) wt wy 0 (nI rm) (nI ud) (nI nu) sd (nI qn) (nI qw) qo (nI qb) (nI qp) qa (nI qi) (nI oc)), ra_N (g 82) cI 1700 qt] H → va_D A [ro_ mm 12 (mo g (nI ta) (nI pa) (nI pe) pd (nI pb) pp pf pg pn rt rn (nI cd) sn (nI il) tk am at_ aa 0 0 (-1) wt wy 0 (nI rm) (nI ud) (nI nu) sd (nI qn) (nI qw) qo (nI qb) (nI qp) qa (nI qi) (nI oc)), ra_N (g 82) cI 1700 qt] → va_S A s.heap H locs → lv_has ls 2 [(1, .int (nI zk - 1)), (0, .ref mm)] → W p l e { frames := 1, cells := 0, slots := 0, locals := 20 } s m ([.ref mm] : List Value).toArray below meth c H locs 0 0 (MQ below (skI D (skT cI cJ cC cZ cS) (fun (r : Int32) (u : va_W) => lbO qt qb qw r ∧ u = [ro_ mm 12 (mo g (nI ta) (nI pa) (nI pe) pd (nI pb) pp pf pg pn rt rn (nI cd) sn (nI il) tk am at_ aa 0 0 (-1) wt wy 0 (nI rm) (nI ud) (nI nu) sd (nI qn) (nI qw) qo (nI qb) (nI qp) qa (nI qi) (nI oc)), ra_N (g 82) cI 1700 qt]) A) ([.ref mm] : List Value).toArray s 0 0 A) (F0 m 7 ls []) := by
    intro n_2
    induction n_2 with
    | zero => intro zk H locs ls hm; exact absurd hm (Nat.not_lt_zero _)
    | succ n_2 ih_lp_1 =>
      intro zk H locs ls hm hzk hnb hP hD hS hl
      refine lv_iload_n hx hb dX12_qBracket_7 rfl (lv_at hl 0 rfl) ?_
      refine lv_aload_n hx hb dX12_qBracket_8 rfl (lv_at hl 1 rfl) ?_
      refine sk_get (v := .int (nI qb)) (C := RX12) (T := TX12) (N := 92) hx hb hts inlX12 hown hK hP 0 rfl rfl 85 (Nat.le_of_ble_eq_true rfl) w_6_0 rfl dX12_qBracket_9 ?_
      refine lv_icmp_lt (tgt := 33) hx hb dX12_qBracket_12 (by decide) (fun c_3 => ?_) (fun c_3 => ?_)
      · have c_3 : ((zk : Nat) : Int) - 1 < ((qb : Nat) : Int) := (ilt (ivp zk (by omega)) (ivn qb (by omega))).mp c_3
        refine lv_iload_n hx hb dX12_qBracket_33 rfl (lv_at hl 0 rfl) ?_
        refine lv_aload_n hx hb dX12_qBracket_34 rfl (lv_at hl 1 rfl) ?_
        refine sk_get (v := .int (nI qb)) (C := RX12) (T := TX12) (N := 92) hx hb hts inlX12 hown hK hP 0 rfl rfl 85 (Nat.le_of_ble_eq_true rfl) w_6_0 rfl dX12_qBracket_35 ?_
        refine lv_icmp_lt (tgt := 50) hx hb dX12_qBracket_38 (by decide) (fun c_4 => ?_) (fun c => absurd ((ilt (ivp zk (by omega)) (ivn qb (by omega))).mpr (by omega)) c)
        refine lv_iconst (v := (-1)) hx hb dX12_qBracket_50 (by decide) ?_
        exact sk_iret hx hb hr rfl hlocks hK hP hD hS (⟨(lb_none hnb (by omega)), rfl⟩) (Nat.le_of_ble_eq_true rfl) (Nat.le_of_ble_eq_true rfl) dX12_qBracket_51
      · have c_3 : ¬ (((zk : Nat) : Int) - 1 < ((qb : Nat) : Int)) := fun h => c_3 ((ilt (ivp zk (by omega)) (ivn qb (by omega))).mpr h)
        rw [npred zk (by omega)] at hl
        refine lv_aload_n hx hb dX12_qBracket_15 rfl (lv_at hl 1 rfl) ?_
        refine sk_get (v := .ref (g 82)) (C := RX12) (T := TX12) (N := 92) hx hb hts inlX12 hown hK hP 0 rfl rfl 82 (Nat.le_of_ble_eq_true rfl) w_5_237 rfl dX12_qBracket_16 ?_
        refine lv_iload_n hx hb dX12_qBracket_19 rfl (lv_at hl 0 rfl) ?_
        refine va_iald hx hb hK.1 hP 1 0 rfl rfl (vin (zk - 1) 1700 (by omega) (Nat.le_of_ble_eq_true rfl)) dX12_qBracket_20 ?_
        refine sk_top (nI (qt (zk - 1))) (nrd qt (zk - 1) (by omega)) ?_
        have hb_5 := hqt (zk - 1)
        refine sk_Si (n := 1) (rest := []) (wr := [ro_ mm 12 (mo g (nI ta) (nI pa) (nI pe) pd (nI pb) pp pf pg pn rt rn (nI cd) sn (nI il) tk am at_ aa 0 0 (-1) wt wy 0 (nI rm) (nI ud) (nI nu) sd (nI qn) (nI qw) qo (nI qb) (nI qp) qa (nI qi) (nI oc)), ra_N (g 82) cI 1700 qt]) ⟨hx, hb, hml, hown, hts⟩ hl.1 (c_em_qIsBracket l D cI cJ cC cZ cS (qt (zk - 1)) (by omega)) w_7_75 w_7_76 w_1_14 w_7_77 hd_X12_qIsBracket_1 ⟨⟨(Nat.le_of_ble_eq_true rfl), (Nat.le_of_ble_eq_true rfl)⟩, (Nat.le_of_ble_eq_true rfl), (Nat.le_of_ble_eq_true rfl)⟩ hK hP hD hS hA [] [0, 1] rfl rfl (by decide +kernel) (by decide +kernel) (by decide +kernel) rfl rfl (Nat.le_of_ble_eq_true rfl) dX12_qBracket_21 (fun r_7 u H locs hw hP hD hS => ?_)
        obtain ⟨b_6, hb1_8, rfl, rfl⟩ := hw
        refine o_re (ws' := [ro_ mm 12 (mo g (nI ta) (nI pa) (nI pe) pd (nI pb) pp pf pg pn rt rn (nI cd) sn (nI il) tk am at_ aa 0 0 (-1) wt wy 0 (nI rm) (nI ud) (nI nu) sd (nI qn) (nI qw) qo (nI qb) (nI qp) qa (nI qi) (nI oc)), ra_N (g 82) cI 1700 qt]) hP hD rfl (fun hP hD => ?_)
        refine lv_if_ne (tgt := 33) hx hb dX12_qBracket_24 (by decide) (fun c_9 => ?_) (fun c_9 => ?_)
        · have c_9 : ¬ (b_6 = 0) := fun h => c_9 ((neq b_6 0 (by omega) (Nat.le_of_ble_eq_true rfl)).mpr h)
          refine lv_iload_n hx hb dX12_qBracket_33 rfl (lv_at hl 0 rfl) ?_
          refine lv_aload_n hx hb dX12_qBracket_34 rfl (lv_at hl 1 rfl) ?_
          refine sk_get (v := .int (nI qb)) (C := RX12) (T := TX12) (N := 92) hx hb hts inlX12 hown hK hP 0 rfl rfl 85 (Nat.le_of_ble_eq_true rfl) w_6_0 rfl dX12_qBracket_35 ?_
          refine lv_icmp_lt (tgt := 50) hx hb dX12_qBracket_38 (by decide) (fun c => absurd ((nlt (zk - 1) qb (by omega) (by omega)).mp c) (by omega)) (fun c_10 => ?_)
          refine lv_aload_n hx hb dX12_qBracket_41 rfl (lv_at hl 1 rfl) ?_
          refine sk_get (v := .ref (g 82)) (C := RX12) (T := TX12) (N := 92) hx hb hts inlX12 hown hK hP 0 rfl rfl 82 (Nat.le_of_ble_eq_true rfl) w_5_237 rfl dX12_qBracket_42 ?_
          refine lv_iload_n hx hb dX12_qBracket_45 rfl (lv_at hl 0 rfl) ?_
          refine va_iald hx hb hK.1 hP 1 0 rfl rfl (vin (zk - 1) 1700 (by omega) (Nat.le_of_ble_eq_true rfl)) dX12_qBracket_46 ?_
          refine sk_top (nI (qt (zk - 1))) (nrd qt (zk - 1) (by omega)) ?_
          have hb_11 := hqt (zk - 1)
          refine lv_goto (tgt := 51) hx hb dX12_qBracket_47 (by decide) ?_
          exact sk_iret hx hb hr rfl hlocks hK hP hD hS (⟨(lb_some hnb (by omega) (by omega) (by omega) (by omega) (by omega)), rfl⟩) (Nat.le_of_ble_eq_true rfl) (Nat.le_of_ble_eq_true rfl) dX12_qBracket_51
        · have c_9 : b_6 = 0 := (neq b_6 0 (by omega) (Nat.le_of_ble_eq_true rfl)).mp c_9
          refine lv_iinc (v := nI (zk - 1) - 1) (lv' := [(1, .int (nI (zk - 1) - 1)), (0, .ref mm)]) hx hb dX12_qBracket_27 hl (k := 0) rfl (ndn _) (by decide) rfl (fun ls hl => ?_)
          refine lv_goto (tgt := 7) hx hb dX12_qBracket_30 (by decide) ?_
          exact ih_lp_1 (zk - 1) _ _ _ (by omega) (by omega) (nbr_s hnb (by omega)) hP hD hS (lv_sub hl [0, 1] rfl)
  exact lp_1 (qw + 1) qw _ _ _ (Nat.lt_succ_self _) (by omega) nbr_0 hP hD hS (lv_sub hl [0, 1] rfl)
set_option maxHeartbeats 4000000 in
set_option maxRecDepth 100000 in
theorem c_em_qDropsToBracket (l : Launch) (D : va_G) (cI cJ cC cZ cS : ClassId) (mm : Nat) (g : Nat → Nat) (ta : Nat) (pa : Nat) (pe : Nat) (pd : Int32) (pb : Nat) (pp : Int32) (pf : Int32) (pg : Int32) (pn : Int32) (rt : Int32) (rn : Int32) (cd : Nat) (sn : Int32) (il : Nat) (tk : Int32) (am : Int32) (at_ : Int32) (aa : Int32) (wt : Int32) (wy : Int64) (rm : Nat) (ud : Nat) (nu : Nat) (sd : Int64) (qn : Nat) (qw : Nat) (qo : Int32) (qb : Nat) (qp : Nat) (qa : Int64) (qi : Nat) (oc : Nat) (qs : Nat → Nat) (qt : Nat → Nat) (K : Nat) (n0 : Nat) (tb : Nat → Nat) (kn : Nat) (d0 : Nat) (m0 : Nat) (T : Res) (cq : Cur) (hqs_ : qn + qw ≤ 1690) (hqb : qb ≤ 1700) (hsj : SJ (K + 1) n0 qs qn qt qb qw) (hyd : YD tb pe kn d0 m0 qb T cq qs qn qt qw qo) (hs42 : ¬ isS tb pe 42 cq = true) (hs47 : ¬ isS tb pe 47 cq = true) (hqs : ∀ j, qs j ≤ 20000) (hqt : ∀ j, qt j ≤ 100) : skM l yX12_qDropsToBracket cX12_qDropsToBracket 1 none 2 41 0 0 D (skT cI cJ cC cZ cS) [.ref mm] [ro_ mm 12 (mo g (nI ta) (nI pa) (nI pe) pd (nI pb) pp pf pg pn rt rn (nI cd) sn (nI il) tk am at_ aa 0 0 (-1) wt wy 0 (nI rm) (nI ud) (nI nu) sd (nI qn) (nI qw) qo (nI qb) (nI qp) qa (nI qi) (nI oc)), ra_N (g 80) cI 1700 qs, ra_N (g 82) cI 1700 qt] (skV D (skT cI cJ cC cZ cS) (fun (u : va_W) => ∃ (qw2 : Nat), ∃ (qn2 : Nat), ∃ (qs2 : Nat → Nat), SJ (K + 1) n0 qs2 qn2 qt qb qw2 ∧ qn2 + qw2 = qn + qw ∧ qw2 ≤ qw ∧ (qw2 ≤ qb ∨ (20 ≤ qt (qw2 - 1) ∧ qt (qw2 - 1) ≤ 24)) ∧ nbr qt qw2 qw ∧ YD tb pe kn d0 m0 qb T cq qs2 qn2 qt qw2 qo ∧ (∀ j, qs2 j ≤ 20000) ∧ u = [ro_ mm 12 (mo g (nI ta) (nI pa) (nI pe) pd (nI pb) pp pf pg pn rt rn (nI cd) sn (nI il) tk am at_ aa 0 0 (-1) wt wy 0 (nI rm) (nI ud) (nI nu) sd (nI qn2) (nI qw2) qo (nI qb) (nI qp) qa (nI qi) (nI oc)), ra_N (g 80) cI 1700 qs2, ra_N (g 82) cI 1700 qt])) := by
  refine skM_of pf_X12_qDropsToBracket (Nat.le_of_ble_eq_true rfl) ?_
  intro p e s m below meth c A ls E hP hD hl
  refine skE_el E (fun hx hb hr hml hlocks hin hown hts hK hA => ?_)
  have hown : s.vm.findClass RX12 = some m.cls := hown
  have hS : va_S A s.heap s.heap [] := va_S.rf
  have hl : lv_has ls 1 [(0, .ref mm)] := hl
  have lp_1 : ∀ (n_2 : Nat) (zn : Nat) (zw : Nat) (zs : Nat → Nat) (H : Heap) (locs : List Loc) (ls : Array Slot), zw < n_2 → (∀ j, zs j ≤ 20000) → (zn + zw = qn + qw) → (zw ≤ qw) → (SJ (K + 1) n0 zs zn qt qb zw) → (nbr qt zw qw) → (YD tb pe kn d0 m0 qb T cq zs zn qt zw qo) → va_P D vwCl [ro_ mm 12 (mo g (nI ta) (nI pa) (nI pe) pd (nI pb) pp pf pg pn rt rn (nI cd) sn (nI il) tk am at_ aa 0 0 (-1) wt wy 0 (nI rm) (nI ud) (nI nu) sd (nI zn) (nI zw) qo (nI qb) (nI qp) qa (nI qi) (nI oc)), ra_N (g 80) cI 1700 zs, ra_N (g 82) cI 1700 qt] H → va_D A [ro_ mm 12 (mo g (nI ta) (nI pa) (nI pe) pd (nI pb) pp pf pg pn rt rn (nI cd) sn (nI il) tk am at_ aa 0 0 (-1) wt wy 0 (nI rm) (nI ud) (nI nu) sd (nI zn) (nI zw) qo (nI qb) (nI qp) qa (nI qi) (nI oc)), ra_N (g 80) cI 1700 zs, ra_N (g 82) cI 1700 qt] → va_S A s.heap H locs → lv_has ls 1 [(0, .ref mm)] → W p l e { frames := 2, cells := 0, slots := 0, locals := 41 } s m ([.ref mm] : List Value).toArray below meth c H locs 0 0 (MQ below (skV D (skT cI cJ cC cZ cS) (fun (u : va_W) => ∃ (qw2 : Nat), ∃ (qn2 : Nat), ∃ (qs2 : Nat → Nat), SJ (K + 1) n0 qs2 qn2 qt qb qw2 ∧ qn2 + qw2 = qn + qw ∧ qw2 ≤ qw ∧ (qw2 ≤ qb ∨ (20 ≤ qt (qw2 - 1) ∧ qt (qw2 - 1) ≤ 24)) ∧ nbr qt qw2 qw ∧ YD tb pe kn d0 m0 qb T cq qs2 qn2 qt qw2 qo ∧ (∀ j, qs2 j ≤ 20000) ∧ u = [ro_ mm 12 (mo g (nI ta) (nI pa) (nI pe) pd (nI pb) pp pf pg pn rt rn (nI cd) sn (nI il) tk am at_ aa 0 0 (-1) wt wy 0 (nI rm) (nI ud) (nI nu) sd (nI qn2) (nI qw2) qo (nI qb) (nI qp) qa (nI qi) (nI oc)), ra_N (g 80) cI 1700 qs2, ra_N (g 82) cI 1700 qt]) A) ([.ref mm] : List Value).toArray s 0 0 A) (F0 m 0 ls []) := by
    intro n_2
    induction n_2 with
    | zero => intro zn zw zs H locs ls hm; exact absurd hm (Nat.not_lt_zero _)
    | succ n_2 ih_lp_1 =>
      intro zn zw zs H locs ls hm hzs hzs_ hzw hzj hzn hzy hP hD hS hl
      refine lv_aload_n hx hb dX12_qDropsToBracket_0 rfl (lv_at hl 0 rfl) ?_
      refine sk_get (v := .int (nI zw)) (C := RX12) (T := TX12) (N := 92) hx hb hts inlX12 hown hK hP 0 rfl rfl 83 (Nat.le_of_ble_eq_true rfl) w_5_238 rfl dX12_qDropsToBracket_1 ?_
      refine lv_aload_n hx hb dX12_qDropsToBracket_4 rfl (lv_at hl 0 rfl) ?_
      refine sk_get (v := .int (nI qb)) (C := RX12) (T := TX12) (N := 92) hx hb hts inlX12 hown hK hP 0 rfl rfl 85 (Nat.le_of_ble_eq_true rfl) w_6_0 rfl dX12_qDropsToBracket_5 ?_
      refine lv_icmp_le (tgt := 35) hx hb dX12_qDropsToBracket_8 (by decide) (fun c_3 => ?_) (fun c_3 => ?_)
      · have c_3 : zw ≤ qb := (nle zw qb (by omega) (by omega)).mp c_3
        exact sk_vret hx hb hr hlocks hK hP hD hS (⟨zw, zn, zs, hzj, hzs_, hzw, by omega, hzn, hzy, hzs, rfl⟩) (Nat.le_of_ble_eq_true rfl) (Nat.le_of_ble_eq_true rfl) dX12_qDropsToBracket_35
      · have c_3 : ¬ (zw ≤ qb) := fun h => c_3 ((nle zw qb (by omega) (by omega)).mpr h)
        refine lv_aload_n hx hb dX12_qDropsToBracket_11 rfl (lv_at hl 0 rfl) ?_
        refine sk_get (v := .ref (g 82)) (C := RX12) (T := TX12) (N := 92) hx hb hts inlX12 hown hK hP 0 rfl rfl 82 (Nat.le_of_ble_eq_true rfl) w_5_237 rfl dX12_qDropsToBracket_12 ?_
        refine lv_aload_n hx hb dX12_qDropsToBracket_15 rfl (lv_at hl 0 rfl) ?_
        refine sk_get (v := .int (nI zw)) (C := RX12) (T := TX12) (N := 92) hx hb hts inlX12 hown hK hP 0 rfl rfl 83 (Nat.le_of_ble_eq_true rfl) w_5_238 rfl dX12_qDropsToBracket_16 ?_
        refine lv_iconst (v := 1) hx hb dX12_qDropsToBracket_19 ic_1 ?_
        refine lv_isub hx hb dX12_qDropsToBracket_20 ?_
        refine sk_top (nI (zw - 1)) (nsub zw 1 (by omega)) ?_
        refine va_iald hx hb hK.1 hP 2 0 rfl rfl (vin (zw - 1) 1700 (by omega) (Nat.le_of_ble_eq_true rfl)) dX12_qDropsToBracket_21 ?_
        refine sk_top (nI (qt (zw - 1))) (nrd qt (zw - 1) (by omega)) ?_
        have hb_4 := hqt (zw - 1)
        refine sk_Si (n := 1) (rest := []) (wr := [ro_ mm 12 (mo g (nI ta) (nI pa) (nI pe) pd (nI pb) pp pf pg pn rt rn (nI cd) sn (nI il) tk am at_ aa 0 0 (-1) wt wy 0 (nI rm) (nI ud) (nI nu) sd (nI zn) (nI zw) qo (nI qb) (nI qp) qa (nI qi) (nI oc)), ra_N (g 80) cI 1700 zs, ra_N (g 82) cI 1700 qt]) ⟨hx, hb, hml, hown, hts⟩ hl.1 (c_em_qIsBracket l D cI cJ cC cZ cS (qt (zw - 1)) (by omega)) w_7_75 w_7_76 w_1_14 w_7_77 hd_X12_qIsBracket_1 ⟨⟨(Nat.le_of_ble_eq_true rfl), (Nat.le_of_ble_eq_true rfl)⟩, (Nat.le_of_ble_eq_true rfl), (Nat.le_of_ble_eq_true rfl)⟩ hK hP hD hS hA [] [0, 1, 2] rfl rfl (by decide +kernel) (by decide +kernel) (by decide +kernel) rfl rfl (Nat.le_of_ble_eq_true rfl) dX12_qDropsToBracket_22 (fun r_6 u H locs hw hP hD hS => ?_)
        obtain ⟨b_5, hb1_7, rfl, rfl⟩ := hw
        refine o_re (ws' := [ro_ mm 12 (mo g (nI ta) (nI pa) (nI pe) pd (nI pb) pp pf pg pn rt rn (nI cd) sn (nI il) tk am at_ aa 0 0 (-1) wt wy 0 (nI rm) (nI ud) (nI nu) sd (nI zn) (nI zw) qo (nI qb) (nI qp) qa (nI qi) (nI oc)), ra_N (g 80) cI 1700 zs, ra_N (g 82) cI 1700 qt]) hP hD rfl (fun hP hD => ?_)
        refine lv_if_ne (tgt := 35) hx hb dX12_qDropsToBracket_25 (by decide) (fun c_8 => ?_) (fun c_8 => ?_)
        · have c_8 : ¬ (b_5 = 0) := fun h => c_8 ((neq b_5 0 (by omega) (Nat.le_of_ble_eq_true rfl)).mpr h)
          exact sk_vret hx hb hr hlocks hK hP hD hS (⟨zw, zn, zs, hzj, hzs_, hzw, by omega, hzn, hzy, hzs, rfl⟩) (Nat.le_of_ble_eq_true rfl) (Nat.le_of_ble_eq_true rfl) dX12_qDropsToBracket_35
        · have c_8 : b_5 = 0 := (neq b_5 0 (by omega) (Nat.le_of_ble_eq_true rfl)).mp c_8
          refine lv_aload_n hx hb dX12_qDropsToBracket_28 rfl (lv_at hl 0 rfl) ?_
          refine sk_Vv (q0 := 0) (n := 0) (rest := []) (wr := fmR om_3_7 _) ⟨hx, hb, hml, hown, hts⟩ hl.1 (c_em_qDrops l D cI cJ cC cZ cS mm g ta pa pe pd pb pp pf pg pn rt rn cd sn il tk am at_ aa wt wy rm ud nu sd zn zw qo qb qp qa qi oc zs qt (by omega) (by omega) (by omega) hzs hqt) w_7_63 w_7_65 w_0_63 w_1_14 w_7_66 hd_X12_qDrops_0 ⟨⟨(Nat.le_of_ble_eq_true rfl), (Nat.le_of_ble_eq_true rfl)⟩, (Nat.le_of_ble_eq_true rfl), (Nat.le_of_ble_eq_true rfl)⟩ hK hP hD hS hA (fmT om_3_7 0) (fmF om_3_7 0) (fm_C1 rfl rfl) (fm_R rfl rfl) (fm_nT om_3_7 0) (fm_nF om_3_7 0) (fm_di om_3_7 0) rfl rfl rfl rfl (Nat.le_of_ble_eq_true rfl) dX12_qDropsToBracket_29 (fun u H locs hw hP hD hS => ?_)
          refine exE hw (fun qs2_9 hw1 => anE hw1 (fun hqe_10 hw2 => anE hw2 (fun hqs2_11 eu_12 => ?_)))
          clear hw hw1 hw2
          refine o_mgE (ws' := [ro_ mm 12 (mo g (nI ta) (nI pa) (nI pe) pd (nI pb) pp pf pg pn rt rn (nI cd) sn (nI il) tk am at_ aa 0 0 (-1) wt wy 0 (nI rm) (nI ud) (nI nu) sd (nI (zn + 1)) (nI (zw - 1)) qo (nI qb) (nI qp) qa (nI qi) (nI oc)), ra_N (g 80) cI 1700 qs2_9, ra_N (g 82) cI 1700 qt]) eu_12 hP hD rfl (fun hP hD => ?_)
          refine lv_goto (tgt := 0) hx hb dX12_qDropsToBracket_32 (by decide) ?_
          exact ih_lp_1 (zn + 1) (zw - 1) qs2_9 _ _ _ (by omega) hqs2_11 (by omega) (by omega) (SJ_drop hzj (by omega) (by omega) hqe_10) (nbr_s hzn (by omega)) (yd_drop hzy (by omega) (by omega) hs42 hs47 hqe_10) hP hD hS (lv_sub hl [0] rfl)
  exact lp_1 (qw + 1) qn qw qs _ _ _ (Nat.lt_succ_self _) hqs (by omega) (by omega) hsj nbr_0 hyd hP hD hS (lv_sub hl [0] rfl)
set_option maxHeartbeats 4000000 in
set_option maxRecDepth 100000 in
theorem c_em_qEndsPart (l : Launch) (D : va_G) (cI cJ cC cZ cS : ClassId) (mm : Nat) (g : Nat → Nat) (ta : Nat) (pa : Nat) (pe : Nat) (pd : Int32) (pb : Nat) (pp : Int32) (pf : Int32) (pg : Int32) (pn : Int32) (rt : Int32) (rn : Int32) (cd : Nat) (sn : Int32) (il : Nat) (tk : Int32) (am : Int32) (at_ : Int32) (aa : Int32) (wt : Int32) (wy : Int64) (rm : Nat) (ud : Nat) (nu : Nat) (sd : Int64) (qn : Nat) (qw : Nat) (qo : Int32) (qb : Nat) (qp : Nat) (qa : Int64) (qi : Nat) (oc : Nat) (qs : Nat → Nat) (qt : Nat → Nat) (K : Nat) (n0 : Nat) (tb : Nat → Nat) (kn : Nat) (d0 : Nat) (m0 : Nat) (T : Res) (cq : Cur) (hpb : pb ≤ 5) (hqs_ : qn + qw ≤ 1690) (hqb : qb ≤ 1700) (hsj : hide (pb = 0 → SJ (K + 1) n0 qs qn qt qb qw)) (hya : hide (pb = 0 → YY (Xa tb pe kn 0) d0 m0 qb T cq qs qn qt qw qo)) (hqs : ∀ j, qs j ≤ 20000) (hqt : ∀ j, qt j ≤ 100) : skM l yX12_qEndsPart cX12_qEndsPart 1 none 2 41 0 0 D (skT cI cJ cC cZ cS) [.ref mm] [ro_ mm 12 (mo g (nI ta) (nI pa) (nI pe) pd (nI pb) pp pf pg pn rt rn (nI cd) sn (nI il) tk am at_ aa 0 0 (-1) wt wy 0 (nI rm) (nI ud) (nI nu) sd (nI qn) (nI qw) qo (nI qb) (nI qp) qa (nI qi) (nI oc)), ra_N (g 80) cI 1700 qs, ra_N (g 82) cI 1700 qt] (skV D (skT cI cJ cC cZ cS) (fun (u : va_W) => ∃ (qw2 : Nat), ∃ (qn2 : Nat), ∃ (qo2 : Int32), ∃ (qs2 : Nat → Nat), (hide (pb = 0 → SJ (K + 1) n0 qs2 qn2 qt qb qw2)) ∧ qn2 + qw2 = qn + qw ∧ (hide (pb = 0 → (YY (Xa tb pe kn 0) d0 m0 qb T cq qs2 qn2 qt qw2 qo2 ∧ ¬ topO qt qb qw2 = 60))) ∧ (∀ j, qs2 j ≤ 20000) ∧ u = [ro_ mm 12 (mo g (nI ta) (nI pa) (nI pe) pd (nI pb) pp pf pg pn rt rn (nI cd) sn (nI il) tk am at_ aa 0 0 (-1) wt wy 0 (nI rm) (nI ud) (nI nu) sd (nI qn2) (nI qw2) qo2 (nI qb) (nI qp) qa (nI qi) (nI oc)), ra_N (g 80) cI 1700 qs2, ra_N (g 82) cI 1700 qt])) := by
  refine skM_of pf_X12_qEndsPart (Nat.le_of_ble_eq_true rfl) ?_
  intro p e s m below meth c A ls E hP hD hl
  refine skE_el E (fun hx hb hr hml hlocks hin hown hts hK hA => ?_)
  have hown : s.vm.findClass RX12 = some m.cls := hown
  have hS : va_S A s.heap s.heap [] := va_S.rf
  have hl : lv_has ls 1 [(0, .ref mm)] := hl
  have lp_1 : ∀ (n_2 : Nat) (zn : Nat) (zw : Nat) (zo : Int32) (zs : Nat → Nat) (H : Heap) (locs : List Loc) (ls : Array Slot), zw < n_2 → (∀ j, zs j ≤ 20000) → (zn + zw = qn + qw) → (hide (pb = 0 → SJ (K + 1) n0 zs zn qt qb zw)) → (hide (pb = 0 → YY (Xa tb pe kn 0) d0 m0 qb T cq zs zn qt zw zo)) → va_P D vwCl [ro_ mm 12 (mo g (nI ta) (nI pa) (nI pe) pd (nI pb) pp pf pg pn rt rn (nI cd) sn (nI il) tk am at_ aa 0 0 (-1) wt wy 0 (nI rm) (nI ud) (nI nu) sd (nI zn) (nI zw) zo (nI qb) (nI qp) qa (nI qi) (nI oc)), ra_N (g 80) cI 1700 zs, ra_N (g 82) cI 1700 qt] H → va_D A [ro_ mm 12 (mo g (nI ta) (nI pa) (nI pe) pd (nI pb) pp pf pg pn rt rn (nI cd) sn (nI il) tk am at_ aa 0 0 (-1) wt wy 0 (nI rm) (nI ud) (nI nu) sd (nI zn) (nI zw) zo (nI qb) (nI qp) qa (nI qi) (nI oc)), ra_N (g 80) cI 1700 zs, ra_N (g 82) cI 1700 qt] → va_S A s.heap H locs → lv_has ls 1 [(0, .ref mm)] → W p l e { frames := 2, cells := 0, slots := 0, locals := 41 } s m ([.ref mm] : List Value).toArray below meth c H locs 0 0 (MQ below (skV D (skT cI cJ cC cZ cS) (fun (u : va_W) => ∃ (qw2 : Nat), ∃ (qn2 : Nat), ∃ (qo2 : Int32), ∃ (qs2 : Nat → Nat), (hide (pb = 0 → SJ (K + 1) n0 qs2 qn2 qt qb qw2)) ∧ qn2 + qw2 = qn + qw ∧ (hide (pb = 0 → (YY (Xa tb pe kn 0) d0 m0 qb T cq qs2 qn2 qt qw2 qo2 ∧ ¬ topO qt qb qw2 = 60))) ∧ (∀ j, qs2 j ≤ 20000) ∧ u = [ro_ mm 12 (mo g (nI ta) (nI pa) (nI pe) pd (nI pb) pp pf pg pn rt rn (nI cd) sn (nI il) tk am at_ aa 0 0 (-1) wt wy 0 (nI rm) (nI ud) (nI nu) sd (nI qn2) (nI qw2) qo2 (nI qb) (nI qp) qa (nI qi) (nI oc)), ra_N (g 80) cI 1700 qs2, ra_N (g 82) cI 1700 qt]) A) ([.ref mm] : List Value).toArray s 0 0 A) (F0 m 0 ls []) := by
    intro n_2
    induction n_2 with
    | zero => intro zn zw zo zs H locs ls hm; exact absurd hm (Nat.not_lt_zero _)
    | succ n_2 ih_lp_1 =>
      intro zn zw zo zs H locs ls hm hzs hzs_ hzj hzy hP hD hS hl
      refine lv_aload_n hx hb dX12_qEndsPart_0 rfl (lv_at hl 0 rfl) ?_
      refine sk_get (v := .int (nI pb)) (C := RX12) (T := TX12) (N := 92) hx hb hts inlX12 hown hK hP 0 rfl rfl 5 (Nat.le_of_ble_eq_true rfl) w_5_160 rfl dX12_qEndsPart_1 ?_
      refine lv_if_ne (tgt := 51) hx hb dX12_qEndsPart_4 (by decide) (fun c_3 => ?_) (fun c_3 => ?_)
      · have c_3 : ¬ (pb = 0) := fun h => c_3 ((neq pb 0 (by omega) (Nat.le_of_ble_eq_true rfl)).mpr h)
        exact sk_vret hx hb hr hlocks hK hP hD hS (⟨zw, zn, zo, zs, hzj, hzs_, (fun h0 => ⟨hzy h0, by unfold topO; split <;> omega⟩), hzs, rfl⟩) (Nat.le_of_ble_eq_true rfl) (Nat.le_of_ble_eq_true rfl) dX12_qEndsPart_51
      · have c_3 : pb = 0 := (neq pb 0 (by omega) (Nat.le_of_ble_eq_true rfl)).mp c_3
        refine lv_aload_n hx hb dX12_qEndsPart_7 rfl (lv_at hl 0 rfl) ?_
        refine sk_get (v := .int (nI zw)) (C := RX12) (T := TX12) (N := 92) hx hb hts inlX12 hown hK hP 0 rfl rfl 83 (Nat.le_of_ble_eq_true rfl) w_5_238 rfl dX12_qEndsPart_8 ?_
        refine lv_aload_n hx hb dX12_qEndsPart_11 rfl (lv_at hl 0 rfl) ?_
        refine sk_get (v := .int (nI qb)) (C := RX12) (T := TX12) (N := 92) hx hb hts inlX12 hown hK hP 0 rfl rfl 85 (Nat.le_of_ble_eq_true rfl) w_6_0 rfl dX12_qEndsPart_12 ?_
        refine lv_icmp_le (tgt := 51) hx hb dX12_qEndsPart_15 (by decide) (fun c_4 => ?_) (fun c_4 => ?_)
        · have c_4 : zw ≤ qb := (nle zw qb (by omega) (by omega)).mp c_4
          exact sk_vret hx hb hr hlocks hK hP hD hS (⟨zw, zn, zo, zs, hzj, hzs_, (fun h0 => ⟨hzy h0, by unfold topO; split <;> omega⟩), hzs, rfl⟩) (Nat.le_of_ble_eq_true rfl) (Nat.le_of_ble_eq_true rfl) dX12_qEndsPart_51
        · have c_4 : ¬ (zw ≤ qb) := fun h => c_4 ((nle zw qb (by omega) (by omega)).mpr h)
          refine lv_aload_n hx hb dX12_qEndsPart_18 rfl (lv_at hl 0 rfl) ?_
          refine sk_get (v := .ref (g 82)) (C := RX12) (T := TX12) (N := 92) hx hb hts inlX12 hown hK hP 0 rfl rfl 82 (Nat.le_of_ble_eq_true rfl) w_5_237 rfl dX12_qEndsPart_19 ?_
          refine lv_aload_n hx hb dX12_qEndsPart_22 rfl (lv_at hl 0 rfl) ?_
          refine sk_get (v := .int (nI zw)) (C := RX12) (T := TX12) (N := 92) hx hb hts inlX12 hown hK hP 0 rfl rfl 83 (Nat.le_of_ble_eq_true rfl) w_5_238 rfl dX12_qEndsPart_23 ?_
          refine lv_iconst (v := 1) hx hb dX12_qEndsPart_26 ic_1 ?_
          refine lv_isub hx hb dX12_qEndsPart_27 ?_
          refine sk_top (nI (zw - 1)) (nsub zw 1 (by omega)) ?_
          refine va_iald hx hb hK.1 hP 2 0 rfl rfl (vin (zw - 1) 1700 (by omega) (Nat.le_of_ble_eq_true rfl)) dX12_qEndsPart_28 ?_
          refine sk_top (nI (qt (zw - 1))) (nrd qt (zw - 1) (by omega)) ?_
          have hb_5 := hqt (zw - 1)
          refine lv_bipush (v := 60) hx hb dX12_qEndsPart_29 (by decide) ?_
          refine lv_icmp_lt (tgt := 51) hx hb dX12_qEndsPart_31 (by decide) (fun c_6 => ?_) (fun c_6 => ?_)
          · have c_6 : qt (zw - 1) < 60 := (nlt (qt (zw - 1)) 60 (by omega) (Nat.le_of_ble_eq_true rfl)).mp c_6
            exact sk_vret hx hb hr hlocks hK hP hD hS (⟨zw, zn, zo, zs, hzj, hzs_, (fun h0 => ⟨hzy h0, by unfold topO; split <;> omega⟩), hzs, rfl⟩) (Nat.le_of_ble_eq_true rfl) (Nat.le_of_ble_eq_true rfl) dX12_qEndsPart_51
          · have c_6 : ¬ (qt (zw - 1) < 60) := fun h => c_6 ((nlt (qt (zw - 1)) 60 (by omega) (Nat.le_of_ble_eq_true rfl)).mpr h)
            refine lv_aload_n hx hb dX12_qEndsPart_34 rfl (lv_at hl 0 rfl) ?_
            refine lv_dup hx hb dX12_qEndsPart_35 rfl ?_
            refine sk_get (v := .int zo) (C := RX12) (T := TX12) (N := 92) hx hb hts inlX12 hown hK hP 0 rfl rfl 84 (Nat.le_of_ble_eq_true rfl) w_5_239 rfl dX12_qEndsPart_36 ?_
            refine lv_iconst (v := 1) hx hb dX12_qEndsPart_39 ic_1 ?_
            refine lv_isub hx hb dX12_qEndsPart_40 ?_
            refine lv_topi (fun v_7 ev_7 => ?_)
            refine sk_put (ws' := [ro_ mm 12 (mo g (nI ta) (nI pa) (nI pe) pd (nI pb) pp pf pg pn rt rn (nI cd) sn (nI il) tk am at_ aa 0 0 (-1) wt wy 0 (nI rm) (nI ud) (nI nu) sd (nI zn) (nI zw) v_7 (nI qb) (nI qp) qa (nI qi) (nI oc)), ra_N (g 80) cI 1700 zs, ra_N (g 82) cI 1700 qt]) (C := RX12) (T := TX12) (N := 92) (v := .int v_7) hx hb hts inlX12 tyX12 tyX12_ok nmX12 hown hK hP hD hS 0 rfl rfl 84 (Nat.le_of_ble_eq_true rfl) w_5_239 rfl rfl rfl (Nat.le_of_ble_eq_true rfl) rfl dX12_qEndsPart_41 (fun H locs hP hD hS => ?_)
            refine lv_aload_n hx hb dX12_qEndsPart_44 rfl (lv_at hl 0 rfl) ?_
            refine sk_Vv (q0 := 0) (n := 0) (rest := []) (wr := fmR om_3_7 _) ⟨hx, hb, hml, hown, hts⟩ hl.1 (c_em_qDrops l D cI cJ cC cZ cS mm g ta pa pe pd pb pp pf pg pn rt rn cd sn il tk am at_ aa wt wy rm ud nu sd zn zw v_7 qb qp qa qi oc zs qt (by omega) (by omega) (by omega) hzs hqt) w_7_63 w_7_65 w_0_63 w_1_14 w_7_66 hd_X12_qDrops_0 ⟨⟨(Nat.le_of_ble_eq_true rfl), (Nat.le_of_ble_eq_true rfl)⟩, (Nat.le_of_ble_eq_true rfl), (Nat.le_of_ble_eq_true rfl)⟩ hK hP hD hS hA (fmT om_3_7 0) (fmF om_3_7 0) (fm_C1 rfl rfl) (fm_R rfl rfl) (fm_nT om_3_7 0) (fm_nF om_3_7 0) (fm_di om_3_7 0) rfl rfl rfl rfl (Nat.le_of_ble_eq_true rfl) dX12_qEndsPart_45 (fun u H locs hw hP hD hS => ?_)
            refine exE hw (fun qs2_8 hw1 => anE hw1 (fun hqe_9 hw2 => anE hw2 (fun hqs2_10 eu_11 => ?_)))
            clear hw hw1 hw2
            refine o_mgE (ws' := [ro_ mm 12 (mo g (nI ta) (nI pa) (nI pe) pd (nI pb) pp pf pg pn rt rn (nI cd) sn (nI il) tk am at_ aa 0 0 (-1) wt wy 0 (nI rm) (nI ud) (nI nu) sd (nI (zn + 1)) (nI (zw - 1)) v_7 (nI qb) (nI qp) qa (nI qi) (nI oc)), ra_N (g 80) cI 1700 qs2_8, ra_N (g 82) cI 1700 qt]) eu_11 hP hD rfl (fun hP hD => ?_)
            refine lv_goto (tgt := 0) hx hb dX12_qEndsPart_48 (by decide) ?_
            exact ih_lp_1 (zn + 1) (zw - 1) v_7 qs2_8 _ _ _ (by omega) hqs2_10 (by omega) (fun h0 => SJ_drop (hzj h0) (by omega) (by omega) hqe_9) (fun h0 => by have h9 := y_weeks (hzy h0) (by omega) (by omega); rw [← hqe_9, ← ev_7] at h9; exact h9) hP hD hS (lv_sub hl [0] rfl)
  exact lp_1 (qw + 1) qn qw qo qs _ _ _ (Nat.lt_succ_self _) hqs (by omega) hsj hya hP hD hS (lv_sub hl [0] rfl)
def kpO (b : Nat) (qt qt2 : Nat → Nat) : Prop := ∀ j, j < b → qt2 j = qt j
theorem kp_0 {b : Nat} {qt : Nat → Nat} : kpO b qt qt := fun _ _ => rfl
theorem kp_up {b w v : Nat} {qt q1 q2 : Nat → Nat} (h : kpO b qt q1) (hw : b ≤ w) (e : q2 = updN q1 w v) : kpO b qt q2 := fun j hj => by
  rw [e, updN_ne q1 (by omega)]; exact h j hj
theorem kp_tr {b : Nat} {qt q1 q2 : Nat → Nat} (h1 : kpO b qt q1) (h2 : kpO b q1 q2) : kpO b qt q2 := fun j hj => (h2 j hj).trans (h1 j hj)
set_option maxHeartbeats 4000000 in
set_option maxRecDepth 100000 in
theorem c_em_qPartTold (l : Launch) (D : va_G) (cI cJ cC cZ cS : ClassId) (mm : Nat) (g : Nat → Nat) (ta : Nat) (pa : Nat) (pe : Nat) (pd : Int32) (pb : Nat) (pp : Int32) (pf : Int32) (pg : Int32) (pn : Int32) (rt : Int32) (rn : Int32) (cd : Nat) (sn : Int32) (il : Nat) (tk : Int32) (am : Int32) (at_ : Int32) (aa : Int32) (wt : Int32) (wy : Int64) (rm : Nat) (ud : Nat) (nu : Nat) (sd : Int64) (qn : Nat) (qw : Nat) (qo : Int32) (qb : Nat) (qp : Nat) (qa : Int64) (qi : Nat) (oc : Nat) (tb : Nat → Nat) (qs : Nat → Nat) (qt : Nat → Nat) (K : Nat) (n0 : Nat) (a0 : Nat) (d0 : Nat) (m0 : Nat) (T : Res) (kn : Nat) (og : Except Err Cur) (hpa : pa ≤ pe) (hpe : pe ≤ 1600) (hpb : pb ≤ 5) (hpb0 : pb = 0) (hqa : qn + qw + a0 ≤ pa) (hqb : qb ≤ 1700) (htk : tk = nI kn) (hkn : kn ≤ 2) (hsj : SJ K n0 qs qn qt qb qw) (hY : yO (Xp tb pe kn) d0 m0 qb T og qs qn qt qw qo) (hO : moO tb pe og pa pd pb pp) (htb : ∀ j, tb j ≤ 255) (hqs : ∀ j, qs j ≤ 20000) (hqt : ∀ j, qt j ≤ 100) : skM l yX12_qPartTold cX12_qPartTold 6 none 5 106 0 0 D (skT cI cJ cC cZ cS) [.ref mm] [ro_ mm 12 (mo g (nI ta) (nI pa) (nI pe) pd (nI pb) pp pf pg pn rt rn (nI cd) sn (nI il) tk am at_ aa 0 0 (-1) wt wy 0 (nI rm) (nI ud) (nI nu) sd (nI qn) (nI qw) qo (nI qb) (nI qp) qa (nI qi) (nI oc)), ra_N (g 0) cI 1600 tb, ra_N (g 80) cI 1700 qs, ra_N (g 82) cI 1700 qt, ra_I (g 68) cC 3 (cw [109, 105, 110]), ra_I (g 69) cC 3 (cw [109, 97, 120]), ra_I (g 70) cC 4 (cw [109, 111, 111, 100]), ra_I (g 71) cC 5 (cw [98, 97, 114, 103, 101]), ra_I (g 72) cC 3 (cw [119, 101, 116]), ra_I (g 73) cC 3 (cw [100, 97, 121]), ra_I (g 74) cC 4 (cw [119, 101, 101, 107]), ra_I (g 75) cC 4 (cw [116, 111, 108, 100]), ra_I (g 76) cC 5 (cw [97, 108, 111, 110, 101]), ra_I (g 77) cC 6 (cw [110, 117, 109, 98, 101, 114]), ra_I (g 78) cC 4 (cw [109, 117, 116, 101]), ra_I (g 58) cC 5 (cw [102, 105, 114, 115, 116]), ra_I (g 79) cC 5 (cw [119, 101, 101, 107, 115])] (skV D (skT cI cJ cC cZ cS) (fun (u : va_W) => ∃ (o2 : Except Err Cur), ∃ (pa2 : Nat), ∃ (pd2 : Int32), ∃ (pb2 : Nat), ∃ (pp2 : Int32), ∃ (pn2 : Int32), ∃ (qn2 : Nat), ∃ (qw2 : Nat), ∃ (qo2 : Int32), ∃ (qs2 : Nat → Nat), ∃ (qt2 : Nat → Nat), pa ≤ pa2 ∧ pa2 ≤ pe ∧ pb2 ≤ 5 ∧ (¬ pb2 = 0 ∨ (pa + 1 ≤ pa2 ∧ qn2 + qw2 + a0 ≤ pa2)) ∧ qn2 + qw2 + a0 ≤ pa2 + 1 ∧ (hide (pb2 = 0 → SJ (K + 1) n0 qs2 qn2 qt2 qb qw2)) ∧ moO tb pe o2 pa2 pd2 pb2 pp2 ∧ yA tb pe kn d0 m0 qb T o2 qs2 qn2 qt2 qw2 qo2 ∧ (hide (pb2 = 0 → kpO qb qt qt2)) ∧ (∀ j, qs2 j ≤ 20000) ∧ (∀ j, qt2 j ≤ 100) ∧ u = [ro_ mm 12 (mo g (nI ta) (nI pa2) (nI pe) pd2 (nI pb2) pp2 pf pg pn2 rt rn (nI cd) sn (nI il) tk am at_ aa 0 0 (-1) wt wy 0 (nI rm) (nI ud) (nI nu) sd (nI qn2) (nI qw2) qo2 (nI qb) (nI qp) qa (nI qi) (nI oc)), ra_N (g 0) cI 1600 tb, ra_N (g 80) cI 1700 qs2, ra_N (g 82) cI 1700 qt2, ra_I (g 68) cC 3 (cw [109, 105, 110]), ra_I (g 69) cC 3 (cw [109, 97, 120]), ra_I (g 70) cC 4 (cw [109, 111, 111, 100]), ra_I (g 71) cC 5 (cw [98, 97, 114, 103, 101]), ra_I (g 72) cC 3 (cw [119, 101, 116]), ra_I (g 73) cC 3 (cw [100, 97, 121]), ra_I (g 74) cC 4 (cw [119, 101, 101, 107]), ra_I (g 75) cC 4 (cw [116, 111, 108, 100]), ra_I (g 76) cC 5 (cw [97, 108, 111, 110, 101]), ra_I (g 77) cC 6 (cw [110, 117, 109, 98, 101, 114]), ra_I (g 78) cC 4 (cw [109, 117, 116, 101]), ra_I (g 58) cC 5 (cw [102, 105, 114, 115, 116]), ra_I (g 79) cC 5 (cw [119, 101, 101, 107, 115])])) := by
  refine skM_of pf_X12_qPartTold (Nat.le_of_ble_eq_true rfl) ?_
  intro p e s m below meth c A ls E hP hD hl
  refine skE_el E (fun hx hb hr hml hlocks hin hown hts hK hA => ?_)
  have hown : s.vm.findClass RX12 = some m.cls := hown
  have hS : va_S A s.heap s.heap [] := va_S.rf
  have hl : lv_has ls 6 [(0, .ref mm)] := hl
  refine lv_iconst (v := 1) hx hb dX12_qPartTold_0 ic_1 ?_
  refine lv_istore_n (lv' := [(1, .int 1), (0, .ref mm)]) hx hb dX12_qPartTold_1 rfl hl (by decide) rfl (fun ls hl => ?_)
  have lp_1 : ∀ (n_2 : Nat) (mo_ : Nat) (za : Nat) (zd : Int32) (zb : Nat) (zp : Int32) (zo : Int32) (zw : Nat) (zt : Nat → Nat) (zg : Except Err Cur) (H : Heap) (locs : List Loc) (ls : Array Slot), (pe - za) + (5 - zb) + mo_ < n_2 → (∀ j, zt j ≤ 100) → (moO tb pe zg za zd zb zp) → (pa ≤ za) → (za ≤ pe) → (zb ≤ 5) → (mo_ ≤ 1) → (¬ zb = 0 ∨ qn + zw + a0 ≤ za) → (qn + zw + a0 ≤ za + 1) → (hide (zb = 0 → SJ K n0 qs qn zt qb zw)) → (yO (Xp tb pe kn) d0 m0 qb T zg qs qn zt zw zo) → (hide (mo_ = 0 → zb = 0 → notO tb pe kn (cuO tb pe za zd))) → (hide (zb = 0 → kpO qb qt zt)) → va_P D vwCl [ro_ mm 12 (mo g (nI ta) (nI za) (nI pe) zd (nI zb) zp pf pg pn rt rn (nI cd) sn (nI il) tk am at_ aa 0 0 (-1) wt wy 0 (nI rm) (nI ud) (nI nu) sd (nI qn) (nI zw) zo (nI qb) (nI qp) qa (nI qi) (nI oc)), ra_N (g 0) cI 1600 tb, ra_N (g 80) cI 1700 qs, ra_N (g 82) cI 1700 zt, ra_I (g 68) cC 3 (cw [109, 105, 110]), ra_I (g 69) cC 3 (cw [109, 97, 120]), ra_I (g 70) cC 4 (cw [109, 111, 111, 100]), ra_I (g 71) cC 5 (cw [98, 97, 114, 103, 101]), ra_I (g 72) cC 3 (cw [119, 101, 116]), ra_I (g 73) cC 3 (cw [100, 97, 121]), ra_I (g 74) cC 4 (cw [119, 101, 101, 107]), ra_I (g 75) cC 4 (cw [116, 111, 108, 100]), ra_I (g 76) cC 5 (cw [97, 108, 111, 110, 101]), ra_I (g 77) cC 6 (cw [110, 117, 109, 98, 101, 114]), ra_I (g 78) cC 4 (cw [109, 117, 116, 101]), ra_I (g 58) cC 5 (cw [102, 105, 114, 115, 116]), ra_I (g 79) cC 5 (cw [119, 101, 101, 107, 115])] H → va_D A [ro_ mm 12 (mo g (nI ta) (nI za) (nI pe) zd (nI zb) zp pf pg pn rt rn (nI cd) sn (nI il) tk am at_ aa 0 0 (-1) wt wy 0 (nI rm) (nI ud) (nI nu) sd (nI qn) (nI zw) zo (nI qb) (nI qp) qa (nI qi) (nI oc)), ra_N (g 0) cI 1600 tb, ra_N (g 80) cI 1700 qs, ra_N (g 82) cI 1700 zt, ra_I (g 68) cC 3 (cw [109, 105, 110]), ra_I (g 69) cC 3 (cw [109, 97, 120]), ra_I (g 70) cC 4 (cw [109, 111, 111, 100]), ra_I (g 71) cC 5 (cw [98, 97, 114, 103, 101]), ra_I (g 72) cC 3 (cw [119, 101, 116]), ra_I (g 73) cC 3 (cw [100, 97, 121]), ra_I (g 74) cC 4 (cw [119, 101, 101, 107]), ra_I (g 75) cC 4 (cw [116, 111, 108, 100]), ra_I (g 76) cC 5 (cw [97, 108, 111, 110, 101]), ra_I (g 77) cC 6 (cw [110, 117, 109, 98, 101, 114]), ra_I (g 78) cC 4 (cw [109, 117, 116, 101]), ra_I (g 58) cC 5 (cw [102, 105, 114, 115, 116]), ra_I (g 79) cC 5 (cw [119, 101, 101, 107, 115])] → va_S A s.heap H locs → lv_has ls 6 [(1, .int (nI mo_)), (0, .ref mm)] → W p l e { frames := 5, cells := 0, slots := 0, locals := 106 } s m ([.ref mm] : List Value).toArray below meth c H locs 0 0 (MQ below (skV D (skT cI cJ cC cZ cS) (fun (u : va_W) => ∃ (o2 : Except Err Cur), ∃ (pa2 : Nat), ∃ (pd2 : Int32), ∃ (pb2 : Nat), ∃ (pp2 : Int32), ∃ (pn2 : Int32), ∃ (qn2 : Nat), ∃ (qw2 : Nat), ∃ (qo2 : Int32), ∃ (qs2 : Nat → Nat), ∃ (qt2 : Nat → Nat), pa ≤ pa2 ∧ pa2 ≤ pe ∧ pb2 ≤ 5 ∧ (¬ pb2 = 0 ∨ (pa + 1 ≤ pa2 ∧ qn2 + qw2 + a0 ≤ pa2)) ∧ qn2 + qw2 + a0 ≤ pa2 + 1 ∧ (hide (pb2 = 0 → SJ (K + 1) n0 qs2 qn2 qt2 qb qw2)) ∧ moO tb pe o2 pa2 pd2 pb2 pp2 ∧ yA tb pe kn d0 m0 qb T o2 qs2 qn2 qt2 qw2 qo2 ∧ (hide (pb2 = 0 → kpO qb qt qt2)) ∧ (∀ j, qs2 j ≤ 20000) ∧ (∀ j, qt2 j ≤ 100) ∧ u = [ro_ mm 12 (mo g (nI ta) (nI pa2) (nI pe) pd2 (nI pb2) pp2 pf pg pn2 rt rn (nI cd) sn (nI il) tk am at_ aa 0 0 (-1) wt wy 0 (nI rm) (nI ud) (nI nu) sd (nI qn2) (nI qw2) qo2 (nI qb) (nI qp) qa (nI qi) (nI oc)), ra_N (g 0) cI 1600 tb, ra_N (g 80) cI 1700 qs2, ra_N (g 82) cI 1700 qt2, ra_I (g 68) cC 3 (cw [109, 105, 110]), ra_I (g 69) cC 3 (cw [109, 97, 120]), ra_I (g 70) cC 4 (cw [109, 111, 111, 100]), ra_I (g 71) cC 5 (cw [98, 97, 114, 103, 101]), ra_I (g 72) cC 3 (cw [119, 101, 116]), ra_I (g 73) cC 3 (cw [100, 97, 121]), ra_I (g 74) cC 4 (cw [119, 101, 101, 107]), ra_I (g 75) cC 4 (cw [116, 111, 108, 100]), ra_I (g 76) cC 5 (cw [97, 108, 111, 110, 101]), ra_I (g 77) cC 6 (cw [110, 117, 109, 98, 101, 114]), ra_I (g 78) cC 4 (cw [109, 117, 116, 101]), ra_I (g 58) cC 5 (cw [102, 105, 114, 115, 116]), ra_I (g 79) cC 5 (cw [119, 101, 101, 107, 115])]) A) ([.ref mm] : List Value).toArray s 0 0 A) (F0 m 2 ls []) := by
    intro n_2
    induction n_2 with
    | zero => intro mo_ za zd zb zp zo zw zt zg H locs ls hm; exact absurd hm (Nat.not_lt_zero _)
    | succ n_2 ih_lp_1 =>
      intro mo_ za zd zb zp zo zw zt zg H locs ls hm hzt hzO hza hza2 hzb hmo hzq hzq2 hzj hzY hzm hzk hP hD hS hl
      refine lv_iload_n hx hb dX12_qPartTold_2 rfl (lv_at hl 0 rfl) ?_
      refine lv_if_eq (tgt := 186) hx hb dX12_qPartTold_3 (by decide) (fun c_3 => ?_) (fun c_3 => ?_)
      · have c_3 : mo_ = 0 := (neq mo_ 0 (by omega) (Nat.le_of_ble_eq_true rfl)).mp c_3
        refine lv_aload_n hx hb dX12_qPartTold_186 rfl (lv_at hl 1 rfl) ?_
        refine sk_get (v := .int (nI zb)) (C := RX12) (T := TX12) (N := 92) hx hb hts inlX12 hown hK hP 0 rfl rfl 5 (Nat.le_of_ble_eq_true rfl) w_5_160 rfl dX12_qPartTold_187 ?_
        refine lv_if_eq (tgt := 194) hx hb dX12_qPartTold_190 (by decide) (fun c_4 => ?_) (fun c_4 => ?_)
        · have c_4 : zb = 0 := (neq zb 0 (by omega) (Nat.le_of_ble_eq_true rfl)).mp c_4
          have hb0 : zb = 0 := by omega
          obtain ⟨hg, hzp0, hzle, hzpd⟩ := mo_ok hzO hb0
          have hYp := yo_at hzO hb0 hzY
          have hnt := hzm (by omega) hb0
          refine lv_aload_n hx hb dX12_qPartTold_194 rfl (lv_at hl 1 rfl) ?_
          refine lv_iconst (v := 0) hx hb dX12_qPartTold_195 ic_0 ?_
          refine lv_bipush (v := 10) hx hb dX12_qPartTold_196 (by decide) ?_
          refine sk_Vi (q0 := 0) (n := 2) (rest := []) (wr := fmR om_17_187ff _) ⟨hx, hb, hml, hown, hts⟩ hl.1 (c_em_qWordOf l D cI cJ cC cZ cS mm g ta za pe zd zb zp pf pg pn rt rn cd sn il tk am at_ aa wt wy rm ud nu sd qn zw zo qb qp qa qi oc 0 10 tb kn hza2 hpe hzb (by omega) (by omega) htk hkn htb) w_7_35 w_7_37 w_0_56 w_1_14 w_7_38 hd_X12_qWordOf_2 ⟨⟨(Nat.le_of_ble_eq_true rfl), (Nat.le_of_ble_eq_true rfl)⟩, (Nat.le_of_ble_eq_true rfl), (Nat.le_of_ble_eq_true rfl)⟩ hK hP hD hS hA (fmT om_17_187ff 0) (fmF om_17_187ff 0) (fm_C1 rfl rfl) (fm_R rfl rfl) (fm_nT om_17_187ff 0) (fm_nF om_17_187ff 0) (fm_di om_17_187ff 0) rfl rfl rfl rfl (Nat.le_of_ble_eq_true rfl) dX12_qPartTold_198 (fun r_6 u H locs hw hP hD hS => ?_)
          refine exE hw (fun pa2_5 hw1 => anE hw1 (fun hpa2_7 hw2 => anE hw2 (fun hpa3_8 hw3 => anE hw3 (fun hst_9 hw4 => anE hw4 (fun hr1_10 hw5 => anE hw5 (fun hsk_11 hw6 => anE hw6 (fun hwo_12 eu_13 => ?_)))))))
          clear hw hw1 hw2 hw3 hw4 hw5 hw6
          refine o_mgE (ws' := [ro_ mm 12 (mo g (nI ta) (nI pa2_5) (nI pe) zd (nI zb) zp pf pg pn rt rn (nI cd) sn (nI il) tk am at_ aa 0 0 (-1) wt wy 0 (nI rm) (nI ud) (nI nu) sd (nI qn) (nI zw) zo (nI qb) (nI qp) qa (nI qi) (nI oc)), ra_N (g 0) cI 1600 tb, ra_N (g 80) cI 1700 qs, ra_N (g 82) cI 1700 zt, ra_I (g 68) cC 3 (cw [109, 105, 110]), ra_I (g 69) cC 3 (cw [109, 97, 120]), ra_I (g 70) cC 4 (cw [109, 111, 111, 100]), ra_I (g 71) cC 5 (cw [98, 97, 114, 103, 101]), ra_I (g 72) cC 3 (cw [119, 101, 116]), ra_I (g 73) cC 3 (cw [100, 97, 121]), ra_I (g 74) cC 4 (cw [119, 101, 101, 107]), ra_I (g 75) cC 4 (cw [116, 111, 108, 100]), ra_I (g 76) cC 5 (cw [97, 108, 111, 110, 101]), ra_I (g 77) cC 6 (cw [110, 117, 109, 98, 101, 114]), ra_I (g 78) cC 4 (cw [109, 117, 116, 101]), ra_I (g 58) cC 5 (cw [102, 105, 114, 115, 116]), ra_I (g 79) cC 5 (cw [119, 101, 101, 107, 115])]) eu_13 hP hD rfl (fun hP hD => ?_)
          have hO_14 := mo_here hzO hsk_11
          have hcu_15 : pa2_5 = sk tb pe za := (hsk_11.resolve_right (fun z => z.1 hb0)).2
          have hcc_16 : cuO tb pe pa2_5 zd = cuO tb pe za zd := by rw [hcu_15, cuO_sk]
          refine lv_istore_n (lv' := [(2, .int r_6), (1, .int (nI mo_)), (0, .ref mm)]) hx hb dX12_qPartTold_201 rfl hl (by decide) rfl (fun ls hl => ?_)
          refine lv_iload_n hx hb dX12_qPartTold_202 rfl (lv_at hl 0 rfl) ?_
          refine lv_iconst (v := (-1)) hx hb dX12_qPartTold_203 (by decide) ?_
          refine lv_icmp_eq (tgt := 212) hx hb dX12_qPartTold_204 (by decide) (fun c_17 => ?_) (fun c_17 => ?_)
          · have hpi := wo_none (show woO tb pe kn 0 10 (cuO tb pe za zd) zb (-1) from c_17 ▸ hwo_12) hb0
            refine lv_aload_n hx hb dX12_qPartTold_212 rfl (lv_at hl 2 rfl) ?_
            refine lv_iload_n hx hb dX12_qPartTold_213 rfl (lv_at hl 0 rfl) ?_
            refine lv_iconst (v := (-1)) hx hb dX12_qPartTold_214 (by decide) ?_
            refine lv_icmp_eq (tgt := 225) hx hb dX12_qPartTold_215 (by decide) (fun c_18 => ?_) (fun c => absurd c_17 c)
            refine lv_sipush (v := 1000) hx hb dX12_qPartTold_225 (by decide) ?_
            refine lv_aload_n hx hb dX12_qPartTold_228 rfl (lv_at hl 2 rfl) ?_
            refine lv_iconst (v := 0) hx hb dX12_qPartTold_229 ic_0 ?_
            refine lv_sipush (v := 9999) hx hb dX12_qPartTold_230 (by decide) ?_
            refine sk_Vi (q0 := 0) (n := 2) (rest := [.int 1000, .ref mm]) (wr := fmR om_17_18000 _) ⟨hx, hb, hml, hown, hts⟩ hl.1 (c_em_number l D cI cJ cC cZ cS mm g ta pa2_5 pe zd zb zp pf pg pn rt rn cd sn il tk am at_ aa wt wy rm ud nu sd qn zw zo qb qp qa qi oc 0 9999 tb zg hpa3_8 hpe hzb (by omega) (by omega) hO_14 htb) w_6_233 w_6_235 w_0_47 w_1_14 w_6_236 hd_X12_number_2 ⟨⟨(Nat.le_of_ble_eq_true rfl), (Nat.le_of_ble_eq_true rfl)⟩, (Nat.le_of_ble_eq_true rfl), (Nat.le_of_ble_eq_true rfl)⟩ hK hP hD hS hA (fmT om_17_18000 0) (fmF om_17_18000 0) (fm_C1 rfl rfl) (fm_R rfl rfl) (fm_nT om_17_18000 0) (fm_nF om_17_18000 0) (fm_di om_17_18000 0) rfl rfl rfl rfl (Nat.le_of_ble_eq_true rfl) dX12_qPartTold_233 (fun r_25 u H locs hw hP hD hS => ?_)
            refine exE hw (fun nv_19 hw1 => exE hw1 (fun pa2_20 hw2 => exE hw2 (fun pd2_21 hw3 => exE hw3 (fun pb2_22 hw4 => exE hw4 (fun pp2_23 hw5 => exE hw5 (fun pn2_24 hw6 => anE hw6 (fun hpa2_26 hw7 => anE hw7 (fun hpa3_27 hw8 => anE hw8 (fun hpb2_28 hw9 => anE hw9 (fun hpb3_29 hw10 => anE hw10 (fun hnv_30 hw11 => anE hw11 (fun hO2_31 hw12 => anE hw12 (fun hnv2_32 hw13 => anE hw13 (fun hnp_33 hw14 => anE hw14 (fun er_35 eu_34 => ?_)))))))))))))))
            clear hw hw1 hw2 hw3 hw4 hw5 hw6 hw7 hw8 hw9 hw10 hw11 hw12 hw13 hw14
            subst er_35
            refine o_mgE (ws' := [ro_ mm 12 (mo g (nI ta) (nI pa2_20) (nI pe) pd2_21 (nI pb2_22) pp2_23 pf pg pn2_24 rt rn (nI cd) sn (nI il) tk am at_ aa 0 0 (-1) wt wy 0 (nI rm) (nI ud) (nI nu) sd (nI qn) (nI zw) zo (nI qb) (nI qp) qa (nI qi) (nI oc)), ra_N (g 0) cI 1600 tb, ra_N (g 80) cI 1700 qs, ra_N (g 82) cI 1700 zt, ra_I (g 68) cC 3 (cw [109, 105, 110]), ra_I (g 69) cC 3 (cw [109, 97, 120]), ra_I (g 70) cC 4 (cw [109, 111, 111, 100]), ra_I (g 71) cC 5 (cw [98, 97, 114, 103, 101]), ra_I (g 72) cC 3 (cw [119, 101, 116]), ra_I (g 73) cC 3 (cw [100, 97, 121]), ra_I (g 74) cC 4 (cw [119, 101, 101, 107]), ra_I (g 75) cC 4 (cw [116, 111, 108, 100]), ra_I (g 76) cC 5 (cw [97, 108, 111, 110, 101]), ra_I (g 77) cC 6 (cw [110, 117, 109, 98, 101, 114]), ra_I (g 78) cC 4 (cw [109, 117, 116, 101]), ra_I (g 58) cC 5 (cw [102, 105, 114, 115, 116]), ra_I (g 79) cC 5 (cw [119, 101, 101, 107, 115])]) eu_34 hP hD rfl (fun hP hD => ?_)
            refine lv_iadd hx hb dX12_qPartTold_236 ?_
            refine sk_top (nI (1000 + nv_19)) (nI_add 1000 nv_19) ?_
            refine sk_Vv (q0 := 0) (n := 1) (rest := []) (wr := fmR om_17_14000 _) ⟨hx, hb, hml, hown, hts⟩ hl.1 (c_em_qCode l D cI cJ cC cZ cS mm g ta pa2_20 pe pd2_21 pb2_22 pp2_23 pf pg pn2_24 rt rn cd sn il tk am at_ aa wt wy rm ud nu sd qn zw zo qb qp qa qi oc (1000 + nv_19) qs (by omega) (by omega) hqs) w_7_55 w_7_57 w_0_61 w_1_14 w_7_58 hd_X12_qCode_1 ⟨⟨(Nat.le_of_ble_eq_true rfl), (Nat.le_of_ble_eq_true rfl)⟩, (Nat.le_of_ble_eq_true rfl), (Nat.le_of_ble_eq_true rfl)⟩ hK hP hD hS hA (fmT om_17_14000 0) (fmF om_17_14000 0) (fm_C1 rfl rfl) (fm_R rfl rfl) (fm_nT om_17_14000 0) (fm_nF om_17_14000 0) (fm_di om_17_14000 0) rfl rfl rfl rfl (Nat.le_of_ble_eq_true rfl) dX12_qPartTold_237 (fun u H locs hw hP hD hS => ?_)
            refine exE hw (fun qs2_36 hw1 => anE hw1 (fun hqe_37 hw2 => anE hw2 (fun hqs2_38 eu_39 => ?_)))
            clear hw hw1 hw2
            refine o_mgE (ws' := [ro_ mm 12 (mo g (nI ta) (nI pa2_20) (nI pe) pd2_21 (nI pb2_22) pp2_23 pf pg pn2_24 rt rn (nI cd) sn (nI il) tk am at_ aa 0 0 (-1) wt wy 0 (nI rm) (nI ud) (nI nu) sd (nI (qn + 1)) (nI zw) zo (nI qb) (nI qp) qa (nI qi) (nI oc)), ra_N (g 0) cI 1600 tb, ra_N (g 80) cI 1700 qs2_36, ra_N (g 82) cI 1700 zt, ra_I (g 68) cC 3 (cw [109, 105, 110]), ra_I (g 69) cC 3 (cw [109, 97, 120]), ra_I (g 70) cC 4 (cw [109, 111, 111, 100]), ra_I (g 71) cC 5 (cw [98, 97, 114, 103, 101]), ra_I (g 72) cC 3 (cw [119, 101, 116]), ra_I (g 73) cC 3 (cw [100, 97, 121]), ra_I (g 74) cC 4 (cw [119, 101, 101, 107]), ra_I (g 75) cC 4 (cw [116, 111, 108, 100]), ra_I (g 76) cC 5 (cw [97, 108, 111, 110, 101]), ra_I (g 77) cC 6 (cw [110, 117, 109, 98, 101, 114]), ra_I (g 78) cC 4 (cw [109, 117, 116, 101]), ra_I (g 58) cC 5 (cw [102, 105, 114, 115, 116]), ra_I (g 79) cC 5 (cw [119, 101, 101, 107, 115])]) eu_39 hP hD rfl (fun hP hD => ?_)
            have hyA : yO (Xa tb pe kn 0) d0 m0 qb T (bindR zg (nmF tb pe 0 9999)) _ _ zt zw zo := (by rw [hg]; exact y_num hYp hnt hpi (by rw [← hg]; exact hnv2_32))
            rw [← hqe_37] at hyA
            refine lv_aload_n hx hb dX12_qPartTold_240 rfl (lv_at hl 2 rfl) ?_
            refine sk_Vv (q0 := 0) (n := 0) (rest := []) (wr := fmR om_17_16000 _) ⟨hx, hb, hml, hown, hts⟩ hl.1 (c_em_qEndsPart l D cI cJ cC cZ cS mm g ta pa2_20 pe pd2_21 pb2_22 pp2_23 pf pg pn2_24 rt rn cd sn il tk am at_ aa wt wy rm ud nu sd (qn + 1) zw zo qb qp qa qi oc qs2_36 zt K n0 tb kn d0 m0 T (cuO tb pe pa2_20 pd2_21) hpb2_28 (by omega) hqb (fun h0 => SJ_code (hzj (by omega)) (by omega) (by omega) hqe_37) (fun h0 => yo_at hO2_31 h0 hyA) hqs2_38 hzt) w_7_59 w_7_61 w_0_62 w_1_14 w_7_62 hd_X12_qEndsPart_0 ⟨⟨(Nat.le_of_ble_eq_true rfl), (Nat.le_of_ble_eq_true rfl)⟩, (Nat.le_of_ble_eq_true rfl), (Nat.le_of_ble_eq_true rfl)⟩ hK hP hD hS hA (fmT om_17_16000 0) (fmF om_17_16000 0) (fm_C1 rfl rfl) (fm_R rfl rfl) (fm_nT om_17_16000 0) (fm_nF om_17_16000 0) (fm_di om_17_16000 0) rfl rfl rfl rfl (Nat.le_of_ble_eq_true rfl) dX12_qPartTold_241 (fun u H locs hw hP hD hS => ?_)
            refine exE hw (fun qw2_40 hw1 => exE hw1 (fun qn2_41 hw2 => exE hw2 (fun qo2_42 hw3 => exE hw3 (fun qs2_43 hw4 => anE hw4 (fun hsj2_44 hw5 => anE hw5 (fun hsum_45 hw6 => anE hw6 (fun hya2_46 hw7 => anE hw7 (fun hqs2_47 eu_48 => ?_))))))))
            clear hw hw1 hw2 hw3 hw4 hw5 hw6 hw7
            refine o_mgE (ws' := [ro_ mm 12 (mo g (nI ta) (nI pa2_20) (nI pe) pd2_21 (nI pb2_22) pp2_23 pf pg pn2_24 rt rn (nI cd) sn (nI il) tk am at_ aa 0 0 (-1) wt wy 0 (nI rm) (nI ud) (nI nu) sd (nI qn2_41) (nI qw2_40) qo2_42 (nI qb) (nI qp) qa (nI qi) (nI oc)), ra_N (g 0) cI 1600 tb, ra_N (g 80) cI 1700 qs2_43, ra_N (g 82) cI 1700 zt, ra_I (g 68) cC 3 (cw [109, 105, 110]), ra_I (g 69) cC 3 (cw [109, 97, 120]), ra_I (g 70) cC 4 (cw [109, 111, 111, 100]), ra_I (g 71) cC 5 (cw [98, 97, 114, 103, 101]), ra_I (g 72) cC 3 (cw [119, 101, 116]), ra_I (g 73) cC 3 (cw [100, 97, 121]), ra_I (g 74) cC 4 (cw [119, 101, 101, 107]), ra_I (g 75) cC 4 (cw [116, 111, 108, 100]), ra_I (g 76) cC 5 (cw [97, 108, 111, 110, 101]), ra_I (g 77) cC 6 (cw [110, 117, 109, 98, 101, 114]), ra_I (g 78) cC 4 (cw [109, 117, 116, 101]), ra_I (g 58) cC 5 (cw [102, 105, 114, 115, 116]), ra_I (g 79) cC 5 (cw [119, 101, 101, 107, 115])]) eu_48 hP hD rfl (fun hP hD => ?_)
            exact sk_vret hx hb hr hlocks hK hP hD hS (⟨(bindR zg (nmF tb pe 0 9999)), pa2_20, pd2_21, pb2_22, pp2_23, pn2_24, qn2_41, qw2_40, qo2_42, qs2_43, zt, by omega, hpa3_27, hpb2_28, by omega, by omega, hsj2_44, hO2_31, (ya_of hO2_31 (yo_e hyA) hya2_46), (fun h0 => hzk (by omega)), hqs2_47, hzt, rfl⟩) (Nat.le_of_ble_eq_true rfl) (Nat.le_of_ble_eq_true rfl) dX12_qPartTold_244
          · obtain ⟨ko_49, hko_49, h1ko_49, rfl⟩ := hr1_10.resolve_left c_17
            obtain ⟨k9, hk91, hk92, hk93, hk94, hk95, hk96, hk97⟩ := hwo_12.resolve_left (fun hq => c_17 hq.1)
            obtain rfl : ko_49 = k9 := (neq _ _ (by omega) (by omega)).mp hk94
            have hpi := wo_some hk92 hk96 hk97
            refine lv_aload_n hx hb dX12_qPartTold_207 rfl (lv_at hl 2 rfl) ?_
            refine lv_iload_n hx hb dX12_qPartTold_208 rfl (lv_at hl 0 rfl) ?_
            refine sk_Vv (q0 := 0) (n := 1) (rest := []) (wr := fmR om_17_187ff _) ⟨hx, hb, hml, hown, hts⟩ hl.1 (c_em_qAsksWord l D cI cJ cC cZ cS mm g ta pa2_5 pe zd zb zp pf pg pn rt rn cd sn il tk am at_ aa wt wy rm ud nu sd qn zw zo qb qp qa qi oc ko_49 tb zg hpa3_8 hpe hzb (by omega) hO_14 htb) w_7_51 w_7_53 w_0_60 w_1_14 w_7_54 hd_X12_qAsksWord_1 ⟨⟨(Nat.le_of_ble_eq_true rfl), (Nat.le_of_ble_eq_true rfl)⟩, (Nat.le_of_ble_eq_true rfl), (Nat.le_of_ble_eq_true rfl)⟩ hK hP hD hS hA (fmT om_17_187ff 0) (fmF om_17_187ff 0) (fm_C1 rfl rfl) (fm_R rfl rfl) (fm_nT om_17_187ff 0) (fm_nF om_17_187ff 0) (fm_di om_17_187ff 0) rfl rfl rfl rfl (Nat.le_of_ble_eq_true rfl) dX12_qPartTold_209 (fun u H locs hw hP hD hS => ?_)
            refine exE hw (fun pa2_50 hw1 => exE hw1 (fun pd2_51 hw2 => exE hw2 (fun pb2_52 hw3 => exE hw3 (fun pp2_53 hw4 => anE hw4 (fun hpa2_54 hw5 => anE hw5 (fun hpa3_55 hw6 => anE hw6 (fun hpb2_56 hw7 => anE hw7 (fun hpb3_57 hw8 => anE hw8 (fun hO2_58 eu_59 => ?_)))))))))
            clear hw hw1 hw2 hw3 hw4 hw5 hw6 hw7 hw8
            refine o_mgE (ws' := [ro_ mm 12 (mo g (nI ta) (nI pa2_50) (nI pe) pd2_51 (nI pb2_52) pp2_53 pf pg pn rt rn (nI cd) sn (nI il) tk am at_ aa 0 0 (-1) wt wy 0 (nI rm) (nI ud) (nI nu) sd (nI qn) (nI zw) zo (nI qb) (nI qp) qa (nI qi) (nI oc)), ra_N (g 0) cI 1600 tb, ra_N (g 80) cI 1700 qs, ra_N (g 82) cI 1700 zt, ra_I (g 68) cC 3 (cw [109, 105, 110]), ra_I (g 69) cC 3 (cw [109, 97, 120]), ra_I (g 70) cC 4 (cw [109, 111, 111, 100]), ra_I (g 71) cC 5 (cw [98, 97, 114, 103, 101]), ra_I (g 72) cC 3 (cw [119, 101, 116]), ra_I (g 73) cC 3 (cw [100, 97, 121]), ra_I (g 74) cC 4 (cw [119, 101, 101, 107]), ra_I (g 75) cC 4 (cw [116, 111, 108, 100]), ra_I (g 76) cC 5 (cw [97, 108, 111, 110, 101]), ra_I (g 77) cC 6 (cw [110, 117, 109, 98, 101, 114]), ra_I (g 78) cC 4 (cw [109, 117, 116, 101]), ra_I (g 58) cC 5 (cw [102, 105, 114, 115, 116]), ra_I (g 79) cC 5 (cw [119, 101, 101, 107, 115])]) eu_59 hP hD rfl (fun hP hD => ?_)
            refine lv_aload_n hx hb dX12_qPartTold_212 rfl (lv_at hl 2 rfl) ?_
            refine lv_iload_n hx hb dX12_qPartTold_213 rfl (lv_at hl 0 rfl) ?_
            refine lv_iconst (v := (-1)) hx hb dX12_qPartTold_214 (by decide) ?_
            refine lv_icmp_eq (tgt := 225) hx hb dX12_qPartTold_215 (by decide) (fun c => absurd ((ieq (ivn ko_49 (by omega)) (show (-1 : Int32).toInt = -1 by decide)).mp c) (by omega)) (fun c_60 => ?_)
            refine lv_bipush (v := 40) hx hb dX12_qPartTold_218 (by decide) ?_
            refine lv_iload_n hx hb dX12_qPartTold_220 rfl (lv_at hl 0 rfl) ?_
            refine lv_iadd hx hb dX12_qPartTold_221 ?_
            refine sk_top (nI (40 + ko_49)) (nI_add 40 ko_49) ?_
            refine lv_goto (tgt := 237) hx hb dX12_qPartTold_222 (by decide) ?_
            refine sk_Vv (q0 := 0) (n := 1) (rest := []) (wr := fmR om_17_14000 _) ⟨hx, hb, hml, hown, hts⟩ hl.1 (c_em_qCode l D cI cJ cC cZ cS mm g ta pa2_50 pe pd2_51 pb2_52 pp2_53 pf pg pn rt rn cd sn il tk am at_ aa wt wy rm ud nu sd qn zw zo qb qp qa qi oc (40 + ko_49) qs (by omega) (by omega) hqs) w_7_55 w_7_57 w_0_61 w_1_14 w_7_58 hd_X12_qCode_1 ⟨⟨(Nat.le_of_ble_eq_true rfl), (Nat.le_of_ble_eq_true rfl)⟩, (Nat.le_of_ble_eq_true rfl), (Nat.le_of_ble_eq_true rfl)⟩ hK hP hD hS hA (fmT om_17_14000 0) (fmF om_17_14000 0) (fm_C1 rfl rfl) (fm_R rfl rfl) (fm_nT om_17_14000 0) (fm_nF om_17_14000 0) (fm_di om_17_14000 0) rfl rfl rfl rfl (Nat.le_of_ble_eq_true rfl) dX12_qPartTold_237 (fun u H locs hw hP hD hS => ?_)
            refine exE hw (fun qs2_61 hw1 => anE hw1 (fun hqe_62 hw2 => anE hw2 (fun hqs2_63 eu_64 => ?_)))
            clear hw hw1 hw2
            refine o_mgE (ws' := [ro_ mm 12 (mo g (nI ta) (nI pa2_50) (nI pe) pd2_51 (nI pb2_52) pp2_53 pf pg pn rt rn (nI cd) sn (nI il) tk am at_ aa 0 0 (-1) wt wy 0 (nI rm) (nI ud) (nI nu) sd (nI (qn + 1)) (nI zw) zo (nI qb) (nI qp) qa (nI qi) (nI oc)), ra_N (g 0) cI 1600 tb, ra_N (g 80) cI 1700 qs2_61, ra_N (g 82) cI 1700 zt, ra_I (g 68) cC 3 (cw [109, 105, 110]), ra_I (g 69) cC 3 (cw [109, 97, 120]), ra_I (g 70) cC 4 (cw [109, 111, 111, 100]), ra_I (g 71) cC 5 (cw [98, 97, 114, 103, 101]), ra_I (g 72) cC 3 (cw [119, 101, 116]), ra_I (g 73) cC 3 (cw [100, 97, 121]), ra_I (g 74) cC 4 (cw [119, 101, 101, 107]), ra_I (g 75) cC 4 (cw [116, 111, 108, 100]), ra_I (g 76) cC 5 (cw [97, 108, 111, 110, 101]), ra_I (g 77) cC 6 (cw [110, 117, 109, 98, 101, 114]), ra_I (g 78) cC 4 (cw [109, 117, 116, 101]), ra_I (g 58) cC 5 (cw [102, 105, 114, 115, 116]), ra_I (g 79) cC 5 (cw [119, 101, 101, 107, 115])]) eu_64 hP hD rfl (fun hP hD => ?_)
            have hyA : yO (Xa tb pe kn 0) d0 m0 qb T (bindR zg (wordP tb pe (pw11 ko_49))) _ _ zt zw zo := (by rw [hg]; show yO _ _ _ _ _ (wordP tb pe (pw11 ko_49) (cuO tb pe za zd)) _ _ _ _ _; rw [mo_asks2 hk96]; exact y_nameK hYp hnt hpi)
            rw [← hqe_62] at hyA
            refine lv_aload_n hx hb dX12_qPartTold_240 rfl (lv_at hl 2 rfl) ?_
            refine sk_Vv (q0 := 0) (n := 0) (rest := []) (wr := fmR om_17_16000 _) ⟨hx, hb, hml, hown, hts⟩ hl.1 (c_em_qEndsPart l D cI cJ cC cZ cS mm g ta pa2_50 pe pd2_51 pb2_52 pp2_53 pf pg pn rt rn cd sn il tk am at_ aa wt wy rm ud nu sd (qn + 1) zw zo qb qp qa qi oc qs2_61 zt K n0 tb kn d0 m0 T (cuO tb pe pa2_50 pd2_51) hpb2_56 (by omega) hqb (fun h0 => SJ_code (hzj (by omega)) (by omega) (by omega) hqe_62) (fun h0 => yo_at hO2_58 h0 hyA) hqs2_63 hzt) w_7_59 w_7_61 w_0_62 w_1_14 w_7_62 hd_X12_qEndsPart_0 ⟨⟨(Nat.le_of_ble_eq_true rfl), (Nat.le_of_ble_eq_true rfl)⟩, (Nat.le_of_ble_eq_true rfl), (Nat.le_of_ble_eq_true rfl)⟩ hK hP hD hS hA (fmT om_17_16000 0) (fmF om_17_16000 0) (fm_C1 rfl rfl) (fm_R rfl rfl) (fm_nT om_17_16000 0) (fm_nF om_17_16000 0) (fm_di om_17_16000 0) rfl rfl rfl rfl (Nat.le_of_ble_eq_true rfl) dX12_qPartTold_241 (fun u H locs hw hP hD hS => ?_)
            refine exE hw (fun qw2_65 hw1 => exE hw1 (fun qn2_66 hw2 => exE hw2 (fun qo2_67 hw3 => exE hw3 (fun qs2_68 hw4 => anE hw4 (fun hsj2_69 hw5 => anE hw5 (fun hsum_70 hw6 => anE hw6 (fun hya2_71 hw7 => anE hw7 (fun hqs2_72 eu_73 => ?_))))))))
            clear hw hw1 hw2 hw3 hw4 hw5 hw6 hw7
            refine o_mgE (ws' := [ro_ mm 12 (mo g (nI ta) (nI pa2_50) (nI pe) pd2_51 (nI pb2_52) pp2_53 pf pg pn rt rn (nI cd) sn (nI il) tk am at_ aa 0 0 (-1) wt wy 0 (nI rm) (nI ud) (nI nu) sd (nI qn2_66) (nI qw2_65) qo2_67 (nI qb) (nI qp) qa (nI qi) (nI oc)), ra_N (g 0) cI 1600 tb, ra_N (g 80) cI 1700 qs2_68, ra_N (g 82) cI 1700 zt, ra_I (g 68) cC 3 (cw [109, 105, 110]), ra_I (g 69) cC 3 (cw [109, 97, 120]), ra_I (g 70) cC 4 (cw [109, 111, 111, 100]), ra_I (g 71) cC 5 (cw [98, 97, 114, 103, 101]), ra_I (g 72) cC 3 (cw [119, 101, 116]), ra_I (g 73) cC 3 (cw [100, 97, 121]), ra_I (g 74) cC 4 (cw [119, 101, 101, 107]), ra_I (g 75) cC 4 (cw [116, 111, 108, 100]), ra_I (g 76) cC 5 (cw [97, 108, 111, 110, 101]), ra_I (g 77) cC 6 (cw [110, 117, 109, 98, 101, 114]), ra_I (g 78) cC 4 (cw [109, 117, 116, 101]), ra_I (g 58) cC 5 (cw [102, 105, 114, 115, 116]), ra_I (g 79) cC 5 (cw [119, 101, 101, 107, 115])]) eu_73 hP hD rfl (fun hP hD => ?_)
            exact sk_vret hx hb hr hlocks hK hP hD hS (⟨(bindR zg (wordP tb pe (pw11 ko_49))), pa2_50, pd2_51, pb2_52, pp2_53, pn, qn2_66, qw2_65, qo2_67, qs2_68, zt, by omega, hpa3_55, hpb2_56, by omega, by omega, hsj2_69, hO2_58, (ya_of hO2_58 (yo_e hyA) hya2_71), (fun h0 => hzk (by omega)), hqs2_72, hzt, rfl⟩) (Nat.le_of_ble_eq_true rfl) (Nat.le_of_ble_eq_true rfl) dX12_qPartTold_244
        · have c_4 : ¬ (zb = 0) := fun h => c_4 ((neq zb 0 (by omega) (Nat.le_of_ble_eq_true rfl)).mpr h)
          exact sk_vret hx hb hr hlocks hK hP hD hS (⟨zg, za, zd, zb, zp, pn, qn, zw, zo, qs, zt, hza, hza2, hzb, by omega, hzq2, (fun h0 => absurd h0 (by omega)), hzO, (ya_of hzO (yo_e hzY) (fun h0 => absurd h0 (by omega))), (fun h0 => hzk (by omega)), hqs, hzt, rfl⟩) (Nat.le_of_ble_eq_true rfl) (Nat.le_of_ble_eq_true rfl) dX12_qPartTold_193
      · have c_3 : ¬ (mo_ = 0) := fun h => c_3 ((neq mo_ 0 (by omega) (Nat.le_of_ble_eq_true rfl)).mpr h)
        refine lv_aload_n hx hb dX12_qPartTold_6 rfl (lv_at hl 1 rfl) ?_
        refine sk_get (v := .int (nI zb)) (C := RX12) (T := TX12) (N := 92) hx hb hts inlX12 hown hK hP 0 rfl rfl 5 (Nat.le_of_ble_eq_true rfl) w_5_160 rfl dX12_qPartTold_7 ?_
        refine lv_if_ne (tgt := 186) hx hb dX12_qPartTold_10 (by decide) (fun c_74 => ?_) (fun c_74 => ?_)
        · have c_74 : ¬ (zb = 0) := fun h => c_74 ((neq zb 0 (by omega) (Nat.le_of_ble_eq_true rfl)).mpr h)
          refine lv_aload_n hx hb dX12_qPartTold_186 rfl (lv_at hl 1 rfl) ?_
          refine sk_get (v := .int (nI zb)) (C := RX12) (T := TX12) (N := 92) hx hb hts inlX12 hown hK hP 0 rfl rfl 5 (Nat.le_of_ble_eq_true rfl) w_5_160 rfl dX12_qPartTold_187 ?_
          refine lv_if_eq (tgt := 194) hx hb dX12_qPartTold_190 (by decide) (fun c_75 => ?_) (fun c_75 => ?_)
          · have c_75 : zb = 0 := (neq zb 0 (by omega) (Nat.le_of_ble_eq_true rfl)).mp c_75
            have hb0 : zb = 0 := by omega
            obtain ⟨hg, hzp0, hzle, hzpd⟩ := mo_ok hzO hb0
            have hYp := yo_at hzO hb0 hzY
            have hnt := hzm (by omega) hb0
            refine lv_aload_n hx hb dX12_qPartTold_194 rfl (lv_at hl 1 rfl) ?_
            refine lv_iconst (v := 0) hx hb dX12_qPartTold_195 ic_0 ?_
            refine lv_bipush (v := 10) hx hb dX12_qPartTold_196 (by decide) ?_
            refine sk_Vi (q0 := 0) (n := 2) (rest := []) (wr := fmR om_17_187ff _) ⟨hx, hb, hml, hown, hts⟩ hl.1 (c_em_qWordOf l D cI cJ cC cZ cS mm g ta za pe zd zb zp pf pg pn rt rn cd sn il tk am at_ aa wt wy rm ud nu sd qn zw zo qb qp qa qi oc 0 10 tb kn hza2 hpe hzb (by omega) (by omega) htk hkn htb) w_7_35 w_7_37 w_0_56 w_1_14 w_7_38 hd_X12_qWordOf_2 ⟨⟨(Nat.le_of_ble_eq_true rfl), (Nat.le_of_ble_eq_true rfl)⟩, (Nat.le_of_ble_eq_true rfl), (Nat.le_of_ble_eq_true rfl)⟩ hK hP hD hS hA (fmT om_17_187ff 0) (fmF om_17_187ff 0) (fm_C1 rfl rfl) (fm_R rfl rfl) (fm_nT om_17_187ff 0) (fm_nF om_17_187ff 0) (fm_di om_17_187ff 0) rfl rfl rfl rfl (Nat.le_of_ble_eq_true rfl) dX12_qPartTold_198 (fun r_77 u H locs hw hP hD hS => ?_)
            refine exE hw (fun pa2_76 hw1 => anE hw1 (fun hpa2_78 hw2 => anE hw2 (fun hpa3_79 hw3 => anE hw3 (fun hst_80 hw4 => anE hw4 (fun hr1_81 hw5 => anE hw5 (fun hsk_82 hw6 => anE hw6 (fun hwo_83 eu_84 => ?_)))))))
            clear hw hw1 hw2 hw3 hw4 hw5 hw6
            refine o_mgE (ws' := [ro_ mm 12 (mo g (nI ta) (nI pa2_76) (nI pe) zd (nI zb) zp pf pg pn rt rn (nI cd) sn (nI il) tk am at_ aa 0 0 (-1) wt wy 0 (nI rm) (nI ud) (nI nu) sd (nI qn) (nI zw) zo (nI qb) (nI qp) qa (nI qi) (nI oc)), ra_N (g 0) cI 1600 tb, ra_N (g 80) cI 1700 qs, ra_N (g 82) cI 1700 zt, ra_I (g 68) cC 3 (cw [109, 105, 110]), ra_I (g 69) cC 3 (cw [109, 97, 120]), ra_I (g 70) cC 4 (cw [109, 111, 111, 100]), ra_I (g 71) cC 5 (cw [98, 97, 114, 103, 101]), ra_I (g 72) cC 3 (cw [119, 101, 116]), ra_I (g 73) cC 3 (cw [100, 97, 121]), ra_I (g 74) cC 4 (cw [119, 101, 101, 107]), ra_I (g 75) cC 4 (cw [116, 111, 108, 100]), ra_I (g 76) cC 5 (cw [97, 108, 111, 110, 101]), ra_I (g 77) cC 6 (cw [110, 117, 109, 98, 101, 114]), ra_I (g 78) cC 4 (cw [109, 117, 116, 101]), ra_I (g 58) cC 5 (cw [102, 105, 114, 115, 116]), ra_I (g 79) cC 5 (cw [119, 101, 101, 107, 115])]) eu_84 hP hD rfl (fun hP hD => ?_)
            have hO_85 := mo_here hzO hsk_82
            have hcu_86 : pa2_76 = sk tb pe za := (hsk_82.resolve_right (fun z => z.1 hb0)).2
            have hcc_87 : cuO tb pe pa2_76 zd = cuO tb pe za zd := by rw [hcu_86, cuO_sk]
            refine lv_istore_n (lv' := [(2, .int r_77), (1, .int (nI mo_)), (0, .ref mm)]) hx hb dX12_qPartTold_201 rfl hl (by decide) rfl (fun ls hl => ?_)
            refine lv_iload_n hx hb dX12_qPartTold_202 rfl (lv_at hl 0 rfl) ?_
            refine lv_iconst (v := (-1)) hx hb dX12_qPartTold_203 (by decide) ?_
            refine lv_icmp_eq (tgt := 212) hx hb dX12_qPartTold_204 (by decide) (fun c_88 => ?_) (fun c_88 => ?_)
            · have hpi := wo_none (show woO tb pe kn 0 10 (cuO tb pe za zd) zb (-1) from c_88 ▸ hwo_83) hb0
              refine lv_aload_n hx hb dX12_qPartTold_212 rfl (lv_at hl 2 rfl) ?_
              refine lv_iload_n hx hb dX12_qPartTold_213 rfl (lv_at hl 0 rfl) ?_
              refine lv_iconst (v := (-1)) hx hb dX12_qPartTold_214 (by decide) ?_
              refine lv_icmp_eq (tgt := 225) hx hb dX12_qPartTold_215 (by decide) (fun c_89 => ?_) (fun c => absurd c_88 c)
              refine lv_sipush (v := 1000) hx hb dX12_qPartTold_225 (by decide) ?_
              refine lv_aload_n hx hb dX12_qPartTold_228 rfl (lv_at hl 2 rfl) ?_
              refine lv_iconst (v := 0) hx hb dX12_qPartTold_229 ic_0 ?_
              refine lv_sipush (v := 9999) hx hb dX12_qPartTold_230 (by decide) ?_
              refine sk_Vi (q0 := 0) (n := 2) (rest := [.int 1000, .ref mm]) (wr := fmR om_17_18000 _) ⟨hx, hb, hml, hown, hts⟩ hl.1 (c_em_number l D cI cJ cC cZ cS mm g ta pa2_76 pe zd zb zp pf pg pn rt rn cd sn il tk am at_ aa wt wy rm ud nu sd qn zw zo qb qp qa qi oc 0 9999 tb zg hpa3_79 hpe hzb (by omega) (by omega) hO_85 htb) w_6_233 w_6_235 w_0_47 w_1_14 w_6_236 hd_X12_number_2 ⟨⟨(Nat.le_of_ble_eq_true rfl), (Nat.le_of_ble_eq_true rfl)⟩, (Nat.le_of_ble_eq_true rfl), (Nat.le_of_ble_eq_true rfl)⟩ hK hP hD hS hA (fmT om_17_18000 0) (fmF om_17_18000 0) (fm_C1 rfl rfl) (fm_R rfl rfl) (fm_nT om_17_18000 0) (fm_nF om_17_18000 0) (fm_di om_17_18000 0) rfl rfl rfl rfl (Nat.le_of_ble_eq_true rfl) dX12_qPartTold_233 (fun r_96 u H locs hw hP hD hS => ?_)
              refine exE hw (fun nv_90 hw1 => exE hw1 (fun pa2_91 hw2 => exE hw2 (fun pd2_92 hw3 => exE hw3 (fun pb2_93 hw4 => exE hw4 (fun pp2_94 hw5 => exE hw5 (fun pn2_95 hw6 => anE hw6 (fun hpa2_97 hw7 => anE hw7 (fun hpa3_98 hw8 => anE hw8 (fun hpb2_99 hw9 => anE hw9 (fun hpb3_100 hw10 => anE hw10 (fun hnv_101 hw11 => anE hw11 (fun hO2_102 hw12 => anE hw12 (fun hnv2_103 hw13 => anE hw13 (fun hnp_104 hw14 => anE hw14 (fun er_106 eu_105 => ?_)))))))))))))))
              clear hw hw1 hw2 hw3 hw4 hw5 hw6 hw7 hw8 hw9 hw10 hw11 hw12 hw13 hw14
              subst er_106
              refine o_mgE (ws' := [ro_ mm 12 (mo g (nI ta) (nI pa2_91) (nI pe) pd2_92 (nI pb2_93) pp2_94 pf pg pn2_95 rt rn (nI cd) sn (nI il) tk am at_ aa 0 0 (-1) wt wy 0 (nI rm) (nI ud) (nI nu) sd (nI qn) (nI zw) zo (nI qb) (nI qp) qa (nI qi) (nI oc)), ra_N (g 0) cI 1600 tb, ra_N (g 80) cI 1700 qs, ra_N (g 82) cI 1700 zt, ra_I (g 68) cC 3 (cw [109, 105, 110]), ra_I (g 69) cC 3 (cw [109, 97, 120]), ra_I (g 70) cC 4 (cw [109, 111, 111, 100]), ra_I (g 71) cC 5 (cw [98, 97, 114, 103, 101]), ra_I (g 72) cC 3 (cw [119, 101, 116]), ra_I (g 73) cC 3 (cw [100, 97, 121]), ra_I (g 74) cC 4 (cw [119, 101, 101, 107]), ra_I (g 75) cC 4 (cw [116, 111, 108, 100]), ra_I (g 76) cC 5 (cw [97, 108, 111, 110, 101]), ra_I (g 77) cC 6 (cw [110, 117, 109, 98, 101, 114]), ra_I (g 78) cC 4 (cw [109, 117, 116, 101]), ra_I (g 58) cC 5 (cw [102, 105, 114, 115, 116]), ra_I (g 79) cC 5 (cw [119, 101, 101, 107, 115])]) eu_105 hP hD rfl (fun hP hD => ?_)
              refine lv_iadd hx hb dX12_qPartTold_236 ?_
              refine sk_top (nI (1000 + nv_90)) (nI_add 1000 nv_90) ?_
              refine sk_Vv (q0 := 0) (n := 1) (rest := []) (wr := fmR om_17_14000 _) ⟨hx, hb, hml, hown, hts⟩ hl.1 (c_em_qCode l D cI cJ cC cZ cS mm g ta pa2_91 pe pd2_92 pb2_93 pp2_94 pf pg pn2_95 rt rn cd sn il tk am at_ aa wt wy rm ud nu sd qn zw zo qb qp qa qi oc (1000 + nv_90) qs (by omega) (by omega) hqs) w_7_55 w_7_57 w_0_61 w_1_14 w_7_58 hd_X12_qCode_1 ⟨⟨(Nat.le_of_ble_eq_true rfl), (Nat.le_of_ble_eq_true rfl)⟩, (Nat.le_of_ble_eq_true rfl), (Nat.le_of_ble_eq_true rfl)⟩ hK hP hD hS hA (fmT om_17_14000 0) (fmF om_17_14000 0) (fm_C1 rfl rfl) (fm_R rfl rfl) (fm_nT om_17_14000 0) (fm_nF om_17_14000 0) (fm_di om_17_14000 0) rfl rfl rfl rfl (Nat.le_of_ble_eq_true rfl) dX12_qPartTold_237 (fun u H locs hw hP hD hS => ?_)
              refine exE hw (fun qs2_107 hw1 => anE hw1 (fun hqe_108 hw2 => anE hw2 (fun hqs2_109 eu_110 => ?_)))
              clear hw hw1 hw2
              refine o_mgE (ws' := [ro_ mm 12 (mo g (nI ta) (nI pa2_91) (nI pe) pd2_92 (nI pb2_93) pp2_94 pf pg pn2_95 rt rn (nI cd) sn (nI il) tk am at_ aa 0 0 (-1) wt wy 0 (nI rm) (nI ud) (nI nu) sd (nI (qn + 1)) (nI zw) zo (nI qb) (nI qp) qa (nI qi) (nI oc)), ra_N (g 0) cI 1600 tb, ra_N (g 80) cI 1700 qs2_107, ra_N (g 82) cI 1700 zt, ra_I (g 68) cC 3 (cw [109, 105, 110]), ra_I (g 69) cC 3 (cw [109, 97, 120]), ra_I (g 70) cC 4 (cw [109, 111, 111, 100]), ra_I (g 71) cC 5 (cw [98, 97, 114, 103, 101]), ra_I (g 72) cC 3 (cw [119, 101, 116]), ra_I (g 73) cC 3 (cw [100, 97, 121]), ra_I (g 74) cC 4 (cw [119, 101, 101, 107]), ra_I (g 75) cC 4 (cw [116, 111, 108, 100]), ra_I (g 76) cC 5 (cw [97, 108, 111, 110, 101]), ra_I (g 77) cC 6 (cw [110, 117, 109, 98, 101, 114]), ra_I (g 78) cC 4 (cw [109, 117, 116, 101]), ra_I (g 58) cC 5 (cw [102, 105, 114, 115, 116]), ra_I (g 79) cC 5 (cw [119, 101, 101, 107, 115])]) eu_110 hP hD rfl (fun hP hD => ?_)
              have hyA : yO (Xa tb pe kn 0) d0 m0 qb T (bindR zg (nmF tb pe 0 9999)) _ _ zt zw zo := (by rw [hg]; exact y_num hYp hnt hpi (by rw [← hg]; exact hnv2_103))
              rw [← hqe_108] at hyA
              refine lv_aload_n hx hb dX12_qPartTold_240 rfl (lv_at hl 2 rfl) ?_
              refine sk_Vv (q0 := 0) (n := 0) (rest := []) (wr := fmR om_17_16000 _) ⟨hx, hb, hml, hown, hts⟩ hl.1 (c_em_qEndsPart l D cI cJ cC cZ cS mm g ta pa2_91 pe pd2_92 pb2_93 pp2_94 pf pg pn2_95 rt rn cd sn il tk am at_ aa wt wy rm ud nu sd (qn + 1) zw zo qb qp qa qi oc qs2_107 zt K n0 tb kn d0 m0 T (cuO tb pe pa2_91 pd2_92) hpb2_99 (by omega) hqb (fun h0 => SJ_code (hzj (by omega)) (by omega) (by omega) hqe_108) (fun h0 => yo_at hO2_102 h0 hyA) hqs2_109 hzt) w_7_59 w_7_61 w_0_62 w_1_14 w_7_62 hd_X12_qEndsPart_0 ⟨⟨(Nat.le_of_ble_eq_true rfl), (Nat.le_of_ble_eq_true rfl)⟩, (Nat.le_of_ble_eq_true rfl), (Nat.le_of_ble_eq_true rfl)⟩ hK hP hD hS hA (fmT om_17_16000 0) (fmF om_17_16000 0) (fm_C1 rfl rfl) (fm_R rfl rfl) (fm_nT om_17_16000 0) (fm_nF om_17_16000 0) (fm_di om_17_16000 0) rfl rfl rfl rfl (Nat.le_of_ble_eq_true rfl) dX12_qPartTold_241 (fun u H locs hw hP hD hS => ?_)
              refine exE hw (fun qw2_111 hw1 => exE hw1 (fun qn2_112 hw2 => exE hw2 (fun qo2_113 hw3 => exE hw3 (fun qs2_114 hw4 => anE hw4 (fun hsj2_115 hw5 => anE hw5 (fun hsum_116 hw6 => anE hw6 (fun hya2_117 hw7 => anE hw7 (fun hqs2_118 eu_119 => ?_))))))))
              clear hw hw1 hw2 hw3 hw4 hw5 hw6 hw7
              refine o_mgE (ws' := [ro_ mm 12 (mo g (nI ta) (nI pa2_91) (nI pe) pd2_92 (nI pb2_93) pp2_94 pf pg pn2_95 rt rn (nI cd) sn (nI il) tk am at_ aa 0 0 (-1) wt wy 0 (nI rm) (nI ud) (nI nu) sd (nI qn2_112) (nI qw2_111) qo2_113 (nI qb) (nI qp) qa (nI qi) (nI oc)), ra_N (g 0) cI 1600 tb, ra_N (g 80) cI 1700 qs2_114, ra_N (g 82) cI 1700 zt, ra_I (g 68) cC 3 (cw [109, 105, 110]), ra_I (g 69) cC 3 (cw [109, 97, 120]), ra_I (g 70) cC 4 (cw [109, 111, 111, 100]), ra_I (g 71) cC 5 (cw [98, 97, 114, 103, 101]), ra_I (g 72) cC 3 (cw [119, 101, 116]), ra_I (g 73) cC 3 (cw [100, 97, 121]), ra_I (g 74) cC 4 (cw [119, 101, 101, 107]), ra_I (g 75) cC 4 (cw [116, 111, 108, 100]), ra_I (g 76) cC 5 (cw [97, 108, 111, 110, 101]), ra_I (g 77) cC 6 (cw [110, 117, 109, 98, 101, 114]), ra_I (g 78) cC 4 (cw [109, 117, 116, 101]), ra_I (g 58) cC 5 (cw [102, 105, 114, 115, 116]), ra_I (g 79) cC 5 (cw [119, 101, 101, 107, 115])]) eu_119 hP hD rfl (fun hP hD => ?_)
              exact sk_vret hx hb hr hlocks hK hP hD hS (⟨(bindR zg (nmF tb pe 0 9999)), pa2_91, pd2_92, pb2_93, pp2_94, pn2_95, qn2_112, qw2_111, qo2_113, qs2_114, zt, by omega, hpa3_98, hpb2_99, by omega, by omega, hsj2_115, hO2_102, (ya_of hO2_102 (yo_e hyA) hya2_117), (fun h0 => hzk (by omega)), hqs2_118, hzt, rfl⟩) (Nat.le_of_ble_eq_true rfl) (Nat.le_of_ble_eq_true rfl) dX12_qPartTold_244
            · obtain ⟨ko_120, hko_120, h1ko_120, rfl⟩ := hr1_81.resolve_left c_88
              obtain ⟨k9, hk91, hk92, hk93, hk94, hk95, hk96, hk97⟩ := hwo_83.resolve_left (fun hq => c_88 hq.1)
              obtain rfl : ko_120 = k9 := (neq _ _ (by omega) (by omega)).mp hk94
              have hpi := wo_some hk92 hk96 hk97
              refine lv_aload_n hx hb dX12_qPartTold_207 rfl (lv_at hl 2 rfl) ?_
              refine lv_iload_n hx hb dX12_qPartTold_208 rfl (lv_at hl 0 rfl) ?_
              refine sk_Vv (q0 := 0) (n := 1) (rest := []) (wr := fmR om_17_187ff _) ⟨hx, hb, hml, hown, hts⟩ hl.1 (c_em_qAsksWord l D cI cJ cC cZ cS mm g ta pa2_76 pe zd zb zp pf pg pn rt rn cd sn il tk am at_ aa wt wy rm ud nu sd qn zw zo qb qp qa qi oc ko_120 tb zg hpa3_79 hpe hzb (by omega) hO_85 htb) w_7_51 w_7_53 w_0_60 w_1_14 w_7_54 hd_X12_qAsksWord_1 ⟨⟨(Nat.le_of_ble_eq_true rfl), (Nat.le_of_ble_eq_true rfl)⟩, (Nat.le_of_ble_eq_true rfl), (Nat.le_of_ble_eq_true rfl)⟩ hK hP hD hS hA (fmT om_17_187ff 0) (fmF om_17_187ff 0) (fm_C1 rfl rfl) (fm_R rfl rfl) (fm_nT om_17_187ff 0) (fm_nF om_17_187ff 0) (fm_di om_17_187ff 0) rfl rfl rfl rfl (Nat.le_of_ble_eq_true rfl) dX12_qPartTold_209 (fun u H locs hw hP hD hS => ?_)
              refine exE hw (fun pa2_121 hw1 => exE hw1 (fun pd2_122 hw2 => exE hw2 (fun pb2_123 hw3 => exE hw3 (fun pp2_124 hw4 => anE hw4 (fun hpa2_125 hw5 => anE hw5 (fun hpa3_126 hw6 => anE hw6 (fun hpb2_127 hw7 => anE hw7 (fun hpb3_128 hw8 => anE hw8 (fun hO2_129 eu_130 => ?_)))))))))
              clear hw hw1 hw2 hw3 hw4 hw5 hw6 hw7 hw8
              refine o_mgE (ws' := [ro_ mm 12 (mo g (nI ta) (nI pa2_121) (nI pe) pd2_122 (nI pb2_123) pp2_124 pf pg pn rt rn (nI cd) sn (nI il) tk am at_ aa 0 0 (-1) wt wy 0 (nI rm) (nI ud) (nI nu) sd (nI qn) (nI zw) zo (nI qb) (nI qp) qa (nI qi) (nI oc)), ra_N (g 0) cI 1600 tb, ra_N (g 80) cI 1700 qs, ra_N (g 82) cI 1700 zt, ra_I (g 68) cC 3 (cw [109, 105, 110]), ra_I (g 69) cC 3 (cw [109, 97, 120]), ra_I (g 70) cC 4 (cw [109, 111, 111, 100]), ra_I (g 71) cC 5 (cw [98, 97, 114, 103, 101]), ra_I (g 72) cC 3 (cw [119, 101, 116]), ra_I (g 73) cC 3 (cw [100, 97, 121]), ra_I (g 74) cC 4 (cw [119, 101, 101, 107]), ra_I (g 75) cC 4 (cw [116, 111, 108, 100]), ra_I (g 76) cC 5 (cw [97, 108, 111, 110, 101]), ra_I (g 77) cC 6 (cw [110, 117, 109, 98, 101, 114]), ra_I (g 78) cC 4 (cw [109, 117, 116, 101]), ra_I (g 58) cC 5 (cw [102, 105, 114, 115, 116]), ra_I (g 79) cC 5 (cw [119, 101, 101, 107, 115])]) eu_130 hP hD rfl (fun hP hD => ?_)
              refine lv_aload_n hx hb dX12_qPartTold_212 rfl (lv_at hl 2 rfl) ?_
              refine lv_iload_n hx hb dX12_qPartTold_213 rfl (lv_at hl 0 rfl) ?_
              refine lv_iconst (v := (-1)) hx hb dX12_qPartTold_214 (by decide) ?_
              refine lv_icmp_eq (tgt := 225) hx hb dX12_qPartTold_215 (by decide) (fun c => absurd ((ieq (ivn ko_120 (by omega)) (show (-1 : Int32).toInt = -1 by decide)).mp c) (by omega)) (fun c_131 => ?_)
              refine lv_bipush (v := 40) hx hb dX12_qPartTold_218 (by decide) ?_
              refine lv_iload_n hx hb dX12_qPartTold_220 rfl (lv_at hl 0 rfl) ?_
              refine lv_iadd hx hb dX12_qPartTold_221 ?_
              refine sk_top (nI (40 + ko_120)) (nI_add 40 ko_120) ?_
              refine lv_goto (tgt := 237) hx hb dX12_qPartTold_222 (by decide) ?_
              refine sk_Vv (q0 := 0) (n := 1) (rest := []) (wr := fmR om_17_14000 _) ⟨hx, hb, hml, hown, hts⟩ hl.1 (c_em_qCode l D cI cJ cC cZ cS mm g ta pa2_121 pe pd2_122 pb2_123 pp2_124 pf pg pn rt rn cd sn il tk am at_ aa wt wy rm ud nu sd qn zw zo qb qp qa qi oc (40 + ko_120) qs (by omega) (by omega) hqs) w_7_55 w_7_57 w_0_61 w_1_14 w_7_58 hd_X12_qCode_1 ⟨⟨(Nat.le_of_ble_eq_true rfl), (Nat.le_of_ble_eq_true rfl)⟩, (Nat.le_of_ble_eq_true rfl), (Nat.le_of_ble_eq_true rfl)⟩ hK hP hD hS hA (fmT om_17_14000 0) (fmF om_17_14000 0) (fm_C1 rfl rfl) (fm_R rfl rfl) (fm_nT om_17_14000 0) (fm_nF om_17_14000 0) (fm_di om_17_14000 0) rfl rfl rfl rfl (Nat.le_of_ble_eq_true rfl) dX12_qPartTold_237 (fun u H locs hw hP hD hS => ?_)
              refine exE hw (fun qs2_132 hw1 => anE hw1 (fun hqe_133 hw2 => anE hw2 (fun hqs2_134 eu_135 => ?_)))
              clear hw hw1 hw2
              refine o_mgE (ws' := [ro_ mm 12 (mo g (nI ta) (nI pa2_121) (nI pe) pd2_122 (nI pb2_123) pp2_124 pf pg pn rt rn (nI cd) sn (nI il) tk am at_ aa 0 0 (-1) wt wy 0 (nI rm) (nI ud) (nI nu) sd (nI (qn + 1)) (nI zw) zo (nI qb) (nI qp) qa (nI qi) (nI oc)), ra_N (g 0) cI 1600 tb, ra_N (g 80) cI 1700 qs2_132, ra_N (g 82) cI 1700 zt, ra_I (g 68) cC 3 (cw [109, 105, 110]), ra_I (g 69) cC 3 (cw [109, 97, 120]), ra_I (g 70) cC 4 (cw [109, 111, 111, 100]), ra_I (g 71) cC 5 (cw [98, 97, 114, 103, 101]), ra_I (g 72) cC 3 (cw [119, 101, 116]), ra_I (g 73) cC 3 (cw [100, 97, 121]), ra_I (g 74) cC 4 (cw [119, 101, 101, 107]), ra_I (g 75) cC 4 (cw [116, 111, 108, 100]), ra_I (g 76) cC 5 (cw [97, 108, 111, 110, 101]), ra_I (g 77) cC 6 (cw [110, 117, 109, 98, 101, 114]), ra_I (g 78) cC 4 (cw [109, 117, 116, 101]), ra_I (g 58) cC 5 (cw [102, 105, 114, 115, 116]), ra_I (g 79) cC 5 (cw [119, 101, 101, 107, 115])]) eu_135 hP hD rfl (fun hP hD => ?_)
              have hyA : yO (Xa tb pe kn 0) d0 m0 qb T (bindR zg (wordP tb pe (pw11 ko_120))) _ _ zt zw zo := (by rw [hg]; show yO _ _ _ _ _ (wordP tb pe (pw11 ko_120) (cuO tb pe za zd)) _ _ _ _ _; rw [mo_asks2 hk96]; exact y_nameK hYp hnt hpi)
              rw [← hqe_133] at hyA
              refine lv_aload_n hx hb dX12_qPartTold_240 rfl (lv_at hl 2 rfl) ?_
              refine sk_Vv (q0 := 0) (n := 0) (rest := []) (wr := fmR om_17_16000 _) ⟨hx, hb, hml, hown, hts⟩ hl.1 (c_em_qEndsPart l D cI cJ cC cZ cS mm g ta pa2_121 pe pd2_122 pb2_123 pp2_124 pf pg pn rt rn cd sn il tk am at_ aa wt wy rm ud nu sd (qn + 1) zw zo qb qp qa qi oc qs2_132 zt K n0 tb kn d0 m0 T (cuO tb pe pa2_121 pd2_122) hpb2_127 (by omega) hqb (fun h0 => SJ_code (hzj (by omega)) (by omega) (by omega) hqe_133) (fun h0 => yo_at hO2_129 h0 hyA) hqs2_134 hzt) w_7_59 w_7_61 w_0_62 w_1_14 w_7_62 hd_X12_qEndsPart_0 ⟨⟨(Nat.le_of_ble_eq_true rfl), (Nat.le_of_ble_eq_true rfl)⟩, (Nat.le_of_ble_eq_true rfl), (Nat.le_of_ble_eq_true rfl)⟩ hK hP hD hS hA (fmT om_17_16000 0) (fmF om_17_16000 0) (fm_C1 rfl rfl) (fm_R rfl rfl) (fm_nT om_17_16000 0) (fm_nF om_17_16000 0) (fm_di om_17_16000 0) rfl rfl rfl rfl (Nat.le_of_ble_eq_true rfl) dX12_qPartTold_241 (fun u H locs hw hP hD hS => ?_)
              refine exE hw (fun qw2_136 hw1 => exE hw1 (fun qn2_137 hw2 => exE hw2 (fun qo2_138 hw3 => exE hw3 (fun qs2_139 hw4 => anE hw4 (fun hsj2_140 hw5 => anE hw5 (fun hsum_141 hw6 => anE hw6 (fun hya2_142 hw7 => anE hw7 (fun hqs2_143 eu_144 => ?_))))))))
              clear hw hw1 hw2 hw3 hw4 hw5 hw6 hw7
              refine o_mgE (ws' := [ro_ mm 12 (mo g (nI ta) (nI pa2_121) (nI pe) pd2_122 (nI pb2_123) pp2_124 pf pg pn rt rn (nI cd) sn (nI il) tk am at_ aa 0 0 (-1) wt wy 0 (nI rm) (nI ud) (nI nu) sd (nI qn2_137) (nI qw2_136) qo2_138 (nI qb) (nI qp) qa (nI qi) (nI oc)), ra_N (g 0) cI 1600 tb, ra_N (g 80) cI 1700 qs2_139, ra_N (g 82) cI 1700 zt, ra_I (g 68) cC 3 (cw [109, 105, 110]), ra_I (g 69) cC 3 (cw [109, 97, 120]), ra_I (g 70) cC 4 (cw [109, 111, 111, 100]), ra_I (g 71) cC 5 (cw [98, 97, 114, 103, 101]), ra_I (g 72) cC 3 (cw [119, 101, 116]), ra_I (g 73) cC 3 (cw [100, 97, 121]), ra_I (g 74) cC 4 (cw [119, 101, 101, 107]), ra_I (g 75) cC 4 (cw [116, 111, 108, 100]), ra_I (g 76) cC 5 (cw [97, 108, 111, 110, 101]), ra_I (g 77) cC 6 (cw [110, 117, 109, 98, 101, 114]), ra_I (g 78) cC 4 (cw [109, 117, 116, 101]), ra_I (g 58) cC 5 (cw [102, 105, 114, 115, 116]), ra_I (g 79) cC 5 (cw [119, 101, 101, 107, 115])]) eu_144 hP hD rfl (fun hP hD => ?_)
              exact sk_vret hx hb hr hlocks hK hP hD hS (⟨(bindR zg (wordP tb pe (pw11 ko_120))), pa2_121, pd2_122, pb2_123, pp2_124, pn, qn2_137, qw2_136, qo2_138, qs2_139, zt, by omega, hpa3_126, hpb2_127, by omega, by omega, hsj2_140, hO2_129, (ya_of hO2_129 (yo_e hyA) hya2_142), (fun h0 => hzk (by omega)), hqs2_143, hzt, rfl⟩) (Nat.le_of_ble_eq_true rfl) (Nat.le_of_ble_eq_true rfl) dX12_qPartTold_244
          · have c_75 : ¬ (zb = 0) := fun h => c_75 ((neq zb 0 (by omega) (Nat.le_of_ble_eq_true rfl)).mpr h)
            exact sk_vret hx hb hr hlocks hK hP hD hS (⟨zg, za, zd, zb, zp, pn, qn, zw, zo, qs, zt, hza, hza2, hzb, by omega, hzq2, (fun h0 => absurd h0 (by omega)), hzO, (ya_of hzO (yo_e hzY) (fun h0 => absurd h0 (by omega))), (fun h0 => hzk (by omega)), hqs, hzt, rfl⟩) (Nat.le_of_ble_eq_true rfl) (Nat.le_of_ble_eq_true rfl) dX12_qPartTold_193
        · have c_74 : zb = 0 := (neq zb 0 (by omega) (Nat.le_of_ble_eq_true rfl)).mp c_74
          have hb0 : zb = 0 := by omega
          obtain ⟨hg, hzp0, hzle, hzpd⟩ := mo_ok hzO hb0
          have hYp := yo_at hzO hb0 hzY
          refine lv_aload_n hx hb dX12_qPartTold_13 rfl (lv_at hl 1 rfl) ?_
          refine sk_Vi (q0 := 0) (n := 0) (rest := []) (wr := fmR om_17_18000 _) ⟨hx, hb, hml, hown, hts⟩ hl.1 (c_em_look l D cI cJ cC cZ cS mm g ta za pe zd zb zp pf pg pn rt rn cd sn il tk am at_ aa wt wy rm ud nu sd qn zw zo qb qp qa qi oc tb hza2 hpe htb) w_6_222 w_6_224 w_0_45 w_1_14 w_6_225 hd_X12_look_0 ⟨⟨(Nat.le_of_ble_eq_true rfl), (Nat.le_of_ble_eq_true rfl)⟩, (Nat.le_of_ble_eq_true rfl), (Nat.le_of_ble_eq_true rfl)⟩ hK hP hD hS hA (fmT om_17_18000 0) (fmF om_17_18000 0) (fm_C1 rfl rfl) (fm_R rfl rfl) (fm_nT om_17_18000 0) (fm_nF om_17_18000 0) (fm_di om_17_18000 0) rfl rfl rfl rfl (Nat.le_of_ble_eq_true rfl) dX12_qPartTold_14 (fun r_146 u H locs hw hP hD hS => ?_)
          refine exE hw (fun pa2_145 hw1 => anE hw1 (fun hpa2_147 hw2 => anE hw2 (fun hpa3_148 hw3 => anE hw3 (fun hlk_149 hw4 => anE hw4 (fun hst_150 hw5 => anE hw5 (fun hsk_151 eu_152 => ?_))))))
          clear hw hw1 hw2 hw3 hw4 hw5
          refine o_mgE (ws' := [ro_ mm 12 (mo g (nI ta) (nI pa2_145) (nI pe) zd (nI zb) zp pf pg pn rt rn (nI cd) sn (nI il) tk am at_ aa 0 0 (-1) wt wy 0 (nI rm) (nI ud) (nI nu) sd (nI qn) (nI zw) zo (nI qb) (nI qp) qa (nI qi) (nI oc)), ra_N (g 0) cI 1600 tb, ra_N (g 80) cI 1700 qs, ra_N (g 82) cI 1700 zt, ra_I (g 68) cC 3 (cw [109, 105, 110]), ra_I (g 69) cC 3 (cw [109, 97, 120]), ra_I (g 70) cC 4 (cw [109, 111, 111, 100]), ra_I (g 71) cC 5 (cw [98, 97, 114, 103, 101]), ra_I (g 72) cC 3 (cw [119, 101, 116]), ra_I (g 73) cC 3 (cw [100, 97, 121]), ra_I (g 74) cC 4 (cw [119, 101, 101, 107]), ra_I (g 75) cC 4 (cw [116, 111, 108, 100]), ra_I (g 76) cC 5 (cw [97, 108, 111, 110, 101]), ra_I (g 77) cC 6 (cw [110, 117, 109, 98, 101, 114]), ra_I (g 78) cC 4 (cw [109, 117, 116, 101]), ra_I (g 58) cC 5 (cw [102, 105, 114, 115, 116]), ra_I (g 79) cC 5 (cw [119, 101, 101, 107, 115])]) eu_152 hP hD rfl (fun hP hD => ?_)
          have hO_153 : moO tb pe zg pa2_145 zd zb zp := by rw [hsk_151]; exact mo_look hzO
          have hcu_154 : pa2_145 = sk tb pe za := hsk_151
          have hcc_155 : cuO tb pe pa2_145 zd = cuO tb pe za zd := by rw [hcu_154, cuO_sk]
          refine lv_istore_n (lv' := [(2, .int r_146), (1, .int (nI mo_)), (0, .ref mm)]) hx hb dX12_qPartTold_17 rfl hl (by decide) rfl (fun ls hl => ?_)
          refine lv_aload_n hx hb dX12_qPartTold_18 rfl (lv_at hl 2 rfl) ?_
          refine lv_bipush (v := 10) hx hb dX12_qPartTold_19 (by decide) ?_
          refine lv_bipush (v := 11) hx hb dX12_qPartTold_21 (by decide) ?_
          refine sk_Vi (q0 := 0) (n := 2) (rest := []) (wr := fmR om_17_187ff _) ⟨hx, hb, hml, hown, hts⟩ hl.1 (c_em_qWordOf l D cI cJ cC cZ cS mm g ta pa2_145 pe zd zb zp pf pg pn rt rn cd sn il tk am at_ aa wt wy rm ud nu sd qn zw zo qb qp qa qi oc 10 11 tb kn hpa3_148 hpe hzb (by omega) (by omega) htk hkn htb) w_7_35 w_7_37 w_0_56 w_1_14 w_7_38 hd_X12_qWordOf_2 ⟨⟨(Nat.le_of_ble_eq_true rfl), (Nat.le_of_ble_eq_true rfl)⟩, (Nat.le_of_ble_eq_true rfl), (Nat.le_of_ble_eq_true rfl)⟩ hK hP hD hS hA (fmT om_17_187ff 0) (fmF om_17_187ff 0) (fm_C1 rfl rfl) (fm_R rfl rfl) (fm_nT om_17_187ff 0) (fm_nF om_17_187ff 0) (fm_di om_17_187ff 0) rfl rfl rfl rfl (Nat.le_of_ble_eq_true rfl) dX12_qPartTold_23 (fun r_157 u H locs hw hP hD hS => ?_)
          refine exE hw (fun pa2_156 hw1 => anE hw1 (fun hpa2_158 hw2 => anE hw2 (fun hpa3_159 hw3 => anE hw3 (fun hst_160 hw4 => anE hw4 (fun hr1_161 hw5 => anE hw5 (fun hsk_162 hw6 => anE hw6 (fun hwo_163 eu_164 => ?_)))))))
          clear hw hw1 hw2 hw3 hw4 hw5 hw6
          refine o_mgE (ws' := [ro_ mm 12 (mo g (nI ta) (nI pa2_156) (nI pe) zd (nI zb) zp pf pg pn rt rn (nI cd) sn (nI il) tk am at_ aa 0 0 (-1) wt wy 0 (nI rm) (nI ud) (nI nu) sd (nI qn) (nI zw) zo (nI qb) (nI qp) qa (nI qi) (nI oc)), ra_N (g 0) cI 1600 tb, ra_N (g 80) cI 1700 qs, ra_N (g 82) cI 1700 zt, ra_I (g 68) cC 3 (cw [109, 105, 110]), ra_I (g 69) cC 3 (cw [109, 97, 120]), ra_I (g 70) cC 4 (cw [109, 111, 111, 100]), ra_I (g 71) cC 5 (cw [98, 97, 114, 103, 101]), ra_I (g 72) cC 3 (cw [119, 101, 116]), ra_I (g 73) cC 3 (cw [100, 97, 121]), ra_I (g 74) cC 4 (cw [119, 101, 101, 107]), ra_I (g 75) cC 4 (cw [116, 111, 108, 100]), ra_I (g 76) cC 5 (cw [97, 108, 111, 110, 101]), ra_I (g 77) cC 6 (cw [110, 117, 109, 98, 101, 114]), ra_I (g 78) cC 4 (cw [109, 117, 116, 101]), ra_I (g 58) cC 5 (cw [102, 105, 114, 115, 116]), ra_I (g 79) cC 5 (cw [119, 101, 101, 107, 115])]) eu_164 hP hD rfl (fun hP hD => ?_)
          have hwo_165 : woO tb pe kn 10 11 (cuO tb pe za zd) zb r_157 := by rw [← hcc_155]; exact hwo_163
          have hO_166 := mo_here hO_153 hsk_162
          have hcu_167 : pa2_156 = sk tb pe za := by rw [(hsk_162.resolve_right (fun z => z.1 hb0)).2, hcu_154, sk_sk]
          have hcc_168 : cuO tb pe pa2_156 zd = cuO tb pe za zd := by rw [hcu_167, cuO_sk]
          refine lv_istore_n (lv' := [(3, .int r_157), (2, .int r_146), (1, .int (nI mo_)), (0, .ref mm)]) hx hb dX12_qPartTold_26 rfl hl (by decide) rfl (fun ls hl => ?_)
          refine lv_iload_n hx hb dX12_qPartTold_27 rfl (lv_at hl 1 rfl) ?_
          refine lv_bipush (v := 40) hx hb dX12_qPartTold_28 (by decide) ?_
          refine lv_icmp_ne (tgt := 56) hx hb dX12_qPartTold_30 (by decide) (fun c_169 => ?_) (fun c_169 => ?_)
          · have hn40 : ¬ isS tb pe 40 (cuO tb pe za zd) = true := fun hq => c_169 ((lk_S htb (by decide) hlk_149).mpr (by rw [hcu_154]; exact isS_cu.mp hq))
            refine lv_aload_n hx hb dX12_qPartTold_56 rfl (lv_at hl 3 rfl) ?_
            refine lv_aload_n hx hb dX12_qPartTold_57 rfl (lv_at hl 3 rfl) ?_
            refine sk_get (v := .ref (g 68)) (C := RX12) (T := TX12) (N := 92) hx hb hts inlX12 hown hK hP 0 rfl rfl 68 (Nat.le_of_ble_eq_true rfl) w_5_223 rfl dX12_qPartTold_58 ?_
            refine sk_Vi (q0 := 0) (n := 1) (rest := []) (wr := fmR om_17_19000 _) ⟨hx, hb, hml, hown, hts⟩ hl.1 (c_em_isHere l D cI cJ cC cZ cS mm g ta pa2_156 pe zd zb zp pf pg pn rt rn cd sn il tk am at_ aa wt wy rm ud nu sd qn zw zo qb qp qa qi oc tb (g 68) 3 ([109, 105, 110]) hpa3_159 hpe hzb (by omega) (by omega) rfl (wb_of (by decide)) htb) w_6_218 w_6_220 w_0_44 w_1_14 w_6_221 hd_X12_isHere_1 ⟨⟨(Nat.le_of_ble_eq_true rfl), (Nat.le_of_ble_eq_true rfl)⟩, (Nat.le_of_ble_eq_true rfl), (Nat.le_of_ble_eq_true rfl)⟩ hK hP hD hS hA (fmT om_17_19000 0) (fmF om_17_19000 0) (fm_C1 rfl rfl) (fm_R rfl rfl) (fm_nT om_17_19000 0) (fm_nF om_17_19000 0) (fm_di om_17_19000 0) rfl rfl rfl rfl (Nat.le_of_ble_eq_true rfl) dX12_qPartTold_61 (fun r_172 u H locs hw hP hD hS => ?_)
            refine exE hw (fun b_170 hw1 => exE hw1 (fun pa2_171 hw2 => anE hw2 (fun hpa2_173 hw3 => anE hw3 (fun hpa3_174 hw4 => anE hw4 (fun hst_175 hw5 => anE hw5 (fun hb1_176 hw6 => anE hw6 (fun hsk_177 hw7 => anE hw7 (fun hW_178 hw8 => anE hw8 (fun er_180 eu_179 => ?_)))))))))
            clear hw hw1 hw2 hw3 hw4 hw5 hw6 hw7 hw8
            subst er_180
            refine o_mgE (ws' := [ro_ mm 12 (mo g (nI ta) (nI pa2_171) (nI pe) zd (nI zb) zp pf pg pn rt rn (nI cd) sn (nI il) tk am at_ aa 0 0 (-1) wt wy 0 (nI rm) (nI ud) (nI nu) sd (nI qn) (nI zw) zo (nI qb) (nI qp) qa (nI qi) (nI oc)), ra_N (g 0) cI 1600 tb, ra_N (g 80) cI 1700 qs, ra_N (g 82) cI 1700 zt, ra_I (g 68) cC 3 (cw ([109, 105, 110])), ra_I (g 69) cC 3 (cw [109, 97, 120]), ra_I (g 70) cC 4 (cw [109, 111, 111, 100]), ra_I (g 71) cC 5 (cw [98, 97, 114, 103, 101]), ra_I (g 72) cC 3 (cw [119, 101, 116]), ra_I (g 73) cC 3 (cw [100, 97, 121]), ra_I (g 74) cC 4 (cw [119, 101, 101, 107]), ra_I (g 75) cC 4 (cw [116, 111, 108, 100]), ra_I (g 76) cC 5 (cw [97, 108, 111, 110, 101]), ra_I (g 77) cC 6 (cw [110, 117, 109, 98, 101, 114]), ra_I (g 78) cC 4 (cw [109, 117, 116, 101]), ra_I (g 58) cC 5 (cw [102, 105, 114, 115, 116]), ra_I (g 79) cC 5 (cw [119, 101, 101, 107, 115])]) eu_179 hP hD rfl (fun hP hD => ?_)
            have hW_181 := hW_178
            rw [hcc_168] at hW_181
            have hO_182 := mo_here hO_166 hsk_177
            have hcu_183 : pa2_171 = sk tb pe za := by rw [(hsk_177.resolve_right (fun z => z.1 hb0)).2, hcu_167, sk_sk]
            have hcc_184 : cuO tb pe pa2_171 zd = cuO tb pe za zd := by rw [hcu_183, cuO_sk]
            refine lv_if_ne (tgt := 78) hx hb dX12_qPartTold_64 (by decide) (fun c_185 => ?_) (fun c_185 => ?_)
            · have c_185 : ¬ (b_170 = 0) := fun h => c_185 ((neq b_170 0 (by omega) (Nat.le_of_ble_eq_true rfl)).mpr h)
              have hmin : isW tb pe wMin (cuO tb pe za zd) = true := (rr_1 hW_181 (by omega)).2
              have hmm : isW tb pe wMin (cuO tb pe za zd) = true ∨ isW tb pe wMax (cuO tb pe za zd) = true := Or.inl hmin
              refine lv_aload_n hx hb dX12_qPartTold_78 rfl (lv_at hl 3 rfl) ?_
              refine lv_aload_n hx hb dX12_qPartTold_79 rfl (lv_at hl 3 rfl) ?_
              refine sk_get (v := .ref (g 68)) (C := RX12) (T := TX12) (N := 92) hx hb hts inlX12 hown hK hP 0 rfl rfl 68 (Nat.le_of_ble_eq_true rfl) w_5_223 rfl dX12_qPartTold_80 ?_
              refine sk_Vi (q0 := 0) (n := 1) (rest := []) (wr := fmR om_17_19000 _) ⟨hx, hb, hml, hown, hts⟩ hl.1 (c_em_takes l D cI cJ cC cZ cS mm g ta pa2_171 pe zd zb zp pf pg pn rt rn cd sn il tk am at_ aa wt wy rm ud nu sd qn zw zo qb qp qa qi oc tb (g 68) 3 ([109, 105, 110]) zg hpa3_174 hpe hzb (by omega) (by omega) rfl (wb_of (by decide)) hO_182 htb) w_6_214 w_6_216 w_0_43 w_1_14 w_6_217 hd_X12_takes_1 ⟨⟨(Nat.le_of_ble_eq_true rfl), (Nat.le_of_ble_eq_true rfl)⟩, (Nat.le_of_ble_eq_true rfl), (Nat.le_of_ble_eq_true rfl)⟩ hK hP hD hS hA (fmT om_17_19000 0) (fmF om_17_19000 0) (fm_C1 rfl rfl) (fm_R rfl rfl) (fm_nT om_17_19000 0) (fm_nF om_17_19000 0) (fm_di om_17_19000 0) rfl rfl rfl rfl (Nat.le_of_ble_eq_true rfl) dX12_qPartTold_83 (fun r_189 u H locs hw hP hD hS => ?_)
              refine exE hw (fun b_186 hw1 => exE hw1 (fun pa2_187 hw2 => exE hw2 (fun pd2_188 hw3 => anE hw3 (fun hpa2_190 hw4 => anE hw4 (fun hpa3_191 hw5 => anE hw5 (fun hb1_192 hw6 => anE hw6 (fun hT_193 hw7 => anE hw7 (fun er_195 eu_194 => ?_))))))))
              clear hw hw1 hw2 hw3 hw4 hw5 hw6 hw7
              subst er_195
              refine o_mgE (ws' := [ro_ mm 12 (mo g (nI ta) (nI pa2_187) (nI pe) pd2_188 (nI zb) zp pf pg pn rt rn (nI cd) sn (nI il) tk am at_ aa 0 0 (-1) wt wy 0 (nI rm) (nI ud) (nI nu) sd (nI qn) (nI zw) zo (nI qb) (nI qp) qa (nI qi) (nI oc)), ra_N (g 0) cI 1600 tb, ra_N (g 80) cI 1700 qs, ra_N (g 82) cI 1700 zt, ra_I (g 68) cC 3 (cw ([109, 105, 110])), ra_I (g 69) cC 3 (cw [109, 97, 120]), ra_I (g 70) cC 4 (cw [109, 111, 111, 100]), ra_I (g 71) cC 5 (cw [98, 97, 114, 103, 101]), ra_I (g 72) cC 3 (cw [119, 101, 116]), ra_I (g 73) cC 3 (cw [100, 97, 121]), ra_I (g 74) cC 4 (cw [119, 101, 101, 107]), ra_I (g 75) cC 4 (cw [116, 111, 108, 100]), ra_I (g 76) cC 5 (cw [97, 108, 111, 110, 101]), ra_I (g 77) cC 6 (cw [110, 117, 109, 98, 101, 114]), ra_I (g 78) cC 4 (cw [109, 117, 116, 101]), ra_I (g 58) cC 5 (cw [102, 105, 114, 115, 116]), ra_I (g 79) cC 5 (cw [119, 101, 101, 107, 115])]) eu_194 hP hD rfl (fun hP hD => ?_)
              have hT_196 := hT_193
              rw [hcc_184] at hT_196
              refine lv_istore (lv' := [(4, .int (nI b_186)), (3, .int r_157), (2, .int r_146), (1, .int (nI mo_)), (0, .ref mm)]) hx hb dX12_qPartTold_86 hl (by decide) rfl (fun ls hl => ?_)
              refine lv_iload hx hb dX12_qPartTold_88 (lv_at hl 0 rfl) ?_
              have hbt : ¬ b_186 = 0 := fun hq => by have h9 : isW tb pe wMin (cuO tb pe za zd) = false := ((rr_0 hT_196 hq).1 hb0).2; rw [hmin] at h9; cases h9
              refine lv_if_ne (tgt := 101) hx hb dX12_qPartTold_90 (by decide) (fun c_197 => ?_) (fun c => absurd ((neq b_186 0 (by omega) (Nat.le_of_ble_eq_true rfl)).mp c) hbt)
              have hOm := (rr_1 hT_196 hbt).2.2
              refine lv_aload_n hx hb dX12_qPartTold_101 rfl (lv_at hl 4 rfl) ?_
              refine sk_Vi (q0 := 0) (n := 0) (rest := []) (wr := fmR om_17_18000 _) ⟨hx, hb, hml, hown, hts⟩ hl.1 (c_em_look l D cI cJ cC cZ cS mm g ta pa2_187 pe pd2_188 zb zp pf pg pn rt rn cd sn il tk am at_ aa wt wy rm ud nu sd qn zw zo qb qp qa qi oc tb hpa3_191 hpe htb) w_6_222 w_6_224 w_0_45 w_1_14 w_6_225 hd_X12_look_0 ⟨⟨(Nat.le_of_ble_eq_true rfl), (Nat.le_of_ble_eq_true rfl)⟩, (Nat.le_of_ble_eq_true rfl), (Nat.le_of_ble_eq_true rfl)⟩ hK hP hD hS hA (fmT om_17_18000 0) (fmF om_17_18000 0) (fm_C1 rfl rfl) (fm_R rfl rfl) (fm_nT om_17_18000 0) (fm_nF om_17_18000 0) (fm_di om_17_18000 0) rfl rfl rfl rfl (Nat.le_of_ble_eq_true rfl) dX12_qPartTold_102 (fun r_199 u H locs hw hP hD hS => ?_)
              refine exE hw (fun pa2_198 hw1 => anE hw1 (fun hpa2_200 hw2 => anE hw2 (fun hpa3_201 hw3 => anE hw3 (fun hlk_202 hw4 => anE hw4 (fun hst_203 hw5 => anE hw5 (fun hsk_204 eu_205 => ?_))))))
              clear hw hw1 hw2 hw3 hw4 hw5
              refine o_mgE (ws' := [ro_ mm 12 (mo g (nI ta) (nI pa2_198) (nI pe) pd2_188 (nI zb) zp pf pg pn rt rn (nI cd) sn (nI il) tk am at_ aa 0 0 (-1) wt wy 0 (nI rm) (nI ud) (nI nu) sd (nI qn) (nI zw) zo (nI qb) (nI qp) qa (nI qi) (nI oc)), ra_N (g 0) cI 1600 tb, ra_N (g 80) cI 1700 qs, ra_N (g 82) cI 1700 zt, ra_I (g 68) cC 3 (cw ([109, 105, 110])), ra_I (g 69) cC 3 (cw [109, 97, 120]), ra_I (g 70) cC 4 (cw [109, 111, 111, 100]), ra_I (g 71) cC 5 (cw [98, 97, 114, 103, 101]), ra_I (g 72) cC 3 (cw [119, 101, 116]), ra_I (g 73) cC 3 (cw [100, 97, 121]), ra_I (g 74) cC 4 (cw [119, 101, 101, 107]), ra_I (g 75) cC 4 (cw [116, 111, 108, 100]), ra_I (g 76) cC 5 (cw [97, 108, 111, 110, 101]), ra_I (g 77) cC 6 (cw [110, 117, 109, 98, 101, 114]), ra_I (g 78) cC 4 (cw [109, 117, 116, 101]), ra_I (g 58) cC 5 (cw [102, 105, 114, 115, 116]), ra_I (g 79) cC 5 (cw [119, 101, 101, 107, 115])]) eu_205 hP hD rfl (fun hP hD => ?_)
              have hOm2 : moO tb pe (bindR zg (nxF tb pe)) pa2_198 pd2_188 zb zp := by rw [hsk_204]; exact mo_look hOm
              have hOm3 : moO tb pe (.ok (nx tb pe (sk tb pe za))) pa2_198 pd2_188 zb zp := by rw [hg] at hOm2; exact hOm2
              have hc1 : nx tb pe (sk tb pe za) = cuO tb pe pa2_198 pd2_188 := (mo_cu hOm3 rfl).2
              have hbq : zb = 0 := hOm3.1
              have hat1 : pa2_198 = (nx tb pe (sk tb pe za)).1 := by rw [hc1]; show pa2_198 = sk tb pe pa2_198; rw [hsk_204, sk_sk]
              have hskk : pa2_198 = sk tb pe pa2_198 := by rw [hsk_204, sk_sk]
              refine lv_bipush (v := 40) hx hb dX12_qPartTold_105 (by decide) ?_
              refine lv_icmp_ne (tgt := 117) hx hb dX12_qPartTold_107 (by decide) (fun c_206 => ?_) (fun c_206 => ?_)
              · have hsm : ¬ isS tb pe 40 (nx tb pe (sk tb pe za)) = true := by rw [hc1]; exact fun hq => c_206 ((lk_S htb (by decide) hlk_202).mpr (by rw [hskk]; exact isS_cu.mp hq))
                refine lv_iconst (v := (-1)) hx hb dX12_qPartTold_117 (by decide) ?_
                refine lv_istore (lv' := [(5, .int (-1)), (4, .int (nI b_186)), (3, .int r_157), (2, .int r_146), (1, .int (nI mo_)), (0, .ref mm)]) hx hb dX12_qPartTold_118 hl (by decide) rfl (fun ls hl => ?_)
                refine lv_iload hx hb dX12_qPartTold_120 (lv_at hl 0 rfl) ?_
                refine lv_iconst (v := (-1)) hx hb dX12_qPartTold_122 (by decide) ?_
                refine lv_icmp_eq (tgt := 144) hx hb dX12_qPartTold_123 (by decide) (fun c_207 => ?_) (fun c => absurd c (by decide))
                refine lv_aload_n hx hb dX12_qPartTold_144 rfl (lv_at hl 5 rfl) ?_
                refine lv_bipush (v := 40) hx hb dX12_qPartTold_145 (by decide) ?_
                refine sk_Vv (q0 := 0) (n := 1) (rest := []) (wr := fmR om_17_18000 _) ⟨hx, hb, hml, hown, hts⟩ hl.1 (c_em_asksSign l D cI cJ cC cZ cS mm g ta pa2_198 pe pd2_188 zb zp pf pg pn rt rn cd sn il tk am at_ aa wt wy rm ud nu sd qn zw zo qb qp qa qi oc 40 tb (bindR zg (nxF tb pe)) hpa3_201 hpe hzb (by omega) (by decide) hOm2 htb) w_7_3 w_7_5 w_0_48 w_1_14 w_7_6 hd_X12_asksSign_1 ⟨⟨(Nat.le_of_ble_eq_true rfl), (Nat.le_of_ble_eq_true rfl)⟩, (Nat.le_of_ble_eq_true rfl), (Nat.le_of_ble_eq_true rfl)⟩ hK hP hD hS hA (fmT om_17_18000 0) (fmF om_17_18000 0) (fm_C1 rfl rfl) (fm_R rfl rfl) (fm_nT om_17_18000 0) (fm_nF om_17_18000 0) (fm_di om_17_18000 0) rfl rfl rfl rfl (Nat.le_of_ble_eq_true rfl) dX12_qPartTold_147 (fun u H locs hw hP hD hS => ?_)
                refine exE hw (fun pa2_208 hw1 => exE hw1 (fun pb2_209 hw2 => exE hw2 (fun pp2_210 hw3 => anE hw3 (fun hpa2_211 hw4 => anE hw4 (fun hpa3_212 hw5 => anE hw5 (fun hpb2_213 hw6 => anE hw6 (fun hpb3_214 hw7 => anE hw7 (fun hO2_215 eu_216 => ?_))))))))
                clear hw hw1 hw2 hw3 hw4 hw5 hw6 hw7
                refine o_mgE (ws' := [ro_ mm 12 (mo g (nI ta) (nI pa2_208) (nI pe) pd2_188 (nI pb2_209) pp2_210 pf pg pn rt rn (nI cd) sn (nI il) tk am at_ aa 0 0 (-1) wt wy 0 (nI rm) (nI ud) (nI nu) sd (nI qn) (nI zw) zo (nI qb) (nI qp) qa (nI qi) (nI oc)), ra_N (g 0) cI 1600 tb, ra_N (g 80) cI 1700 qs, ra_N (g 82) cI 1700 zt, ra_I (g 68) cC 3 (cw ([109, 105, 110])), ra_I (g 69) cC 3 (cw [109, 97, 120]), ra_I (g 70) cC 4 (cw [109, 111, 111, 100]), ra_I (g 71) cC 5 (cw [98, 97, 114, 103, 101]), ra_I (g 72) cC 3 (cw [119, 101, 116]), ra_I (g 73) cC 3 (cw [100, 97, 121]), ra_I (g 74) cC 4 (cw [119, 101, 101, 107]), ra_I (g 75) cC 4 (cw [116, 111, 108, 100]), ra_I (g 76) cC 5 (cw [97, 108, 111, 110, 101]), ra_I (g 77) cC 6 (cw [110, 117, 109, 98, 101, 114]), ra_I (g 78) cC 4 (cw [109, 117, 116, 101]), ra_I (g 58) cC 5 (cw [102, 105, 114, 115, 116]), ra_I (g 79) cC 5 (cw [119, 101, 101, 107, 115])]) eu_216 hP hD rfl (fun hP hD => ?_)
                refine lv_goto (tgt := 183) hx hb dX12_qPartTold_150 (by decide) ?_
                refine lv_goto (tgt := 2) hx hb dX12_qPartTold_183 (by decide) ?_
                exact ih_lp_1 mo_ pa2_208 pd2_188 pb2_209 pp2_210 zo zw zt (bindR (bindR zg (nxF tb pe)) (signP tb pe 40)) _ _ _ (by omega) hzt hO2_215 (by omega) hpa3_212 hpb2_213 hmo (by omega) (by omega) (fun h0 => hzj (by omega)) (by rw [hg]; show yO _ _ _ _ _ (signP tb pe 40 (nx tb pe (sk tb pe za))) _ _ _ _ _; rw [signP_f hsm]; exact y_err hYp (fun L d k _ => prt_pairx hmm hsm)) (fun h => absurd h (by omega)) (fun h0 => hzk (by omega)) hP hD hS (lv_sub hl [4, 5] rfl)
              · have hq_217 := lk_at hlk_202 htb (w := 40) (by omega) c_206
                have hsm : isS tb pe 40 (nx tb pe (sk tb pe za)) = true := by rw [hc1]; exact isS_cu.mpr (by rw [← hskk]; exact (lk_S htb (by decide) hlk_202).mp c_206)
                refine lv_aload_n hx hb dX12_qPartTold_110 rfl (lv_at hl 4 rfl) ?_
                refine sk_get (v := .int (nI pa2_198)) (C := RX12) (T := TX12) (N := 92) hx hb hts inlX12 hown hK hP 0 rfl rfl 2 (Nat.le_of_ble_eq_true rfl) w_5_157 rfl dX12_qPartTold_111 ?_
                refine lv_goto (tgt := 118) hx hb dX12_qPartTold_114 (by decide) ?_
                refine lv_istore (lv' := [(5, .int (nI pa2_198)), (4, .int (nI b_186)), (3, .int r_157), (2, .int r_146), (1, .int (nI mo_)), (0, .ref mm)]) hx hb dX12_qPartTold_118 hl (by decide) rfl (fun ls hl => ?_)
                refine lv_iload hx hb dX12_qPartTold_120 (lv_at hl 0 rfl) ?_
                refine lv_iconst (v := (-1)) hx hb dX12_qPartTold_122 (by decide) ?_
                refine lv_icmp_eq (tgt := 144) hx hb dX12_qPartTold_123 (by decide) (fun c => absurd ((ieq (ivn pa2_198 (by omega)) (show (-1 : Int32).toInt = -1 by decide)).mp c) (by omega)) (fun c_218 => ?_)
                refine lv_aload_n hx hb dX12_qPartTold_126 rfl (lv_at hl 5 rfl) ?_
                refine lv_iload hx hb dX12_qPartTold_127 (lv_at hl 1 rfl) ?_
                refine lv_if_eq (tgt := 137) hx hb dX12_qPartTold_129 (by decide) (fun c => absurd ((neq b_186 0 (by omega) (Nat.le_of_ble_eq_true rfl)).mp c) hbt) (fun c_219 => ?_)
                refine lv_bipush (v := 21) hx hb dX12_qPartTold_132 (by decide) ?_
                refine lv_goto (tgt := 139) hx hb dX12_qPartTold_134 (by decide) ?_
                refine lv_iload hx hb dX12_qPartTold_139 (lv_at hl 0 rfl) ?_
                refine sk_Vv (q0 := 0) (n := 2) (rest := []) (wr := fmR om_17_12000 _) ⟨hx, hb, hml, hown, hts⟩ hl.1 (c_em_qOpens l D cI cJ cC cZ cS mm g ta pa2_198 pe pd2_188 zb zp pf pg pn rt rn cd sn il tk am at_ aa wt wy rm ud nu sd qn zw zo qb qp qa qi oc 21 (nI pa2_198) zt hzb (by omega) (by omega) hzt) w_7_47 w_7_49 w_0_59 w_1_14 w_7_50 hd_X12_qOpens_2 ⟨⟨(Nat.le_of_ble_eq_true rfl), (Nat.le_of_ble_eq_true rfl)⟩, (Nat.le_of_ble_eq_true rfl), (Nat.le_of_ble_eq_true rfl)⟩ hK hP hD hS hA (fmT om_17_12000 0) (fmF om_17_12000 0) (fm_C1 rfl rfl) (fm_R rfl rfl) (fm_nT om_17_12000 0) (fm_nF om_17_12000 0) (fm_di om_17_12000 0) rfl rfl rfl rfl (Nat.le_of_ble_eq_true rfl) dX12_qPartTold_141 (fun u H locs hw hP hD hS => ?_)
                refine exE hw (fun pb2_220 hw1 => exE hw1 (fun pp2_221 hw2 => exE hw2 (fun qo2_222 hw3 => exE hw3 (fun qw2_223 hw4 => exE hw4 (fun qt2_224 hw5 => anE hw5 (fun hpb2_225 hw6 => anE hw6 (fun hop_226 hw7 => anE hw7 (fun hqe_227 hw8 => anE hw8 (fun hox_228 hw9 => anE hw9 (fun hqt2_229 eu_230 => ?_))))))))))
                clear hw hw1 hw2 hw3 hw4 hw5 hw6 hw7 hw8 hw9
                refine o_mgE (ws' := [ro_ mm 12 (mo g (nI ta) (nI pa2_198) (nI pe) pd2_188 (nI pb2_220) pp2_221 pf pg pn rt rn (nI cd) sn (nI il) tk am at_ aa 0 0 (-1) wt wy 0 (nI rm) (nI ud) (nI nu) sd (nI qn) (nI qw2_223) qo2_222 (nI qb) (nI qp) qa (nI qi) (nI oc)), ra_N (g 0) cI 1600 tb, ra_N (g 80) cI 1700 qs, ra_N (g 82) cI 1700 qt2_224, ra_I (g 68) cC 3 (cw ([109, 105, 110])), ra_I (g 69) cC 3 (cw [109, 97, 120]), ra_I (g 70) cC 4 (cw [109, 111, 111, 100]), ra_I (g 71) cC 5 (cw [98, 97, 114, 103, 101]), ra_I (g 72) cC 3 (cw [119, 101, 116]), ra_I (g 73) cC 3 (cw [100, 97, 121]), ra_I (g 74) cC 4 (cw [119, 101, 101, 107]), ra_I (g 75) cC 4 (cw [116, 111, 108, 100]), ra_I (g 76) cC 5 (cw [97, 108, 111, 110, 101]), ra_I (g 77) cC 6 (cw [110, 117, 109, 98, 101, 114]), ra_I (g 78) cC 4 (cw [109, 117, 116, 101]), ra_I (g 58) cC 5 (cw [102, 105, 114, 115, 116]), ra_I (g 79) cC 5 (cw [119, 101, 101, 107, 115])]) eu_230 hP hD rfl (fun hP hD => ?_)
                rcases hox_228 with ⟨hx1, hx2, hx3, hx4, hx5, hx6, hx7⟩ | ⟨hx1, hx2, hx3, hx4, hx5, hx6, hx7⟩ | ⟨hx1, -⟩
                · have hT : T = .error (4, (nx tb pe (sk tb pe za)).1) := y_full hYp hx2 (fun L k => prt_pair0 hmm hsm)
                  have hO_231 : ∀ (a : Nat) (d : Int32), moO tb pe (.error (4, (nx tb pe (sk tb pe za)).1)) a d pb2_220 pp2_221 := fun _ _ => ⟨hx3, by rw [hx4, hat1], show 1 ≤ 4 by decide, show 4 ≤ 5 by decide⟩
                  refine lv_aload_n hx hb dX12_qPartTold_144 rfl (lv_at hl 5 rfl) ?_
                  refine lv_bipush (v := 40) hx hb dX12_qPartTold_145 (by decide) ?_
                  refine sk_Vv (q0 := 0) (n := 1) (rest := []) (wr := fmR om_17_18000 _) ⟨hx, hb, hml, hown, hts⟩ hl.1 (c_em_asksSign l D cI cJ cC cZ cS mm g ta pa2_198 pe pd2_188 pb2_220 pp2_221 pf pg pn rt rn cd sn il tk am at_ aa wt wy rm ud nu sd qn qw2_223 qo2_222 qb qp qa qi oc 40 tb (.error (4, (nx tb pe (sk tb pe za)).1)) hpa3_201 hpe hpb2_225 (by omega) (by decide) (hO_231 _ _) htb) w_7_3 w_7_5 w_0_48 w_1_14 w_7_6 hd_X12_asksSign_1 ⟨⟨(Nat.le_of_ble_eq_true rfl), (Nat.le_of_ble_eq_true rfl)⟩, (Nat.le_of_ble_eq_true rfl), (Nat.le_of_ble_eq_true rfl)⟩ hK hP hD hS hA (fmT om_17_18000 0) (fmF om_17_18000 0) (fm_C1 rfl rfl) (fm_R rfl rfl) (fm_nT om_17_18000 0) (fm_nF om_17_18000 0) (fm_di om_17_18000 0) rfl rfl rfl rfl (Nat.le_of_ble_eq_true rfl) dX12_qPartTold_147 (fun u H locs hw hP hD hS => ?_)
                  refine exE hw (fun pa2_232 hw1 => exE hw1 (fun pb2_233 hw2 => exE hw2 (fun pp2_234 hw3 => anE hw3 (fun hpa2_235 hw4 => anE hw4 (fun hpa3_236 hw5 => anE hw5 (fun hpb2_237 hw6 => anE hw6 (fun hpb3_238 hw7 => anE hw7 (fun hO2_239 eu_240 => ?_))))))))
                  clear hw hw1 hw2 hw3 hw4 hw5 hw6 hw7
                  refine o_mgE (ws' := [ro_ mm 12 (mo g (nI ta) (nI pa2_232) (nI pe) pd2_188 (nI pb2_233) pp2_234 pf pg pn rt rn (nI cd) sn (nI il) tk am at_ aa 0 0 (-1) wt wy 0 (nI rm) (nI ud) (nI nu) sd (nI qn) (nI qw2_223) qo2_222 (nI qb) (nI qp) qa (nI qi) (nI oc)), ra_N (g 0) cI 1600 tb, ra_N (g 80) cI 1700 qs, ra_N (g 82) cI 1700 qt2_224, ra_I (g 68) cC 3 (cw ([109, 105, 110])), ra_I (g 69) cC 3 (cw [109, 97, 120]), ra_I (g 70) cC 4 (cw [109, 111, 111, 100]), ra_I (g 71) cC 5 (cw [98, 97, 114, 103, 101]), ra_I (g 72) cC 3 (cw [119, 101, 116]), ra_I (g 73) cC 3 (cw [100, 97, 121]), ra_I (g 74) cC 4 (cw [119, 101, 101, 107]), ra_I (g 75) cC 4 (cw [116, 111, 108, 100]), ra_I (g 76) cC 5 (cw [97, 108, 111, 110, 101]), ra_I (g 77) cC 6 (cw [110, 117, 109, 98, 101, 114]), ra_I (g 78) cC 4 (cw [109, 117, 116, 101]), ra_I (g 58) cC 5 (cw [102, 105, 114, 115, 116]), ra_I (g 79) cC 5 (cw [119, 101, 101, 107, 115])]) eu_240 hP hD rfl (fun hP hD => ?_)
                  refine lv_goto (tgt := 183) hx hb dX12_qPartTold_150 (by decide) ?_
                  refine lv_goto (tgt := 2) hx hb dX12_qPartTold_183 (by decide) ?_
                  exact ih_lp_1 mo_ pa2_232 pd2_188 pb2_233 pp2_234 qo2_222 qw2_223 qt2_224 (bindR (.error (4, (nx tb pe (sk tb pe za)).1)) (signP tb pe 40)) _ _ _ (by omega) hqt2_229 hO2_239 (by omega) hpa3_236 hpb2_237 hmo (by omega) (by omega) (fun h0 => (show SJ K n0 qs qn _ qb qw2_223 by rw [show qw2_223 = zw + 1 by omega]; exact SJ_push0 (hzj (by omega)) (by omega) (hqe_227 (by omega)))) hT (fun h => absurd h (by omega)) (fun h0 => kp_up (hzk (by omega)) (SJ_le (hzj (by omega))) (hqe_227 (by omega))) hP hD hS (lv_sub hl [4, 5] rfl)
                · have hY_241 := y_open (v := 21) hYp hx2 (by decide) (fun L d k => prt_pair (Or.inl ⟨hmin, rfl⟩) hsm)
                  rw [← hx5, ← hx6, ← hx7] at hY_241
                  have hOm4 : moO tb pe (bindR zg (nxF tb pe)) pa2_198 pd2_188 pb2_220 pp2_221 := by rw [hx3, hx4]; exact hOm2
                  refine lv_aload_n hx hb dX12_qPartTold_144 rfl (lv_at hl 5 rfl) ?_
                  refine lv_bipush (v := 40) hx hb dX12_qPartTold_145 (by decide) ?_
                  refine sk_Vv (q0 := 0) (n := 1) (rest := []) (wr := fmR om_17_18000 _) ⟨hx, hb, hml, hown, hts⟩ hl.1 (c_em_asksSign l D cI cJ cC cZ cS mm g ta pa2_198 pe pd2_188 pb2_220 pp2_221 pf pg pn rt rn cd sn il tk am at_ aa wt wy rm ud nu sd qn qw2_223 qo2_222 qb qp qa qi oc 40 tb (bindR zg (nxF tb pe)) hpa3_201 hpe hpb2_225 (by omega) (by decide) hOm4 htb) w_7_3 w_7_5 w_0_48 w_1_14 w_7_6 hd_X12_asksSign_1 ⟨⟨(Nat.le_of_ble_eq_true rfl), (Nat.le_of_ble_eq_true rfl)⟩, (Nat.le_of_ble_eq_true rfl), (Nat.le_of_ble_eq_true rfl)⟩ hK hP hD hS hA (fmT om_17_18000 0) (fmF om_17_18000 0) (fm_C1 rfl rfl) (fm_R rfl rfl) (fm_nT om_17_18000 0) (fm_nF om_17_18000 0) (fm_di om_17_18000 0) rfl rfl rfl rfl (Nat.le_of_ble_eq_true rfl) dX12_qPartTold_147 (fun u H locs hw hP hD hS => ?_)
                  refine exE hw (fun pa2_242 hw1 => exE hw1 (fun pb2_243 hw2 => exE hw2 (fun pp2_244 hw3 => anE hw3 (fun hpa2_245 hw4 => anE hw4 (fun hpa3_246 hw5 => anE hw5 (fun hpb2_247 hw6 => anE hw6 (fun hpb3_248 hw7 => anE hw7 (fun hO2_249 eu_250 => ?_))))))))
                  clear hw hw1 hw2 hw3 hw4 hw5 hw6 hw7
                  refine o_mgE (ws' := [ro_ mm 12 (mo g (nI ta) (nI pa2_242) (nI pe) pd2_188 (nI pb2_243) pp2_244 pf pg pn rt rn (nI cd) sn (nI il) tk am at_ aa 0 0 (-1) wt wy 0 (nI rm) (nI ud) (nI nu) sd (nI qn) (nI qw2_223) qo2_222 (nI qb) (nI qp) qa (nI qi) (nI oc)), ra_N (g 0) cI 1600 tb, ra_N (g 80) cI 1700 qs, ra_N (g 82) cI 1700 qt2_224, ra_I (g 68) cC 3 (cw ([109, 105, 110])), ra_I (g 69) cC 3 (cw [109, 97, 120]), ra_I (g 70) cC 4 (cw [109, 111, 111, 100]), ra_I (g 71) cC 5 (cw [98, 97, 114, 103, 101]), ra_I (g 72) cC 3 (cw [119, 101, 116]), ra_I (g 73) cC 3 (cw [100, 97, 121]), ra_I (g 74) cC 4 (cw [119, 101, 101, 107]), ra_I (g 75) cC 4 (cw [116, 111, 108, 100]), ra_I (g 76) cC 5 (cw [97, 108, 111, 110, 101]), ra_I (g 77) cC 6 (cw [110, 117, 109, 98, 101, 114]), ra_I (g 78) cC 4 (cw [109, 117, 116, 101]), ra_I (g 58) cC 5 (cw [102, 105, 114, 115, 116]), ra_I (g 79) cC 5 (cw [119, 101, 101, 107, 115])]) eu_250 hP hD rfl (fun hP hD => ?_)
                  refine lv_goto (tgt := 183) hx hb dX12_qPartTold_150 (by decide) ?_
                  refine lv_goto (tgt := 2) hx hb dX12_qPartTold_183 (by decide) ?_
                  exact ih_lp_1 mo_ pa2_242 pd2_188 pb2_243 pp2_244 qo2_222 qw2_223 qt2_224 (bindR (bindR zg (nxF tb pe)) (signP tb pe 40)) _ _ _ (by omega) hqt2_229 hO2_249 (by omega) hpa3_246 hpb2_247 hmo (by omega) (by omega) (fun h0 => (show SJ K n0 qs qn _ qb qw2_223 by rw [show qw2_223 = zw + 1 by omega]; exact SJ_push0 (hzj (by omega)) (by omega) (hqe_227 (by omega)))) (by rw [hg]; show yO _ _ _ _ _ (signP tb pe 40 (nx tb pe (sk tb pe za))) _ _ _ _ _; rw [signP_t hsm]; exact hY_241) (fun h => absurd h (by omega)) (fun h0 => kp_up (hzk (by omega)) (SJ_le (hzj (by omega))) (hqe_227 (by omega))) hP hD hS (lv_sub hl [4, 5] rfl)
                · exact absurd hbq hx1
            · have c_185 : b_170 = 0 := (neq b_170 0 (by omega) (Nat.le_of_ble_eq_true rfl)).mp c_185
              have hmin : isW tb pe wMin (cuO tb pe za zd) = false := rr_0 hW_181 (by omega) hb0
              refine lv_aload_n hx hb dX12_qPartTold_67 rfl (lv_at hl 3 rfl) ?_
              refine lv_aload_n hx hb dX12_qPartTold_68 rfl (lv_at hl 3 rfl) ?_
              refine sk_get (v := .ref (g 69)) (C := RX12) (T := TX12) (N := 92) hx hb hts inlX12 hown hK hP 0 rfl rfl 69 (Nat.le_of_ble_eq_true rfl) w_5_224 rfl dX12_qPartTold_69 ?_
              refine sk_Vi (q0 := 0) (n := 1) (rest := []) (wr := fmR om_17_18800 _) ⟨hx, hb, hml, hown, hts⟩ hl.1 (c_em_isHere l D cI cJ cC cZ cS mm g ta pa2_171 pe zd zb zp pf pg pn rt rn cd sn il tk am at_ aa wt wy rm ud nu sd qn zw zo qb qp qa qi oc tb (g 69) 3 ([109, 97, 120]) hpa3_174 hpe hzb (by omega) (by omega) rfl (wb_of (by decide)) htb) w_6_218 w_6_220 w_0_44 w_1_14 w_6_221 hd_X12_isHere_1 ⟨⟨(Nat.le_of_ble_eq_true rfl), (Nat.le_of_ble_eq_true rfl)⟩, (Nat.le_of_ble_eq_true rfl), (Nat.le_of_ble_eq_true rfl)⟩ hK hP hD hS hA (fmT om_17_18800 0) (fmF om_17_18800 0) (fm_C1 rfl rfl) (fm_R rfl rfl) (fm_nT om_17_18800 0) (fm_nF om_17_18800 0) (fm_di om_17_18800 0) rfl rfl rfl rfl (Nat.le_of_ble_eq_true rfl) dX12_qPartTold_72 (fun r_253 u H locs hw hP hD hS => ?_)
              refine exE hw (fun b_251 hw1 => exE hw1 (fun pa2_252 hw2 => anE hw2 (fun hpa2_254 hw3 => anE hw3 (fun hpa3_255 hw4 => anE hw4 (fun hst_256 hw5 => anE hw5 (fun hb1_257 hw6 => anE hw6 (fun hsk_258 hw7 => anE hw7 (fun hW_259 hw8 => anE hw8 (fun er_261 eu_260 => ?_)))))))))
              clear hw hw1 hw2 hw3 hw4 hw5 hw6 hw7 hw8
              subst er_261
              refine o_mgE (ws' := [ro_ mm 12 (mo g (nI ta) (nI pa2_252) (nI pe) zd (nI zb) zp pf pg pn rt rn (nI cd) sn (nI il) tk am at_ aa 0 0 (-1) wt wy 0 (nI rm) (nI ud) (nI nu) sd (nI qn) (nI zw) zo (nI qb) (nI qp) qa (nI qi) (nI oc)), ra_N (g 0) cI 1600 tb, ra_N (g 80) cI 1700 qs, ra_N (g 82) cI 1700 zt, ra_I (g 68) cC 3 (cw ([109, 105, 110])), ra_I (g 69) cC 3 (cw ([109, 97, 120])), ra_I (g 70) cC 4 (cw [109, 111, 111, 100]), ra_I (g 71) cC 5 (cw [98, 97, 114, 103, 101]), ra_I (g 72) cC 3 (cw [119, 101, 116]), ra_I (g 73) cC 3 (cw [100, 97, 121]), ra_I (g 74) cC 4 (cw [119, 101, 101, 107]), ra_I (g 75) cC 4 (cw [116, 111, 108, 100]), ra_I (g 76) cC 5 (cw [97, 108, 111, 110, 101]), ra_I (g 77) cC 6 (cw [110, 117, 109, 98, 101, 114]), ra_I (g 78) cC 4 (cw [109, 117, 116, 101]), ra_I (g 58) cC 5 (cw [102, 105, 114, 115, 116]), ra_I (g 79) cC 5 (cw [119, 101, 101, 107, 115])]) eu_260 hP hD rfl (fun hP hD => ?_)
              have hW_262 := hW_259
              rw [hcc_184] at hW_262
              have hO_263 := mo_here hO_182 hsk_258
              have hcu_264 : pa2_252 = sk tb pe za := by rw [(hsk_258.resolve_right (fun z => z.1 hb0)).2, hcu_183, sk_sk]
              have hcc_265 : cuO tb pe pa2_252 zd = cuO tb pe za zd := by rw [hcu_264, cuO_sk]
              refine lv_if_eq (tgt := 153) hx hb dX12_qPartTold_75 (by decide) (fun c_266 => ?_) (fun c_266 => ?_)
              · have c_266 : b_251 = 0 := (neq b_251 0 (by omega) (Nat.le_of_ble_eq_true rfl)).mp c_266
                have hmax : isW tb pe wMax (cuO tb pe za zd) = false := rr_0 hW_262 (by omega) hb0
                refine lv_iload_n hx hb dX12_qPartTold_153 rfl (lv_at hl 0 rfl) ?_
                refine lv_iconst (v := (-1)) hx hb dX12_qPartTold_154 (by decide) ?_
                refine lv_icmp_eq (tgt := 181) hx hb dX12_qPartTold_155 (by decide) (fun c_267 => ?_) (fun c_267 => ?_)
                · have hnw := wo_nw (kn := kn) (show woO tb pe kn 10 11 (cuO tb pe za zd) zb (-1) from c_267 ▸ hwo_165) hb0
                  refine lv_iconst (v := 0) hx hb dX12_qPartTold_181 ic_0 ?_
                  refine lv_istore_n (lv' := [(1, .int 0), (3, .int r_157), (2, .int r_146), (0, .ref mm)]) hx hb dX12_qPartTold_182 rfl hl (by decide) rfl (fun ls hl => ?_)
                  refine lv_goto (tgt := 2) hx hb dX12_qPartTold_183 (by decide) ?_
                  exact ih_lp_1 0 pa2_252 zd zb zp zo zw zt zg _ _ _ (by omega) hzt hO_263 (by omega) hpa3_255 hzb (by omega) (by omega) (by omega) (fun h0 => hzj (by omega)) hzY (fun _ _ => by rw [hcc_265]; exact ⟨hn40, (fun hq => hq.elim (fun hq => by rw [hmin] at hq; cases hq) (fun hq => by rw [hmax] at hq; cases hq)), hnw⟩) (fun h0 => hzk (by omega)) hP hD hS (lv_sub hl [0, 3] rfl)
                · obtain ⟨ko_268, hko_268, h1ko_268, rfl⟩ := hr1_161.resolve_left c_267
                  obtain ⟨k9, hk91, hk92, hk93, hk94, hk95, hk96, hk97⟩ := hwo_165.resolve_left (fun hq => c_267 hq.1)
                  obtain rfl : k9 = 10 := by omega
                  have hk2 := wo_w hkn hk97
                  have hww : isW tb pe wWeeks (cuO tb pe za zd) = true := hk96
                  have hko : ko_268 = 10 := by omega
                  refine lv_aload_n hx hb dX12_qPartTold_158 rfl (lv_at hl 3 rfl) ?_
                  refine lv_bipush (v := 60) hx hb dX12_qPartTold_159 (by decide) ?_
                  refine lv_iload_n hx hb dX12_qPartTold_161 rfl (lv_at hl 0 rfl) ?_
                  refine lv_iadd hx hb dX12_qPartTold_162 ?_
                  refine sk_top (nI (60 + ko_268)) (nI_add 60 ko_268) ?_
                  refine lv_bipush (v := 10) hx hb dX12_qPartTold_163 (by decide) ?_
                  refine lv_isub hx hb dX12_qPartTold_165 ?_
                  refine sk_top (nI (60 + ko_268 - 10)) (nsub (60 + ko_268) 10 (by omega)) ?_
                  refine lv_aload_n hx hb dX12_qPartTold_166 rfl (lv_at hl 3 rfl) ?_
                  refine sk_get (v := .int (nI pa2_252)) (C := RX12) (T := TX12) (N := 92) hx hb hts inlX12 hown hK hP 0 rfl rfl 2 (Nat.le_of_ble_eq_true rfl) w_5_157 rfl dX12_qPartTold_167 ?_
                  refine sk_Vv (q0 := 0) (n := 2) (rest := []) (wr := fmR om_17_12000 _) ⟨hx, hb, hml, hown, hts⟩ hl.1 (c_em_qOpens l D cI cJ cC cZ cS mm g ta pa2_252 pe zd zb zp pf pg pn rt rn cd sn il tk am at_ aa wt wy rm ud nu sd qn zw zo qb qp qa qi oc (60 + ko_268 - 10) (nI pa2_252) zt hzb (by omega) (by omega) hzt) w_7_47 w_7_49 w_0_59 w_1_14 w_7_50 hd_X12_qOpens_2 ⟨⟨(Nat.le_of_ble_eq_true rfl), (Nat.le_of_ble_eq_true rfl)⟩, (Nat.le_of_ble_eq_true rfl), (Nat.le_of_ble_eq_true rfl)⟩ hK hP hD hS hA (fmT om_17_12000 0) (fmF om_17_12000 0) (fm_C1 rfl rfl) (fm_R rfl rfl) (fm_nT om_17_12000 0) (fm_nF om_17_12000 0) (fm_di om_17_12000 0) rfl rfl rfl rfl (Nat.le_of_ble_eq_true rfl) dX12_qPartTold_170 (fun u H locs hw hP hD hS => ?_)
                  refine exE hw (fun pb2_269 hw1 => exE hw1 (fun pp2_270 hw2 => exE hw2 (fun qo2_271 hw3 => exE hw3 (fun qw2_272 hw4 => exE hw4 (fun qt2_273 hw5 => anE hw5 (fun hpb2_274 hw6 => anE hw6 (fun hop_275 hw7 => anE hw7 (fun hqe_276 hw8 => anE hw8 (fun hox_277 hw9 => anE hw9 (fun hqt2_278 eu_279 => ?_))))))))))
                  clear hw hw1 hw2 hw3 hw4 hw5 hw6 hw7 hw8 hw9
                  refine o_mgE (ws' := [ro_ mm 12 (mo g (nI ta) (nI pa2_252) (nI pe) zd (nI pb2_269) pp2_270 pf pg pn rt rn (nI cd) sn (nI il) tk am at_ aa 0 0 (-1) wt wy 0 (nI rm) (nI ud) (nI nu) sd (nI qn) (nI qw2_272) qo2_271 (nI qb) (nI qp) qa (nI qi) (nI oc)), ra_N (g 0) cI 1600 tb, ra_N (g 80) cI 1700 qs, ra_N (g 82) cI 1700 qt2_273, ra_I (g 68) cC 3 (cw ([109, 105, 110])), ra_I (g 69) cC 3 (cw ([109, 97, 120])), ra_I (g 70) cC 4 (cw [109, 111, 111, 100]), ra_I (g 71) cC 5 (cw [98, 97, 114, 103, 101]), ra_I (g 72) cC 3 (cw [119, 101, 116]), ra_I (g 73) cC 3 (cw [100, 97, 121]), ra_I (g 74) cC 4 (cw [119, 101, 101, 107]), ra_I (g 75) cC 4 (cw [116, 111, 108, 100]), ra_I (g 76) cC 5 (cw [97, 108, 111, 110, 101]), ra_I (g 77) cC 6 (cw [110, 117, 109, 98, 101, 114]), ra_I (g 78) cC 4 (cw [109, 117, 116, 101]), ra_I (g 58) cC 5 (cw [102, 105, 114, 115, 116]), ra_I (g 79) cC 5 (cw [119, 101, 101, 107, 115])]) eu_279 hP hD rfl (fun hP hD => ?_)
                  rcases hox_277 with ⟨hx1, hx2, hx3, hx4, hx5, hx6, hx7⟩ | ⟨hx1, hx2, hx3, hx4, hx5, hx6, hx7⟩ | ⟨hx1, -⟩
                  · have hT : T = .error (4, (sk tb pe za)) := y_full hYp hx2 (fun L k => by rw [hk2]; exact prt_weeks0 hww)
                    have hO_280 : ∀ (a : Nat) (d : Int32), moO tb pe (.error (4, (sk tb pe za))) a d pb2_269 pp2_270 := fun _ _ => ⟨hx3, by rw [hx4, hcu_264], show 1 ≤ 4 by decide, show 4 ≤ 5 by decide⟩
                    refine lv_aload_n hx hb dX12_qPartTold_173 rfl (lv_at hl 3 rfl) ?_
                    refine lv_iload_n hx hb dX12_qPartTold_174 rfl (lv_at hl 0 rfl) ?_
                    refine sk_Vv (q0 := 0) (n := 1) (rest := []) (wr := fmR om_17_187ff _) ⟨hx, hb, hml, hown, hts⟩ hl.1 (c_em_qAsksWord l D cI cJ cC cZ cS mm g ta pa2_252 pe zd pb2_269 pp2_270 pf pg pn rt rn cd sn il tk am at_ aa wt wy rm ud nu sd qn qw2_272 qo2_271 qb qp qa qi oc ko_268 tb (.error (4, (sk tb pe za))) hpa3_255 hpe hpb2_274 (by omega) (hO_280 _ _) htb) w_7_51 w_7_53 w_0_60 w_1_14 w_7_54 hd_X12_qAsksWord_1 ⟨⟨(Nat.le_of_ble_eq_true rfl), (Nat.le_of_ble_eq_true rfl)⟩, (Nat.le_of_ble_eq_true rfl), (Nat.le_of_ble_eq_true rfl)⟩ hK hP hD hS hA (fmT om_17_187ff 0) (fmF om_17_187ff 0) (fm_C1 rfl rfl) (fm_R rfl rfl) (fm_nT om_17_187ff 0) (fm_nF om_17_187ff 0) (fm_di om_17_187ff 0) rfl rfl rfl rfl (Nat.le_of_ble_eq_true rfl) dX12_qPartTold_175 (fun u H locs hw hP hD hS => ?_)
                    refine exE hw (fun pa2_281 hw1 => exE hw1 (fun pd2_282 hw2 => exE hw2 (fun pb2_283 hw3 => exE hw3 (fun pp2_284 hw4 => anE hw4 (fun hpa2_285 hw5 => anE hw5 (fun hpa3_286 hw6 => anE hw6 (fun hpb2_287 hw7 => anE hw7 (fun hpb3_288 hw8 => anE hw8 (fun hO2_289 eu_290 => ?_)))))))))
                    clear hw hw1 hw2 hw3 hw4 hw5 hw6 hw7 hw8
                    refine o_mgE (ws' := [ro_ mm 12 (mo g (nI ta) (nI pa2_281) (nI pe) pd2_282 (nI pb2_283) pp2_284 pf pg pn rt rn (nI cd) sn (nI il) tk am at_ aa 0 0 (-1) wt wy 0 (nI rm) (nI ud) (nI nu) sd (nI qn) (nI qw2_272) qo2_271 (nI qb) (nI qp) qa (nI qi) (nI oc)), ra_N (g 0) cI 1600 tb, ra_N (g 80) cI 1700 qs, ra_N (g 82) cI 1700 qt2_273, ra_I (g 68) cC 3 (cw ([109, 105, 110])), ra_I (g 69) cC 3 (cw ([109, 97, 120])), ra_I (g 70) cC 4 (cw [109, 111, 111, 100]), ra_I (g 71) cC 5 (cw [98, 97, 114, 103, 101]), ra_I (g 72) cC 3 (cw [119, 101, 116]), ra_I (g 73) cC 3 (cw [100, 97, 121]), ra_I (g 74) cC 4 (cw [119, 101, 101, 107]), ra_I (g 75) cC 4 (cw [116, 111, 108, 100]), ra_I (g 76) cC 5 (cw [97, 108, 111, 110, 101]), ra_I (g 77) cC 6 (cw [110, 117, 109, 98, 101, 114]), ra_I (g 78) cC 4 (cw [109, 117, 116, 101]), ra_I (g 58) cC 5 (cw [102, 105, 114, 115, 116]), ra_I (g 79) cC 5 (cw [119, 101, 101, 107, 115])]) eu_290 hP hD rfl (fun hP hD => ?_)
                    refine lv_goto (tgt := 183) hx hb dX12_qPartTold_178 (by decide) ?_
                    refine lv_goto (tgt := 2) hx hb dX12_qPartTold_183 (by decide) ?_
                    exact ih_lp_1 mo_ pa2_281 pd2_282 pb2_283 pp2_284 qo2_271 qw2_272 qt2_273 (bindR (.error (4, (sk tb pe za))) (wordP tb pe (pw11 ko_268))) _ _ _ (by omega) hqt2_278 hO2_289 (by omega) hpa3_286 hpb2_287 hmo (by omega) (by omega) (fun h0 => (show SJ K n0 qs qn _ qb qw2_272 by rw [show qw2_272 = zw + 1 by omega]; exact SJ_push0 (hzj (by omega)) (by omega) (hqe_276 (by omega)))) hT (fun h => absurd h (by omega)) (fun h0 => kp_up (hzk (by omega)) (SJ_le (hzj (by omega))) (hqe_276 (by omega))) hP hD hS (lv_sub hl [2, 3] rfl)
                  · have hY_291 := y_open (v := 60) hYp hx2 (by decide) (fun L d k => by rw [hk2]; exact prt_weeks hww)
                    rw [show 60 + ko_268 - 10 = 60 by omega] at hx7
                    rw [← hx5, ← hx6, ← hx7] at hY_291
                    have hOw : moO tb pe zg pa2_252 zd pb2_269 pp2_270 := by rw [hx3, hx4]; exact hO_263
                    refine lv_aload_n hx hb dX12_qPartTold_173 rfl (lv_at hl 3 rfl) ?_
                    refine lv_iload_n hx hb dX12_qPartTold_174 rfl (lv_at hl 0 rfl) ?_
                    refine sk_Vv (q0 := 0) (n := 1) (rest := []) (wr := fmR om_17_187ff _) ⟨hx, hb, hml, hown, hts⟩ hl.1 (c_em_qAsksWord l D cI cJ cC cZ cS mm g ta pa2_252 pe zd pb2_269 pp2_270 pf pg pn rt rn cd sn il tk am at_ aa wt wy rm ud nu sd qn qw2_272 qo2_271 qb qp qa qi oc ko_268 tb zg hpa3_255 hpe hpb2_274 (by omega) hOw htb) w_7_51 w_7_53 w_0_60 w_1_14 w_7_54 hd_X12_qAsksWord_1 ⟨⟨(Nat.le_of_ble_eq_true rfl), (Nat.le_of_ble_eq_true rfl)⟩, (Nat.le_of_ble_eq_true rfl), (Nat.le_of_ble_eq_true rfl)⟩ hK hP hD hS hA (fmT om_17_187ff 0) (fmF om_17_187ff 0) (fm_C1 rfl rfl) (fm_R rfl rfl) (fm_nT om_17_187ff 0) (fm_nF om_17_187ff 0) (fm_di om_17_187ff 0) rfl rfl rfl rfl (Nat.le_of_ble_eq_true rfl) dX12_qPartTold_175 (fun u H locs hw hP hD hS => ?_)
                    refine exE hw (fun pa2_292 hw1 => exE hw1 (fun pd2_293 hw2 => exE hw2 (fun pb2_294 hw3 => exE hw3 (fun pp2_295 hw4 => anE hw4 (fun hpa2_296 hw5 => anE hw5 (fun hpa3_297 hw6 => anE hw6 (fun hpb2_298 hw7 => anE hw7 (fun hpb3_299 hw8 => anE hw8 (fun hO2_300 eu_301 => ?_)))))))))
                    clear hw hw1 hw2 hw3 hw4 hw5 hw6 hw7 hw8
                    refine o_mgE (ws' := [ro_ mm 12 (mo g (nI ta) (nI pa2_292) (nI pe) pd2_293 (nI pb2_294) pp2_295 pf pg pn rt rn (nI cd) sn (nI il) tk am at_ aa 0 0 (-1) wt wy 0 (nI rm) (nI ud) (nI nu) sd (nI qn) (nI qw2_272) qo2_271 (nI qb) (nI qp) qa (nI qi) (nI oc)), ra_N (g 0) cI 1600 tb, ra_N (g 80) cI 1700 qs, ra_N (g 82) cI 1700 qt2_273, ra_I (g 68) cC 3 (cw ([109, 105, 110])), ra_I (g 69) cC 3 (cw ([109, 97, 120])), ra_I (g 70) cC 4 (cw [109, 111, 111, 100]), ra_I (g 71) cC 5 (cw [98, 97, 114, 103, 101]), ra_I (g 72) cC 3 (cw [119, 101, 116]), ra_I (g 73) cC 3 (cw [100, 97, 121]), ra_I (g 74) cC 4 (cw [119, 101, 101, 107]), ra_I (g 75) cC 4 (cw [116, 111, 108, 100]), ra_I (g 76) cC 5 (cw [97, 108, 111, 110, 101]), ra_I (g 77) cC 6 (cw [110, 117, 109, 98, 101, 114]), ra_I (g 78) cC 4 (cw [109, 117, 116, 101]), ra_I (g 58) cC 5 (cw [102, 105, 114, 115, 116]), ra_I (g 79) cC 5 (cw [119, 101, 101, 107, 115])]) eu_301 hP hD rfl (fun hP hD => ?_)
                    refine lv_goto (tgt := 183) hx hb dX12_qPartTold_178 (by decide) ?_
                    refine lv_goto (tgt := 2) hx hb dX12_qPartTold_183 (by decide) ?_
                    exact ih_lp_1 mo_ pa2_292 pd2_293 pb2_294 pp2_295 qo2_271 qw2_272 qt2_273 (bindR zg (wordP tb pe (pw11 ko_268))) _ _ _ (by omega) hqt2_278 hO2_300 (by omega) hpa3_297 hpb2_298 hmo (by omega) (by omega) (fun h0 => (show SJ K n0 qs qn _ qb qw2_272 by rw [show qw2_272 = zw + 1 by omega]; exact SJ_push0 (hzj (by omega)) (by omega) (hqe_276 (by omega)))) (by rw [hg, hko]; show yO _ _ _ _ _ (wordP tb pe (pw11 10) (cuO tb pe za zd)) _ _ _ _ _; rw [mo_asks2 hk96]; exact hY_291) (fun h => absurd h (by omega)) (fun h0 => kp_up (hzk (by omega)) (SJ_le (hzj (by omega))) (hqe_276 (by omega))) hP hD hS (lv_sub hl [2, 3] rfl)
                  · exact absurd hb0 hx1
              · have c_266 : ¬ (b_251 = 0) := fun h => c_266 ((neq b_251 0 (by omega) (Nat.le_of_ble_eq_true rfl)).mpr h)
                have hmax : isW tb pe wMax (cuO tb pe za zd) = true := (rr_1 hW_262 (by omega)).2
                have hmm : isW tb pe wMin (cuO tb pe za zd) = true ∨ isW tb pe wMax (cuO tb pe za zd) = true := Or.inr hmax
                refine lv_aload_n hx hb dX12_qPartTold_78 rfl (lv_at hl 3 rfl) ?_
                refine lv_aload_n hx hb dX12_qPartTold_79 rfl (lv_at hl 3 rfl) ?_
                refine sk_get (v := .ref (g 68)) (C := RX12) (T := TX12) (N := 92) hx hb hts inlX12 hown hK hP 0 rfl rfl 68 (Nat.le_of_ble_eq_true rfl) w_5_223 rfl dX12_qPartTold_80 ?_
                refine sk_Vi (q0 := 0) (n := 1) (rest := []) (wr := fmR om_17_19000 _) ⟨hx, hb, hml, hown, hts⟩ hl.1 (c_em_takes l D cI cJ cC cZ cS mm g ta pa2_252 pe zd zb zp pf pg pn rt rn cd sn il tk am at_ aa wt wy rm ud nu sd qn zw zo qb qp qa qi oc tb (g 68) 3 ([109, 105, 110]) zg hpa3_255 hpe hzb (by omega) (by omega) rfl (wb_of (by decide)) hO_263 htb) w_6_214 w_6_216 w_0_43 w_1_14 w_6_217 hd_X12_takes_1 ⟨⟨(Nat.le_of_ble_eq_true rfl), (Nat.le_of_ble_eq_true rfl)⟩, (Nat.le_of_ble_eq_true rfl), (Nat.le_of_ble_eq_true rfl)⟩ hK hP hD hS hA (fmT om_17_19000 0) (fmF om_17_19000 0) (fm_C1 rfl rfl) (fm_R rfl rfl) (fm_nT om_17_19000 0) (fm_nF om_17_19000 0) (fm_di om_17_19000 0) rfl rfl rfl rfl (Nat.le_of_ble_eq_true rfl) dX12_qPartTold_83 (fun r_305 u H locs hw hP hD hS => ?_)
                refine exE hw (fun b_302 hw1 => exE hw1 (fun pa2_303 hw2 => exE hw2 (fun pd2_304 hw3 => anE hw3 (fun hpa2_306 hw4 => anE hw4 (fun hpa3_307 hw5 => anE hw5 (fun hb1_308 hw6 => anE hw6 (fun hT_309 hw7 => anE hw7 (fun er_311 eu_310 => ?_))))))))
                clear hw hw1 hw2 hw3 hw4 hw5 hw6 hw7
                subst er_311
                refine o_mgE (ws' := [ro_ mm 12 (mo g (nI ta) (nI pa2_303) (nI pe) pd2_304 (nI zb) zp pf pg pn rt rn (nI cd) sn (nI il) tk am at_ aa 0 0 (-1) wt wy 0 (nI rm) (nI ud) (nI nu) sd (nI qn) (nI zw) zo (nI qb) (nI qp) qa (nI qi) (nI oc)), ra_N (g 0) cI 1600 tb, ra_N (g 80) cI 1700 qs, ra_N (g 82) cI 1700 zt, ra_I (g 68) cC 3 (cw ([109, 105, 110])), ra_I (g 69) cC 3 (cw ([109, 97, 120])), ra_I (g 70) cC 4 (cw [109, 111, 111, 100]), ra_I (g 71) cC 5 (cw [98, 97, 114, 103, 101]), ra_I (g 72) cC 3 (cw [119, 101, 116]), ra_I (g 73) cC 3 (cw [100, 97, 121]), ra_I (g 74) cC 4 (cw [119, 101, 101, 107]), ra_I (g 75) cC 4 (cw [116, 111, 108, 100]), ra_I (g 76) cC 5 (cw [97, 108, 111, 110, 101]), ra_I (g 77) cC 6 (cw [110, 117, 109, 98, 101, 114]), ra_I (g 78) cC 4 (cw [109, 117, 116, 101]), ra_I (g 58) cC 5 (cw [102, 105, 114, 115, 116]), ra_I (g 79) cC 5 (cw [119, 101, 101, 107, 115])]) eu_310 hP hD rfl (fun hP hD => ?_)
                have hT_312 := hT_309
                rw [hcc_265] at hT_312
                refine lv_istore (lv' := [(4, .int (nI b_302)), (3, .int r_157), (2, .int r_146), (1, .int (nI mo_)), (0, .ref mm)]) hx hb dX12_qPartTold_86 hl (by decide) rfl (fun ls hl => ?_)
                refine lv_iload hx hb dX12_qPartTold_88 (lv_at hl 0 rfl) ?_
                have hbt : b_302 = 0 := by rcases hT_312 with ⟨h9, -⟩ | ⟨-, -, h9, -⟩; exact h9; exact absurd (show isW tb pe wMin (cuO tb pe za zd) = true from h9) (by rw [hmin]; decide)
                refine lv_if_ne (tgt := 101) hx hb dX12_qPartTold_90 (by decide) (fun c => absurd ((neq b_302 0 (by omega) (Nat.le_of_ble_eq_true rfl)).mpr hbt) c) (fun c_313 => ?_)
                have hOb := (rr_0 hT_312 hbt).2
                refine lv_aload_n hx hb dX12_qPartTold_93 rfl (lv_at hl 4 rfl) ?_
                refine lv_aload_n hx hb dX12_qPartTold_94 rfl (lv_at hl 4 rfl) ?_
                refine sk_get (v := .ref (g 69)) (C := RX12) (T := TX12) (N := 92) hx hb hts inlX12 hown hK hP 0 rfl rfl 69 (Nat.le_of_ble_eq_true rfl) w_5_224 rfl dX12_qPartTold_95 ?_
                refine sk_Vv (q0 := 0) (n := 1) (rest := []) (wr := fmR om_17_18800 _) ⟨hx, hb, hml, hown, hts⟩ hl.1 (c_em_asks l D cI cJ cC cZ cS mm g ta pa2_303 pe pd2_304 zb zp pf pg pn rt rn cd sn il tk am at_ aa wt wy rm ud nu sd qn zw zo qb qp qa qi oc tb (g 69) 3 ([109, 97, 120]) zg hpa3_307 hpe hzb (by omega) (by omega) rfl (wb_of (by decide)) hOb htb) w_6_210 w_6_212 w_0_42 w_1_14 w_6_213 hd_X12_asks_1 ⟨⟨(Nat.le_of_ble_eq_true rfl), (Nat.le_of_ble_eq_true rfl)⟩, (Nat.le_of_ble_eq_true rfl), (Nat.le_of_ble_eq_true rfl)⟩ hK hP hD hS hA (fmT om_17_18800 0) (fmF om_17_18800 0) (fm_C1 rfl rfl) (fm_R rfl rfl) (fm_nT om_17_18800 0) (fm_nF om_17_18800 0) (fm_di om_17_18800 0) rfl rfl rfl rfl (Nat.le_of_ble_eq_true rfl) dX12_qPartTold_98 (fun u H locs hw hP hD hS => ?_)
                refine exE hw (fun pa2_314 hw1 => exE hw1 (fun pd2_315 hw2 => exE hw2 (fun pb2_316 hw3 => exE hw3 (fun pp2_317 hw4 => anE hw4 (fun hpa2_318 hw5 => anE hw5 (fun hpa3_319 hw6 => anE hw6 (fun hpb2_320 hw7 => anE hw7 (fun hpb3_321 hw8 => anE hw8 (fun hO2_322 eu_323 => ?_)))))))))
                clear hw hw1 hw2 hw3 hw4 hw5 hw6 hw7 hw8
                refine o_mgE (ws' := [ro_ mm 12 (mo g (nI ta) (nI pa2_314) (nI pe) pd2_315 (nI pb2_316) pp2_317 pf pg pn rt rn (nI cd) sn (nI il) tk am at_ aa 0 0 (-1) wt wy 0 (nI rm) (nI ud) (nI nu) sd (nI qn) (nI zw) zo (nI qb) (nI qp) qa (nI qi) (nI oc)), ra_N (g 0) cI 1600 tb, ra_N (g 80) cI 1700 qs, ra_N (g 82) cI 1700 zt, ra_I (g 68) cC 3 (cw ([109, 105, 110])), ra_I (g 69) cC 3 (cw ([109, 97, 120])), ra_I (g 70) cC 4 (cw [109, 111, 111, 100]), ra_I (g 71) cC 5 (cw [98, 97, 114, 103, 101]), ra_I (g 72) cC 3 (cw [119, 101, 116]), ra_I (g 73) cC 3 (cw [100, 97, 121]), ra_I (g 74) cC 4 (cw [119, 101, 101, 107]), ra_I (g 75) cC 4 (cw [116, 111, 108, 100]), ra_I (g 76) cC 5 (cw [97, 108, 111, 110, 101]), ra_I (g 77) cC 6 (cw [110, 117, 109, 98, 101, 114]), ra_I (g 78) cC 4 (cw [109, 117, 116, 101]), ra_I (g 58) cC 5 (cw [102, 105, 114, 115, 116]), ra_I (g 79) cC 5 (cw [119, 101, 101, 107, 115])]) eu_323 hP hD rfl (fun hP hD => ?_)
                have hOm := mo_swap (G := nxF tb pe) hOb (fun _ => by rw [mo_two hOb hzO hb0 hb0]; exact mo_asks2 hmax) hO2_322
                refine lv_aload_n hx hb dX12_qPartTold_101 rfl (lv_at hl 4 rfl) ?_
                refine sk_Vi (q0 := 0) (n := 0) (rest := []) (wr := fmR om_17_18000 _) ⟨hx, hb, hml, hown, hts⟩ hl.1 (c_em_look l D cI cJ cC cZ cS mm g ta pa2_314 pe pd2_315 pb2_316 pp2_317 pf pg pn rt rn cd sn il tk am at_ aa wt wy rm ud nu sd qn zw zo qb qp qa qi oc tb hpa3_319 hpe htb) w_6_222 w_6_224 w_0_45 w_1_14 w_6_225 hd_X12_look_0 ⟨⟨(Nat.le_of_ble_eq_true rfl), (Nat.le_of_ble_eq_true rfl)⟩, (Nat.le_of_ble_eq_true rfl), (Nat.le_of_ble_eq_true rfl)⟩ hK hP hD hS hA (fmT om_17_18000 0) (fmF om_17_18000 0) (fm_C1 rfl rfl) (fm_R rfl rfl) (fm_nT om_17_18000 0) (fm_nF om_17_18000 0) (fm_di om_17_18000 0) rfl rfl rfl rfl (Nat.le_of_ble_eq_true rfl) dX12_qPartTold_102 (fun r_325 u H locs hw hP hD hS => ?_)
                refine exE hw (fun pa2_324 hw1 => anE hw1 (fun hpa2_326 hw2 => anE hw2 (fun hpa3_327 hw3 => anE hw3 (fun hlk_328 hw4 => anE hw4 (fun hst_329 hw5 => anE hw5 (fun hsk_330 eu_331 => ?_))))))
                clear hw hw1 hw2 hw3 hw4 hw5
                refine o_mgE (ws' := [ro_ mm 12 (mo g (nI ta) (nI pa2_324) (nI pe) pd2_315 (nI pb2_316) pp2_317 pf pg pn rt rn (nI cd) sn (nI il) tk am at_ aa 0 0 (-1) wt wy 0 (nI rm) (nI ud) (nI nu) sd (nI qn) (nI zw) zo (nI qb) (nI qp) qa (nI qi) (nI oc)), ra_N (g 0) cI 1600 tb, ra_N (g 80) cI 1700 qs, ra_N (g 82) cI 1700 zt, ra_I (g 68) cC 3 (cw ([109, 105, 110])), ra_I (g 69) cC 3 (cw ([109, 97, 120])), ra_I (g 70) cC 4 (cw [109, 111, 111, 100]), ra_I (g 71) cC 5 (cw [98, 97, 114, 103, 101]), ra_I (g 72) cC 3 (cw [119, 101, 116]), ra_I (g 73) cC 3 (cw [100, 97, 121]), ra_I (g 74) cC 4 (cw [119, 101, 101, 107]), ra_I (g 75) cC 4 (cw [116, 111, 108, 100]), ra_I (g 76) cC 5 (cw [97, 108, 111, 110, 101]), ra_I (g 77) cC 6 (cw [110, 117, 109, 98, 101, 114]), ra_I (g 78) cC 4 (cw [109, 117, 116, 101]), ra_I (g 58) cC 5 (cw [102, 105, 114, 115, 116]), ra_I (g 79) cC 5 (cw [119, 101, 101, 107, 115])]) eu_331 hP hD rfl (fun hP hD => ?_)
                have hOm2 : moO tb pe (bindR zg (nxF tb pe)) pa2_324 pd2_315 pb2_316 pp2_317 := by rw [hsk_330]; exact mo_look hOm
                have hOm3 : moO tb pe (.ok (nx tb pe (sk tb pe za))) pa2_324 pd2_315 pb2_316 pp2_317 := by rw [hg] at hOm2; exact hOm2
                have hc1 : nx tb pe (sk tb pe za) = cuO tb pe pa2_324 pd2_315 := (mo_cu hOm3 rfl).2
                have hbq : pb2_316 = 0 := hOm3.1
                have hat1 : pa2_324 = (nx tb pe (sk tb pe za)).1 := by rw [hc1]; show pa2_324 = sk tb pe pa2_324; rw [hsk_330, sk_sk]
                have hskk : pa2_324 = sk tb pe pa2_324 := by rw [hsk_330, sk_sk]
                refine lv_bipush (v := 40) hx hb dX12_qPartTold_105 (by decide) ?_
                refine lv_icmp_ne (tgt := 117) hx hb dX12_qPartTold_107 (by decide) (fun c_332 => ?_) (fun c_332 => ?_)
                · have hsm : ¬ isS tb pe 40 (nx tb pe (sk tb pe za)) = true := by rw [hc1]; exact fun hq => c_332 ((lk_S htb (by decide) hlk_328).mpr (by rw [hskk]; exact isS_cu.mp hq))
                  refine lv_iconst (v := (-1)) hx hb dX12_qPartTold_117 (by decide) ?_
                  refine lv_istore (lv' := [(5, .int (-1)), (4, .int (nI b_302)), (3, .int r_157), (2, .int r_146), (1, .int (nI mo_)), (0, .ref mm)]) hx hb dX12_qPartTold_118 hl (by decide) rfl (fun ls hl => ?_)
                  refine lv_iload hx hb dX12_qPartTold_120 (lv_at hl 0 rfl) ?_
                  refine lv_iconst (v := (-1)) hx hb dX12_qPartTold_122 (by decide) ?_
                  refine lv_icmp_eq (tgt := 144) hx hb dX12_qPartTold_123 (by decide) (fun c_333 => ?_) (fun c => absurd c (by decide))
                  refine lv_aload_n hx hb dX12_qPartTold_144 rfl (lv_at hl 5 rfl) ?_
                  refine lv_bipush (v := 40) hx hb dX12_qPartTold_145 (by decide) ?_
                  refine sk_Vv (q0 := 0) (n := 1) (rest := []) (wr := fmR om_17_18000 _) ⟨hx, hb, hml, hown, hts⟩ hl.1 (c_em_asksSign l D cI cJ cC cZ cS mm g ta pa2_324 pe pd2_315 pb2_316 pp2_317 pf pg pn rt rn cd sn il tk am at_ aa wt wy rm ud nu sd qn zw zo qb qp qa qi oc 40 tb (bindR zg (nxF tb pe)) hpa3_327 hpe hpb2_320 (by omega) (by decide) hOm2 htb) w_7_3 w_7_5 w_0_48 w_1_14 w_7_6 hd_X12_asksSign_1 ⟨⟨(Nat.le_of_ble_eq_true rfl), (Nat.le_of_ble_eq_true rfl)⟩, (Nat.le_of_ble_eq_true rfl), (Nat.le_of_ble_eq_true rfl)⟩ hK hP hD hS hA (fmT om_17_18000 0) (fmF om_17_18000 0) (fm_C1 rfl rfl) (fm_R rfl rfl) (fm_nT om_17_18000 0) (fm_nF om_17_18000 0) (fm_di om_17_18000 0) rfl rfl rfl rfl (Nat.le_of_ble_eq_true rfl) dX12_qPartTold_147 (fun u H locs hw hP hD hS => ?_)
                  refine exE hw (fun pa2_334 hw1 => exE hw1 (fun pb2_335 hw2 => exE hw2 (fun pp2_336 hw3 => anE hw3 (fun hpa2_337 hw4 => anE hw4 (fun hpa3_338 hw5 => anE hw5 (fun hpb2_339 hw6 => anE hw6 (fun hpb3_340 hw7 => anE hw7 (fun hO2_341 eu_342 => ?_))))))))
                  clear hw hw1 hw2 hw3 hw4 hw5 hw6 hw7
                  refine o_mgE (ws' := [ro_ mm 12 (mo g (nI ta) (nI pa2_334) (nI pe) pd2_315 (nI pb2_335) pp2_336 pf pg pn rt rn (nI cd) sn (nI il) tk am at_ aa 0 0 (-1) wt wy 0 (nI rm) (nI ud) (nI nu) sd (nI qn) (nI zw) zo (nI qb) (nI qp) qa (nI qi) (nI oc)), ra_N (g 0) cI 1600 tb, ra_N (g 80) cI 1700 qs, ra_N (g 82) cI 1700 zt, ra_I (g 68) cC 3 (cw ([109, 105, 110])), ra_I (g 69) cC 3 (cw ([109, 97, 120])), ra_I (g 70) cC 4 (cw [109, 111, 111, 100]), ra_I (g 71) cC 5 (cw [98, 97, 114, 103, 101]), ra_I (g 72) cC 3 (cw [119, 101, 116]), ra_I (g 73) cC 3 (cw [100, 97, 121]), ra_I (g 74) cC 4 (cw [119, 101, 101, 107]), ra_I (g 75) cC 4 (cw [116, 111, 108, 100]), ra_I (g 76) cC 5 (cw [97, 108, 111, 110, 101]), ra_I (g 77) cC 6 (cw [110, 117, 109, 98, 101, 114]), ra_I (g 78) cC 4 (cw [109, 117, 116, 101]), ra_I (g 58) cC 5 (cw [102, 105, 114, 115, 116]), ra_I (g 79) cC 5 (cw [119, 101, 101, 107, 115])]) eu_342 hP hD rfl (fun hP hD => ?_)
                  refine lv_goto (tgt := 183) hx hb dX12_qPartTold_150 (by decide) ?_
                  refine lv_goto (tgt := 2) hx hb dX12_qPartTold_183 (by decide) ?_
                  exact ih_lp_1 mo_ pa2_334 pd2_315 pb2_335 pp2_336 zo zw zt (bindR (bindR zg (nxF tb pe)) (signP tb pe 40)) _ _ _ (by omega) hzt hO2_341 (by omega) hpa3_338 hpb2_339 hmo (by omega) (by omega) (fun h0 => hzj (by omega)) (by rw [hg]; show yO _ _ _ _ _ (signP tb pe 40 (nx tb pe (sk tb pe za))) _ _ _ _ _; rw [signP_f hsm]; exact y_err hYp (fun L d k _ => prt_pairx hmm hsm)) (fun h => absurd h (by omega)) (fun h0 => hzk (by omega)) hP hD hS (lv_sub hl [4, 5] rfl)
                · have hq_343 := lk_at hlk_328 htb (w := 40) (by omega) c_332
                  have hsm : isS tb pe 40 (nx tb pe (sk tb pe za)) = true := by rw [hc1]; exact isS_cu.mpr (by rw [← hskk]; exact (lk_S htb (by decide) hlk_328).mp c_332)
                  refine lv_aload_n hx hb dX12_qPartTold_110 rfl (lv_at hl 4 rfl) ?_
                  refine sk_get (v := .int (nI pa2_324)) (C := RX12) (T := TX12) (N := 92) hx hb hts inlX12 hown hK hP 0 rfl rfl 2 (Nat.le_of_ble_eq_true rfl) w_5_157 rfl dX12_qPartTold_111 ?_
                  refine lv_goto (tgt := 118) hx hb dX12_qPartTold_114 (by decide) ?_
                  refine lv_istore (lv' := [(5, .int (nI pa2_324)), (4, .int (nI b_302)), (3, .int r_157), (2, .int r_146), (1, .int (nI mo_)), (0, .ref mm)]) hx hb dX12_qPartTold_118 hl (by decide) rfl (fun ls hl => ?_)
                  refine lv_iload hx hb dX12_qPartTold_120 (lv_at hl 0 rfl) ?_
                  refine lv_iconst (v := (-1)) hx hb dX12_qPartTold_122 (by decide) ?_
                  refine lv_icmp_eq (tgt := 144) hx hb dX12_qPartTold_123 (by decide) (fun c => absurd ((ieq (ivn pa2_324 (by omega)) (show (-1 : Int32).toInt = -1 by decide)).mp c) (by omega)) (fun c_344 => ?_)
                  refine lv_aload_n hx hb dX12_qPartTold_126 rfl (lv_at hl 5 rfl) ?_
                  refine lv_iload hx hb dX12_qPartTold_127 (lv_at hl 1 rfl) ?_
                  refine lv_if_eq (tgt := 137) hx hb dX12_qPartTold_129 (by decide) (fun c_345 => ?_) (fun c => absurd ((neq b_302 0 (by omega) (Nat.le_of_ble_eq_true rfl)).mpr hbt) c)
                  refine lv_bipush (v := 22) hx hb dX12_qPartTold_137 (by decide) ?_
                  refine lv_iload hx hb dX12_qPartTold_139 (lv_at hl 0 rfl) ?_
                  refine sk_Vv (q0 := 0) (n := 2) (rest := []) (wr := fmR om_17_12000 _) ⟨hx, hb, hml, hown, hts⟩ hl.1 (c_em_qOpens l D cI cJ cC cZ cS mm g ta pa2_324 pe pd2_315 pb2_316 pp2_317 pf pg pn rt rn cd sn il tk am at_ aa wt wy rm ud nu sd qn zw zo qb qp qa qi oc 22 (nI pa2_324) zt hpb2_320 (by omega) (by omega) hzt) w_7_47 w_7_49 w_0_59 w_1_14 w_7_50 hd_X12_qOpens_2 ⟨⟨(Nat.le_of_ble_eq_true rfl), (Nat.le_of_ble_eq_true rfl)⟩, (Nat.le_of_ble_eq_true rfl), (Nat.le_of_ble_eq_true rfl)⟩ hK hP hD hS hA (fmT om_17_12000 0) (fmF om_17_12000 0) (fm_C1 rfl rfl) (fm_R rfl rfl) (fm_nT om_17_12000 0) (fm_nF om_17_12000 0) (fm_di om_17_12000 0) rfl rfl rfl rfl (Nat.le_of_ble_eq_true rfl) dX12_qPartTold_141 (fun u H locs hw hP hD hS => ?_)
                  refine exE hw (fun pb2_346 hw1 => exE hw1 (fun pp2_347 hw2 => exE hw2 (fun qo2_348 hw3 => exE hw3 (fun qw2_349 hw4 => exE hw4 (fun qt2_350 hw5 => anE hw5 (fun hpb2_351 hw6 => anE hw6 (fun hop_352 hw7 => anE hw7 (fun hqe_353 hw8 => anE hw8 (fun hox_354 hw9 => anE hw9 (fun hqt2_355 eu_356 => ?_))))))))))
                  clear hw hw1 hw2 hw3 hw4 hw5 hw6 hw7 hw8 hw9
                  refine o_mgE (ws' := [ro_ mm 12 (mo g (nI ta) (nI pa2_324) (nI pe) pd2_315 (nI pb2_346) pp2_347 pf pg pn rt rn (nI cd) sn (nI il) tk am at_ aa 0 0 (-1) wt wy 0 (nI rm) (nI ud) (nI nu) sd (nI qn) (nI qw2_349) qo2_348 (nI qb) (nI qp) qa (nI qi) (nI oc)), ra_N (g 0) cI 1600 tb, ra_N (g 80) cI 1700 qs, ra_N (g 82) cI 1700 qt2_350, ra_I (g 68) cC 3 (cw ([109, 105, 110])), ra_I (g 69) cC 3 (cw ([109, 97, 120])), ra_I (g 70) cC 4 (cw [109, 111, 111, 100]), ra_I (g 71) cC 5 (cw [98, 97, 114, 103, 101]), ra_I (g 72) cC 3 (cw [119, 101, 116]), ra_I (g 73) cC 3 (cw [100, 97, 121]), ra_I (g 74) cC 4 (cw [119, 101, 101, 107]), ra_I (g 75) cC 4 (cw [116, 111, 108, 100]), ra_I (g 76) cC 5 (cw [97, 108, 111, 110, 101]), ra_I (g 77) cC 6 (cw [110, 117, 109, 98, 101, 114]), ra_I (g 78) cC 4 (cw [109, 117, 116, 101]), ra_I (g 58) cC 5 (cw [102, 105, 114, 115, 116]), ra_I (g 79) cC 5 (cw [119, 101, 101, 107, 115])]) eu_356 hP hD rfl (fun hP hD => ?_)
                  rcases hox_354 with ⟨hx1, hx2, hx3, hx4, hx5, hx6, hx7⟩ | ⟨hx1, hx2, hx3, hx4, hx5, hx6, hx7⟩ | ⟨hx1, -⟩
                  · have hT : T = .error (4, (nx tb pe (sk tb pe za)).1) := y_full hYp hx2 (fun L k => prt_pair0 hmm hsm)
                    have hO_357 : ∀ (a : Nat) (d : Int32), moO tb pe (.error (4, (nx tb pe (sk tb pe za)).1)) a d pb2_346 pp2_347 := fun _ _ => ⟨hx3, by rw [hx4, hat1], show 1 ≤ 4 by decide, show 4 ≤ 5 by decide⟩
                    refine lv_aload_n hx hb dX12_qPartTold_144 rfl (lv_at hl 5 rfl) ?_
                    refine lv_bipush (v := 40) hx hb dX12_qPartTold_145 (by decide) ?_
                    refine sk_Vv (q0 := 0) (n := 1) (rest := []) (wr := fmR om_17_18000 _) ⟨hx, hb, hml, hown, hts⟩ hl.1 (c_em_asksSign l D cI cJ cC cZ cS mm g ta pa2_324 pe pd2_315 pb2_346 pp2_347 pf pg pn rt rn cd sn il tk am at_ aa wt wy rm ud nu sd qn qw2_349 qo2_348 qb qp qa qi oc 40 tb (.error (4, (nx tb pe (sk tb pe za)).1)) hpa3_327 hpe hpb2_351 (by omega) (by decide) (hO_357 _ _) htb) w_7_3 w_7_5 w_0_48 w_1_14 w_7_6 hd_X12_asksSign_1 ⟨⟨(Nat.le_of_ble_eq_true rfl), (Nat.le_of_ble_eq_true rfl)⟩, (Nat.le_of_ble_eq_true rfl), (Nat.le_of_ble_eq_true rfl)⟩ hK hP hD hS hA (fmT om_17_18000 0) (fmF om_17_18000 0) (fm_C1 rfl rfl) (fm_R rfl rfl) (fm_nT om_17_18000 0) (fm_nF om_17_18000 0) (fm_di om_17_18000 0) rfl rfl rfl rfl (Nat.le_of_ble_eq_true rfl) dX12_qPartTold_147 (fun u H locs hw hP hD hS => ?_)
                    refine exE hw (fun pa2_358 hw1 => exE hw1 (fun pb2_359 hw2 => exE hw2 (fun pp2_360 hw3 => anE hw3 (fun hpa2_361 hw4 => anE hw4 (fun hpa3_362 hw5 => anE hw5 (fun hpb2_363 hw6 => anE hw6 (fun hpb3_364 hw7 => anE hw7 (fun hO2_365 eu_366 => ?_))))))))
                    clear hw hw1 hw2 hw3 hw4 hw5 hw6 hw7
                    refine o_mgE (ws' := [ro_ mm 12 (mo g (nI ta) (nI pa2_358) (nI pe) pd2_315 (nI pb2_359) pp2_360 pf pg pn rt rn (nI cd) sn (nI il) tk am at_ aa 0 0 (-1) wt wy 0 (nI rm) (nI ud) (nI nu) sd (nI qn) (nI qw2_349) qo2_348 (nI qb) (nI qp) qa (nI qi) (nI oc)), ra_N (g 0) cI 1600 tb, ra_N (g 80) cI 1700 qs, ra_N (g 82) cI 1700 qt2_350, ra_I (g 68) cC 3 (cw ([109, 105, 110])), ra_I (g 69) cC 3 (cw ([109, 97, 120])), ra_I (g 70) cC 4 (cw [109, 111, 111, 100]), ra_I (g 71) cC 5 (cw [98, 97, 114, 103, 101]), ra_I (g 72) cC 3 (cw [119, 101, 116]), ra_I (g 73) cC 3 (cw [100, 97, 121]), ra_I (g 74) cC 4 (cw [119, 101, 101, 107]), ra_I (g 75) cC 4 (cw [116, 111, 108, 100]), ra_I (g 76) cC 5 (cw [97, 108, 111, 110, 101]), ra_I (g 77) cC 6 (cw [110, 117, 109, 98, 101, 114]), ra_I (g 78) cC 4 (cw [109, 117, 116, 101]), ra_I (g 58) cC 5 (cw [102, 105, 114, 115, 116]), ra_I (g 79) cC 5 (cw [119, 101, 101, 107, 115])]) eu_366 hP hD rfl (fun hP hD => ?_)
                    refine lv_goto (tgt := 183) hx hb dX12_qPartTold_150 (by decide) ?_
                    refine lv_goto (tgt := 2) hx hb dX12_qPartTold_183 (by decide) ?_
                    exact ih_lp_1 mo_ pa2_358 pd2_315 pb2_359 pp2_360 qo2_348 qw2_349 qt2_350 (bindR (.error (4, (nx tb pe (sk tb pe za)).1)) (signP tb pe 40)) _ _ _ (by omega) hqt2_355 hO2_365 (by omega) hpa3_362 hpb2_363 hmo (by omega) (by omega) (fun h0 => (show SJ K n0 qs qn _ qb qw2_349 by rw [show qw2_349 = zw + 1 by omega]; exact SJ_push0 (hzj (by omega)) (by omega) (hqe_353 (by omega)))) hT (fun h => absurd h (by omega)) (fun h0 => kp_up (hzk (by omega)) (SJ_le (hzj (by omega))) (hqe_353 (by omega))) hP hD hS (lv_sub hl [4, 5] rfl)
                  · have hY_367 := y_open (v := 22) hYp hx2 (by decide) (fun L d k => prt_pair (Or.inr ⟨hmax, rfl⟩) hsm)
                    rw [← hx5, ← hx6, ← hx7] at hY_367
                    have hOm4 : moO tb pe (bindR zg (nxF tb pe)) pa2_324 pd2_315 pb2_346 pp2_347 := by rw [hx3, hx4]; exact hOm2
                    refine lv_aload_n hx hb dX12_qPartTold_144 rfl (lv_at hl 5 rfl) ?_
                    refine lv_bipush (v := 40) hx hb dX12_qPartTold_145 (by decide) ?_
                    refine sk_Vv (q0 := 0) (n := 1) (rest := []) (wr := fmR om_17_18000 _) ⟨hx, hb, hml, hown, hts⟩ hl.1 (c_em_asksSign l D cI cJ cC cZ cS mm g ta pa2_324 pe pd2_315 pb2_346 pp2_347 pf pg pn rt rn cd sn il tk am at_ aa wt wy rm ud nu sd qn qw2_349 qo2_348 qb qp qa qi oc 40 tb (bindR zg (nxF tb pe)) hpa3_327 hpe hpb2_351 (by omega) (by decide) hOm4 htb) w_7_3 w_7_5 w_0_48 w_1_14 w_7_6 hd_X12_asksSign_1 ⟨⟨(Nat.le_of_ble_eq_true rfl), (Nat.le_of_ble_eq_true rfl)⟩, (Nat.le_of_ble_eq_true rfl), (Nat.le_of_ble_eq_true rfl)⟩ hK hP hD hS hA (fmT om_17_18000 0) (fmF om_17_18000 0) (fm_C1 rfl rfl) (fm_R rfl rfl) (fm_nT om_17_18000 0) (fm_nF om_17_18000 0) (fm_di om_17_18000 0) rfl rfl rfl rfl (Nat.le_of_ble_eq_true rfl) dX12_qPartTold_147 (fun u H locs hw hP hD hS => ?_)
                    refine exE hw (fun pa2_368 hw1 => exE hw1 (fun pb2_369 hw2 => exE hw2 (fun pp2_370 hw3 => anE hw3 (fun hpa2_371 hw4 => anE hw4 (fun hpa3_372 hw5 => anE hw5 (fun hpb2_373 hw6 => anE hw6 (fun hpb3_374 hw7 => anE hw7 (fun hO2_375 eu_376 => ?_))))))))
                    clear hw hw1 hw2 hw3 hw4 hw5 hw6 hw7
                    refine o_mgE (ws' := [ro_ mm 12 (mo g (nI ta) (nI pa2_368) (nI pe) pd2_315 (nI pb2_369) pp2_370 pf pg pn rt rn (nI cd) sn (nI il) tk am at_ aa 0 0 (-1) wt wy 0 (nI rm) (nI ud) (nI nu) sd (nI qn) (nI qw2_349) qo2_348 (nI qb) (nI qp) qa (nI qi) (nI oc)), ra_N (g 0) cI 1600 tb, ra_N (g 80) cI 1700 qs, ra_N (g 82) cI 1700 qt2_350, ra_I (g 68) cC 3 (cw ([109, 105, 110])), ra_I (g 69) cC 3 (cw ([109, 97, 120])), ra_I (g 70) cC 4 (cw [109, 111, 111, 100]), ra_I (g 71) cC 5 (cw [98, 97, 114, 103, 101]), ra_I (g 72) cC 3 (cw [119, 101, 116]), ra_I (g 73) cC 3 (cw [100, 97, 121]), ra_I (g 74) cC 4 (cw [119, 101, 101, 107]), ra_I (g 75) cC 4 (cw [116, 111, 108, 100]), ra_I (g 76) cC 5 (cw [97, 108, 111, 110, 101]), ra_I (g 77) cC 6 (cw [110, 117, 109, 98, 101, 114]), ra_I (g 78) cC 4 (cw [109, 117, 116, 101]), ra_I (g 58) cC 5 (cw [102, 105, 114, 115, 116]), ra_I (g 79) cC 5 (cw [119, 101, 101, 107, 115])]) eu_376 hP hD rfl (fun hP hD => ?_)
                    refine lv_goto (tgt := 183) hx hb dX12_qPartTold_150 (by decide) ?_
                    refine lv_goto (tgt := 2) hx hb dX12_qPartTold_183 (by decide) ?_
                    exact ih_lp_1 mo_ pa2_368 pd2_315 pb2_369 pp2_370 qo2_348 qw2_349 qt2_350 (bindR (bindR zg (nxF tb pe)) (signP tb pe 40)) _ _ _ (by omega) hqt2_355 hO2_375 (by omega) hpa3_372 hpb2_373 hmo (by omega) (by omega) (fun h0 => (show SJ K n0 qs qn _ qb qw2_349 by rw [show qw2_349 = zw + 1 by omega]; exact SJ_push0 (hzj (by omega)) (by omega) (hqe_353 (by omega)))) (by rw [hg]; show yO _ _ _ _ _ (signP tb pe 40 (nx tb pe (sk tb pe za))) _ _ _ _ _; rw [signP_t hsm]; exact hY_367) (fun h => absurd h (by omega)) (fun h0 => kp_up (hzk (by omega)) (SJ_le (hzj (by omega))) (hqe_353 (by omega))) hP hD hS (lv_sub hl [4, 5] rfl)
                  · exact absurd hbq hx1
          · have hq_377 := lk_at hlk_149 htb (w := 40) (by omega) c_169
            have hq_378 := hst_160 hq_377.1 hq_377.2.2.1 hq_377.2.2.2
            have hs40 : isS tb pe 40 (cuO tb pe za zd) = true := isS_cu.mpr (by have h9 := (lk_S htb (by decide) hlk_149).mp c_169; rw [hcu_154] at h9; exact h9)
            refine lv_aload_n hx hb dX12_qPartTold_33 rfl (lv_at hl 3 rfl) ?_
            refine lv_bipush (v := 20) hx hb dX12_qPartTold_34 (by decide) ?_
            refine lv_aload_n hx hb dX12_qPartTold_36 rfl (lv_at hl 3 rfl) ?_
            refine sk_get (v := .int (nI pa2_156)) (C := RX12) (T := TX12) (N := 92) hx hb hts inlX12 hown hK hP 0 rfl rfl 2 (Nat.le_of_ble_eq_true rfl) w_5_157 rfl dX12_qPartTold_37 ?_
            refine sk_Vv (q0 := 0) (n := 2) (rest := []) (wr := fmR om_17_12000 _) ⟨hx, hb, hml, hown, hts⟩ hl.1 (c_em_qOpens l D cI cJ cC cZ cS mm g ta pa2_156 pe zd zb zp pf pg pn rt rn cd sn il tk am at_ aa wt wy rm ud nu sd qn zw zo qb qp qa qi oc 20 (nI pa2_156) zt hzb (by omega) (by omega) hzt) w_7_47 w_7_49 w_0_59 w_1_14 w_7_50 hd_X12_qOpens_2 ⟨⟨(Nat.le_of_ble_eq_true rfl), (Nat.le_of_ble_eq_true rfl)⟩, (Nat.le_of_ble_eq_true rfl), (Nat.le_of_ble_eq_true rfl)⟩ hK hP hD hS hA (fmT om_17_12000 0) (fmF om_17_12000 0) (fm_C1 rfl rfl) (fm_R rfl rfl) (fm_nT om_17_12000 0) (fm_nF om_17_12000 0) (fm_di om_17_12000 0) rfl rfl rfl rfl (Nat.le_of_ble_eq_true rfl) dX12_qPartTold_40 (fun u H locs hw hP hD hS => ?_)
            refine exE hw (fun pb2_379 hw1 => exE hw1 (fun pp2_380 hw2 => exE hw2 (fun qo2_381 hw3 => exE hw3 (fun qw2_382 hw4 => exE hw4 (fun qt2_383 hw5 => anE hw5 (fun hpb2_384 hw6 => anE hw6 (fun hop_385 hw7 => anE hw7 (fun hqe_386 hw8 => anE hw8 (fun hox_387 hw9 => anE hw9 (fun hqt2_388 eu_389 => ?_))))))))))
            clear hw hw1 hw2 hw3 hw4 hw5 hw6 hw7 hw8 hw9
            refine o_mgE (ws' := [ro_ mm 12 (mo g (nI ta) (nI pa2_156) (nI pe) zd (nI pb2_379) pp2_380 pf pg pn rt rn (nI cd) sn (nI il) tk am at_ aa 0 0 (-1) wt wy 0 (nI rm) (nI ud) (nI nu) sd (nI qn) (nI qw2_382) qo2_381 (nI qb) (nI qp) qa (nI qi) (nI oc)), ra_N (g 0) cI 1600 tb, ra_N (g 80) cI 1700 qs, ra_N (g 82) cI 1700 qt2_383, ra_I (g 68) cC 3 (cw [109, 105, 110]), ra_I (g 69) cC 3 (cw [109, 97, 120]), ra_I (g 70) cC 4 (cw [109, 111, 111, 100]), ra_I (g 71) cC 5 (cw [98, 97, 114, 103, 101]), ra_I (g 72) cC 3 (cw [119, 101, 116]), ra_I (g 73) cC 3 (cw [100, 97, 121]), ra_I (g 74) cC 4 (cw [119, 101, 101, 107]), ra_I (g 75) cC 4 (cw [116, 111, 108, 100]), ra_I (g 76) cC 5 (cw [97, 108, 111, 110, 101]), ra_I (g 77) cC 6 (cw [110, 117, 109, 98, 101, 114]), ra_I (g 78) cC 4 (cw [109, 117, 116, 101]), ra_I (g 58) cC 5 (cw [102, 105, 114, 115, 116]), ra_I (g 79) cC 5 (cw [119, 101, 101, 107, 115])]) eu_389 hP hD rfl (fun hP hD => ?_)
            rcases hox_387 with ⟨hx1, hx2, hx3, hx4, hx5, hx6, hx7⟩ | ⟨hx1, hx2, hx3, hx4, hx5, hx6, hx7⟩ | ⟨hx1, -⟩
            · have hT : T = .error (4, (sk tb pe za)) := y_full hYp hx2 (fun L k => prt_round0 hs40)
              have hO_390 : ∀ (a : Nat) (d : Int32), moO tb pe (.error (4, (sk tb pe za))) a d pb2_379 pp2_380 := fun _ _ => ⟨hx3, by rw [hx4, hcu_167], show 1 ≤ 4 by decide, show 4 ≤ 5 by decide⟩
              refine lv_aload_n hx hb dX12_qPartTold_43 rfl (lv_at hl 3 rfl) ?_
              refine lv_dup hx hb dX12_qPartTold_44 rfl ?_
              refine sk_get (v := .int (nI pa2_156)) (C := RX12) (T := TX12) (N := 92) hx hb hts inlX12 hown hK hP 0 rfl rfl 2 (Nat.le_of_ble_eq_true rfl) w_5_157 rfl dX12_qPartTold_45 ?_
              refine lv_iconst (v := 1) hx hb dX12_qPartTold_48 ic_1 ?_
              refine lv_iadd hx hb dX12_qPartTold_49 ?_
              refine sk_top (nI (pa2_156 + 1)) (nI_add pa2_156 1) ?_
              refine sk_put (ws' := [ro_ mm 12 (mo g (nI ta) (nI (pa2_156 + 1)) (nI pe) zd (nI pb2_379) pp2_380 pf pg pn rt rn (nI cd) sn (nI il) tk am at_ aa 0 0 (-1) wt wy 0 (nI rm) (nI ud) (nI nu) sd (nI qn) (nI qw2_382) qo2_381 (nI qb) (nI qp) qa (nI qi) (nI oc)), ra_N (g 0) cI 1600 tb, ra_N (g 80) cI 1700 qs, ra_N (g 82) cI 1700 qt2_383, ra_I (g 68) cC 3 (cw [109, 105, 110]), ra_I (g 69) cC 3 (cw [109, 97, 120]), ra_I (g 70) cC 4 (cw [109, 111, 111, 100]), ra_I (g 71) cC 5 (cw [98, 97, 114, 103, 101]), ra_I (g 72) cC 3 (cw [119, 101, 116]), ra_I (g 73) cC 3 (cw [100, 97, 121]), ra_I (g 74) cC 4 (cw [119, 101, 101, 107]), ra_I (g 75) cC 4 (cw [116, 111, 108, 100]), ra_I (g 76) cC 5 (cw [97, 108, 111, 110, 101]), ra_I (g 77) cC 6 (cw [110, 117, 109, 98, 101, 114]), ra_I (g 78) cC 4 (cw [109, 117, 116, 101]), ra_I (g 58) cC 5 (cw [102, 105, 114, 115, 116]), ra_I (g 79) cC 5 (cw [119, 101, 101, 107, 115])]) (C := RX12) (T := TX12) (N := 92) (v := .int (nI (pa2_156 + 1))) hx hb hts inlX12 tyX12 tyX12_ok nmX12 hown hK hP hD hS 0 rfl rfl 2 (Nat.le_of_ble_eq_true rfl) w_5_157 rfl rfl rfl (Nat.le_of_ble_eq_true rfl) rfl dX12_qPartTold_50 (fun H locs hP hD hS => ?_)
              refine lv_goto (tgt := 183) hx hb dX12_qPartTold_53 (by decide) ?_
              refine lv_goto (tgt := 2) hx hb dX12_qPartTold_183 (by decide) ?_
              exact ih_lp_1 mo_ (pa2_156 + 1) zd pb2_379 pp2_380 qo2_381 qw2_382 qt2_383 (.error (4, (sk tb pe za))) _ _ _ (by omega) hqt2_388 (hO_390 _ _) (by omega) (by omega) hpb2_384 hmo (by omega) (by omega) (fun h0 => (show SJ K n0 qs qn _ qb qw2_382 by rw [show qw2_382 = zw + 1 by omega]; exact SJ_push0 (hzj (by omega)) (by omega) (hqe_386 (by omega)))) hT (fun h => absurd h (by omega)) (fun h0 => kp_up (hzk (by omega)) (SJ_le (hzj (by omega))) (hqe_386 (by omega))) hP hD hS (lv_sub hl [2, 3] rfl)
            · have hY_391 := y_open (v := 20) hYp hx2 (by decide) (fun L d k => prt_round hs40)
              rw [← hx5, ← hx6, ← hx7] at hY_391
              refine lv_aload_n hx hb dX12_qPartTold_43 rfl (lv_at hl 3 rfl) ?_
              refine lv_dup hx hb dX12_qPartTold_44 rfl ?_
              refine sk_get (v := .int (nI pa2_156)) (C := RX12) (T := TX12) (N := 92) hx hb hts inlX12 hown hK hP 0 rfl rfl 2 (Nat.le_of_ble_eq_true rfl) w_5_157 rfl dX12_qPartTold_45 ?_
              refine lv_iconst (v := 1) hx hb dX12_qPartTold_48 ic_1 ?_
              refine lv_iadd hx hb dX12_qPartTold_49 ?_
              refine sk_top (nI (pa2_156 + 1)) (nI_add pa2_156 1) ?_
              refine sk_put (ws' := [ro_ mm 12 (mo g (nI ta) (nI (pa2_156 + 1)) (nI pe) zd (nI pb2_379) pp2_380 pf pg pn rt rn (nI cd) sn (nI il) tk am at_ aa 0 0 (-1) wt wy 0 (nI rm) (nI ud) (nI nu) sd (nI qn) (nI qw2_382) qo2_381 (nI qb) (nI qp) qa (nI qi) (nI oc)), ra_N (g 0) cI 1600 tb, ra_N (g 80) cI 1700 qs, ra_N (g 82) cI 1700 qt2_383, ra_I (g 68) cC 3 (cw [109, 105, 110]), ra_I (g 69) cC 3 (cw [109, 97, 120]), ra_I (g 70) cC 4 (cw [109, 111, 111, 100]), ra_I (g 71) cC 5 (cw [98, 97, 114, 103, 101]), ra_I (g 72) cC 3 (cw [119, 101, 116]), ra_I (g 73) cC 3 (cw [100, 97, 121]), ra_I (g 74) cC 4 (cw [119, 101, 101, 107]), ra_I (g 75) cC 4 (cw [116, 111, 108, 100]), ra_I (g 76) cC 5 (cw [97, 108, 111, 110, 101]), ra_I (g 77) cC 6 (cw [110, 117, 109, 98, 101, 114]), ra_I (g 78) cC 4 (cw [109, 117, 116, 101]), ra_I (g 58) cC 5 (cw [102, 105, 114, 115, 116]), ra_I (g 79) cC 5 (cw [119, 101, 101, 107, 115])]) (C := RX12) (T := TX12) (N := 92) (v := .int (nI (pa2_156 + 1))) hx hb hts inlX12 tyX12 tyX12_ok nmX12 hown hK hP hD hS 0 rfl rfl 2 (Nat.le_of_ble_eq_true rfl) w_5_157 rfl rfl rfl (Nat.le_of_ble_eq_true rfl) rfl dX12_qPartTold_50 (fun H locs hP hD hS => ?_)
              refine lv_goto (tgt := 183) hx hb dX12_qPartTold_53 (by decide) ?_
              refine lv_goto (tgt := 2) hx hb dX12_qPartTold_183 (by decide) ?_
              exact ih_lp_1 mo_ (pa2_156 + 1) zd pb2_379 pp2_380 qo2_381 qw2_382 qt2_383 (bindR zg (fun _ => .ok (nx tb pe (sk tb pe za)))) _ _ _ (by omega) hqt2_388 (by rw [hx3, hx4]; exact mo_takeS hzO hb0 hpe (isS_cu.mp hs40) (by decide) (by rw [hcu_167]) rfl) (by omega) (by omega) hpb2_384 hmo (by omega) (by omega) (fun h0 => (show SJ K n0 qs qn _ qb qw2_382 by rw [show qw2_382 = zw + 1 by omega]; exact SJ_push0 (hzj (by omega)) (by omega) (hqe_386 (by omega)))) (by rw [hg]; exact hY_391) (fun h => absurd h (by omega)) (fun h0 => kp_up (hzk (by omega)) (SJ_le (hzj (by omega))) (hqe_386 (by omega))) hP hD hS (lv_sub hl [2, 3] rfl)
            · exact absurd hb0 hx1
  exact lp_1 ((pe - pa) + (5 - pb) + 1 + 1) 1 pa pd pb pp qo qw qt og _ _ _ (Nat.lt_succ_self _) hqt hO (by omega) hpa hpb (by omega) (by omega) (by omega) (fun _ => hsj) hY (fun h => absurd h (by omega)) (fun _ => kp_0) hP hD hS (lv_sub hl [0, 1] rfl)
theorem lb_uniq {qt : Nat → Nat} {b w : Nat} {r r2 : Int32} (h : lbO qt b w r) (h2 : lbO qt b w r2) : r = r2 := by
  rcases h with ⟨e, h⟩ | ⟨k, k1, k2, k3, k4, k5, k6⟩
  · rcases h2 with ⟨e2, -⟩ | ⟨j, j1, j2, j3, j4, -, -⟩
    · rw [e, e2]
    · exact absurd ⟨j3, j4⟩ (h j j1 j2)
  · rcases h2 with ⟨-, h⟩ | ⟨j, j1, j2, j3, j4, j5, j6⟩
    · exact absurd ⟨k3, k4⟩ (h k k1 k2)
    · have e : k = j := by
        rcases Nat.lt_trichotomy k j with q | q | q
        · exact absurd ⟨j3, j4⟩ (k6 j q j2)
        · exact q
        · exact absurd ⟨k3, k4⟩ (j6 k q k2)
      subst e
      rw [k5, j5]
def brno (qt : Nat → Nat) (b w : Nat) : Prop := ∀ r, lbO qt b w r → ¬ r = 20 ∧ ¬ r = 23 ∧ ¬ r = 24
theorem brno_of {qt : Nat → Nat} {b w : Nat} {r1 r2 r3 : Int32} (h1 : lbO qt b w r1) (h2 : lbO qt b w r2) (h3 : lbO qt b w r3) (c1 : ¬ r1 = 20) (c2 : ¬ r2 = 23) (c3 : ¬ r3 = 24) : brno qt b w := fun r h => by
  rw [lb_uniq h h1]
  exact ⟨c1, by rw [lb_uniq h1 h2]; exact c2, by rw [lb_uniq h1 h3]; exact c3⟩
def YM (tb : Nat → Nat) (n kind d0 m0 b : Nat) (T : Res) (c : Cur) (qs : Nat → Nat) (qn : Nat) (qt : Nat → Nat) (w : Nat) (qo : Int32) : Prop := ∃ ph, ph ≤ 1 ∧ phO ph (topO qt b w) ∧ YY (Xa tb n kind ph) d0 m0 b T c qs qn qt w qo
theorem ym_0 {tb : Nat → Nat} {n kind d0 m0 b : Nat} {T : Res} {c : Cur} {qs : Nat → Nat} {qn : Nat} {qt : Nat → Nat} {w : Nat} {qo : Int32} (h : YY (Xa tb n kind 0) d0 m0 b T c qs qn qt w qo) (ht : ¬ topO qt b w = 60) : YM tb n kind d0 m0 b T c qs qn qt w qo := ⟨0, by omega, Or.inl ⟨rfl, ht⟩, h⟩
theorem ym_drop {tb : Nat → Nat} {n kind d0 m0 b : Nat} {T : Res} {c : Cur} {qs : Nat → Nat} {qn : Nat} {qt : Nat → Nat} {w : Nat} {qo : Int32} {qs2 : Nat → Nat} (h : YM tb n kind d0 m0 b T c qs qn qt w qo) (hw : b + 1 ≤ w) (hv : qt (w - 1) = 3 ∨ qt (w - 1) = 4) (e : qs2 = updN qs qn (qt (w - 1))) : YM tb n kind d0 m0 b T c qs2 (qn + 1) qt (w - 1) qo := by
  subst e
  obtain ⟨ph, h1, hp, h⟩ := h
  have ht : topO qt b w = qt (w - 1) := by unfold topO; rw [if_pos (by omega)]
  rw [ht] at hp
  unfold phO at hp
  obtain rfl : ph = 0 := by omega
  have hs := y_shp h hw
  exact ⟨1, by omega, by unfold phO; omega, y_d3 h hw hv⟩
theorem ym_1 {tb : Nat → Nat} {n kind d0 m0 b : Nat} {T : Res} {c : Cur} {qs : Nat → Nat} {qn : Nat} {qt : Nat → Nat} {w : Nat} {qo : Int32} (h : YM tb n kind d0 m0 b T c qs qn qt w qo) (h3 : ¬ topO qt b w = 3) (h4 : ¬ topO qt b w = 4) : YY (Xa tb n kind 1) d0 m0 b T c qs qn qt w qo ∧ phO 1 (topO qt b w) := by
  obtain ⟨ph, h1, hp, h⟩ := h
  unfold phO at hp ⊢
  refine ⟨?_, by omega⟩
  rcases hp with ⟨rfl, q⟩ | ⟨rfl, q⟩ | ⟨rfl, q⟩
  · exact y_01 h q h3 h4
  · exact h
  · omega
theorem yd_ph {tb : Nat → Nat} {n kind d0 m0 b : Nat} {T : Res} {c : Cur} {qs : Nat → Nat} {qn : Nat} {qt : Nat → Nat} {w : Nat} {qo : Int32} (h : YD tb n kind d0 m0 b T c qs qn qt w qo) : ¬ topO qt b w = 60 := by
  obtain ⟨ph, hp, h⟩ := h
  unfold phO at hp
  omega
theorem yd_bad {tb : Nat → Nat} {n kind d0 m0 b k : Nat} {T : Res} {c : Cur} {qt : Nat → Nat} {qo : Int32} (hk : b ≤ k) (hb : 20 ≤ qt k ∧ qt k ≤ 24) (s1 : ¬ isS tb n 42 c = true) (s2 : ¬ isS tb n 47 c = true) (s3 : ¬ isS tb n 43 c = true) (s4 : ¬ isS tb n 45 c = true) (h3 : qt k = 20 ∨ qt k = 23 ∨ qt k = 24 → ¬ isS tb n 41 c = true) (h4 : qt k = 21 ∨ qt k = 22 → ¬ isS tb n 44 c = true) : ∀ m qs qn, (∀ j, k < j → j < k + 1 + m → ¬ (20 ≤ qt j ∧ qt j ≤ 24)) → YD tb n kind d0 m0 b T c qs qn qt (k + 1 + m) qo → T = .error (1, c.1)
  | 0, qs, qn, _, h => by
    have ht : topO qt b (k + 1 + 0) = qt k := by unfold topO; rw [if_pos (by omega)]; rfl
    exact y_bad (yd_2 h (by rw [ht]; omega) s1 s2) (by omega) hb s3 s4 h3 h4
  | m + 1, qs, qn, hn, h => by
    have h1 := yd_drop h (by omega) (hn (k + 1 + m) (by omega) (by omega)) s1 s2 rfl
    exact yd_bad hk hb s1 s2 s3 s4 h3 h4 m _ _ (fun j a b => hn j a (by omega)) h1
theorem yd_badL {tb : Nat → Nat} {n kind d0 m0 b : Nat} {T : Res} {c : Cur} {qs : Nat → Nat} {qn : Nat} {qt : Nat → Nat} {w : Nat} {qo : Int32} {r : Int32} {v : Nat} (h : YD tb n kind d0 m0 b T c qs qn qt w qo) (hl : lbO qt b w r) (hr : ¬ r = -1) (s1 : ¬ isS tb n 42 c = true) (s2 : ¬ isS tb n 47 c = true) (s3 : ¬ isS tb n 43 c = true) (s4 : ¬ isS tb n 45 c = true) (h3 : isS tb n 41 c = true → brno qt b w) (h4 : r = 21 ∨ r = 22 → ¬ isS tb n 44 c = true) : T = .error (1, c.1) := by
  have hl0 := hl
  rcases hl with ⟨e, -⟩ | ⟨k, k1, k2, k3, k4, k5, k6⟩
  · exact absurd e hr
  · obtain ⟨m, rfl⟩ : ∃ m, w = k + 1 + m := ⟨w - (k + 1), by omega⟩
    refine yd_bad k1 ⟨k3, k4⟩ s1 s2 s3 s4 (fun q hs => ?_) (fun q => h4 ?_) m _ _ (fun j a d => k6 j a d) h
    · have := h3 hs r hl0
      rw [k5] at this
      rcases q with q | q | q
      · exact this.1 (by rw [q]; rfl)
      · exact this.2.1 (by rw [q]; rfl)
      · exact this.2.2 (by rw [q]; rfl)
    · rw [k5]
      rcases q with q | q
      · exact Or.inl (by rw [q]; rfl)
      · exact Or.inr (by rw [q]; rfl)
def gE (tb : Nat → Nat) (n kn d0 m0 b : Nat) (T : Res) (o : Except Err Cur) (qs : Nat → Nat) (qn : Nat) (qt : Nat → Nat) (w : Nat) (qo : Int32) : Prop := match o with
  | .error e => T = .error e
  | .ok c => YD tb n kn d0 m0 b T c qs qn qt w qo ∧ ¬ isS tb n 42 c = true ∧ ¬ isS tb n 47 c = true ∧ ¬ isS tb n 43 c = true ∧ ¬ isS tb n 45 c = true
def sE (d0 m0 : Nat) (T : Res) (o : Except Err Cur) (qs : Nat → Nat) (qn : Nat) (qo : Int32) : Prop := match o with
  | .error e => T = .error e
  | .ok c => ∃ k, T = .ok (c, k) ∧ ccO qs m0 qn k ∧ qo = nI (6 - d0)
theorem ya_at {tb : Nat → Nat} {n kn : Nat} {o : Except Err Cur} {pa : Nat} {pd : Int32} {pb : Nat} {pp : Int32} {d0 m0 b : Nat} {T : Res} {qs : Nat → Nat} {qn : Nat} {qt : Nat → Nat} {w : Nat} {qo : Int32} (h : moO tb n o pa pd pb pp) (hb : pb = 0) (hy : yA tb n kn d0 m0 b T o qs qn qt w qo) : YY (Xa tb n kn 0) d0 m0 b T (cuO tb n pa pd) qs qn qt w qo ∧ ¬ topO qt b w = 60 := by
  rw [(mo_ok h hb).1] at hy
  exact hy
theorem ya_e {tb : Nat → Nat} {n kn d0 m0 b : Nat} {T : Res} {o : Except Err Cur} {qs : Nat → Nat} {qn : Nat} {qt : Nat → Nat} {w : Nat} {qo : Int32} (hy : yA tb n kn d0 m0 b T o qs qn qt w qo) : ∀ e, o = .error e → T = .error e := by
  intro e he
  subst he
  exact hy
theorem ge_at {tb : Nat → Nat} {n kn : Nat} {o : Except Err Cur} {pa : Nat} {pd : Int32} {pb : Nat} {pp : Int32} {d0 m0 b : Nat} {T : Res} {qs : Nat → Nat} {qn : Nat} {qt : Nat → Nat} {w : Nat} {qo : Int32} (h : moO tb n o pa pd pb pp) (hb : pb = 0) (hy : gE tb n kn d0 m0 b T o qs qn qt w qo) : YD tb n kn d0 m0 b T (cuO tb n pa pd) qs qn qt w qo ∧ ¬ isS tb n 42 (cuO tb n pa pd) = true ∧ ¬ isS tb n 47 (cuO tb n pa pd) = true ∧ ¬ isS tb n 43 (cuO tb n pa pd) = true ∧ ¬ isS tb n 45 (cuO tb n pa pd) = true := by
  rw [(mo_ok h hb).1] at hy
  exact hy
theorem ge_e {tb : Nat → Nat} {n kn d0 m0 b : Nat} {T : Res} {o : Except Err Cur} {qs : Nat → Nat} {qn : Nat} {qt : Nat → Nat} {w : Nat} {qo : Int32} (hy : gE tb n kn d0 m0 b T o qs qn qt w qo) : ∀ e, o = .error e → T = .error e := by
  intro e he
  subst he
  exact hy
theorem se_of {tb : Nat → Nat} {n kn : Nat} {o : Except Err Cur} {pa : Nat} {pd : Int32} {pb : Nat} {pp : Int32} {d0 m0 b : Nat} {T : Res} {qs : Nat → Nat} {qn : Nat} {qt : Nat → Nat} {w : Nat} {qo : Int32} (h : moO tb n o pa pd pb pp) (he : ∀ e, o = .error e → T = .error e) (hy : pb = 0 → (YD tb n kn d0 m0 b T (cuO tb n pa pd) qs qn qt w qo ∧ w ≤ b ∧ ¬ isS tb n 42 (cuO tb n pa pd) = true ∧ ¬ isS tb n 47 (cuO tb n pa pd) = true ∧ ¬ isS tb n 43 (cuO tb n pa pd) = true ∧ ¬ isS tb n 45 (cuO tb n pa pd) = true)) : sE d0 m0 T o qs qn qo := by
  cases o with
  | error e => exact he e rfl
  | ok c =>
    have hc := mo_cu h rfl
    obtain ⟨h1, h2, h3, h4, h5, h6⟩ := hy hc.1
    have ht : topO qt b w = 0 := by unfold topO; rw [if_neg (by omega)]
    obtain ⟨k, k1, k2, k3⟩ := y_end (yd_2 h1 (by rw [ht]; omega) h3 h4) h2 h5 h6
    exact ⟨k, by rw [hc.2]; exact k1, k2, k3⟩
theorem sg_ok {tb : Nat → Nat} {n b : Nat} {o : Except Err Cur} {c : Cur} {pa : Nat} {pd : Int32} {pb : Nat} {pp : Int32} (hg : o = .ok c) (h : moO tb n (bindR o (signP tb n b)) pa pd pb pp) (hb : pb = 0) : isS tb n b c = true := by
  subst hg
  cases hq : isS tb n b c with
  | true => rfl
  | false =>
    have h2 : moO tb n (signP tb n b c) pa pd pb pp := h
    rw [signP_f (by rw [hq]; decide)] at h2
    have := h2.1
    have : pb = 1 := h2.1
    omega
theorem sg_no {tb : Nat → Nat} {n b : Nat} {o : Except Err Cur} {c : Cur} {pa : Nat} {pd : Int32} {pb : Nat} {pp : Int32} (hg : o = .ok c) (h : moO tb n (bindR o (signP tb n b)) pa pd pb pp) (hb : ¬ pb = 0) : ¬ isS tb n b c = true := fun q => by
  subst hg
  have h2 : moO tb n (signP tb n b c) pa pd pb pp := h
  rw [signP_t q] at h2
  exact hb h2.1
set_option maxHeartbeats 4000000 in
set_option maxRecDepth 100000 in
theorem c_em_qGoesOn (l : Launch) (D : va_G) (cI cJ cC cZ cS : ClassId) (mm : Nat) (g : Nat → Nat) (ta : Nat) (pa : Nat) (pe : Nat) (pd : Int32) (pb : Nat) (pp : Int32) (pf : Int32) (pg : Int32) (pn : Int32) (rt : Int32) (rn : Int32) (cd : Nat) (sn : Int32) (il : Nat) (tk : Int32) (am : Int32) (at_ : Int32) (aa : Int32) (wt : Int32) (wy : Int64) (rm : Nat) (ud : Nat) (nu : Nat) (sd : Int64) (qn : Nat) (qw : Nat) (qo : Int32) (qb : Nat) (qp : Nat) (qa : Int64) (qi : Nat) (oc : Nat) (tb : Nat → Nat) (qs : Nat → Nat) (qt : Nat → Nat) (K : Nat) (n0 : Nat) (a0 : Nat) (kn : Nat) (d0 : Nat) (m0 : Nat) (T : Res) (og : Except Err Cur) (hpa : pa ≤ pe) (hpe : pe ≤ 1600) (hpb : pb ≤ 5) (hpb0 : pb = 0) (hqa : qn + qw + a0 ≤ pa) (hqb : qb ≤ 1700) (hsj : SJ (K + 1) n0 qs qn qt qb qw) (hyA : yA tb pe kn d0 m0 qb T og qs qn qt qw qo) (hO : moO tb pe og pa pd pb pp) (htb : ∀ j, tb j ≤ 255) (hqs : ∀ j, qs j ≤ 20000) (hqt : ∀ j, qt j ≤ 100) : skM l yX12_qGoesOn cX12_qGoesOn 2 (some .boolean) 3 62 0 0 D (skT cI cJ cC cZ cS) [.ref mm] [ro_ mm 12 (mo g (nI ta) (nI pa) (nI pe) pd (nI pb) pp pf pg pn rt rn (nI cd) sn (nI il) tk am at_ aa 0 0 (-1) wt wy 0 (nI rm) (nI ud) (nI nu) sd (nI qn) (nI qw) qo (nI qb) (nI qp) qa (nI qi) (nI oc)), ra_N (g 0) cI 1600 tb, ra_N (g 80) cI 1700 qs, ra_N (g 82) cI 1700 qt] (skI D (skT cI cJ cC cZ cS) (fun (r : Int32) (u : va_W) => ∃ (b : Nat), ∃ (o2 : Except Err Cur), ∃ (pa2 : Nat), ∃ (pb2 : Nat), ∃ (pp2 : Int32), ∃ (qn2 : Nat), ∃ (qw2 : Nat), ∃ (qo2 : Int32), ∃ (qs2 : Nat → Nat), ∃ (qt2 : Nat → Nat), pa ≤ pa2 ∧ pa2 ≤ pe ∧ pb2 ≤ 5 ∧ (b = 0 ∨ (b = 1 ∧ pb2 = 0)) ∧ qn2 + qw2 + a0 ≤ pa2 ∧ (hide (b = 1 → SJ K n0 qs2 qn2 qt2 qb qw2)) ∧ (hide (b = 0 → pb2 = 0 → (SJ (K + 1) n0 qs2 qn2 qt2 qb qw2 ∧ nbr qt2 qb qw2))) ∧ moO tb pe o2 pa2 pd pb2 pp2 ∧ (hide (b = 1 → yO (Xp tb pe kn) d0 m0 qb T o2 qs2 qn2 qt2 qw2 qo2)) ∧ (hide (b = 0 → gE tb pe kn d0 m0 qb T o2 qs2 qn2 qt2 qw2 qo2)) ∧ (hide (pb2 = 0 → kpO qb qt qt2)) ∧ (∀ j, qs2 j ≤ 20000) ∧ (∀ j, qt2 j ≤ 100) ∧ r = nI b ∧ u = [ro_ mm 12 (mo g (nI ta) (nI pa2) (nI pe) pd (nI pb2) pp2 pf pg pn rt rn (nI cd) sn (nI il) tk am at_ aa 0 0 (-1) wt wy 0 (nI rm) (nI ud) (nI nu) sd (nI qn2) (nI qw2) qo2 (nI qb) (nI qp) qa (nI qi) (nI oc)), ra_N (g 0) cI 1600 tb, ra_N (g 80) cI 1700 qs2, ra_N (g 82) cI 1700 qt2])) := by
  refine skM_of pf_X12_qGoesOn (Nat.le_of_ble_eq_true rfl) ?_
  intro p e s m below meth c A ls E hP hD hl
  refine skE_el E (fun hx hb hr hml hlocks hin hown hts hK hA => ?_)
  have hown : s.vm.findClass RX12 = some m.cls := hown
  have hS : va_S A s.heap s.heap [] := va_S.rf
  have hl : lv_has ls 2 [(0, .ref mm)] := hl
  have lp_1 : ∀ (n_2 : Nat) (za : Nat) (zn : Nat) (zw : Nat) (zo : Int32) (zs : Nat → Nat) (zg : Except Err Cur) (H : Heap) (locs : List Loc) (ls : Array Slot), pe - za < n_2 → (∀ j, zs j ≤ 20000) → (moO tb pe zg za pd pb pp) → (pa ≤ za) → (za ≤ pe) → (zn + zw + a0 ≤ za) → (SJ (K + 1) n0 zs zn qt qb zw) → (yA tb pe kn d0 m0 qb T zg zs zn qt zw zo) → va_P D vwCl [ro_ mm 12 (mo g (nI ta) (nI za) (nI pe) pd (nI pb) pp pf pg pn rt rn (nI cd) sn (nI il) tk am at_ aa 0 0 (-1) wt wy 0 (nI rm) (nI ud) (nI nu) sd (nI zn) (nI zw) zo (nI qb) (nI qp) qa (nI qi) (nI oc)), ra_N (g 0) cI 1600 tb, ra_N (g 80) cI 1700 zs, ra_N (g 82) cI 1700 qt] H → va_D A [ro_ mm 12 (mo g (nI ta) (nI za) (nI pe) pd (nI pb) pp pf pg pn rt rn (nI cd) sn (nI il) tk am at_ aa 0 0 (-1) wt wy 0 (nI rm) (nI ud) (nI nu) sd (nI zn) (nI zw) zo (nI qb) (nI qp) qa (nI qi) (nI oc)), ra_N (g 0) cI 1600 tb, ra_N (g 80) cI 1700 zs, ra_N (g 82) cI 1700 qt] → va_S A s.heap H locs → lv_has ls 2 [(0, .ref mm)] → W p l e { frames := 3, cells := 0, slots := 0, locals := 62 } s m ([.ref mm] : List Value).toArray below meth c H locs 0 0 (MQ below (skI D (skT cI cJ cC cZ cS) (fun (r : Int32) (u : va_W) => ∃ (b : Nat), ∃ (o2 : Except Err Cur), ∃ (pa2 : Nat), ∃ (pb2 : Nat), ∃ (pp2 : Int32), ∃ (qn2 : Nat), ∃ (qw2 : Nat), ∃ (qo2 : Int32), ∃ (qs2 : Nat → Nat), ∃ (qt2 : Nat → Nat), pa ≤ pa2 ∧ pa2 ≤ pe ∧ pb2 ≤ 5 ∧ (b = 0 ∨ (b = 1 ∧ pb2 = 0)) ∧ qn2 + qw2 + a0 ≤ pa2 ∧ (hide (b = 1 → SJ K n0 qs2 qn2 qt2 qb qw2)) ∧ (hide (b = 0 → pb2 = 0 → (SJ (K + 1) n0 qs2 qn2 qt2 qb qw2 ∧ nbr qt2 qb qw2))) ∧ moO tb pe o2 pa2 pd pb2 pp2 ∧ (hide (b = 1 → yO (Xp tb pe kn) d0 m0 qb T o2 qs2 qn2 qt2 qw2 qo2)) ∧ (hide (b = 0 → gE tb pe kn d0 m0 qb T o2 qs2 qn2 qt2 qw2 qo2)) ∧ (hide (pb2 = 0 → kpO qb qt qt2)) ∧ (∀ j, qs2 j ≤ 20000) ∧ (∀ j, qt2 j ≤ 100) ∧ r = nI b ∧ u = [ro_ mm 12 (mo g (nI ta) (nI pa2) (nI pe) pd (nI pb2) pp2 pf pg pn rt rn (nI cd) sn (nI il) tk am at_ aa 0 0 (-1) wt wy 0 (nI rm) (nI ud) (nI nu) sd (nI qn2) (nI qw2) qo2 (nI qb) (nI qp) qa (nI qi) (nI oc)), ra_N (g 0) cI 1600 tb, ra_N (g 80) cI 1700 qs2, ra_N (g 82) cI 1700 qt2]) A) ([.ref mm] : List Value).toArray s 0 0 A) (F0 m 0 ls []) := by
    intro n_2
    induction n_2 with
    | zero => intro za zn zw zo zs zg H locs ls hm; exact absurd hm (Nat.not_lt_zero _)
    | succ n_2 ih_lp_1 =>
      intro za zn zw zo zs zg H locs ls hm hzs hzO hza hza2 hzq hzj hzA hP hD hS hl
      refine lv_aload_n hx hb dX12_qGoesOn_0 rfl (lv_at hl 0 rfl) ?_
      refine sk_get (v := .int (nI pb)) (C := RX12) (T := TX12) (N := 92) hx hb hts inlX12 hown hK hP 0 rfl rfl 5 (Nat.le_of_ble_eq_true rfl) w_5_160 rfl dX12_qGoesOn_1 ?_
      refine lv_if_ne (tgt := 122) hx hb dX12_qGoesOn_4 (by decide) (fun c => absurd ((neq pb 0 (by omega) (Nat.le_of_ble_eq_true rfl)).mpr hpb0) c) (fun c_3 => ?_)
      obtain ⟨hg, hpp0, hle0, hpd0⟩ := mo_ok hzO hpb0
      have hA0 := ya_at hzO hpb0 hzA
      have jn_4 : ∀ (zat : Nat) (H : Heap) (locs : List Loc) (ls : Array Slot), (za ≤ zat) → (zat ≤ pe) → (zat = sk tb pe za) → (hide (isS tb pe 41 (cuO tb pe za pd) = true → brno qt qb zw)) → va_P D vwCl [ro_ mm 12 (mo g (nI ta) (nI zat) (nI pe) pd (nI pb) pp pf pg pn rt rn (nI cd) sn (nI il) tk am at_ aa 0 0 (-1) wt wy 0 (nI rm) (nI ud) (nI nu) sd (nI zn) (nI zw) zo (nI qb) (nI qp) qa (nI qi) (nI oc)), ra_N (g 0) cI 1600 tb, ra_N (g 80) cI 1700 zs, ra_N (g 82) cI 1700 qt] H → va_D A [ro_ mm 12 (mo g (nI ta) (nI zat) (nI pe) pd (nI pb) pp pf pg pn rt rn (nI cd) sn (nI il) tk am at_ aa 0 0 (-1) wt wy 0 (nI rm) (nI ud) (nI nu) sd (nI zn) (nI zw) zo (nI qb) (nI qp) qa (nI qi) (nI oc)), ra_N (g 0) cI 1600 tb, ra_N (g 80) cI 1700 zs, ra_N (g 82) cI 1700 qt] → va_S A s.heap H locs → lv_has ls 2 [(0, .ref mm)] → W p l e { frames := 3, cells := 0, slots := 0, locals := 62 } s m ([.ref mm] : List Value).toArray below meth c H locs 0 0 (MQ below (skI D (skT cI cJ cC cZ cS) (fun (r : Int32) (u : va_W) => ∃ (b : Nat), ∃ (o2 : Except Err Cur), ∃ (pa2 : Nat), ∃ (pb2 : Nat), ∃ (pp2 : Int32), ∃ (qn2 : Nat), ∃ (qw2 : Nat), ∃ (qo2 : Int32), ∃ (qs2 : Nat → Nat), ∃ (qt2 : Nat → Nat), pa ≤ pa2 ∧ pa2 ≤ pe ∧ pb2 ≤ 5 ∧ (b = 0 ∨ (b = 1 ∧ pb2 = 0)) ∧ qn2 + qw2 + a0 ≤ pa2 ∧ (hide (b = 1 → SJ K n0 qs2 qn2 qt2 qb qw2)) ∧ (hide (b = 0 → pb2 = 0 → (SJ (K + 1) n0 qs2 qn2 qt2 qb qw2 ∧ nbr qt2 qb qw2))) ∧ moO tb pe o2 pa2 pd pb2 pp2 ∧ (hide (b = 1 → yO (Xp tb pe kn) d0 m0 qb T o2 qs2 qn2 qt2 qw2 qo2)) ∧ (hide (b = 0 → gE tb pe kn d0 m0 qb T o2 qs2 qn2 qt2 qw2 qo2)) ∧ (hide (pb2 = 0 → kpO qb qt qt2)) ∧ (∀ j, qs2 j ≤ 20000) ∧ (∀ j, qt2 j ≤ 100) ∧ r = nI b ∧ u = [ro_ mm 12 (mo g (nI ta) (nI pa2) (nI pe) pd (nI pb2) pp2 pf pg pn rt rn (nI cd) sn (nI il) tk am at_ aa 0 0 (-1) wt wy 0 (nI rm) (nI ud) (nI nu) sd (nI qn2) (nI qw2) qo2 (nI qb) (nI qp) qa (nI qi) (nI oc)), ra_N (g 0) cI 1600 tb, ra_N (g 80) cI 1700 qs2, ra_N (g 82) cI 1700 qt2]) A) ([.ref mm] : List Value).toArray s 0 0 A) (F0 m 122 ls []) := by
        intro zat H locs ls hat1 hat2 hzat hx41 hP hD hS hl
        refine lv_aload_n hx hb dX12_qGoesOn_122 rfl (lv_at hl 0 rfl) ?_
        have hO1 : moO tb pe zg zat pd pb pp := by rw [hzat]; exact mo_look hzO
        have hcz : cuO tb pe zat pd = (cuO tb pe za pd) := by rw [hzat, cuO_sk]
        have hA1 : YY (Xa tb pe kn 0) d0 m0 qb T (cuO tb pe zat pd) zs zn qt zw zo ∧ ¬ topO qt qb zw = 60 := by rw [hcz]; exact hA0
        have hx41b : isS tb pe 41 (cuO tb pe zat pd) = true → brno qt qb zw := by rw [hcz]; exact hx41
        have hg2 : zg = .ok (cuO tb pe zat pd) := (mo_ok hO1 hpb0).1
        have hskt : sk tb pe zat = zat := by rw [hzat, sk_sk]
        have jn_5 : ∀ (zau : Nat) (H : Heap) (locs : List Loc) (ls : Array Slot), (zau = zat + 1) → (zau ≤ pe) → (hide (isS tb pe 42 (cuO tb pe zat pd) = true ∨ isS tb pe 47 (cuO tb pe zat pd) = true)) → (moO tb pe (bindR zg (nxF tb pe)) zau pd pb pp) → va_P D vwCl [ro_ mm 12 (mo g (nI ta) (nI zau) (nI pe) pd (nI pb) pp pf pg pn rt rn (nI cd) sn (nI il) tk am at_ aa 0 0 (-1) wt wy 0 (nI rm) (nI ud) (nI nu) sd (nI zn) (nI zw) zo (nI qb) (nI qp) qa (nI qi) (nI oc)), ra_N (g 0) cI 1600 tb, ra_N (g 80) cI 1700 zs, ra_N (g 82) cI 1700 qt] H → va_D A [ro_ mm 12 (mo g (nI ta) (nI zau) (nI pe) pd (nI pb) pp pf pg pn rt rn (nI cd) sn (nI il) tk am at_ aa 0 0 (-1) wt wy 0 (nI rm) (nI ud) (nI nu) sd (nI zn) (nI zw) zo (nI qb) (nI qp) qa (nI qi) (nI oc)), ra_N (g 0) cI 1600 tb, ra_N (g 80) cI 1700 zs, ra_N (g 82) cI 1700 qt] → va_S A s.heap H locs → lv_has ls 2 [(0, .ref mm)] → W p l e { frames := 3, cells := 0, slots := 0, locals := 62 } s m ([.ref mm] : List Value).toArray below meth c H locs 0 0 (MQ below (skI D (skT cI cJ cC cZ cS) (fun (r : Int32) (u : va_W) => ∃ (b : Nat), ∃ (o2 : Except Err Cur), ∃ (pa2 : Nat), ∃ (pb2 : Nat), ∃ (pp2 : Int32), ∃ (qn2 : Nat), ∃ (qw2 : Nat), ∃ (qo2 : Int32), ∃ (qs2 : Nat → Nat), ∃ (qt2 : Nat → Nat), pa ≤ pa2 ∧ pa2 ≤ pe ∧ pb2 ≤ 5 ∧ (b = 0 ∨ (b = 1 ∧ pb2 = 0)) ∧ qn2 + qw2 + a0 ≤ pa2 ∧ (hide (b = 1 → SJ K n0 qs2 qn2 qt2 qb qw2)) ∧ (hide (b = 0 → pb2 = 0 → (SJ (K + 1) n0 qs2 qn2 qt2 qb qw2 ∧ nbr qt2 qb qw2))) ∧ moO tb pe o2 pa2 pd pb2 pp2 ∧ (hide (b = 1 → yO (Xp tb pe kn) d0 m0 qb T o2 qs2 qn2 qt2 qw2 qo2)) ∧ (hide (b = 0 → gE tb pe kn d0 m0 qb T o2 qs2 qn2 qt2 qw2 qo2)) ∧ (hide (pb2 = 0 → kpO qb qt qt2)) ∧ (∀ j, qs2 j ≤ 20000) ∧ (∀ j, qt2 j ≤ 100) ∧ r = nI b ∧ u = [ro_ mm 12 (mo g (nI ta) (nI pa2) (nI pe) pd (nI pb2) pp2 pf pg pn rt rn (nI cd) sn (nI il) tk am at_ aa 0 0 (-1) wt wy 0 (nI rm) (nI ud) (nI nu) sd (nI qn2) (nI qw2) qo2 (nI qb) (nI qp) qa (nI qi) (nI oc)), ra_N (g 0) cI 1600 tb, ra_N (g 80) cI 1700 qs2, ra_N (g 82) cI 1700 qt2]) A) ([.ref mm] : List Value).toArray s 0 0 A) (F0 m 140 ls []) := by
          intro zau H locs ls hzau1 hzau2 hsj1 hzauO hP hD hS hl
          refine lv_aload_n hx hb dX12_qGoesOn_140 rfl (lv_at hl 0 rfl) ?_
          have hatl : sk tb pe zat < pe := by rw [hskt]; omega
          have hats : sk tb pe zat = zau - 1 := by rw [hskt]; omega
          refine sk_get (v := .ref (g 0)) (C := RX12) (T := TX12) (N := 92) hx hb hts inlX12 hown hK hP 0 rfl rfl 0 (Nat.le_of_ble_eq_true rfl) w_5_155 rfl dX12_qGoesOn_141 ?_
          refine lv_aload_n hx hb dX12_qGoesOn_144 rfl (lv_at hl 0 rfl) ?_
          refine sk_get (v := .int (nI zau)) (C := RX12) (T := TX12) (N := 92) hx hb hts inlX12 hown hK hP 0 rfl rfl 2 (Nat.le_of_ble_eq_true rfl) w_5_157 rfl dX12_qGoesOn_145 ?_
          refine lv_iconst (v := 1) hx hb dX12_qGoesOn_148 ic_1 ?_
          refine lv_isub hx hb dX12_qGoesOn_149 ?_
          refine sk_top (nI (zau - 1)) (nsub zau 1 (by omega)) ?_
          refine va_iald hx hb hK.1 hP 1 0 rfl rfl (vin (zau - 1) 1600 (by omega) (Nat.le_of_ble_eq_true rfl)) dX12_qGoesOn_150 ?_
          refine sk_top (nI (tb (zau - 1))) (nrd tb (zau - 1) (by omega)) ?_
          have hb_6 := htb (zau - 1)
          refine lv_bipush (v := 42) hx hb dX12_qGoesOn_151 (by decide) ?_
          refine lv_icmp_ne (tgt := 160) hx hb dX12_qGoesOn_153 (by decide) (fun c_7 => ?_) (fun c_7 => ?_)
          · have c_7 : ¬ (tb (zau - 1) = 42) := fun h => c_7 ((neq (tb (zau - 1)) 42 (by omega) (Nat.le_of_ble_eq_true rfl)).mpr h)
            have hch : isS tb pe 47 (cuO tb pe zat pd) = true := hsj1.resolve_left (fun hq => by have h9 := (isS_cu.mp hq).2; rw [hats] at h9; omega)
            refine lv_iconst (v := 4) hx hb dX12_qGoesOn_160 ic_4 ?_
            refine lv_istore_n (lv' := [(1, .int 4), (0, .ref mm)]) hx hb dX12_qGoesOn_161 rfl hl (by decide) rfl (fun ls hl => ?_)
            have lp_8 : ∀ (n_9 : Nat) (zn2 : Nat) (zw2 : Nat) (zs2 : Nat → Nat) (H : Heap) (locs : List Loc) (ls : Array Slot), zw2 < n_9 → (∀ j, zs2 j ≤ 20000) → (zn2 + zw2 = zn + zw) → (SJ (K + 1) n0 zs2 zn2 qt qb zw2) → (YM tb pe kn d0 m0 qb T (cuO tb pe zat pd) zs2 zn2 qt zw2 zo) → va_P D vwCl [ro_ mm 12 (mo g (nI ta) (nI zau) (nI pe) pd (nI pb) pp pf pg pn rt rn (nI cd) sn (nI il) tk am at_ aa 0 0 (-1) wt wy 0 (nI rm) (nI ud) (nI nu) sd (nI zn2) (nI zw2) zo (nI qb) (nI qp) qa (nI qi) (nI oc)), ra_N (g 0) cI 1600 tb, ra_N (g 80) cI 1700 zs2, ra_N (g 82) cI 1700 qt] H → va_D A [ro_ mm 12 (mo g (nI ta) (nI zau) (nI pe) pd (nI pb) pp pf pg pn rt rn (nI cd) sn (nI il) tk am at_ aa 0 0 (-1) wt wy 0 (nI rm) (nI ud) (nI nu) sd (nI zn2) (nI zw2) zo (nI qb) (nI qp) qa (nI qi) (nI oc)), ra_N (g 0) cI 1600 tb, ra_N (g 80) cI 1700 zs2, ra_N (g 82) cI 1700 qt] → va_S A s.heap H locs → lv_has ls 2 [(1, .int 4), (0, .ref mm)] → W p l e { frames := 3, cells := 0, slots := 0, locals := 62 } s m ([.ref mm] : List Value).toArray below meth c H locs 0 0 (MQ below (skI D (skT cI cJ cC cZ cS) (fun (r : Int32) (u : va_W) => ∃ (b : Nat), ∃ (o2 : Except Err Cur), ∃ (pa2 : Nat), ∃ (pb2 : Nat), ∃ (pp2 : Int32), ∃ (qn2 : Nat), ∃ (qw2 : Nat), ∃ (qo2 : Int32), ∃ (qs2 : Nat → Nat), ∃ (qt2 : Nat → Nat), pa ≤ pa2 ∧ pa2 ≤ pe ∧ pb2 ≤ 5 ∧ (b = 0 ∨ (b = 1 ∧ pb2 = 0)) ∧ qn2 + qw2 + a0 ≤ pa2 ∧ (hide (b = 1 → SJ K n0 qs2 qn2 qt2 qb qw2)) ∧ (hide (b = 0 → pb2 = 0 → (SJ (K + 1) n0 qs2 qn2 qt2 qb qw2 ∧ nbr qt2 qb qw2))) ∧ moO tb pe o2 pa2 pd pb2 pp2 ∧ (hide (b = 1 → yO (Xp tb pe kn) d0 m0 qb T o2 qs2 qn2 qt2 qw2 qo2)) ∧ (hide (b = 0 → gE tb pe kn d0 m0 qb T o2 qs2 qn2 qt2 qw2 qo2)) ∧ (hide (pb2 = 0 → kpO qb qt qt2)) ∧ (∀ j, qs2 j ≤ 20000) ∧ (∀ j, qt2 j ≤ 100) ∧ r = nI b ∧ u = [ro_ mm 12 (mo g (nI ta) (nI pa2) (nI pe) pd (nI pb2) pp2 pf pg pn rt rn (nI cd) sn (nI il) tk am at_ aa 0 0 (-1) wt wy 0 (nI rm) (nI ud) (nI nu) sd (nI qn2) (nI qw2) qo2 (nI qb) (nI qp) qa (nI qi) (nI oc)), ra_N (g 0) cI 1600 tb, ra_N (g 80) cI 1700 qs2, ra_N (g 82) cI 1700 qt2]) A) ([.ref mm] : List Value).toArray s 0 0 A) (F0 m 162 ls []) := by
              intro n_9
              induction n_9 with
              | zero => intro zn2 zw2 zs2 H locs ls hm; exact absurd hm (Nat.not_lt_zero _)
              | succ n_9 ih_lp_8 =>
                intro zn2 zw2 zs2 H locs ls hm hzs2 hs2 hz2 hz2y hP hD hS hl
                refine lv_aload_n hx hb dX12_qGoesOn_162 rfl (lv_at hl 1 rfl) ?_
                refine lv_iconst (v := 3) hx hb dX12_qGoesOn_163 ic_3 ?_
                refine sk_Vi (q0 := 0) (n := 1) (rest := []) (wr := fmR om_4_9 _) ⟨hx, hb, hml, hown, hts⟩ hl.1 (c_em_qIsOn l D cI cJ cC cZ cS mm g ta zau pe pd pb pp pf pg pn rt rn cd sn il tk am at_ aa wt wy rm ud nu sd zn2 zw2 zo qb qp qa qi oc 3 qt (by omega) (by omega) hqt) w_7_82 w_7_84 w_0_67 w_1_14 w_7_85 hd_X12_qIsOn_1 ⟨⟨(Nat.le_of_ble_eq_true rfl), (Nat.le_of_ble_eq_true rfl)⟩, (Nat.le_of_ble_eq_true rfl), (Nat.le_of_ble_eq_true rfl)⟩ hK hP hD hS hA (fmT om_4_9 0) (fmF om_4_9 0) (fm_C1 rfl rfl) (fm_R rfl rfl) (fm_nT om_4_9 0) (fm_nF om_4_9 0) (fm_di om_4_9 0) rfl rfl rfl rfl (Nat.le_of_ble_eq_true rfl) dX12_qGoesOn_164 (fun r_11 u H locs hw hP hD hS => ?_)
                refine exE hw (fun b_10 hw1 => anE hw1 (fun hb1_12 hw2 => anE hw2 (fun er_14 eu_13 => ?_)))
                clear hw hw1 hw2
                subst er_14
                refine o_mgE (ws' := [ro_ mm 12 (mo g (nI ta) (nI zau) (nI pe) pd (nI pb) pp pf pg pn rt rn (nI cd) sn (nI il) tk am at_ aa 0 0 (-1) wt wy 0 (nI rm) (nI ud) (nI nu) sd (nI zn2) (nI zw2) zo (nI qb) (nI qp) qa (nI qi) (nI oc)), ra_N (g 0) cI 1600 tb, ra_N (g 80) cI 1700 zs2, ra_N (g 82) cI 1700 qt]) eu_13 hP hD rfl (fun hP hD => ?_)
                refine lv_if_ne (tgt := 178) hx hb dX12_qGoesOn_167 (by decide) (fun c_15 => ?_) (fun c_15 => ?_)
                · have c_15 : ¬ (b_10 = 0) := fun h => c_15 ((neq b_10 0 (by omega) (Nat.le_of_ble_eq_true rfl)).mpr h)
                  refine lv_aload_n hx hb dX12_qGoesOn_178 rfl (lv_at hl 1 rfl) ?_
                  refine sk_Vv (q0 := 0) (n := 0) (rest := []) (wr := fmR om_4_b _) ⟨hx, hb, hml, hown, hts⟩ hl.1 (c_em_qDrops l D cI cJ cC cZ cS mm g ta zau pe pd pb pp pf pg pn rt rn cd sn il tk am at_ aa wt wy rm ud nu sd zn2 zw2 zo qb qp qa qi oc zs2 qt (by omega) (by omega) (by omega) hzs2 hqt) w_7_63 w_7_65 w_0_63 w_1_14 w_7_66 hd_X12_qDrops_0 ⟨⟨(Nat.le_of_ble_eq_true rfl), (Nat.le_of_ble_eq_true rfl)⟩, (Nat.le_of_ble_eq_true rfl), (Nat.le_of_ble_eq_true rfl)⟩ hK hP hD hS hA (fmT om_4_b 0) (fmF om_4_b 0) (fm_C1 rfl rfl) (fm_R rfl rfl) (fm_nT om_4_b 0) (fm_nF om_4_b 0) (fm_di om_4_b 0) rfl rfl rfl rfl (Nat.le_of_ble_eq_true rfl) dX12_qGoesOn_179 (fun u H locs hw hP hD hS => ?_)
                  refine exE hw (fun qs2_16 hw1 => anE hw1 (fun hqe_17 hw2 => anE hw2 (fun hqs2_18 eu_19 => ?_)))
                  clear hw hw1 hw2
                  refine o_mgE (ws' := [ro_ mm 12 (mo g (nI ta) (nI zau) (nI pe) pd (nI pb) pp pf pg pn rt rn (nI cd) sn (nI il) tk am at_ aa 0 0 (-1) wt wy 0 (nI rm) (nI ud) (nI nu) sd (nI (zn2 + 1)) (nI (zw2 - 1)) zo (nI qb) (nI qp) qa (nI qi) (nI oc)), ra_N (g 0) cI 1600 tb, ra_N (g 80) cI 1700 qs2_16, ra_N (g 82) cI 1700 qt]) eu_19 hP hD rfl (fun hP hD => ?_)
                  refine lv_goto (tgt := 162) hx hb dX12_qGoesOn_182 (by decide) ?_
                  exact ih_lp_8 (zn2 + 1) (zw2 - 1) qs2_16 _ _ _ (by omega) hqs2_18 (by omega) (SJ_drop hz2 (SJ_top hz2 (by omega) (by omega)) (by omega) hqe_17) (ym_drop hz2y (SJ_top hz2 (by omega) (by omega)) (by omega) hqe_17) hP hD hS (lv_sub hl [0, 1] rfl)
                · have c_15 : b_10 = 0 := (neq b_10 0 (by omega) (Nat.le_of_ble_eq_true rfl)).mp c_15
                  refine lv_aload_n hx hb dX12_qGoesOn_170 rfl (lv_at hl 1 rfl) ?_
                  refine lv_iconst (v := 4) hx hb dX12_qGoesOn_171 ic_4 ?_
                  refine sk_Vi (q0 := 0) (n := 1) (rest := []) (wr := fmR om_4_9 _) ⟨hx, hb, hml, hown, hts⟩ hl.1 (c_em_qIsOn l D cI cJ cC cZ cS mm g ta zau pe pd pb pp pf pg pn rt rn cd sn il tk am at_ aa wt wy rm ud nu sd zn2 zw2 zo qb qp qa qi oc 4 qt (by omega) (by omega) hqt) w_7_82 w_7_84 w_0_67 w_1_14 w_7_85 hd_X12_qIsOn_1 ⟨⟨(Nat.le_of_ble_eq_true rfl), (Nat.le_of_ble_eq_true rfl)⟩, (Nat.le_of_ble_eq_true rfl), (Nat.le_of_ble_eq_true rfl)⟩ hK hP hD hS hA (fmT om_4_9 0) (fmF om_4_9 0) (fm_C1 rfl rfl) (fm_R rfl rfl) (fm_nT om_4_9 0) (fm_nF om_4_9 0) (fm_di om_4_9 0) rfl rfl rfl rfl (Nat.le_of_ble_eq_true rfl) dX12_qGoesOn_172 (fun r_21 u H locs hw hP hD hS => ?_)
                  refine exE hw (fun b_20 hw1 => anE hw1 (fun hb1_22 hw2 => anE hw2 (fun er_24 eu_23 => ?_)))
                  clear hw hw1 hw2
                  subst er_24
                  refine o_mgE (ws' := [ro_ mm 12 (mo g (nI ta) (nI zau) (nI pe) pd (nI pb) pp pf pg pn rt rn (nI cd) sn (nI il) tk am at_ aa 0 0 (-1) wt wy 0 (nI rm) (nI ud) (nI nu) sd (nI zn2) (nI zw2) zo (nI qb) (nI qp) qa (nI qi) (nI oc)), ra_N (g 0) cI 1600 tb, ra_N (g 80) cI 1700 zs2, ra_N (g 82) cI 1700 qt]) eu_23 hP hD rfl (fun hP hD => ?_)
                  refine lv_if_eq (tgt := 185) hx hb dX12_qGoesOn_175 (by decide) (fun c_25 => ?_) (fun c_25 => ?_)
                  · have c_25 : b_20 = 0 := (neq b_20 0 (by omega) (Nat.le_of_ble_eq_true rfl)).mp c_25
                    refine lv_aload_n hx hb dX12_qGoesOn_185 rfl (lv_at hl 1 rfl) ?_
                    refine sk_get (v := .ref (g 82)) (C := RX12) (T := TX12) (N := 92) hx hb hts inlX12 hown hK hP 0 rfl rfl 82 (Nat.le_of_ble_eq_true rfl) w_5_237 rfl dX12_qGoesOn_186 ?_
                    refine lv_aload_n hx hb dX12_qGoesOn_189 rfl (lv_at hl 1 rfl) ?_
                    refine sk_get (v := .int (nI zw2)) (C := RX12) (T := TX12) (N := 92) hx hb hts inlX12 hown hK hP 0 rfl rfl 83 (Nat.le_of_ble_eq_true rfl) w_5_238 rfl dX12_qGoesOn_190 ?_
                    refine lv_iload_n hx hb dX12_qGoesOn_193 rfl (lv_at hl 0 rfl) ?_
                    refine sk_iastB (k := zw2) (v := 4) (B := 100) (ws' := fun f_26 => [ro_ mm 12 (mo g (nI ta) (nI zau) (nI pe) pd (nI pb) pp pf pg pn rt rn (nI cd) sn (nI il) tk am at_ aa 0 0 (-1) wt wy 0 (nI rm) (nI ud) (nI nu) sd (nI zn2) (nI zw2) zo (nI qb) (nI qp) qa (nI qi) (nI oc)), ra_N (g 0) cI 1600 tb, ra_N (g 80) cI 1700 zs2, ra_N (g 82) cI 1700 f_26]) hx hb hK hP hD hS 3 0 rfl rfl (by omega) (by omega) hqt (by omega) (fun _ => rfl) dX12_qGoesOn_194 (fun f_26 H locs hf_27 ef_28 hP hD hS => ?_)
                    refine lv_aload_n hx hb dX12_qGoesOn_195 rfl (lv_at hl 1 rfl) ?_
                    refine lv_dup hx hb dX12_qGoesOn_196 rfl ?_
                    refine sk_get (v := .int (nI zw2)) (C := RX12) (T := TX12) (N := 92) hx hb hts inlX12 hown hK hP 0 rfl rfl 83 (Nat.le_of_ble_eq_true rfl) w_5_238 rfl dX12_qGoesOn_197 ?_
                    refine lv_iconst (v := 1) hx hb dX12_qGoesOn_200 ic_1 ?_
                    refine lv_iadd hx hb dX12_qGoesOn_201 ?_
                    refine sk_top (nI (zw2 + 1)) (nI_add zw2 1) ?_
                    refine sk_put (ws' := [ro_ mm 12 (mo g (nI ta) (nI zau) (nI pe) pd (nI pb) pp pf pg pn rt rn (nI cd) sn (nI il) tk am at_ aa 0 0 (-1) wt wy 0 (nI rm) (nI ud) (nI nu) sd (nI zn2) (nI (zw2 + 1)) zo (nI qb) (nI qp) qa (nI qi) (nI oc)), ra_N (g 0) cI 1600 tb, ra_N (g 80) cI 1700 zs2, ra_N (g 82) cI 1700 f_26]) (C := RX12) (T := TX12) (N := 92) (v := .int (nI (zw2 + 1))) hx hb hts inlX12 tyX12 tyX12_ok nmX12 hown hK hP hD hS 0 rfl rfl 83 (Nat.le_of_ble_eq_true rfl) w_5_238 rfl rfl rfl (Nat.le_of_ble_eq_true rfl) rfl dX12_qGoesOn_202 (fun H locs hP hD hS => ?_)
                    refine lv_iconst (v := 1) hx hb dX12_qGoesOn_205 ic_1 ?_
                    exact sk_iret hx hb hr rfl hlocks hK hP hD hS (⟨1, (bindR zg (nxF tb pe)), zau, pb, pp, zn2, zw2 + 1, zo, zs2, f_26, by omega, hzau2, hpb, by omega, by omega, (fun _ => SJ_push1 hz2 (by omega) ef_28), (fun h => absurd h (by omega)), hzauO, (fun _ => by rw [hg2, ef_28]; exact y_sign (v := 4) (ch := 47) (ym_1 hz2y (by unfold topO; split <;> omega) (by unfold topO; split <;> omega)).1 (ym_1 hz2y (by unfold topO; split <;> omega) (by unfold topO; split <;> omega)).2 (Or.inl ⟨rfl, by decide⟩) hch), (fun h => absurd h (by omega)), (fun _ => kp_up kp_0 (SJ_le hz2) ef_28), hzs2, hf_27, rfl, rfl⟩) (Nat.le_of_ble_eq_true rfl) (Nat.le_of_ble_eq_true rfl) dX12_qGoesOn_206
                  · have c_25 : ¬ (b_20 = 0) := fun h => c_25 ((neq b_20 0 (by omega) (Nat.le_of_ble_eq_true rfl)).mpr h)
                    refine lv_aload_n hx hb dX12_qGoesOn_178 rfl (lv_at hl 1 rfl) ?_
                    refine sk_Vv (q0 := 0) (n := 0) (rest := []) (wr := fmR om_4_b _) ⟨hx, hb, hml, hown, hts⟩ hl.1 (c_em_qDrops l D cI cJ cC cZ cS mm g ta zau pe pd pb pp pf pg pn rt rn cd sn il tk am at_ aa wt wy rm ud nu sd zn2 zw2 zo qb qp qa qi oc zs2 qt (by omega) (by omega) (by omega) hzs2 hqt) w_7_63 w_7_65 w_0_63 w_1_14 w_7_66 hd_X12_qDrops_0 ⟨⟨(Nat.le_of_ble_eq_true rfl), (Nat.le_of_ble_eq_true rfl)⟩, (Nat.le_of_ble_eq_true rfl), (Nat.le_of_ble_eq_true rfl)⟩ hK hP hD hS hA (fmT om_4_b 0) (fmF om_4_b 0) (fm_C1 rfl rfl) (fm_R rfl rfl) (fm_nT om_4_b 0) (fm_nF om_4_b 0) (fm_di om_4_b 0) rfl rfl rfl rfl (Nat.le_of_ble_eq_true rfl) dX12_qGoesOn_179 (fun u H locs hw hP hD hS => ?_)
                    refine exE hw (fun qs2_29 hw1 => anE hw1 (fun hqe_30 hw2 => anE hw2 (fun hqs2_31 eu_32 => ?_)))
                    clear hw hw1 hw2
                    refine o_mgE (ws' := [ro_ mm 12 (mo g (nI ta) (nI zau) (nI pe) pd (nI pb) pp pf pg pn rt rn (nI cd) sn (nI il) tk am at_ aa 0 0 (-1) wt wy 0 (nI rm) (nI ud) (nI nu) sd (nI (zn2 + 1)) (nI (zw2 - 1)) zo (nI qb) (nI qp) qa (nI qi) (nI oc)), ra_N (g 0) cI 1600 tb, ra_N (g 80) cI 1700 qs2_29, ra_N (g 82) cI 1700 qt]) eu_32 hP hD rfl (fun hP hD => ?_)
                    refine lv_goto (tgt := 162) hx hb dX12_qGoesOn_182 (by decide) ?_
                    exact ih_lp_8 (zn2 + 1) (zw2 - 1) qs2_29 _ _ _ (by omega) hqs2_31 (by omega) (SJ_drop hz2 (SJ_top hz2 (by omega) (by omega)) (by omega) hqe_30) (ym_drop hz2y (SJ_top hz2 (by omega) (by omega)) (by omega) hqe_30) hP hD hS (lv_sub hl [0, 1] rfl)
            exact lp_8 (zw + 1) zn zw zs _ _ _ (Nat.lt_succ_self _) hzs (by omega) hzj (ym_0 hA1.1 hA1.2) hP hD hS (lv_sub hl [0, 1] rfl)
          · have c_7 : tb (zau - 1) = 42 := (neq (tb (zau - 1)) 42 (by omega) (Nat.le_of_ble_eq_true rfl)).mp c_7
            have hch : isS tb pe 42 (cuO tb pe zat pd) = true := isS_cu.mpr ⟨hatl, by rw [hats]; omega⟩
            refine lv_iconst (v := 3) hx hb dX12_qGoesOn_156 ic_3 ?_
            refine lv_goto (tgt := 161) hx hb dX12_qGoesOn_157 (by decide) ?_
            refine lv_istore_n (lv' := [(1, .int 3), (0, .ref mm)]) hx hb dX12_qGoesOn_161 rfl hl (by decide) rfl (fun ls hl => ?_)
            have lp_33 : ∀ (n_34 : Nat) (zn2 : Nat) (zw2 : Nat) (zs2 : Nat → Nat) (H : Heap) (locs : List Loc) (ls : Array Slot), zw2 < n_34 → (∀ j, zs2 j ≤ 20000) → (zn2 + zw2 = zn + zw) → (SJ (K + 1) n0 zs2 zn2 qt qb zw2) → (YM tb pe kn d0 m0 qb T (cuO tb pe zat pd) zs2 zn2 qt zw2 zo) → va_P D vwCl [ro_ mm 12 (mo g (nI ta) (nI zau) (nI pe) pd (nI pb) pp pf pg pn rt rn (nI cd) sn (nI il) tk am at_ aa 0 0 (-1) wt wy 0 (nI rm) (nI ud) (nI nu) sd (nI zn2) (nI zw2) zo (nI qb) (nI qp) qa (nI qi) (nI oc)), ra_N (g 0) cI 1600 tb, ra_N (g 80) cI 1700 zs2, ra_N (g 82) cI 1700 qt] H → va_D A [ro_ mm 12 (mo g (nI ta) (nI zau) (nI pe) pd (nI pb) pp pf pg pn rt rn (nI cd) sn (nI il) tk am at_ aa 0 0 (-1) wt wy 0 (nI rm) (nI ud) (nI nu) sd (nI zn2) (nI zw2) zo (nI qb) (nI qp) qa (nI qi) (nI oc)), ra_N (g 0) cI 1600 tb, ra_N (g 80) cI 1700 zs2, ra_N (g 82) cI 1700 qt] → va_S A s.heap H locs → lv_has ls 2 [(1, .int 3), (0, .ref mm)] → W p l e { frames := 3, cells := 0, slots := 0, locals := 62 } s m ([.ref mm] : List Value).toArray below meth c H locs 0 0 (MQ below (skI D (skT cI cJ cC cZ cS) (fun (r : Int32) (u : va_W) => ∃ (b : Nat), ∃ (o2 : Except Err Cur), ∃ (pa2 : Nat), ∃ (pb2 : Nat), ∃ (pp2 : Int32), ∃ (qn2 : Nat), ∃ (qw2 : Nat), ∃ (qo2 : Int32), ∃ (qs2 : Nat → Nat), ∃ (qt2 : Nat → Nat), pa ≤ pa2 ∧ pa2 ≤ pe ∧ pb2 ≤ 5 ∧ (b = 0 ∨ (b = 1 ∧ pb2 = 0)) ∧ qn2 + qw2 + a0 ≤ pa2 ∧ (hide (b = 1 → SJ K n0 qs2 qn2 qt2 qb qw2)) ∧ (hide (b = 0 → pb2 = 0 → (SJ (K + 1) n0 qs2 qn2 qt2 qb qw2 ∧ nbr qt2 qb qw2))) ∧ moO tb pe o2 pa2 pd pb2 pp2 ∧ (hide (b = 1 → yO (Xp tb pe kn) d0 m0 qb T o2 qs2 qn2 qt2 qw2 qo2)) ∧ (hide (b = 0 → gE tb pe kn d0 m0 qb T o2 qs2 qn2 qt2 qw2 qo2)) ∧ (hide (pb2 = 0 → kpO qb qt qt2)) ∧ (∀ j, qs2 j ≤ 20000) ∧ (∀ j, qt2 j ≤ 100) ∧ r = nI b ∧ u = [ro_ mm 12 (mo g (nI ta) (nI pa2) (nI pe) pd (nI pb2) pp2 pf pg pn rt rn (nI cd) sn (nI il) tk am at_ aa 0 0 (-1) wt wy 0 (nI rm) (nI ud) (nI nu) sd (nI qn2) (nI qw2) qo2 (nI qb) (nI qp) qa (nI qi) (nI oc)), ra_N (g 0) cI 1600 tb, ra_N (g 80) cI 1700 qs2, ra_N (g 82) cI 1700 qt2]) A) ([.ref mm] : List Value).toArray s 0 0 A) (F0 m 162 ls []) := by
              intro n_34
              induction n_34 with
              | zero => intro zn2 zw2 zs2 H locs ls hm; exact absurd hm (Nat.not_lt_zero _)
              | succ n_34 ih_lp_33 =>
                intro zn2 zw2 zs2 H locs ls hm hzs2 hs2 hz2 hz2y hP hD hS hl
                refine lv_aload_n hx hb dX12_qGoesOn_162 rfl (lv_at hl 1 rfl) ?_
                refine lv_iconst (v := 3) hx hb dX12_qGoesOn_163 ic_3 ?_
                refine sk_Vi (q0 := 0) (n := 1) (rest := []) (wr := fmR om_4_9 _) ⟨hx, hb, hml, hown, hts⟩ hl.1 (c_em_qIsOn l D cI cJ cC cZ cS mm g ta zau pe pd pb pp pf pg pn rt rn cd sn il tk am at_ aa wt wy rm ud nu sd zn2 zw2 zo qb qp qa qi oc 3 qt (by omega) (by omega) hqt) w_7_82 w_7_84 w_0_67 w_1_14 w_7_85 hd_X12_qIsOn_1 ⟨⟨(Nat.le_of_ble_eq_true rfl), (Nat.le_of_ble_eq_true rfl)⟩, (Nat.le_of_ble_eq_true rfl), (Nat.le_of_ble_eq_true rfl)⟩ hK hP hD hS hA (fmT om_4_9 0) (fmF om_4_9 0) (fm_C1 rfl rfl) (fm_R rfl rfl) (fm_nT om_4_9 0) (fm_nF om_4_9 0) (fm_di om_4_9 0) rfl rfl rfl rfl (Nat.le_of_ble_eq_true rfl) dX12_qGoesOn_164 (fun r_36 u H locs hw hP hD hS => ?_)
                refine exE hw (fun b_35 hw1 => anE hw1 (fun hb1_37 hw2 => anE hw2 (fun er_39 eu_38 => ?_)))
                clear hw hw1 hw2
                subst er_39
                refine o_mgE (ws' := [ro_ mm 12 (mo g (nI ta) (nI zau) (nI pe) pd (nI pb) pp pf pg pn rt rn (nI cd) sn (nI il) tk am at_ aa 0 0 (-1) wt wy 0 (nI rm) (nI ud) (nI nu) sd (nI zn2) (nI zw2) zo (nI qb) (nI qp) qa (nI qi) (nI oc)), ra_N (g 0) cI 1600 tb, ra_N (g 80) cI 1700 zs2, ra_N (g 82) cI 1700 qt]) eu_38 hP hD rfl (fun hP hD => ?_)
                refine lv_if_ne (tgt := 178) hx hb dX12_qGoesOn_167 (by decide) (fun c_40 => ?_) (fun c_40 => ?_)
                · have c_40 : ¬ (b_35 = 0) := fun h => c_40 ((neq b_35 0 (by omega) (Nat.le_of_ble_eq_true rfl)).mpr h)
                  refine lv_aload_n hx hb dX12_qGoesOn_178 rfl (lv_at hl 1 rfl) ?_
                  refine sk_Vv (q0 := 0) (n := 0) (rest := []) (wr := fmR om_4_b _) ⟨hx, hb, hml, hown, hts⟩ hl.1 (c_em_qDrops l D cI cJ cC cZ cS mm g ta zau pe pd pb pp pf pg pn rt rn cd sn il tk am at_ aa wt wy rm ud nu sd zn2 zw2 zo qb qp qa qi oc zs2 qt (by omega) (by omega) (by omega) hzs2 hqt) w_7_63 w_7_65 w_0_63 w_1_14 w_7_66 hd_X12_qDrops_0 ⟨⟨(Nat.le_of_ble_eq_true rfl), (Nat.le_of_ble_eq_true rfl)⟩, (Nat.le_of_ble_eq_true rfl), (Nat.le_of_ble_eq_true rfl)⟩ hK hP hD hS hA (fmT om_4_b 0) (fmF om_4_b 0) (fm_C1 rfl rfl) (fm_R rfl rfl) (fm_nT om_4_b 0) (fm_nF om_4_b 0) (fm_di om_4_b 0) rfl rfl rfl rfl (Nat.le_of_ble_eq_true rfl) dX12_qGoesOn_179 (fun u H locs hw hP hD hS => ?_)
                  refine exE hw (fun qs2_41 hw1 => anE hw1 (fun hqe_42 hw2 => anE hw2 (fun hqs2_43 eu_44 => ?_)))
                  clear hw hw1 hw2
                  refine o_mgE (ws' := [ro_ mm 12 (mo g (nI ta) (nI zau) (nI pe) pd (nI pb) pp pf pg pn rt rn (nI cd) sn (nI il) tk am at_ aa 0 0 (-1) wt wy 0 (nI rm) (nI ud) (nI nu) sd (nI (zn2 + 1)) (nI (zw2 - 1)) zo (nI qb) (nI qp) qa (nI qi) (nI oc)), ra_N (g 0) cI 1600 tb, ra_N (g 80) cI 1700 qs2_41, ra_N (g 82) cI 1700 qt]) eu_44 hP hD rfl (fun hP hD => ?_)
                  refine lv_goto (tgt := 162) hx hb dX12_qGoesOn_182 (by decide) ?_
                  exact ih_lp_33 (zn2 + 1) (zw2 - 1) qs2_41 _ _ _ (by omega) hqs2_43 (by omega) (SJ_drop hz2 (SJ_top hz2 (by omega) (by omega)) (by omega) hqe_42) (ym_drop hz2y (SJ_top hz2 (by omega) (by omega)) (by omega) hqe_42) hP hD hS (lv_sub hl [0, 1] rfl)
                · have c_40 : b_35 = 0 := (neq b_35 0 (by omega) (Nat.le_of_ble_eq_true rfl)).mp c_40
                  refine lv_aload_n hx hb dX12_qGoesOn_170 rfl (lv_at hl 1 rfl) ?_
                  refine lv_iconst (v := 4) hx hb dX12_qGoesOn_171 ic_4 ?_
                  refine sk_Vi (q0 := 0) (n := 1) (rest := []) (wr := fmR om_4_9 _) ⟨hx, hb, hml, hown, hts⟩ hl.1 (c_em_qIsOn l D cI cJ cC cZ cS mm g ta zau pe pd pb pp pf pg pn rt rn cd sn il tk am at_ aa wt wy rm ud nu sd zn2 zw2 zo qb qp qa qi oc 4 qt (by omega) (by omega) hqt) w_7_82 w_7_84 w_0_67 w_1_14 w_7_85 hd_X12_qIsOn_1 ⟨⟨(Nat.le_of_ble_eq_true rfl), (Nat.le_of_ble_eq_true rfl)⟩, (Nat.le_of_ble_eq_true rfl), (Nat.le_of_ble_eq_true rfl)⟩ hK hP hD hS hA (fmT om_4_9 0) (fmF om_4_9 0) (fm_C1 rfl rfl) (fm_R rfl rfl) (fm_nT om_4_9 0) (fm_nF om_4_9 0) (fm_di om_4_9 0) rfl rfl rfl rfl (Nat.le_of_ble_eq_true rfl) dX12_qGoesOn_172 (fun r_46 u H locs hw hP hD hS => ?_)
                  refine exE hw (fun b_45 hw1 => anE hw1 (fun hb1_47 hw2 => anE hw2 (fun er_49 eu_48 => ?_)))
                  clear hw hw1 hw2
                  subst er_49
                  refine o_mgE (ws' := [ro_ mm 12 (mo g (nI ta) (nI zau) (nI pe) pd (nI pb) pp pf pg pn rt rn (nI cd) sn (nI il) tk am at_ aa 0 0 (-1) wt wy 0 (nI rm) (nI ud) (nI nu) sd (nI zn2) (nI zw2) zo (nI qb) (nI qp) qa (nI qi) (nI oc)), ra_N (g 0) cI 1600 tb, ra_N (g 80) cI 1700 zs2, ra_N (g 82) cI 1700 qt]) eu_48 hP hD rfl (fun hP hD => ?_)
                  refine lv_if_eq (tgt := 185) hx hb dX12_qGoesOn_175 (by decide) (fun c_50 => ?_) (fun c_50 => ?_)
                  · have c_50 : b_45 = 0 := (neq b_45 0 (by omega) (Nat.le_of_ble_eq_true rfl)).mp c_50
                    refine lv_aload_n hx hb dX12_qGoesOn_185 rfl (lv_at hl 1 rfl) ?_
                    refine sk_get (v := .ref (g 82)) (C := RX12) (T := TX12) (N := 92) hx hb hts inlX12 hown hK hP 0 rfl rfl 82 (Nat.le_of_ble_eq_true rfl) w_5_237 rfl dX12_qGoesOn_186 ?_
                    refine lv_aload_n hx hb dX12_qGoesOn_189 rfl (lv_at hl 1 rfl) ?_
                    refine sk_get (v := .int (nI zw2)) (C := RX12) (T := TX12) (N := 92) hx hb hts inlX12 hown hK hP 0 rfl rfl 83 (Nat.le_of_ble_eq_true rfl) w_5_238 rfl dX12_qGoesOn_190 ?_
                    refine lv_iload_n hx hb dX12_qGoesOn_193 rfl (lv_at hl 0 rfl) ?_
                    refine sk_iastB (k := zw2) (v := 3) (B := 100) (ws' := fun f_51 => [ro_ mm 12 (mo g (nI ta) (nI zau) (nI pe) pd (nI pb) pp pf pg pn rt rn (nI cd) sn (nI il) tk am at_ aa 0 0 (-1) wt wy 0 (nI rm) (nI ud) (nI nu) sd (nI zn2) (nI zw2) zo (nI qb) (nI qp) qa (nI qi) (nI oc)), ra_N (g 0) cI 1600 tb, ra_N (g 80) cI 1700 zs2, ra_N (g 82) cI 1700 f_51]) hx hb hK hP hD hS 3 0 rfl rfl (by omega) (by omega) hqt (by omega) (fun _ => rfl) dX12_qGoesOn_194 (fun f_51 H locs hf_52 ef_53 hP hD hS => ?_)
                    refine lv_aload_n hx hb dX12_qGoesOn_195 rfl (lv_at hl 1 rfl) ?_
                    refine lv_dup hx hb dX12_qGoesOn_196 rfl ?_
                    refine sk_get (v := .int (nI zw2)) (C := RX12) (T := TX12) (N := 92) hx hb hts inlX12 hown hK hP 0 rfl rfl 83 (Nat.le_of_ble_eq_true rfl) w_5_238 rfl dX12_qGoesOn_197 ?_
                    refine lv_iconst (v := 1) hx hb dX12_qGoesOn_200 ic_1 ?_
                    refine lv_iadd hx hb dX12_qGoesOn_201 ?_
                    refine sk_top (nI (zw2 + 1)) (nI_add zw2 1) ?_
                    refine sk_put (ws' := [ro_ mm 12 (mo g (nI ta) (nI zau) (nI pe) pd (nI pb) pp pf pg pn rt rn (nI cd) sn (nI il) tk am at_ aa 0 0 (-1) wt wy 0 (nI rm) (nI ud) (nI nu) sd (nI zn2) (nI (zw2 + 1)) zo (nI qb) (nI qp) qa (nI qi) (nI oc)), ra_N (g 0) cI 1600 tb, ra_N (g 80) cI 1700 zs2, ra_N (g 82) cI 1700 f_51]) (C := RX12) (T := TX12) (N := 92) (v := .int (nI (zw2 + 1))) hx hb hts inlX12 tyX12 tyX12_ok nmX12 hown hK hP hD hS 0 rfl rfl 83 (Nat.le_of_ble_eq_true rfl) w_5_238 rfl rfl rfl (Nat.le_of_ble_eq_true rfl) rfl dX12_qGoesOn_202 (fun H locs hP hD hS => ?_)
                    refine lv_iconst (v := 1) hx hb dX12_qGoesOn_205 ic_1 ?_
                    exact sk_iret hx hb hr rfl hlocks hK hP hD hS (⟨1, (bindR zg (nxF tb pe)), zau, pb, pp, zn2, zw2 + 1, zo, zs2, f_51, by omega, hzau2, hpb, by omega, by omega, (fun _ => SJ_push1 hz2 (by omega) ef_53), (fun h => absurd h (by omega)), hzauO, (fun _ => by rw [hg2, ef_53]; exact y_sign (v := 3) (ch := 42) (ym_1 hz2y (by unfold topO; split <;> omega) (by unfold topO; split <;> omega)).1 (ym_1 hz2y (by unfold topO; split <;> omega) (by unfold topO; split <;> omega)).2 (Or.inl ⟨rfl, by decide⟩) hch), (fun h => absurd h (by omega)), (fun _ => kp_up kp_0 (SJ_le hz2) ef_53), hzs2, hf_52, rfl, rfl⟩) (Nat.le_of_ble_eq_true rfl) (Nat.le_of_ble_eq_true rfl) dX12_qGoesOn_206
                  · have c_50 : ¬ (b_45 = 0) := fun h => c_50 ((neq b_45 0 (by omega) (Nat.le_of_ble_eq_true rfl)).mpr h)
                    refine lv_aload_n hx hb dX12_qGoesOn_178 rfl (lv_at hl 1 rfl) ?_
                    refine sk_Vv (q0 := 0) (n := 0) (rest := []) (wr := fmR om_4_b _) ⟨hx, hb, hml, hown, hts⟩ hl.1 (c_em_qDrops l D cI cJ cC cZ cS mm g ta zau pe pd pb pp pf pg pn rt rn cd sn il tk am at_ aa wt wy rm ud nu sd zn2 zw2 zo qb qp qa qi oc zs2 qt (by omega) (by omega) (by omega) hzs2 hqt) w_7_63 w_7_65 w_0_63 w_1_14 w_7_66 hd_X12_qDrops_0 ⟨⟨(Nat.le_of_ble_eq_true rfl), (Nat.le_of_ble_eq_true rfl)⟩, (Nat.le_of_ble_eq_true rfl), (Nat.le_of_ble_eq_true rfl)⟩ hK hP hD hS hA (fmT om_4_b 0) (fmF om_4_b 0) (fm_C1 rfl rfl) (fm_R rfl rfl) (fm_nT om_4_b 0) (fm_nF om_4_b 0) (fm_di om_4_b 0) rfl rfl rfl rfl (Nat.le_of_ble_eq_true rfl) dX12_qGoesOn_179 (fun u H locs hw hP hD hS => ?_)
                    refine exE hw (fun qs2_54 hw1 => anE hw1 (fun hqe_55 hw2 => anE hw2 (fun hqs2_56 eu_57 => ?_)))
                    clear hw hw1 hw2
                    refine o_mgE (ws' := [ro_ mm 12 (mo g (nI ta) (nI zau) (nI pe) pd (nI pb) pp pf pg pn rt rn (nI cd) sn (nI il) tk am at_ aa 0 0 (-1) wt wy 0 (nI rm) (nI ud) (nI nu) sd (nI (zn2 + 1)) (nI (zw2 - 1)) zo (nI qb) (nI qp) qa (nI qi) (nI oc)), ra_N (g 0) cI 1600 tb, ra_N (g 80) cI 1700 qs2_54, ra_N (g 82) cI 1700 qt]) eu_57 hP hD rfl (fun hP hD => ?_)
                    refine lv_goto (tgt := 162) hx hb dX12_qGoesOn_182 (by decide) ?_
                    exact ih_lp_33 (zn2 + 1) (zw2 - 1) qs2_54 _ _ _ (by omega) hqs2_56 (by omega) (SJ_drop hz2 (SJ_top hz2 (by omega) (by omega)) (by omega) hqe_55) (ym_drop hz2y (SJ_top hz2 (by omega) (by omega)) (by omega) hqe_55) hP hD hS (lv_sub hl [0, 1] rfl)
            exact lp_33 (zw + 1) zn zw zs _ _ _ (Nat.lt_succ_self _) hzs (by omega) hzj (ym_0 hA1.1 hA1.2) hP hD hS (lv_sub hl [0, 1] rfl)
        have jn_58 : ∀ (zav : Nat) (H : Heap) (locs : List Loc) (ls : Array Slot), (zav = zat + 1) → (zav ≤ pe) → (hide (isS tb pe 43 (cuO tb pe zat pd) = true ∨ isS tb pe 45 (cuO tb pe zat pd) = true)) → (moO tb pe (bindR zg (nxF tb pe)) zav pd pb pp) → va_P D vwCl [ro_ mm 12 (mo g (nI ta) (nI zav) (nI pe) pd (nI pb) pp pf pg pn rt rn (nI cd) sn (nI il) tk am at_ aa 0 0 (-1) wt wy 0 (nI rm) (nI ud) (nI nu) sd (nI zn) (nI zw) zo (nI qb) (nI qp) qa (nI qi) (nI oc)), ra_N (g 0) cI 1600 tb, ra_N (g 80) cI 1700 zs, ra_N (g 82) cI 1700 qt] H → va_D A [ro_ mm 12 (mo g (nI ta) (nI zav) (nI pe) pd (nI pb) pp pf pg pn rt rn (nI cd) sn (nI il) tk am at_ aa 0 0 (-1) wt wy 0 (nI rm) (nI ud) (nI nu) sd (nI zn) (nI zw) zo (nI qb) (nI qp) qa (nI qi) (nI oc)), ra_N (g 0) cI 1600 tb, ra_N (g 80) cI 1700 zs, ra_N (g 82) cI 1700 qt] → va_S A s.heap H locs → lv_has ls 2 [(0, .ref mm)] → W p l e { frames := 3, cells := 0, slots := 0, locals := 62 } s m ([.ref mm] : List Value).toArray below meth c H locs 0 0 (MQ below (skI D (skT cI cJ cC cZ cS) (fun (r : Int32) (u : va_W) => ∃ (b : Nat), ∃ (o2 : Except Err Cur), ∃ (pa2 : Nat), ∃ (pb2 : Nat), ∃ (pp2 : Int32), ∃ (qn2 : Nat), ∃ (qw2 : Nat), ∃ (qo2 : Int32), ∃ (qs2 : Nat → Nat), ∃ (qt2 : Nat → Nat), pa ≤ pa2 ∧ pa2 ≤ pe ∧ pb2 ≤ 5 ∧ (b = 0 ∨ (b = 1 ∧ pb2 = 0)) ∧ qn2 + qw2 + a0 ≤ pa2 ∧ (hide (b = 1 → SJ K n0 qs2 qn2 qt2 qb qw2)) ∧ (hide (b = 0 → pb2 = 0 → (SJ (K + 1) n0 qs2 qn2 qt2 qb qw2 ∧ nbr qt2 qb qw2))) ∧ moO tb pe o2 pa2 pd pb2 pp2 ∧ (hide (b = 1 → yO (Xp tb pe kn) d0 m0 qb T o2 qs2 qn2 qt2 qw2 qo2)) ∧ (hide (b = 0 → gE tb pe kn d0 m0 qb T o2 qs2 qn2 qt2 qw2 qo2)) ∧ (hide (pb2 = 0 → kpO qb qt qt2)) ∧ (∀ j, qs2 j ≤ 20000) ∧ (∀ j, qt2 j ≤ 100) ∧ r = nI b ∧ u = [ro_ mm 12 (mo g (nI ta) (nI pa2) (nI pe) pd (nI pb2) pp2 pf pg pn rt rn (nI cd) sn (nI il) tk am at_ aa 0 0 (-1) wt wy 0 (nI rm) (nI ud) (nI nu) sd (nI qn2) (nI qw2) qo2 (nI qb) (nI qp) qa (nI qi) (nI oc)), ra_N (g 0) cI 1600 tb, ra_N (g 80) cI 1700 qs2, ra_N (g 82) cI 1700 qt2]) A) ([.ref mm] : List Value).toArray s 0 0 A) (F0 m 225 ls []) := by
          intro zav H locs ls hzav1 hzav2 hsj2_ hzavO hP hD hS hl
          refine lv_aload_n hx hb dX12_qGoesOn_225 rfl (lv_at hl 0 rfl) ?_
          have hatl : sk tb pe zat < pe := by rw [hskt]; omega
          have hats : sk tb pe zat = zav - 1 := by rw [hskt]; omega
          refine sk_get (v := .ref (g 0)) (C := RX12) (T := TX12) (N := 92) hx hb hts inlX12 hown hK hP 0 rfl rfl 0 (Nat.le_of_ble_eq_true rfl) w_5_155 rfl dX12_qGoesOn_226 ?_
          refine lv_aload_n hx hb dX12_qGoesOn_229 rfl (lv_at hl 0 rfl) ?_
          refine sk_get (v := .int (nI zav)) (C := RX12) (T := TX12) (N := 92) hx hb hts inlX12 hown hK hP 0 rfl rfl 2 (Nat.le_of_ble_eq_true rfl) w_5_157 rfl dX12_qGoesOn_230 ?_
          refine lv_iconst (v := 1) hx hb dX12_qGoesOn_233 ic_1 ?_
          refine lv_isub hx hb dX12_qGoesOn_234 ?_
          refine sk_top (nI (zav - 1)) (nsub zav 1 (by omega)) ?_
          refine va_iald hx hb hK.1 hP 1 0 rfl rfl (vin (zav - 1) 1600 (by omega) (Nat.le_of_ble_eq_true rfl)) dX12_qGoesOn_235 ?_
          refine sk_top (nI (tb (zav - 1))) (nrd tb (zav - 1) (by omega)) ?_
          have hb_59 := htb (zav - 1)
          refine lv_bipush (v := 43) hx hb dX12_qGoesOn_236 (by decide) ?_
          refine lv_icmp_ne (tgt := 245) hx hb dX12_qGoesOn_238 (by decide) (fun c_60 => ?_) (fun c_60 => ?_)
          · have c_60 : ¬ (tb (zav - 1) = 43) := fun h => c_60 ((neq (tb (zav - 1)) 43 (by omega) (Nat.le_of_ble_eq_true rfl)).mpr h)
            have hch : isS tb pe 45 (cuO tb pe zat pd) = true := hsj2_.resolve_left (fun hq => by have h9 := (isS_cu.mp hq).2; rw [hats] at h9; omega)
            have hn42 : ¬ isS tb pe 42 (cuO tb pe zat pd) = true := isS_not hch (by decide)
            have hn47 : ¬ isS tb pe 47 (cuO tb pe zat pd) = true := isS_not hch (by decide)
            refine lv_iconst (v := 2) hx hb dX12_qGoesOn_245 ic_2 ?_
            refine lv_istore_n (lv' := [(1, .int 2), (0, .ref mm)]) hx hb dX12_qGoesOn_246 rfl hl (by decide) rfl (fun ls hl => ?_)
            have lp_61 : ∀ (n_62 : Nat) (zn2 : Nat) (zw2 : Nat) (zs2 : Nat → Nat) (H : Heap) (locs : List Loc) (ls : Array Slot), zw2 < n_62 → (∀ j, zs2 j ≤ 20000) → (zn2 + zw2 = zn + zw) → (SJ (K + 1) n0 zs2 zn2 qt qb zw2) → (YD tb pe kn d0 m0 qb T (cuO tb pe zat pd) zs2 zn2 qt zw2 zo) → va_P D vwCl [ro_ mm 12 (mo g (nI ta) (nI zav) (nI pe) pd (nI pb) pp pf pg pn rt rn (nI cd) sn (nI il) tk am at_ aa 0 0 (-1) wt wy 0 (nI rm) (nI ud) (nI nu) sd (nI zn2) (nI zw2) zo (nI qb) (nI qp) qa (nI qi) (nI oc)), ra_N (g 0) cI 1600 tb, ra_N (g 80) cI 1700 zs2, ra_N (g 82) cI 1700 qt] H → va_D A [ro_ mm 12 (mo g (nI ta) (nI zav) (nI pe) pd (nI pb) pp pf pg pn rt rn (nI cd) sn (nI il) tk am at_ aa 0 0 (-1) wt wy 0 (nI rm) (nI ud) (nI nu) sd (nI zn2) (nI zw2) zo (nI qb) (nI qp) qa (nI qi) (nI oc)), ra_N (g 0) cI 1600 tb, ra_N (g 80) cI 1700 zs2, ra_N (g 82) cI 1700 qt] → va_S A s.heap H locs → lv_has ls 2 [(1, .int 2), (0, .ref mm)] → W p l e { frames := 3, cells := 0, slots := 0, locals := 62 } s m ([.ref mm] : List Value).toArray below meth c H locs 0 0 (MQ below (skI D (skT cI cJ cC cZ cS) (fun (r : Int32) (u : va_W) => ∃ (b : Nat), ∃ (o2 : Except Err Cur), ∃ (pa2 : Nat), ∃ (pb2 : Nat), ∃ (pp2 : Int32), ∃ (qn2 : Nat), ∃ (qw2 : Nat), ∃ (qo2 : Int32), ∃ (qs2 : Nat → Nat), ∃ (qt2 : Nat → Nat), pa ≤ pa2 ∧ pa2 ≤ pe ∧ pb2 ≤ 5 ∧ (b = 0 ∨ (b = 1 ∧ pb2 = 0)) ∧ qn2 + qw2 + a0 ≤ pa2 ∧ (hide (b = 1 → SJ K n0 qs2 qn2 qt2 qb qw2)) ∧ (hide (b = 0 → pb2 = 0 → (SJ (K + 1) n0 qs2 qn2 qt2 qb qw2 ∧ nbr qt2 qb qw2))) ∧ moO tb pe o2 pa2 pd pb2 pp2 ∧ (hide (b = 1 → yO (Xp tb pe kn) d0 m0 qb T o2 qs2 qn2 qt2 qw2 qo2)) ∧ (hide (b = 0 → gE tb pe kn d0 m0 qb T o2 qs2 qn2 qt2 qw2 qo2)) ∧ (hide (pb2 = 0 → kpO qb qt qt2)) ∧ (∀ j, qs2 j ≤ 20000) ∧ (∀ j, qt2 j ≤ 100) ∧ r = nI b ∧ u = [ro_ mm 12 (mo g (nI ta) (nI pa2) (nI pe) pd (nI pb2) pp2 pf pg pn rt rn (nI cd) sn (nI il) tk am at_ aa 0 0 (-1) wt wy 0 (nI rm) (nI ud) (nI nu) sd (nI qn2) (nI qw2) qo2 (nI qb) (nI qp) qa (nI qi) (nI oc)), ra_N (g 0) cI 1600 tb, ra_N (g 80) cI 1700 qs2, ra_N (g 82) cI 1700 qt2]) A) ([.ref mm] : List Value).toArray s 0 0 A) (F0 m 247 ls []) := by
              intro n_62
              induction n_62 with
              | zero => intro zn2 zw2 zs2 H locs ls hm; exact absurd hm (Nat.not_lt_zero _)
              | succ n_62 ih_lp_61 =>
                intro zn2 zw2 zs2 H locs ls hm hzs2 hs2 hz2 hz2y hP hD hS hl
                refine lv_aload_n hx hb dX12_qGoesOn_247 rfl (lv_at hl 1 rfl) ?_
                refine lv_iconst (v := 3) hx hb dX12_qGoesOn_248 ic_3 ?_
                refine sk_Vi (q0 := 0) (n := 1) (rest := []) (wr := fmR om_4_9 _) ⟨hx, hb, hml, hown, hts⟩ hl.1 (c_em_qIsOn l D cI cJ cC cZ cS mm g ta zav pe pd pb pp pf pg pn rt rn cd sn il tk am at_ aa wt wy rm ud nu sd zn2 zw2 zo qb qp qa qi oc 3 qt (by omega) (by omega) hqt) w_7_82 w_7_84 w_0_67 w_1_14 w_7_85 hd_X12_qIsOn_1 ⟨⟨(Nat.le_of_ble_eq_true rfl), (Nat.le_of_ble_eq_true rfl)⟩, (Nat.le_of_ble_eq_true rfl), (Nat.le_of_ble_eq_true rfl)⟩ hK hP hD hS hA (fmT om_4_9 0) (fmF om_4_9 0) (fm_C1 rfl rfl) (fm_R rfl rfl) (fm_nT om_4_9 0) (fm_nF om_4_9 0) (fm_di om_4_9 0) rfl rfl rfl rfl (Nat.le_of_ble_eq_true rfl) dX12_qGoesOn_249 (fun r_64 u H locs hw hP hD hS => ?_)
                refine exE hw (fun b_63 hw1 => anE hw1 (fun hb1_65 hw2 => anE hw2 (fun er_67 eu_66 => ?_)))
                clear hw hw1 hw2
                subst er_67
                refine o_mgE (ws' := [ro_ mm 12 (mo g (nI ta) (nI zav) (nI pe) pd (nI pb) pp pf pg pn rt rn (nI cd) sn (nI il) tk am at_ aa 0 0 (-1) wt wy 0 (nI rm) (nI ud) (nI nu) sd (nI zn2) (nI zw2) zo (nI qb) (nI qp) qa (nI qi) (nI oc)), ra_N (g 0) cI 1600 tb, ra_N (g 80) cI 1700 zs2, ra_N (g 82) cI 1700 qt]) eu_66 hP hD rfl (fun hP hD => ?_)
                refine lv_if_ne (tgt := 279) hx hb dX12_qGoesOn_252 (by decide) (fun c_68 => ?_) (fun c_68 => ?_)
                · have c_68 : ¬ (b_63 = 0) := fun h => c_68 ((neq b_63 0 (by omega) (Nat.le_of_ble_eq_true rfl)).mpr h)
                  refine lv_aload_n hx hb dX12_qGoesOn_279 rfl (lv_at hl 1 rfl) ?_
                  refine sk_Vv (q0 := 0) (n := 0) (rest := []) (wr := fmR om_4_b _) ⟨hx, hb, hml, hown, hts⟩ hl.1 (c_em_qDrops l D cI cJ cC cZ cS mm g ta zav pe pd pb pp pf pg pn rt rn cd sn il tk am at_ aa wt wy rm ud nu sd zn2 zw2 zo qb qp qa qi oc zs2 qt (by omega) (by omega) (by omega) hzs2 hqt) w_7_63 w_7_65 w_0_63 w_1_14 w_7_66 hd_X12_qDrops_0 ⟨⟨(Nat.le_of_ble_eq_true rfl), (Nat.le_of_ble_eq_true rfl)⟩, (Nat.le_of_ble_eq_true rfl), (Nat.le_of_ble_eq_true rfl)⟩ hK hP hD hS hA (fmT om_4_b 0) (fmF om_4_b 0) (fm_C1 rfl rfl) (fm_R rfl rfl) (fm_nT om_4_b 0) (fm_nF om_4_b 0) (fm_di om_4_b 0) rfl rfl rfl rfl (Nat.le_of_ble_eq_true rfl) dX12_qGoesOn_280 (fun u H locs hw hP hD hS => ?_)
                  refine exE hw (fun qs2_69 hw1 => anE hw1 (fun hqe_70 hw2 => anE hw2 (fun hqs2_71 eu_72 => ?_)))
                  clear hw hw1 hw2
                  refine o_mgE (ws' := [ro_ mm 12 (mo g (nI ta) (nI zav) (nI pe) pd (nI pb) pp pf pg pn rt rn (nI cd) sn (nI il) tk am at_ aa 0 0 (-1) wt wy 0 (nI rm) (nI ud) (nI nu) sd (nI (zn2 + 1)) (nI (zw2 - 1)) zo (nI qb) (nI qp) qa (nI qi) (nI oc)), ra_N (g 0) cI 1600 tb, ra_N (g 80) cI 1700 qs2_69, ra_N (g 82) cI 1700 qt]) eu_72 hP hD rfl (fun hP hD => ?_)
                  refine lv_goto (tgt := 247) hx hb dX12_qGoesOn_283 (by decide) ?_
                  exact ih_lp_61 (zn2 + 1) (zw2 - 1) qs2_69 _ _ _ (by omega) hqs2_71 (by omega) (SJ_drop hz2 (SJ_top hz2 (by omega) (by omega)) (by omega) hqe_70) (yd_drop hz2y (SJ_top hz2 (by omega) (by omega)) (by omega) hn42 hn47 hqe_70) hP hD hS (lv_sub hl [0, 1] rfl)
                · have c_68 : b_63 = 0 := (neq b_63 0 (by omega) (Nat.le_of_ble_eq_true rfl)).mp c_68
                  refine lv_aload_n hx hb dX12_qGoesOn_255 rfl (lv_at hl 1 rfl) ?_
                  refine lv_iconst (v := 4) hx hb dX12_qGoesOn_256 ic_4 ?_
                  refine sk_Vi (q0 := 0) (n := 1) (rest := []) (wr := fmR om_4_9 _) ⟨hx, hb, hml, hown, hts⟩ hl.1 (c_em_qIsOn l D cI cJ cC cZ cS mm g ta zav pe pd pb pp pf pg pn rt rn cd sn il tk am at_ aa wt wy rm ud nu sd zn2 zw2 zo qb qp qa qi oc 4 qt (by omega) (by omega) hqt) w_7_82 w_7_84 w_0_67 w_1_14 w_7_85 hd_X12_qIsOn_1 ⟨⟨(Nat.le_of_ble_eq_true rfl), (Nat.le_of_ble_eq_true rfl)⟩, (Nat.le_of_ble_eq_true rfl), (Nat.le_of_ble_eq_true rfl)⟩ hK hP hD hS hA (fmT om_4_9 0) (fmF om_4_9 0) (fm_C1 rfl rfl) (fm_R rfl rfl) (fm_nT om_4_9 0) (fm_nF om_4_9 0) (fm_di om_4_9 0) rfl rfl rfl rfl (Nat.le_of_ble_eq_true rfl) dX12_qGoesOn_257 (fun r_74 u H locs hw hP hD hS => ?_)
                  refine exE hw (fun b_73 hw1 => anE hw1 (fun hb1_75 hw2 => anE hw2 (fun er_77 eu_76 => ?_)))
                  clear hw hw1 hw2
                  subst er_77
                  refine o_mgE (ws' := [ro_ mm 12 (mo g (nI ta) (nI zav) (nI pe) pd (nI pb) pp pf pg pn rt rn (nI cd) sn (nI il) tk am at_ aa 0 0 (-1) wt wy 0 (nI rm) (nI ud) (nI nu) sd (nI zn2) (nI zw2) zo (nI qb) (nI qp) qa (nI qi) (nI oc)), ra_N (g 0) cI 1600 tb, ra_N (g 80) cI 1700 zs2, ra_N (g 82) cI 1700 qt]) eu_76 hP hD rfl (fun hP hD => ?_)
                  refine lv_if_ne (tgt := 279) hx hb dX12_qGoesOn_260 (by decide) (fun c_78 => ?_) (fun c_78 => ?_)
                  · have c_78 : ¬ (b_73 = 0) := fun h => c_78 ((neq b_73 0 (by omega) (Nat.le_of_ble_eq_true rfl)).mpr h)
                    refine lv_aload_n hx hb dX12_qGoesOn_279 rfl (lv_at hl 1 rfl) ?_
                    refine sk_Vv (q0 := 0) (n := 0) (rest := []) (wr := fmR om_4_b _) ⟨hx, hb, hml, hown, hts⟩ hl.1 (c_em_qDrops l D cI cJ cC cZ cS mm g ta zav pe pd pb pp pf pg pn rt rn cd sn il tk am at_ aa wt wy rm ud nu sd zn2 zw2 zo qb qp qa qi oc zs2 qt (by omega) (by omega) (by omega) hzs2 hqt) w_7_63 w_7_65 w_0_63 w_1_14 w_7_66 hd_X12_qDrops_0 ⟨⟨(Nat.le_of_ble_eq_true rfl), (Nat.le_of_ble_eq_true rfl)⟩, (Nat.le_of_ble_eq_true rfl), (Nat.le_of_ble_eq_true rfl)⟩ hK hP hD hS hA (fmT om_4_b 0) (fmF om_4_b 0) (fm_C1 rfl rfl) (fm_R rfl rfl) (fm_nT om_4_b 0) (fm_nF om_4_b 0) (fm_di om_4_b 0) rfl rfl rfl rfl (Nat.le_of_ble_eq_true rfl) dX12_qGoesOn_280 (fun u H locs hw hP hD hS => ?_)
                    refine exE hw (fun qs2_79 hw1 => anE hw1 (fun hqe_80 hw2 => anE hw2 (fun hqs2_81 eu_82 => ?_)))
                    clear hw hw1 hw2
                    refine o_mgE (ws' := [ro_ mm 12 (mo g (nI ta) (nI zav) (nI pe) pd (nI pb) pp pf pg pn rt rn (nI cd) sn (nI il) tk am at_ aa 0 0 (-1) wt wy 0 (nI rm) (nI ud) (nI nu) sd (nI (zn2 + 1)) (nI (zw2 - 1)) zo (nI qb) (nI qp) qa (nI qi) (nI oc)), ra_N (g 0) cI 1600 tb, ra_N (g 80) cI 1700 qs2_79, ra_N (g 82) cI 1700 qt]) eu_82 hP hD rfl (fun hP hD => ?_)
                    refine lv_goto (tgt := 247) hx hb dX12_qGoesOn_283 (by decide) ?_
                    exact ih_lp_61 (zn2 + 1) (zw2 - 1) qs2_79 _ _ _ (by omega) hqs2_81 (by omega) (SJ_drop hz2 (SJ_top hz2 (by omega) (by omega)) (by omega) hqe_80) (yd_drop hz2y (SJ_top hz2 (by omega) (by omega)) (by omega) hn42 hn47 hqe_80) hP hD hS (lv_sub hl [0, 1] rfl)
                  · have c_78 : b_73 = 0 := (neq b_73 0 (by omega) (Nat.le_of_ble_eq_true rfl)).mp c_78
                    refine lv_aload_n hx hb dX12_qGoesOn_263 rfl (lv_at hl 1 rfl) ?_
                    refine lv_iconst (v := 1) hx hb dX12_qGoesOn_264 ic_1 ?_
                    refine sk_Vi (q0 := 0) (n := 1) (rest := []) (wr := fmR om_4_9 _) ⟨hx, hb, hml, hown, hts⟩ hl.1 (c_em_qIsOn l D cI cJ cC cZ cS mm g ta zav pe pd pb pp pf pg pn rt rn cd sn il tk am at_ aa wt wy rm ud nu sd zn2 zw2 zo qb qp qa qi oc 1 qt (by omega) (by omega) hqt) w_7_82 w_7_84 w_0_67 w_1_14 w_7_85 hd_X12_qIsOn_1 ⟨⟨(Nat.le_of_ble_eq_true rfl), (Nat.le_of_ble_eq_true rfl)⟩, (Nat.le_of_ble_eq_true rfl), (Nat.le_of_ble_eq_true rfl)⟩ hK hP hD hS hA (fmT om_4_9 0) (fmF om_4_9 0) (fm_C1 rfl rfl) (fm_R rfl rfl) (fm_nT om_4_9 0) (fm_nF om_4_9 0) (fm_di om_4_9 0) rfl rfl rfl rfl (Nat.le_of_ble_eq_true rfl) dX12_qGoesOn_265 (fun r_84 u H locs hw hP hD hS => ?_)
                    refine exE hw (fun b_83 hw1 => anE hw1 (fun hb1_85 hw2 => anE hw2 (fun er_87 eu_86 => ?_)))
                    clear hw hw1 hw2
                    subst er_87
                    refine o_mgE (ws' := [ro_ mm 12 (mo g (nI ta) (nI zav) (nI pe) pd (nI pb) pp pf pg pn rt rn (nI cd) sn (nI il) tk am at_ aa 0 0 (-1) wt wy 0 (nI rm) (nI ud) (nI nu) sd (nI zn2) (nI zw2) zo (nI qb) (nI qp) qa (nI qi) (nI oc)), ra_N (g 0) cI 1600 tb, ra_N (g 80) cI 1700 zs2, ra_N (g 82) cI 1700 qt]) eu_86 hP hD rfl (fun hP hD => ?_)
                    refine lv_if_ne (tgt := 279) hx hb dX12_qGoesOn_268 (by decide) (fun c_88 => ?_) (fun c_88 => ?_)
                    · have c_88 : ¬ (b_83 = 0) := fun h => c_88 ((neq b_83 0 (by omega) (Nat.le_of_ble_eq_true rfl)).mpr h)
                      refine lv_aload_n hx hb dX12_qGoesOn_279 rfl (lv_at hl 1 rfl) ?_
                      refine sk_Vv (q0 := 0) (n := 0) (rest := []) (wr := fmR om_4_b _) ⟨hx, hb, hml, hown, hts⟩ hl.1 (c_em_qDrops l D cI cJ cC cZ cS mm g ta zav pe pd pb pp pf pg pn rt rn cd sn il tk am at_ aa wt wy rm ud nu sd zn2 zw2 zo qb qp qa qi oc zs2 qt (by omega) (by omega) (by omega) hzs2 hqt) w_7_63 w_7_65 w_0_63 w_1_14 w_7_66 hd_X12_qDrops_0 ⟨⟨(Nat.le_of_ble_eq_true rfl), (Nat.le_of_ble_eq_true rfl)⟩, (Nat.le_of_ble_eq_true rfl), (Nat.le_of_ble_eq_true rfl)⟩ hK hP hD hS hA (fmT om_4_b 0) (fmF om_4_b 0) (fm_C1 rfl rfl) (fm_R rfl rfl) (fm_nT om_4_b 0) (fm_nF om_4_b 0) (fm_di om_4_b 0) rfl rfl rfl rfl (Nat.le_of_ble_eq_true rfl) dX12_qGoesOn_280 (fun u H locs hw hP hD hS => ?_)
                      refine exE hw (fun qs2_89 hw1 => anE hw1 (fun hqe_90 hw2 => anE hw2 (fun hqs2_91 eu_92 => ?_)))
                      clear hw hw1 hw2
                      refine o_mgE (ws' := [ro_ mm 12 (mo g (nI ta) (nI zav) (nI pe) pd (nI pb) pp pf pg pn rt rn (nI cd) sn (nI il) tk am at_ aa 0 0 (-1) wt wy 0 (nI rm) (nI ud) (nI nu) sd (nI (zn2 + 1)) (nI (zw2 - 1)) zo (nI qb) (nI qp) qa (nI qi) (nI oc)), ra_N (g 0) cI 1600 tb, ra_N (g 80) cI 1700 qs2_89, ra_N (g 82) cI 1700 qt]) eu_92 hP hD rfl (fun hP hD => ?_)
                      refine lv_goto (tgt := 247) hx hb dX12_qGoesOn_283 (by decide) ?_
                      exact ih_lp_61 (zn2 + 1) (zw2 - 1) qs2_89 _ _ _ (by omega) hqs2_91 (by omega) (SJ_drop hz2 (SJ_top hz2 (by omega) (by omega)) (by omega) hqe_90) (yd_drop hz2y (SJ_top hz2 (by omega) (by omega)) (by omega) hn42 hn47 hqe_90) hP hD hS (lv_sub hl [0, 1] rfl)
                    · have c_88 : b_83 = 0 := (neq b_83 0 (by omega) (Nat.le_of_ble_eq_true rfl)).mp c_88
                      refine lv_aload_n hx hb dX12_qGoesOn_271 rfl (lv_at hl 1 rfl) ?_
                      refine lv_iconst (v := 2) hx hb dX12_qGoesOn_272 ic_2 ?_
                      refine sk_Vi (q0 := 0) (n := 1) (rest := []) (wr := fmR om_4_9 _) ⟨hx, hb, hml, hown, hts⟩ hl.1 (c_em_qIsOn l D cI cJ cC cZ cS mm g ta zav pe pd pb pp pf pg pn rt rn cd sn il tk am at_ aa wt wy rm ud nu sd zn2 zw2 zo qb qp qa qi oc 2 qt (by omega) (by omega) hqt) w_7_82 w_7_84 w_0_67 w_1_14 w_7_85 hd_X12_qIsOn_1 ⟨⟨(Nat.le_of_ble_eq_true rfl), (Nat.le_of_ble_eq_true rfl)⟩, (Nat.le_of_ble_eq_true rfl), (Nat.le_of_ble_eq_true rfl)⟩ hK hP hD hS hA (fmT om_4_9 0) (fmF om_4_9 0) (fm_C1 rfl rfl) (fm_R rfl rfl) (fm_nT om_4_9 0) (fm_nF om_4_9 0) (fm_di om_4_9 0) rfl rfl rfl rfl (Nat.le_of_ble_eq_true rfl) dX12_qGoesOn_273 (fun r_94 u H locs hw hP hD hS => ?_)
                      refine exE hw (fun b_93 hw1 => anE hw1 (fun hb1_95 hw2 => anE hw2 (fun er_97 eu_96 => ?_)))
                      clear hw hw1 hw2
                      subst er_97
                      refine o_mgE (ws' := [ro_ mm 12 (mo g (nI ta) (nI zav) (nI pe) pd (nI pb) pp pf pg pn rt rn (nI cd) sn (nI il) tk am at_ aa 0 0 (-1) wt wy 0 (nI rm) (nI ud) (nI nu) sd (nI zn2) (nI zw2) zo (nI qb) (nI qp) qa (nI qi) (nI oc)), ra_N (g 0) cI 1600 tb, ra_N (g 80) cI 1700 zs2, ra_N (g 82) cI 1700 qt]) eu_96 hP hD rfl (fun hP hD => ?_)
                      refine lv_if_eq (tgt := 286) hx hb dX12_qGoesOn_276 (by decide) (fun c_98 => ?_) (fun c_98 => ?_)
                      · have c_98 : b_93 = 0 := (neq b_93 0 (by omega) (Nat.le_of_ble_eq_true rfl)).mp c_98
                        refine lv_aload_n hx hb dX12_qGoesOn_286 rfl (lv_at hl 1 rfl) ?_
                        refine sk_get (v := .ref (g 82)) (C := RX12) (T := TX12) (N := 92) hx hb hts inlX12 hown hK hP 0 rfl rfl 82 (Nat.le_of_ble_eq_true rfl) w_5_237 rfl dX12_qGoesOn_287 ?_
                        refine lv_aload_n hx hb dX12_qGoesOn_290 rfl (lv_at hl 1 rfl) ?_
                        refine sk_get (v := .int (nI zw2)) (C := RX12) (T := TX12) (N := 92) hx hb hts inlX12 hown hK hP 0 rfl rfl 83 (Nat.le_of_ble_eq_true rfl) w_5_238 rfl dX12_qGoesOn_291 ?_
                        refine lv_iload_n hx hb dX12_qGoesOn_294 rfl (lv_at hl 0 rfl) ?_
                        refine sk_iastB (k := zw2) (v := 2) (B := 100) (ws' := fun f_99 => [ro_ mm 12 (mo g (nI ta) (nI zav) (nI pe) pd (nI pb) pp pf pg pn rt rn (nI cd) sn (nI il) tk am at_ aa 0 0 (-1) wt wy 0 (nI rm) (nI ud) (nI nu) sd (nI zn2) (nI zw2) zo (nI qb) (nI qp) qa (nI qi) (nI oc)), ra_N (g 0) cI 1600 tb, ra_N (g 80) cI 1700 zs2, ra_N (g 82) cI 1700 f_99]) hx hb hK hP hD hS 3 0 rfl rfl (by omega) (by omega) hqt (by omega) (fun _ => rfl) dX12_qGoesOn_295 (fun f_99 H locs hf_100 ef_101 hP hD hS => ?_)
                        refine lv_aload_n hx hb dX12_qGoesOn_296 rfl (lv_at hl 1 rfl) ?_
                        refine lv_dup hx hb dX12_qGoesOn_297 rfl ?_
                        refine sk_get (v := .int (nI zw2)) (C := RX12) (T := TX12) (N := 92) hx hb hts inlX12 hown hK hP 0 rfl rfl 83 (Nat.le_of_ble_eq_true rfl) w_5_238 rfl dX12_qGoesOn_298 ?_
                        refine lv_iconst (v := 1) hx hb dX12_qGoesOn_301 ic_1 ?_
                        refine lv_iadd hx hb dX12_qGoesOn_302 ?_
                        refine sk_top (nI (zw2 + 1)) (nI_add zw2 1) ?_
                        refine sk_put (ws' := [ro_ mm 12 (mo g (nI ta) (nI zav) (nI pe) pd (nI pb) pp pf pg pn rt rn (nI cd) sn (nI il) tk am at_ aa 0 0 (-1) wt wy 0 (nI rm) (nI ud) (nI nu) sd (nI zn2) (nI (zw2 + 1)) zo (nI qb) (nI qp) qa (nI qi) (nI oc)), ra_N (g 0) cI 1600 tb, ra_N (g 80) cI 1700 zs2, ra_N (g 82) cI 1700 f_99]) (C := RX12) (T := TX12) (N := 92) (v := .int (nI (zw2 + 1))) hx hb hts inlX12 tyX12 tyX12_ok nmX12 hown hK hP hD hS 0 rfl rfl 83 (Nat.le_of_ble_eq_true rfl) w_5_238 rfl rfl rfl (Nat.le_of_ble_eq_true rfl) rfl dX12_qGoesOn_303 (fun H locs hP hD hS => ?_)
                        refine lv_iconst (v := 1) hx hb dX12_qGoesOn_306 ic_1 ?_
                        exact sk_iret hx hb hr rfl hlocks hK hP hD hS (⟨1, (bindR zg (nxF tb pe)), zav, pb, pp, zn2, zw2 + 1, zo, zs2, f_99, by omega, hzav2, hpb, by omega, by omega, (fun _ => SJ_push1 hz2 (by omega) ef_101), (fun h => absurd h (by omega)), hzavO, (fun _ => by rw [hg2, ef_101]; exact y_sign (v := 2) (ch := 45) (show YY (Xa tb pe kn 2) d0 m0 qb T (cuO tb pe zat pd) zs2 zn2 qt zw2 zo ∧ phO 2 (topO qt qb zw2) from ⟨yd_2 hz2y ⟨(by unfold topO; split <;> omega), (by unfold topO; split <;> omega), (by unfold topO; split <;> omega), (by unfold topO; split <;> omega)⟩ hn42 hn47, by have h9 := yd_ph hz2y; have h8 := (show ¬ topO qt qb zw2 = 1 by unfold topO; split <;> omega); have h7 := (show ¬ topO qt qb zw2 = 2 by unfold topO; split <;> omega); have h6 := (show ¬ topO qt qb zw2 = 3 by unfold topO; split <;> omega); have h5 := (show ¬ topO qt qb zw2 = 4 by unfold topO; split <;> omega); unfold phO; omega⟩).1 (show YY (Xa tb pe kn 2) d0 m0 qb T (cuO tb pe zat pd) zs2 zn2 qt zw2 zo ∧ phO 2 (topO qt qb zw2) from ⟨yd_2 hz2y ⟨(by unfold topO; split <;> omega), (by unfold topO; split <;> omega), (by unfold topO; split <;> omega), (by unfold topO; split <;> omega)⟩ hn42 hn47, by have h9 := yd_ph hz2y; have h8 := (show ¬ topO qt qb zw2 = 1 by unfold topO; split <;> omega); have h7 := (show ¬ topO qt qb zw2 = 2 by unfold topO; split <;> omega); have h6 := (show ¬ topO qt qb zw2 = 3 by unfold topO; split <;> omega); have h5 := (show ¬ topO qt qb zw2 = 4 by unfold topO; split <;> omega); unfold phO; omega⟩).2 (Or.inr ⟨rfl, by decide⟩) hch), (fun h => absurd h (by omega)), (fun _ => kp_up kp_0 (SJ_le hz2) ef_101), hzs2, hf_100, rfl, rfl⟩) (Nat.le_of_ble_eq_true rfl) (Nat.le_of_ble_eq_true rfl) dX12_qGoesOn_307
                      · have c_98 : ¬ (b_93 = 0) := fun h => c_98 ((neq b_93 0 (by omega) (Nat.le_of_ble_eq_true rfl)).mpr h)
                        refine lv_aload_n hx hb dX12_qGoesOn_279 rfl (lv_at hl 1 rfl) ?_
                        refine sk_Vv (q0 := 0) (n := 0) (rest := []) (wr := fmR om_4_b _) ⟨hx, hb, hml, hown, hts⟩ hl.1 (c_em_qDrops l D cI cJ cC cZ cS mm g ta zav pe pd pb pp pf pg pn rt rn cd sn il tk am at_ aa wt wy rm ud nu sd zn2 zw2 zo qb qp qa qi oc zs2 qt (by omega) (by omega) (by omega) hzs2 hqt) w_7_63 w_7_65 w_0_63 w_1_14 w_7_66 hd_X12_qDrops_0 ⟨⟨(Nat.le_of_ble_eq_true rfl), (Nat.le_of_ble_eq_true rfl)⟩, (Nat.le_of_ble_eq_true rfl), (Nat.le_of_ble_eq_true rfl)⟩ hK hP hD hS hA (fmT om_4_b 0) (fmF om_4_b 0) (fm_C1 rfl rfl) (fm_R rfl rfl) (fm_nT om_4_b 0) (fm_nF om_4_b 0) (fm_di om_4_b 0) rfl rfl rfl rfl (Nat.le_of_ble_eq_true rfl) dX12_qGoesOn_280 (fun u H locs hw hP hD hS => ?_)
                        refine exE hw (fun qs2_102 hw1 => anE hw1 (fun hqe_103 hw2 => anE hw2 (fun hqs2_104 eu_105 => ?_)))
                        clear hw hw1 hw2
                        refine o_mgE (ws' := [ro_ mm 12 (mo g (nI ta) (nI zav) (nI pe) pd (nI pb) pp pf pg pn rt rn (nI cd) sn (nI il) tk am at_ aa 0 0 (-1) wt wy 0 (nI rm) (nI ud) (nI nu) sd (nI (zn2 + 1)) (nI (zw2 - 1)) zo (nI qb) (nI qp) qa (nI qi) (nI oc)), ra_N (g 0) cI 1600 tb, ra_N (g 80) cI 1700 qs2_102, ra_N (g 82) cI 1700 qt]) eu_105 hP hD rfl (fun hP hD => ?_)
                        refine lv_goto (tgt := 247) hx hb dX12_qGoesOn_283 (by decide) ?_
                        exact ih_lp_61 (zn2 + 1) (zw2 - 1) qs2_102 _ _ _ (by omega) hqs2_104 (by omega) (SJ_drop hz2 (SJ_top hz2 (by omega) (by omega)) (by omega) hqe_103) (yd_drop hz2y (SJ_top hz2 (by omega) (by omega)) (by omega) hn42 hn47 hqe_103) hP hD hS (lv_sub hl [0, 1] rfl)
            exact lp_61 (zw + 1) zn zw zs _ _ _ (Nat.lt_succ_self _) hzs (by omega) hzj (yd_0 hA1.1 hA1.2) hP hD hS (lv_sub hl [0, 1] rfl)
          · have c_60 : tb (zav - 1) = 43 := (neq (tb (zav - 1)) 43 (by omega) (Nat.le_of_ble_eq_true rfl)).mp c_60
            have hch : isS tb pe 43 (cuO tb pe zat pd) = true := isS_cu.mpr ⟨hatl, by rw [hats]; omega⟩
            have hn42 : ¬ isS tb pe 42 (cuO tb pe zat pd) = true := isS_not hch (by decide)
            have hn47 : ¬ isS tb pe 47 (cuO tb pe zat pd) = true := isS_not hch (by decide)
            refine lv_iconst (v := 1) hx hb dX12_qGoesOn_241 ic_1 ?_
            refine lv_goto (tgt := 246) hx hb dX12_qGoesOn_242 (by decide) ?_
            refine lv_istore_n (lv' := [(1, .int 1), (0, .ref mm)]) hx hb dX12_qGoesOn_246 rfl hl (by decide) rfl (fun ls hl => ?_)
            have lp_106 : ∀ (n_107 : Nat) (zn2 : Nat) (zw2 : Nat) (zs2 : Nat → Nat) (H : Heap) (locs : List Loc) (ls : Array Slot), zw2 < n_107 → (∀ j, zs2 j ≤ 20000) → (zn2 + zw2 = zn + zw) → (SJ (K + 1) n0 zs2 zn2 qt qb zw2) → (YD tb pe kn d0 m0 qb T (cuO tb pe zat pd) zs2 zn2 qt zw2 zo) → va_P D vwCl [ro_ mm 12 (mo g (nI ta) (nI zav) (nI pe) pd (nI pb) pp pf pg pn rt rn (nI cd) sn (nI il) tk am at_ aa 0 0 (-1) wt wy 0 (nI rm) (nI ud) (nI nu) sd (nI zn2) (nI zw2) zo (nI qb) (nI qp) qa (nI qi) (nI oc)), ra_N (g 0) cI 1600 tb, ra_N (g 80) cI 1700 zs2, ra_N (g 82) cI 1700 qt] H → va_D A [ro_ mm 12 (mo g (nI ta) (nI zav) (nI pe) pd (nI pb) pp pf pg pn rt rn (nI cd) sn (nI il) tk am at_ aa 0 0 (-1) wt wy 0 (nI rm) (nI ud) (nI nu) sd (nI zn2) (nI zw2) zo (nI qb) (nI qp) qa (nI qi) (nI oc)), ra_N (g 0) cI 1600 tb, ra_N (g 80) cI 1700 zs2, ra_N (g 82) cI 1700 qt] → va_S A s.heap H locs → lv_has ls 2 [(1, .int 1), (0, .ref mm)] → W p l e { frames := 3, cells := 0, slots := 0, locals := 62 } s m ([.ref mm] : List Value).toArray below meth c H locs 0 0 (MQ below (skI D (skT cI cJ cC cZ cS) (fun (r : Int32) (u : va_W) => ∃ (b : Nat), ∃ (o2 : Except Err Cur), ∃ (pa2 : Nat), ∃ (pb2 : Nat), ∃ (pp2 : Int32), ∃ (qn2 : Nat), ∃ (qw2 : Nat), ∃ (qo2 : Int32), ∃ (qs2 : Nat → Nat), ∃ (qt2 : Nat → Nat), pa ≤ pa2 ∧ pa2 ≤ pe ∧ pb2 ≤ 5 ∧ (b = 0 ∨ (b = 1 ∧ pb2 = 0)) ∧ qn2 + qw2 + a0 ≤ pa2 ∧ (hide (b = 1 → SJ K n0 qs2 qn2 qt2 qb qw2)) ∧ (hide (b = 0 → pb2 = 0 → (SJ (K + 1) n0 qs2 qn2 qt2 qb qw2 ∧ nbr qt2 qb qw2))) ∧ moO tb pe o2 pa2 pd pb2 pp2 ∧ (hide (b = 1 → yO (Xp tb pe kn) d0 m0 qb T o2 qs2 qn2 qt2 qw2 qo2)) ∧ (hide (b = 0 → gE tb pe kn d0 m0 qb T o2 qs2 qn2 qt2 qw2 qo2)) ∧ (hide (pb2 = 0 → kpO qb qt qt2)) ∧ (∀ j, qs2 j ≤ 20000) ∧ (∀ j, qt2 j ≤ 100) ∧ r = nI b ∧ u = [ro_ mm 12 (mo g (nI ta) (nI pa2) (nI pe) pd (nI pb2) pp2 pf pg pn rt rn (nI cd) sn (nI il) tk am at_ aa 0 0 (-1) wt wy 0 (nI rm) (nI ud) (nI nu) sd (nI qn2) (nI qw2) qo2 (nI qb) (nI qp) qa (nI qi) (nI oc)), ra_N (g 0) cI 1600 tb, ra_N (g 80) cI 1700 qs2, ra_N (g 82) cI 1700 qt2]) A) ([.ref mm] : List Value).toArray s 0 0 A) (F0 m 247 ls []) := by
              intro n_107
              induction n_107 with
              | zero => intro zn2 zw2 zs2 H locs ls hm; exact absurd hm (Nat.not_lt_zero _)
              | succ n_107 ih_lp_106 =>
                intro zn2 zw2 zs2 H locs ls hm hzs2 hs2 hz2 hz2y hP hD hS hl
                refine lv_aload_n hx hb dX12_qGoesOn_247 rfl (lv_at hl 1 rfl) ?_
                refine lv_iconst (v := 3) hx hb dX12_qGoesOn_248 ic_3 ?_
                refine sk_Vi (q0 := 0) (n := 1) (rest := []) (wr := fmR om_4_9 _) ⟨hx, hb, hml, hown, hts⟩ hl.1 (c_em_qIsOn l D cI cJ cC cZ cS mm g ta zav pe pd pb pp pf pg pn rt rn cd sn il tk am at_ aa wt wy rm ud nu sd zn2 zw2 zo qb qp qa qi oc 3 qt (by omega) (by omega) hqt) w_7_82 w_7_84 w_0_67 w_1_14 w_7_85 hd_X12_qIsOn_1 ⟨⟨(Nat.le_of_ble_eq_true rfl), (Nat.le_of_ble_eq_true rfl)⟩, (Nat.le_of_ble_eq_true rfl), (Nat.le_of_ble_eq_true rfl)⟩ hK hP hD hS hA (fmT om_4_9 0) (fmF om_4_9 0) (fm_C1 rfl rfl) (fm_R rfl rfl) (fm_nT om_4_9 0) (fm_nF om_4_9 0) (fm_di om_4_9 0) rfl rfl rfl rfl (Nat.le_of_ble_eq_true rfl) dX12_qGoesOn_249 (fun r_109 u H locs hw hP hD hS => ?_)
                refine exE hw (fun b_108 hw1 => anE hw1 (fun hb1_110 hw2 => anE hw2 (fun er_112 eu_111 => ?_)))
                clear hw hw1 hw2
                subst er_112
                refine o_mgE (ws' := [ro_ mm 12 (mo g (nI ta) (nI zav) (nI pe) pd (nI pb) pp pf pg pn rt rn (nI cd) sn (nI il) tk am at_ aa 0 0 (-1) wt wy 0 (nI rm) (nI ud) (nI nu) sd (nI zn2) (nI zw2) zo (nI qb) (nI qp) qa (nI qi) (nI oc)), ra_N (g 0) cI 1600 tb, ra_N (g 80) cI 1700 zs2, ra_N (g 82) cI 1700 qt]) eu_111 hP hD rfl (fun hP hD => ?_)
                refine lv_if_ne (tgt := 279) hx hb dX12_qGoesOn_252 (by decide) (fun c_113 => ?_) (fun c_113 => ?_)
                · have c_113 : ¬ (b_108 = 0) := fun h => c_113 ((neq b_108 0 (by omega) (Nat.le_of_ble_eq_true rfl)).mpr h)
                  refine lv_aload_n hx hb dX12_qGoesOn_279 rfl (lv_at hl 1 rfl) ?_
                  refine sk_Vv (q0 := 0) (n := 0) (rest := []) (wr := fmR om_4_b _) ⟨hx, hb, hml, hown, hts⟩ hl.1 (c_em_qDrops l D cI cJ cC cZ cS mm g ta zav pe pd pb pp pf pg pn rt rn cd sn il tk am at_ aa wt wy rm ud nu sd zn2 zw2 zo qb qp qa qi oc zs2 qt (by omega) (by omega) (by omega) hzs2 hqt) w_7_63 w_7_65 w_0_63 w_1_14 w_7_66 hd_X12_qDrops_0 ⟨⟨(Nat.le_of_ble_eq_true rfl), (Nat.le_of_ble_eq_true rfl)⟩, (Nat.le_of_ble_eq_true rfl), (Nat.le_of_ble_eq_true rfl)⟩ hK hP hD hS hA (fmT om_4_b 0) (fmF om_4_b 0) (fm_C1 rfl rfl) (fm_R rfl rfl) (fm_nT om_4_b 0) (fm_nF om_4_b 0) (fm_di om_4_b 0) rfl rfl rfl rfl (Nat.le_of_ble_eq_true rfl) dX12_qGoesOn_280 (fun u H locs hw hP hD hS => ?_)
                  refine exE hw (fun qs2_114 hw1 => anE hw1 (fun hqe_115 hw2 => anE hw2 (fun hqs2_116 eu_117 => ?_)))
                  clear hw hw1 hw2
                  refine o_mgE (ws' := [ro_ mm 12 (mo g (nI ta) (nI zav) (nI pe) pd (nI pb) pp pf pg pn rt rn (nI cd) sn (nI il) tk am at_ aa 0 0 (-1) wt wy 0 (nI rm) (nI ud) (nI nu) sd (nI (zn2 + 1)) (nI (zw2 - 1)) zo (nI qb) (nI qp) qa (nI qi) (nI oc)), ra_N (g 0) cI 1600 tb, ra_N (g 80) cI 1700 qs2_114, ra_N (g 82) cI 1700 qt]) eu_117 hP hD rfl (fun hP hD => ?_)
                  refine lv_goto (tgt := 247) hx hb dX12_qGoesOn_283 (by decide) ?_
                  exact ih_lp_106 (zn2 + 1) (zw2 - 1) qs2_114 _ _ _ (by omega) hqs2_116 (by omega) (SJ_drop hz2 (SJ_top hz2 (by omega) (by omega)) (by omega) hqe_115) (yd_drop hz2y (SJ_top hz2 (by omega) (by omega)) (by omega) hn42 hn47 hqe_115) hP hD hS (lv_sub hl [0, 1] rfl)
                · have c_113 : b_108 = 0 := (neq b_108 0 (by omega) (Nat.le_of_ble_eq_true rfl)).mp c_113
                  refine lv_aload_n hx hb dX12_qGoesOn_255 rfl (lv_at hl 1 rfl) ?_
                  refine lv_iconst (v := 4) hx hb dX12_qGoesOn_256 ic_4 ?_
                  refine sk_Vi (q0 := 0) (n := 1) (rest := []) (wr := fmR om_4_9 _) ⟨hx, hb, hml, hown, hts⟩ hl.1 (c_em_qIsOn l D cI cJ cC cZ cS mm g ta zav pe pd pb pp pf pg pn rt rn cd sn il tk am at_ aa wt wy rm ud nu sd zn2 zw2 zo qb qp qa qi oc 4 qt (by omega) (by omega) hqt) w_7_82 w_7_84 w_0_67 w_1_14 w_7_85 hd_X12_qIsOn_1 ⟨⟨(Nat.le_of_ble_eq_true rfl), (Nat.le_of_ble_eq_true rfl)⟩, (Nat.le_of_ble_eq_true rfl), (Nat.le_of_ble_eq_true rfl)⟩ hK hP hD hS hA (fmT om_4_9 0) (fmF om_4_9 0) (fm_C1 rfl rfl) (fm_R rfl rfl) (fm_nT om_4_9 0) (fm_nF om_4_9 0) (fm_di om_4_9 0) rfl rfl rfl rfl (Nat.le_of_ble_eq_true rfl) dX12_qGoesOn_257 (fun r_119 u H locs hw hP hD hS => ?_)
                  refine exE hw (fun b_118 hw1 => anE hw1 (fun hb1_120 hw2 => anE hw2 (fun er_122 eu_121 => ?_)))
                  clear hw hw1 hw2
                  subst er_122
                  refine o_mgE (ws' := [ro_ mm 12 (mo g (nI ta) (nI zav) (nI pe) pd (nI pb) pp pf pg pn rt rn (nI cd) sn (nI il) tk am at_ aa 0 0 (-1) wt wy 0 (nI rm) (nI ud) (nI nu) sd (nI zn2) (nI zw2) zo (nI qb) (nI qp) qa (nI qi) (nI oc)), ra_N (g 0) cI 1600 tb, ra_N (g 80) cI 1700 zs2, ra_N (g 82) cI 1700 qt]) eu_121 hP hD rfl (fun hP hD => ?_)
                  refine lv_if_ne (tgt := 279) hx hb dX12_qGoesOn_260 (by decide) (fun c_123 => ?_) (fun c_123 => ?_)
                  · have c_123 : ¬ (b_118 = 0) := fun h => c_123 ((neq b_118 0 (by omega) (Nat.le_of_ble_eq_true rfl)).mpr h)
                    refine lv_aload_n hx hb dX12_qGoesOn_279 rfl (lv_at hl 1 rfl) ?_
                    refine sk_Vv (q0 := 0) (n := 0) (rest := []) (wr := fmR om_4_b _) ⟨hx, hb, hml, hown, hts⟩ hl.1 (c_em_qDrops l D cI cJ cC cZ cS mm g ta zav pe pd pb pp pf pg pn rt rn cd sn il tk am at_ aa wt wy rm ud nu sd zn2 zw2 zo qb qp qa qi oc zs2 qt (by omega) (by omega) (by omega) hzs2 hqt) w_7_63 w_7_65 w_0_63 w_1_14 w_7_66 hd_X12_qDrops_0 ⟨⟨(Nat.le_of_ble_eq_true rfl), (Nat.le_of_ble_eq_true rfl)⟩, (Nat.le_of_ble_eq_true rfl), (Nat.le_of_ble_eq_true rfl)⟩ hK hP hD hS hA (fmT om_4_b 0) (fmF om_4_b 0) (fm_C1 rfl rfl) (fm_R rfl rfl) (fm_nT om_4_b 0) (fm_nF om_4_b 0) (fm_di om_4_b 0) rfl rfl rfl rfl (Nat.le_of_ble_eq_true rfl) dX12_qGoesOn_280 (fun u H locs hw hP hD hS => ?_)
                    refine exE hw (fun qs2_124 hw1 => anE hw1 (fun hqe_125 hw2 => anE hw2 (fun hqs2_126 eu_127 => ?_)))
                    clear hw hw1 hw2
                    refine o_mgE (ws' := [ro_ mm 12 (mo g (nI ta) (nI zav) (nI pe) pd (nI pb) pp pf pg pn rt rn (nI cd) sn (nI il) tk am at_ aa 0 0 (-1) wt wy 0 (nI rm) (nI ud) (nI nu) sd (nI (zn2 + 1)) (nI (zw2 - 1)) zo (nI qb) (nI qp) qa (nI qi) (nI oc)), ra_N (g 0) cI 1600 tb, ra_N (g 80) cI 1700 qs2_124, ra_N (g 82) cI 1700 qt]) eu_127 hP hD rfl (fun hP hD => ?_)
                    refine lv_goto (tgt := 247) hx hb dX12_qGoesOn_283 (by decide) ?_
                    exact ih_lp_106 (zn2 + 1) (zw2 - 1) qs2_124 _ _ _ (by omega) hqs2_126 (by omega) (SJ_drop hz2 (SJ_top hz2 (by omega) (by omega)) (by omega) hqe_125) (yd_drop hz2y (SJ_top hz2 (by omega) (by omega)) (by omega) hn42 hn47 hqe_125) hP hD hS (lv_sub hl [0, 1] rfl)
                  · have c_123 : b_118 = 0 := (neq b_118 0 (by omega) (Nat.le_of_ble_eq_true rfl)).mp c_123
                    refine lv_aload_n hx hb dX12_qGoesOn_263 rfl (lv_at hl 1 rfl) ?_
                    refine lv_iconst (v := 1) hx hb dX12_qGoesOn_264 ic_1 ?_
                    refine sk_Vi (q0 := 0) (n := 1) (rest := []) (wr := fmR om_4_9 _) ⟨hx, hb, hml, hown, hts⟩ hl.1 (c_em_qIsOn l D cI cJ cC cZ cS mm g ta zav pe pd pb pp pf pg pn rt rn cd sn il tk am at_ aa wt wy rm ud nu sd zn2 zw2 zo qb qp qa qi oc 1 qt (by omega) (by omega) hqt) w_7_82 w_7_84 w_0_67 w_1_14 w_7_85 hd_X12_qIsOn_1 ⟨⟨(Nat.le_of_ble_eq_true rfl), (Nat.le_of_ble_eq_true rfl)⟩, (Nat.le_of_ble_eq_true rfl), (Nat.le_of_ble_eq_true rfl)⟩ hK hP hD hS hA (fmT om_4_9 0) (fmF om_4_9 0) (fm_C1 rfl rfl) (fm_R rfl rfl) (fm_nT om_4_9 0) (fm_nF om_4_9 0) (fm_di om_4_9 0) rfl rfl rfl rfl (Nat.le_of_ble_eq_true rfl) dX12_qGoesOn_265 (fun r_129 u H locs hw hP hD hS => ?_)
                    refine exE hw (fun b_128 hw1 => anE hw1 (fun hb1_130 hw2 => anE hw2 (fun er_132 eu_131 => ?_)))
                    clear hw hw1 hw2
                    subst er_132
                    refine o_mgE (ws' := [ro_ mm 12 (mo g (nI ta) (nI zav) (nI pe) pd (nI pb) pp pf pg pn rt rn (nI cd) sn (nI il) tk am at_ aa 0 0 (-1) wt wy 0 (nI rm) (nI ud) (nI nu) sd (nI zn2) (nI zw2) zo (nI qb) (nI qp) qa (nI qi) (nI oc)), ra_N (g 0) cI 1600 tb, ra_N (g 80) cI 1700 zs2, ra_N (g 82) cI 1700 qt]) eu_131 hP hD rfl (fun hP hD => ?_)
                    refine lv_if_ne (tgt := 279) hx hb dX12_qGoesOn_268 (by decide) (fun c_133 => ?_) (fun c_133 => ?_)
                    · have c_133 : ¬ (b_128 = 0) := fun h => c_133 ((neq b_128 0 (by omega) (Nat.le_of_ble_eq_true rfl)).mpr h)
                      refine lv_aload_n hx hb dX12_qGoesOn_279 rfl (lv_at hl 1 rfl) ?_
                      refine sk_Vv (q0 := 0) (n := 0) (rest := []) (wr := fmR om_4_b _) ⟨hx, hb, hml, hown, hts⟩ hl.1 (c_em_qDrops l D cI cJ cC cZ cS mm g ta zav pe pd pb pp pf pg pn rt rn cd sn il tk am at_ aa wt wy rm ud nu sd zn2 zw2 zo qb qp qa qi oc zs2 qt (by omega) (by omega) (by omega) hzs2 hqt) w_7_63 w_7_65 w_0_63 w_1_14 w_7_66 hd_X12_qDrops_0 ⟨⟨(Nat.le_of_ble_eq_true rfl), (Nat.le_of_ble_eq_true rfl)⟩, (Nat.le_of_ble_eq_true rfl), (Nat.le_of_ble_eq_true rfl)⟩ hK hP hD hS hA (fmT om_4_b 0) (fmF om_4_b 0) (fm_C1 rfl rfl) (fm_R rfl rfl) (fm_nT om_4_b 0) (fm_nF om_4_b 0) (fm_di om_4_b 0) rfl rfl rfl rfl (Nat.le_of_ble_eq_true rfl) dX12_qGoesOn_280 (fun u H locs hw hP hD hS => ?_)
                      refine exE hw (fun qs2_134 hw1 => anE hw1 (fun hqe_135 hw2 => anE hw2 (fun hqs2_136 eu_137 => ?_)))
                      clear hw hw1 hw2
                      refine o_mgE (ws' := [ro_ mm 12 (mo g (nI ta) (nI zav) (nI pe) pd (nI pb) pp pf pg pn rt rn (nI cd) sn (nI il) tk am at_ aa 0 0 (-1) wt wy 0 (nI rm) (nI ud) (nI nu) sd (nI (zn2 + 1)) (nI (zw2 - 1)) zo (nI qb) (nI qp) qa (nI qi) (nI oc)), ra_N (g 0) cI 1600 tb, ra_N (g 80) cI 1700 qs2_134, ra_N (g 82) cI 1700 qt]) eu_137 hP hD rfl (fun hP hD => ?_)
                      refine lv_goto (tgt := 247) hx hb dX12_qGoesOn_283 (by decide) ?_
                      exact ih_lp_106 (zn2 + 1) (zw2 - 1) qs2_134 _ _ _ (by omega) hqs2_136 (by omega) (SJ_drop hz2 (SJ_top hz2 (by omega) (by omega)) (by omega) hqe_135) (yd_drop hz2y (SJ_top hz2 (by omega) (by omega)) (by omega) hn42 hn47 hqe_135) hP hD hS (lv_sub hl [0, 1] rfl)
                    · have c_133 : b_128 = 0 := (neq b_128 0 (by omega) (Nat.le_of_ble_eq_true rfl)).mp c_133
                      refine lv_aload_n hx hb dX12_qGoesOn_271 rfl (lv_at hl 1 rfl) ?_
                      refine lv_iconst (v := 2) hx hb dX12_qGoesOn_272 ic_2 ?_
                      refine sk_Vi (q0 := 0) (n := 1) (rest := []) (wr := fmR om_4_9 _) ⟨hx, hb, hml, hown, hts⟩ hl.1 (c_em_qIsOn l D cI cJ cC cZ cS mm g ta zav pe pd pb pp pf pg pn rt rn cd sn il tk am at_ aa wt wy rm ud nu sd zn2 zw2 zo qb qp qa qi oc 2 qt (by omega) (by omega) hqt) w_7_82 w_7_84 w_0_67 w_1_14 w_7_85 hd_X12_qIsOn_1 ⟨⟨(Nat.le_of_ble_eq_true rfl), (Nat.le_of_ble_eq_true rfl)⟩, (Nat.le_of_ble_eq_true rfl), (Nat.le_of_ble_eq_true rfl)⟩ hK hP hD hS hA (fmT om_4_9 0) (fmF om_4_9 0) (fm_C1 rfl rfl) (fm_R rfl rfl) (fm_nT om_4_9 0) (fm_nF om_4_9 0) (fm_di om_4_9 0) rfl rfl rfl rfl (Nat.le_of_ble_eq_true rfl) dX12_qGoesOn_273 (fun r_139 u H locs hw hP hD hS => ?_)
                      refine exE hw (fun b_138 hw1 => anE hw1 (fun hb1_140 hw2 => anE hw2 (fun er_142 eu_141 => ?_)))
                      clear hw hw1 hw2
                      subst er_142
                      refine o_mgE (ws' := [ro_ mm 12 (mo g (nI ta) (nI zav) (nI pe) pd (nI pb) pp pf pg pn rt rn (nI cd) sn (nI il) tk am at_ aa 0 0 (-1) wt wy 0 (nI rm) (nI ud) (nI nu) sd (nI zn2) (nI zw2) zo (nI qb) (nI qp) qa (nI qi) (nI oc)), ra_N (g 0) cI 1600 tb, ra_N (g 80) cI 1700 zs2, ra_N (g 82) cI 1700 qt]) eu_141 hP hD rfl (fun hP hD => ?_)
                      refine lv_if_eq (tgt := 286) hx hb dX12_qGoesOn_276 (by decide) (fun c_143 => ?_) (fun c_143 => ?_)
                      · have c_143 : b_138 = 0 := (neq b_138 0 (by omega) (Nat.le_of_ble_eq_true rfl)).mp c_143
                        refine lv_aload_n hx hb dX12_qGoesOn_286 rfl (lv_at hl 1 rfl) ?_
                        refine sk_get (v := .ref (g 82)) (C := RX12) (T := TX12) (N := 92) hx hb hts inlX12 hown hK hP 0 rfl rfl 82 (Nat.le_of_ble_eq_true rfl) w_5_237 rfl dX12_qGoesOn_287 ?_
                        refine lv_aload_n hx hb dX12_qGoesOn_290 rfl (lv_at hl 1 rfl) ?_
                        refine sk_get (v := .int (nI zw2)) (C := RX12) (T := TX12) (N := 92) hx hb hts inlX12 hown hK hP 0 rfl rfl 83 (Nat.le_of_ble_eq_true rfl) w_5_238 rfl dX12_qGoesOn_291 ?_
                        refine lv_iload_n hx hb dX12_qGoesOn_294 rfl (lv_at hl 0 rfl) ?_
                        refine sk_iastB (k := zw2) (v := 1) (B := 100) (ws' := fun f_144 => [ro_ mm 12 (mo g (nI ta) (nI zav) (nI pe) pd (nI pb) pp pf pg pn rt rn (nI cd) sn (nI il) tk am at_ aa 0 0 (-1) wt wy 0 (nI rm) (nI ud) (nI nu) sd (nI zn2) (nI zw2) zo (nI qb) (nI qp) qa (nI qi) (nI oc)), ra_N (g 0) cI 1600 tb, ra_N (g 80) cI 1700 zs2, ra_N (g 82) cI 1700 f_144]) hx hb hK hP hD hS 3 0 rfl rfl (by omega) (by omega) hqt (by omega) (fun _ => rfl) dX12_qGoesOn_295 (fun f_144 H locs hf_145 ef_146 hP hD hS => ?_)
                        refine lv_aload_n hx hb dX12_qGoesOn_296 rfl (lv_at hl 1 rfl) ?_
                        refine lv_dup hx hb dX12_qGoesOn_297 rfl ?_
                        refine sk_get (v := .int (nI zw2)) (C := RX12) (T := TX12) (N := 92) hx hb hts inlX12 hown hK hP 0 rfl rfl 83 (Nat.le_of_ble_eq_true rfl) w_5_238 rfl dX12_qGoesOn_298 ?_
                        refine lv_iconst (v := 1) hx hb dX12_qGoesOn_301 ic_1 ?_
                        refine lv_iadd hx hb dX12_qGoesOn_302 ?_
                        refine sk_top (nI (zw2 + 1)) (nI_add zw2 1) ?_
                        refine sk_put (ws' := [ro_ mm 12 (mo g (nI ta) (nI zav) (nI pe) pd (nI pb) pp pf pg pn rt rn (nI cd) sn (nI il) tk am at_ aa 0 0 (-1) wt wy 0 (nI rm) (nI ud) (nI nu) sd (nI zn2) (nI (zw2 + 1)) zo (nI qb) (nI qp) qa (nI qi) (nI oc)), ra_N (g 0) cI 1600 tb, ra_N (g 80) cI 1700 zs2, ra_N (g 82) cI 1700 f_144]) (C := RX12) (T := TX12) (N := 92) (v := .int (nI (zw2 + 1))) hx hb hts inlX12 tyX12 tyX12_ok nmX12 hown hK hP hD hS 0 rfl rfl 83 (Nat.le_of_ble_eq_true rfl) w_5_238 rfl rfl rfl (Nat.le_of_ble_eq_true rfl) rfl dX12_qGoesOn_303 (fun H locs hP hD hS => ?_)
                        refine lv_iconst (v := 1) hx hb dX12_qGoesOn_306 ic_1 ?_
                        exact sk_iret hx hb hr rfl hlocks hK hP hD hS (⟨1, (bindR zg (nxF tb pe)), zav, pb, pp, zn2, zw2 + 1, zo, zs2, f_144, by omega, hzav2, hpb, by omega, by omega, (fun _ => SJ_push1 hz2 (by omega) ef_146), (fun h => absurd h (by omega)), hzavO, (fun _ => by rw [hg2, ef_146]; exact y_sign (v := 1) (ch := 43) (show YY (Xa tb pe kn 2) d0 m0 qb T (cuO tb pe zat pd) zs2 zn2 qt zw2 zo ∧ phO 2 (topO qt qb zw2) from ⟨yd_2 hz2y ⟨(by unfold topO; split <;> omega), (by unfold topO; split <;> omega), (by unfold topO; split <;> omega), (by unfold topO; split <;> omega)⟩ hn42 hn47, by have h9 := yd_ph hz2y; have h8 := (show ¬ topO qt qb zw2 = 1 by unfold topO; split <;> omega); have h7 := (show ¬ topO qt qb zw2 = 2 by unfold topO; split <;> omega); have h6 := (show ¬ topO qt qb zw2 = 3 by unfold topO; split <;> omega); have h5 := (show ¬ topO qt qb zw2 = 4 by unfold topO; split <;> omega); unfold phO; omega⟩).1 (show YY (Xa tb pe kn 2) d0 m0 qb T (cuO tb pe zat pd) zs2 zn2 qt zw2 zo ∧ phO 2 (topO qt qb zw2) from ⟨yd_2 hz2y ⟨(by unfold topO; split <;> omega), (by unfold topO; split <;> omega), (by unfold topO; split <;> omega), (by unfold topO; split <;> omega)⟩ hn42 hn47, by have h9 := yd_ph hz2y; have h8 := (show ¬ topO qt qb zw2 = 1 by unfold topO; split <;> omega); have h7 := (show ¬ topO qt qb zw2 = 2 by unfold topO; split <;> omega); have h6 := (show ¬ topO qt qb zw2 = 3 by unfold topO; split <;> omega); have h5 := (show ¬ topO qt qb zw2 = 4 by unfold topO; split <;> omega); unfold phO; omega⟩).2 (Or.inr ⟨rfl, by decide⟩) hch), (fun h => absurd h (by omega)), (fun _ => kp_up kp_0 (SJ_le hz2) ef_146), hzs2, hf_145, rfl, rfl⟩) (Nat.le_of_ble_eq_true rfl) (Nat.le_of_ble_eq_true rfl) dX12_qGoesOn_307
                      · have c_143 : ¬ (b_138 = 0) := fun h => c_143 ((neq b_138 0 (by omega) (Nat.le_of_ble_eq_true rfl)).mpr h)
                        refine lv_aload_n hx hb dX12_qGoesOn_279 rfl (lv_at hl 1 rfl) ?_
                        refine sk_Vv (q0 := 0) (n := 0) (rest := []) (wr := fmR om_4_b _) ⟨hx, hb, hml, hown, hts⟩ hl.1 (c_em_qDrops l D cI cJ cC cZ cS mm g ta zav pe pd pb pp pf pg pn rt rn cd sn il tk am at_ aa wt wy rm ud nu sd zn2 zw2 zo qb qp qa qi oc zs2 qt (by omega) (by omega) (by omega) hzs2 hqt) w_7_63 w_7_65 w_0_63 w_1_14 w_7_66 hd_X12_qDrops_0 ⟨⟨(Nat.le_of_ble_eq_true rfl), (Nat.le_of_ble_eq_true rfl)⟩, (Nat.le_of_ble_eq_true rfl), (Nat.le_of_ble_eq_true rfl)⟩ hK hP hD hS hA (fmT om_4_b 0) (fmF om_4_b 0) (fm_C1 rfl rfl) (fm_R rfl rfl) (fm_nT om_4_b 0) (fm_nF om_4_b 0) (fm_di om_4_b 0) rfl rfl rfl rfl (Nat.le_of_ble_eq_true rfl) dX12_qGoesOn_280 (fun u H locs hw hP hD hS => ?_)
                        refine exE hw (fun qs2_147 hw1 => anE hw1 (fun hqe_148 hw2 => anE hw2 (fun hqs2_149 eu_150 => ?_)))
                        clear hw hw1 hw2
                        refine o_mgE (ws' := [ro_ mm 12 (mo g (nI ta) (nI zav) (nI pe) pd (nI pb) pp pf pg pn rt rn (nI cd) sn (nI il) tk am at_ aa 0 0 (-1) wt wy 0 (nI rm) (nI ud) (nI nu) sd (nI (zn2 + 1)) (nI (zw2 - 1)) zo (nI qb) (nI qp) qa (nI qi) (nI oc)), ra_N (g 0) cI 1600 tb, ra_N (g 80) cI 1700 qs2_147, ra_N (g 82) cI 1700 qt]) eu_150 hP hD rfl (fun hP hD => ?_)
                        refine lv_goto (tgt := 247) hx hb dX12_qGoesOn_283 (by decide) ?_
                        exact ih_lp_106 (zn2 + 1) (zw2 - 1) qs2_147 _ _ _ (by omega) hqs2_149 (by omega) (SJ_drop hz2 (SJ_top hz2 (by omega) (by omega)) (by omega) hqe_148) (yd_drop hz2y (SJ_top hz2 (by omega) (by omega)) (by omega) hn42 hn47 hqe_148) hP hD hS (lv_sub hl [0, 1] rfl)
            exact lp_106 (zw + 1) zn zw zs _ _ _ (Nat.lt_succ_self _) hzs (by omega) hzj (yd_0 hA1.1 hA1.2) hP hD hS (lv_sub hl [0, 1] rfl)
        refine lv_bipush (v := 42) hx hb dX12_qGoesOn_123 (by decide) ?_
        refine sk_Vi (q0 := 0) (n := 1) (rest := []) (wr := fmR om_4_c _) ⟨hx, hb, hml, hown, hts⟩ hl.1 (c_em_takesSign l D cI cJ cC cZ cS mm g ta zat pe pd pb pp pf pg pn rt rn cd sn il tk am at_ aa wt wy rm ud nu sd zn zw zo qb qp qa qi oc 42 tb zg hat2 hpe hpb (by omega) (by decide) hO1 htb) w_7_7 w_7_9 w_0_49 w_1_14 w_7_10 hd_X12_takesSign_1 ⟨⟨(Nat.le_of_ble_eq_true rfl), (Nat.le_of_ble_eq_true rfl)⟩, (Nat.le_of_ble_eq_true rfl), (Nat.le_of_ble_eq_true rfl)⟩ hK hP hD hS hA (fmT om_4_c 0) (fmF om_4_c 0) (fm_C1 rfl rfl) (fm_R rfl rfl) (fm_nT om_4_c 0) (fm_nF om_4_c 0) (fm_di om_4_c 0) rfl rfl rfl rfl (Nat.le_of_ble_eq_true rfl) dX12_qGoesOn_125 (fun r_153 u H locs hw hP hD hS => ?_)
        refine exE hw (fun b_151 hw1 => exE hw1 (fun pa2_152 hw2 => anE hw2 (fun hpa2_154 hw3 => anE hw3 (fun hpa3_155 hw4 => anE hw4 (fun hb1_156 hw5 => anE hw5 (fun hT_157 hw6 => anE hw6 (fun er_159 eu_158 => ?_)))))))
        clear hw hw1 hw2 hw3 hw4 hw5 hw6
        subst er_159
        refine o_mgE (ws' := [ro_ mm 12 (mo g (nI ta) (nI pa2_152) (nI pe) pd (nI pb) pp pf pg pn rt rn (nI cd) sn (nI il) tk am at_ aa 0 0 (-1) wt wy 0 (nI rm) (nI ud) (nI nu) sd (nI zn) (nI zw) zo (nI qb) (nI qp) qa (nI qi) (nI oc)), ra_N (g 0) cI 1600 tb, ra_N (g 80) cI 1700 zs, ra_N (g 82) cI 1700 qt]) eu_158 hP hD rfl (fun hP hD => ?_)
        refine lv_if_ne (tgt := 140) hx hb dX12_qGoesOn_128 (by decide) (fun c_160 => ?_) (fun c_160 => ?_)
        · have c_160 : ¬ (b_151 = 0) := fun h => c_160 ((neq b_151 0 (by omega) (Nat.le_of_ble_eq_true rfl)).mpr h)
          have hsg := (rr_1 hT_157 (by omega)).2
          exact jn_5 pa2_152 _ _ _ (by rw [hsg.2.2, hskt]) hpa3_155 (Or.inl hsg.1) hsg.2.1 hP hD hS (lv_sub hl [0] rfl)
        · have c_160 : b_151 = 0 := (neq b_151 0 (by omega) (Nat.le_of_ble_eq_true rfl)).mp c_160
          have hn42 : ¬ isS tb pe 42 (cuO tb pe zat pd) = true := ((rr_0 hT_157 (by omega)).1 hpb0).2
          have hO_161 := (rr_0 hT_157 (by omega)).2
          have hcu_162 : cuO tb pe pa2_152 pd = (cuO tb pe zat pd) := mo_two hO_161 hO1 hpb0 hpb0
          refine lv_aload_n hx hb dX12_qGoesOn_131 rfl (lv_at hl 0 rfl) ?_
          refine lv_bipush (v := 47) hx hb dX12_qGoesOn_132 (by decide) ?_
          refine sk_Vi (q0 := 0) (n := 1) (rest := []) (wr := fmR om_4_c _) ⟨hx, hb, hml, hown, hts⟩ hl.1 (c_em_takesSign l D cI cJ cC cZ cS mm g ta pa2_152 pe pd pb pp pf pg pn rt rn cd sn il tk am at_ aa wt wy rm ud nu sd zn zw zo qb qp qa qi oc 47 tb zg hpa3_155 hpe hpb (by omega) (by decide) hO_161 htb) w_7_7 w_7_9 w_0_49 w_1_14 w_7_10 hd_X12_takesSign_1 ⟨⟨(Nat.le_of_ble_eq_true rfl), (Nat.le_of_ble_eq_true rfl)⟩, (Nat.le_of_ble_eq_true rfl), (Nat.le_of_ble_eq_true rfl)⟩ hK hP hD hS hA (fmT om_4_c 0) (fmF om_4_c 0) (fm_C1 rfl rfl) (fm_R rfl rfl) (fm_nT om_4_c 0) (fm_nF om_4_c 0) (fm_di om_4_c 0) rfl rfl rfl rfl (Nat.le_of_ble_eq_true rfl) dX12_qGoesOn_134 (fun r_165 u H locs hw hP hD hS => ?_)
          refine exE hw (fun b_163 hw1 => exE hw1 (fun pa2_164 hw2 => anE hw2 (fun hpa2_166 hw3 => anE hw3 (fun hpa3_167 hw4 => anE hw4 (fun hb1_168 hw5 => anE hw5 (fun hT_169 hw6 => anE hw6 (fun er_171 eu_170 => ?_)))))))
          clear hw hw1 hw2 hw3 hw4 hw5 hw6
          subst er_171
          refine o_mgE (ws' := [ro_ mm 12 (mo g (nI ta) (nI pa2_164) (nI pe) pd (nI pb) pp pf pg pn rt rn (nI cd) sn (nI il) tk am at_ aa 0 0 (-1) wt wy 0 (nI rm) (nI ud) (nI nu) sd (nI zn) (nI zw) zo (nI qb) (nI qp) qa (nI qi) (nI oc)), ra_N (g 0) cI 1600 tb, ra_N (g 80) cI 1700 zs, ra_N (g 82) cI 1700 qt]) eu_170 hP hD rfl (fun hP hD => ?_)
          refine lv_if_eq (tgt := 207) hx hb dX12_qGoesOn_137 (by decide) (fun c_172 => ?_) (fun c_172 => ?_)
          · have c_172 : b_163 = 0 := (neq b_163 0 (by omega) (Nat.le_of_ble_eq_true rfl)).mp c_172
            have hn47 : ¬ isS tb pe 47 (cuO tb pe zat pd) = true := by have h9 := ((rr_0 hT_169 (by omega)).1 hpb0).2; rw [hcu_162] at h9; exact h9
            have hO_173 := (rr_0 hT_169 (by omega)).2
            have hcu_174 : cuO tb pe pa2_164 pd = (cuO tb pe zat pd) := mo_two hO_173 hO1 hpb0 hpb0
            refine lv_aload_n hx hb dX12_qGoesOn_207 rfl (lv_at hl 0 rfl) ?_
            refine lv_bipush (v := 43) hx hb dX12_qGoesOn_208 (by decide) ?_
            refine sk_Vi (q0 := 0) (n := 1) (rest := []) (wr := fmR om_4_c _) ⟨hx, hb, hml, hown, hts⟩ hl.1 (c_em_takesSign l D cI cJ cC cZ cS mm g ta pa2_164 pe pd pb pp pf pg pn rt rn cd sn il tk am at_ aa wt wy rm ud nu sd zn zw zo qb qp qa qi oc 43 tb zg hpa3_167 hpe hpb (by omega) (by decide) hO_173 htb) w_7_7 w_7_9 w_0_49 w_1_14 w_7_10 hd_X12_takesSign_1 ⟨⟨(Nat.le_of_ble_eq_true rfl), (Nat.le_of_ble_eq_true rfl)⟩, (Nat.le_of_ble_eq_true rfl), (Nat.le_of_ble_eq_true rfl)⟩ hK hP hD hS hA (fmT om_4_c 0) (fmF om_4_c 0) (fm_C1 rfl rfl) (fm_R rfl rfl) (fm_nT om_4_c 0) (fm_nF om_4_c 0) (fm_di om_4_c 0) rfl rfl rfl rfl (Nat.le_of_ble_eq_true rfl) dX12_qGoesOn_210 (fun r_177 u H locs hw hP hD hS => ?_)
            refine exE hw (fun b_175 hw1 => exE hw1 (fun pa2_176 hw2 => anE hw2 (fun hpa2_178 hw3 => anE hw3 (fun hpa3_179 hw4 => anE hw4 (fun hb1_180 hw5 => anE hw5 (fun hT_181 hw6 => anE hw6 (fun er_183 eu_182 => ?_)))))))
            clear hw hw1 hw2 hw3 hw4 hw5 hw6
            subst er_183
            refine o_mgE (ws' := [ro_ mm 12 (mo g (nI ta) (nI pa2_176) (nI pe) pd (nI pb) pp pf pg pn rt rn (nI cd) sn (nI il) tk am at_ aa 0 0 (-1) wt wy 0 (nI rm) (nI ud) (nI nu) sd (nI zn) (nI zw) zo (nI qb) (nI qp) qa (nI qi) (nI oc)), ra_N (g 0) cI 1600 tb, ra_N (g 80) cI 1700 zs, ra_N (g 82) cI 1700 qt]) eu_182 hP hD rfl (fun hP hD => ?_)
            refine lv_if_ne (tgt := 225) hx hb dX12_qGoesOn_213 (by decide) (fun c_184 => ?_) (fun c_184 => ?_)
            · have c_184 : ¬ (b_175 = 0) := fun h => c_184 ((neq b_175 0 (by omega) (Nat.le_of_ble_eq_true rfl)).mpr h)
              have hsg := (rr_1 hT_181 (by omega)).2
              exact jn_58 pa2_176 _ _ _ (by have h9 : sk tb pe pa2_164 = sk tb pe zat := congrArg Prod.fst hcu_174; rw [hsg.2.2, h9, hskt]) hpa3_179 (Or.inl (by have h9 := hsg.1; rw [hcu_174] at h9; exact h9)) hsg.2.1 hP hD hS (lv_sub hl [0] rfl)
            · have c_184 : b_175 = 0 := (neq b_175 0 (by omega) (Nat.le_of_ble_eq_true rfl)).mp c_184
              have hn43 : ¬ isS tb pe 43 (cuO tb pe zat pd) = true := by have h9 := ((rr_0 hT_181 (by omega)).1 hpb0).2; rw [hcu_174] at h9; exact h9
              have hO_185 := (rr_0 hT_181 (by omega)).2
              have hcu_186 : cuO tb pe pa2_176 pd = (cuO tb pe zat pd) := mo_two hO_185 hO1 hpb0 hpb0
              refine lv_aload_n hx hb dX12_qGoesOn_216 rfl (lv_at hl 0 rfl) ?_
              refine lv_bipush (v := 45) hx hb dX12_qGoesOn_217 (by decide) ?_
              refine sk_Vi (q0 := 0) (n := 1) (rest := []) (wr := fmR om_4_c _) ⟨hx, hb, hml, hown, hts⟩ hl.1 (c_em_takesSign l D cI cJ cC cZ cS mm g ta pa2_176 pe pd pb pp pf pg pn rt rn cd sn il tk am at_ aa wt wy rm ud nu sd zn zw zo qb qp qa qi oc 45 tb zg hpa3_179 hpe hpb (by omega) (by decide) hO_185 htb) w_7_7 w_7_9 w_0_49 w_1_14 w_7_10 hd_X12_takesSign_1 ⟨⟨(Nat.le_of_ble_eq_true rfl), (Nat.le_of_ble_eq_true rfl)⟩, (Nat.le_of_ble_eq_true rfl), (Nat.le_of_ble_eq_true rfl)⟩ hK hP hD hS hA (fmT om_4_c 0) (fmF om_4_c 0) (fm_C1 rfl rfl) (fm_R rfl rfl) (fm_nT om_4_c 0) (fm_nF om_4_c 0) (fm_di om_4_c 0) rfl rfl rfl rfl (Nat.le_of_ble_eq_true rfl) dX12_qGoesOn_219 (fun r_189 u H locs hw hP hD hS => ?_)
              refine exE hw (fun b_187 hw1 => exE hw1 (fun pa2_188 hw2 => anE hw2 (fun hpa2_190 hw3 => anE hw3 (fun hpa3_191 hw4 => anE hw4 (fun hb1_192 hw5 => anE hw5 (fun hT_193 hw6 => anE hw6 (fun er_195 eu_194 => ?_)))))))
              clear hw hw1 hw2 hw3 hw4 hw5 hw6
              subst er_195
              refine o_mgE (ws' := [ro_ mm 12 (mo g (nI ta) (nI pa2_188) (nI pe) pd (nI pb) pp pf pg pn rt rn (nI cd) sn (nI il) tk am at_ aa 0 0 (-1) wt wy 0 (nI rm) (nI ud) (nI nu) sd (nI zn) (nI zw) zo (nI qb) (nI qp) qa (nI qi) (nI oc)), ra_N (g 0) cI 1600 tb, ra_N (g 80) cI 1700 zs, ra_N (g 82) cI 1700 qt]) eu_194 hP hD rfl (fun hP hD => ?_)
              refine lv_if_eq (tgt := 308) hx hb dX12_qGoesOn_222 (by decide) (fun c_196 => ?_) (fun c_196 => ?_)
              · have c_196 : b_187 = 0 := (neq b_187 0 (by omega) (Nat.le_of_ble_eq_true rfl)).mp c_196
                have hn45 : ¬ isS tb pe 45 (cuO tb pe zat pd) = true := by have h9 := ((rr_0 hT_193 (by omega)).1 hpb0).2; rw [hcu_186] at h9; exact h9
                have hO_197 := (rr_0 hT_193 (by omega)).2
                have hcu_198 : cuO tb pe pa2_188 pd = (cuO tb pe zat pd) := mo_two hO_197 hO1 hpb0 hpb0
                have hcl : pa2_188 = sk tb pe zat := ((rr_0 hT_193 (by omega)).1 hpb0).1.trans (congrArg Prod.fst hcu_186)
                refine lv_aload_n hx hb dX12_qGoesOn_308 rfl (lv_at hl 0 rfl) ?_
                refine sk_Vi (q0 := 0) (n := 0) (rest := []) (wr := fmR om_4_9 _) ⟨hx, hb, hml, hown, hts⟩ hl.1 (c_em_qBracket l D cI cJ cC cZ cS mm g ta pa2_188 pe pd pb pp pf pg pn rt rn cd sn il tk am at_ aa wt wy rm ud nu sd zn zw zo qb qp qa qi oc qt (by omega) hqb hqt) w_7_71 w_7_73 w_0_65 w_1_14 w_7_74 hd_X12_qBracket_0 ⟨⟨(Nat.le_of_ble_eq_true rfl), (Nat.le_of_ble_eq_true rfl)⟩, (Nat.le_of_ble_eq_true rfl), (Nat.le_of_ble_eq_true rfl)⟩ hK hP hD hS hA (fmT om_4_9 0) (fmF om_4_9 0) (fm_C1 rfl rfl) (fm_R rfl rfl) (fm_nT om_4_9 0) (fm_nF om_4_9 0) (fm_di om_4_9 0) rfl rfl rfl rfl (Nat.le_of_ble_eq_true rfl) dX12_qGoesOn_309 (fun r_199 u H locs hw hP hD hS => ?_)
                refine anE hw (fun hlb_200 eu_201 => ?_)
                clear hw
                refine o_mgE (ws' := [ro_ mm 12 (mo g (nI ta) (nI pa2_188) (nI pe) pd (nI pb) pp pf pg pn rt rn (nI cd) sn (nI il) tk am at_ aa 0 0 (-1) wt wy 0 (nI rm) (nI ud) (nI nu) sd (nI zn) (nI zw) zo (nI qb) (nI qp) qa (nI qi) (nI oc)), ra_N (g 0) cI 1600 tb, ra_N (g 80) cI 1700 zs, ra_N (g 82) cI 1700 qt]) eu_201 hP hD rfl (fun hP hD => ?_)
                refine lv_bipush (v := 21) hx hb dX12_qGoesOn_312 (by decide) ?_
                refine lv_icmp_eq (tgt := 326) hx hb dX12_qGoesOn_314 (by decide) (fun c_202 => ?_) (fun c_202 => ?_)
                · skip
                  refine lv_aload_n hx hb dX12_qGoesOn_326 rfl (lv_at hl 0 rfl) ?_
                  refine lv_bipush (v := 44) hx hb dX12_qGoesOn_327 (by decide) ?_
                  refine sk_Vv (q0 := 0) (n := 1) (rest := []) (wr := fmR om_4_c _) ⟨hx, hb, hml, hown, hts⟩ hl.1 (c_em_asksSign l D cI cJ cC cZ cS mm g ta pa2_188 pe pd pb pp pf pg pn rt rn cd sn il tk am at_ aa wt wy rm ud nu sd zn zw zo qb qp qa qi oc 44 tb zg hpa3_191 hpe hpb (by omega) (by decide) hO_197 htb) w_7_3 w_7_5 w_0_48 w_1_14 w_7_6 hd_X12_asksSign_1 ⟨⟨(Nat.le_of_ble_eq_true rfl), (Nat.le_of_ble_eq_true rfl)⟩, (Nat.le_of_ble_eq_true rfl), (Nat.le_of_ble_eq_true rfl)⟩ hK hP hD hS hA (fmT om_4_c 0) (fmF om_4_c 0) (fm_C1 rfl rfl) (fm_R rfl rfl) (fm_nT om_4_c 0) (fm_nF om_4_c 0) (fm_di om_4_c 0) rfl rfl rfl rfl (Nat.le_of_ble_eq_true rfl) dX12_qGoesOn_329 (fun u H locs hw hP hD hS => ?_)
                  refine exE hw (fun pa2_203 hw1 => exE hw1 (fun pb2_204 hw2 => exE hw2 (fun pp2_205 hw3 => anE hw3 (fun hpa2_206 hw4 => anE hw4 (fun hpa3_207 hw5 => anE hw5 (fun hpb2_208 hw6 => anE hw6 (fun hpb3_209 hw7 => anE hw7 (fun hO2_210 eu_211 => ?_))))))))
                  clear hw hw1 hw2 hw3 hw4 hw5 hw6 hw7
                  refine o_mgE (ws' := [ro_ mm 12 (mo g (nI ta) (nI pa2_203) (nI pe) pd (nI pb2_204) pp2_205 pf pg pn rt rn (nI cd) sn (nI il) tk am at_ aa 0 0 (-1) wt wy 0 (nI rm) (nI ud) (nI nu) sd (nI zn) (nI zw) zo (nI qb) (nI qp) qa (nI qi) (nI oc)), ra_N (g 0) cI 1600 tb, ra_N (g 80) cI 1700 zs, ra_N (g 82) cI 1700 qt]) eu_211 hP hD rfl (fun hP hD => ?_)
                  refine lv_aload_n hx hb dX12_qGoesOn_332 rfl (lv_at hl 0 rfl) ?_
                  refine sk_get (v := .int (nI pb2_204)) (C := RX12) (T := TX12) (N := 92) hx hb hts inlX12 hown hK hP 0 rfl rfl 5 (Nat.le_of_ble_eq_true rfl) w_5_160 rfl dX12_qGoesOn_333 ?_
                  refine lv_if_eq (tgt := 341) hx hb dX12_qGoesOn_336 (by decide) (fun c_212 => ?_) (fun c_212 => ?_)
                  · have c_212 : pb2_204 = 0 := (neq pb2_204 0 (by omega) (Nat.le_of_ble_eq_true rfl)).mp c_212
                    have hs44 : isS tb pe 44 (cuO tb pe zat pd) = true := sg_ok hg2 hO2_210 (by omega)
                    refine lv_aload_n hx hb dX12_qGoesOn_341 rfl (lv_at hl 0 rfl) ?_
                    refine sk_Vv (q0 := 0) (n := 0) (rest := []) (wr := fmR om_4_b _) ⟨hx, hb, hml, hown, hts⟩ hl.1 (c_em_qDropsToBracket l D cI cJ cC cZ cS mm g ta pa2_203 pe pd pb2_204 pp2_205 pf pg pn rt rn cd sn il tk am at_ aa wt wy rm ud nu sd zn zw zo qb qp qa qi oc zs qt K n0 tb kn d0 m0 T (cuO tb pe zat pd) (by omega) hqb hzj (yd_0 hA1.1 hA1.2) hn42 hn47 hzs hqt) w_7_78 w_7_80 w_0_66 w_1_14 w_7_81 hd_X12_qDropsToBracket_0 ⟨⟨(Nat.le_of_ble_eq_true rfl), (Nat.le_of_ble_eq_true rfl)⟩, (Nat.le_of_ble_eq_true rfl), (Nat.le_of_ble_eq_true rfl)⟩ hK hP hD hS hA (fmT om_4_b 0) (fmF om_4_b 0) (fm_C1 rfl rfl) (fm_R rfl rfl) (fm_nT om_4_b 0) (fm_nF om_4_b 0) (fm_di om_4_b 0) rfl rfl rfl rfl (Nat.le_of_ble_eq_true rfl) dX12_qGoesOn_342 (fun u H locs hw hP hD hS => ?_)
                    refine exE hw (fun qw2_213 hw1 => exE hw1 (fun qn2_214 hw2 => exE hw2 (fun qs2_215 hw3 => anE hw3 (fun hsj2_216 hw4 => anE hw4 (fun hsum_217 hw5 => anE hw5 (fun hle_218 hw6 => anE hw6 (fun hend_219 hw7 => anE hw7 (fun hnb2_220 hw8 => anE hw8 (fun hyd2_221 hw9 => anE hw9 (fun hqs2_222 eu_223 => ?_))))))))))
                    clear hw hw1 hw2 hw3 hw4 hw5 hw6 hw7 hw8 hw9
                    refine o_mgE (ws' := [ro_ mm 12 (mo g (nI ta) (nI pa2_203) (nI pe) pd (nI pb2_204) pp2_205 pf pg pn rt rn (nI cd) sn (nI il) tk am at_ aa 0 0 (-1) wt wy 0 (nI rm) (nI ud) (nI nu) sd (nI qn2_214) (nI qw2_213) zo (nI qb) (nI qp) qa (nI qi) (nI oc)), ra_N (g 0) cI 1600 tb, ra_N (g 80) cI 1700 qs2_215, ra_N (g 82) cI 1700 qt]) eu_223 hP hD rfl (fun hP hD => ?_)
                    have hld := lb_drop (v := 21) hlb_200 (by omega) c_202 hle_218 hend_219 hnb2_220
                    have htop : topO qt qb qw2_213 = 21 := by unfold topO; rw [if_pos (by omega)]; exact hld.2
                    have hY2 := yd_2 hyd2_221 (by rw [htop]; decide) hn42 hn47
                    refine lv_aload_n hx hb dX12_qGoesOn_345 rfl (lv_at hl 0 rfl) ?_
                    refine sk_get (v := .ref (g 82)) (C := RX12) (T := TX12) (N := 92) hx hb hts inlX12 hown hK hP 0 rfl rfl 82 (Nat.le_of_ble_eq_true rfl) w_5_237 rfl dX12_qGoesOn_346 ?_
                    refine lv_aload_n hx hb dX12_qGoesOn_349 rfl (lv_at hl 0 rfl) ?_
                    refine sk_get (v := .int (nI qw2_213)) (C := RX12) (T := TX12) (N := 92) hx hb hts inlX12 hown hK hP 0 rfl rfl 83 (Nat.le_of_ble_eq_true rfl) w_5_238 rfl dX12_qGoesOn_350 ?_
                    refine lv_iconst (v := 1) hx hb dX12_qGoesOn_353 ic_1 ?_
                    refine lv_isub hx hb dX12_qGoesOn_354 ?_
                    refine sk_top (nI (qw2_213 - 1)) (nsub qw2_213 1 (by omega)) ?_
                    refine lv_dup2_11 hx hb dX12_qGoesOn_355 rfl rfl ?_
                    refine va_iald hx hb hK.1 hP 3 0 rfl rfl (vin (qw2_213 - 1) 1700 (by omega) (Nat.le_of_ble_eq_true rfl)) dX12_qGoesOn_356 ?_
                    refine sk_top (nI (qt (qw2_213 - 1))) (nrd qt (qw2_213 - 1) (by omega)) ?_
                    have hb_224 := hqt (qw2_213 - 1)
                    refine lv_iconst (v := 2) hx hb dX12_qGoesOn_357 ic_2 ?_
                    refine lv_iadd hx hb dX12_qGoesOn_358 ?_
                    refine sk_top (nI (qt (qw2_213 - 1) + 2)) (nI_add (qt (qw2_213 - 1)) 2) ?_
                    refine sk_iastB (k := (qw2_213 - 1)) (v := (qt (qw2_213 - 1) + 2)) (B := 100) (ws' := fun f_225 => [ro_ mm 12 (mo g (nI ta) (nI pa2_203) (nI pe) pd (nI pb2_204) pp2_205 pf pg pn rt rn (nI cd) sn (nI il) tk am at_ aa 0 0 (-1) wt wy 0 (nI rm) (nI ud) (nI nu) sd (nI qn2_214) (nI qw2_213) zo (nI qb) (nI qp) qa (nI qi) (nI oc)), ra_N (g 0) cI 1600 tb, ra_N (g 80) cI 1700 qs2_215, ra_N (g 82) cI 1700 f_225]) hx hb hK hP hD hS 3 0 rfl rfl (by omega) (by omega) hqt (by omega) (fun _ => rfl) dX12_qGoesOn_359 (fun f_225 H locs hf_226 ef_227 hP hD hS => ?_)
                    refine lv_iconst (v := 1) hx hb dX12_qGoesOn_360 ic_1 ?_
                    exact sk_iret hx hb hr rfl hlocks hK hP hD hS (⟨1, (bindR zg (signP tb pe 44)), pa2_203, pb2_204, pp2_205, qn2_214, qw2_213, zo, qs2_215, f_225, by omega, hpa3_207, hpb2_208, by omega, by omega, (fun _ => SJ_next hsj2_216 hld.1 (by omega) rfl ef_227), (fun h => absurd h (by omega)), hO2_210, (fun _ => by rw [hg2]; show yO _ _ _ _ _ (signP tb pe 44 (cuO tb pe zat pd)) _ _ _ _ _; rw [signP_t hs44, ef_227]; exact y_comma hY2 hld.1 (by omega) rfl hs44), (fun h => absurd h (by omega)), (fun _ => kp_up kp_0 (by omega) ef_227), hqs2_222, hf_226, rfl, rfl⟩) (Nat.le_of_ble_eq_true rfl) (Nat.le_of_ble_eq_true rfl) dX12_qGoesOn_361
                  · have c_212 : ¬ (pb2_204 = 0) := fun h => c_212 ((neq pb2_204 0 (by omega) (Nat.le_of_ble_eq_true rfl)).mpr h)
                    have hns44 : ¬ isS tb pe 44 (cuO tb pe zat pd) = true := sg_no hg2 hO2_210 (by omega)
                    refine lv_iconst (v := 0) hx hb dX12_qGoesOn_339 ic_0 ?_
                    exact sk_iret hx hb hr rfl hlocks hK hP hD hS (⟨0, (bindR zg (signP tb pe 44)), pa2_203, pb2_204, pp2_205, zn, zw, zo, zs, qt, by omega, hpa3_207, hpb2_208, by omega, by omega, (fun h => absurd h (by omega)), (fun _ h0 => absurd h0 (by omega)), hO2_210, (fun h => absurd h (by omega)), (fun _ => by rw [hg2]; show gE _ _ _ _ _ _ _ (signP tb pe 44 (cuO tb pe zat pd)) _ _ _ _ _; rw [signP_f hns44]; exact yd_badL (v := 0) (yd_0 hA1.1 hA1.2) hlb_200 (by rw [c_202]; decide) hn42 hn47 hn43 hn45 hx41b (fun _ => hns44)), (fun _ => kp_0), hzs, hqt, rfl, rfl⟩) (Nat.le_of_ble_eq_true rfl) (Nat.le_of_ble_eq_true rfl) dX12_qGoesOn_340
                · skip
                  refine lv_aload_n hx hb dX12_qGoesOn_317 rfl (lv_at hl 0 rfl) ?_
                  refine sk_Vi (q0 := 0) (n := 0) (rest := []) (wr := fmR om_4_9 _) ⟨hx, hb, hml, hown, hts⟩ hl.1 (c_em_qBracket l D cI cJ cC cZ cS mm g ta pa2_188 pe pd pb pp pf pg pn rt rn cd sn il tk am at_ aa wt wy rm ud nu sd zn zw zo qb qp qa qi oc qt (by omega) hqb hqt) w_7_71 w_7_73 w_0_65 w_1_14 w_7_74 hd_X12_qBracket_0 ⟨⟨(Nat.le_of_ble_eq_true rfl), (Nat.le_of_ble_eq_true rfl)⟩, (Nat.le_of_ble_eq_true rfl), (Nat.le_of_ble_eq_true rfl)⟩ hK hP hD hS hA (fmT om_4_9 0) (fmF om_4_9 0) (fm_C1 rfl rfl) (fm_R rfl rfl) (fm_nT om_4_9 0) (fm_nF om_4_9 0) (fm_di om_4_9 0) rfl rfl rfl rfl (Nat.le_of_ble_eq_true rfl) dX12_qGoesOn_318 (fun r_228 u H locs hw hP hD hS => ?_)
                  refine anE hw (fun hlb_229 eu_230 => ?_)
                  clear hw
                  refine o_mgE (ws' := [ro_ mm 12 (mo g (nI ta) (nI pa2_188) (nI pe) pd (nI pb) pp pf pg pn rt rn (nI cd) sn (nI il) tk am at_ aa 0 0 (-1) wt wy 0 (nI rm) (nI ud) (nI nu) sd (nI zn) (nI zw) zo (nI qb) (nI qp) qa (nI qi) (nI oc)), ra_N (g 0) cI 1600 tb, ra_N (g 80) cI 1700 zs, ra_N (g 82) cI 1700 qt]) eu_230 hP hD rfl (fun hP hD => ?_)
                  refine lv_bipush (v := 22) hx hb dX12_qGoesOn_321 (by decide) ?_
                  refine lv_icmp_ne (tgt := 362) hx hb dX12_qGoesOn_323 (by decide) (fun c_231 => ?_) (fun c_231 => ?_)
                  · skip
                    refine lv_aload_n hx hb dX12_qGoesOn_362 rfl (lv_at hl 0 rfl) ?_
                    refine sk_Vi (q0 := 0) (n := 0) (rest := []) (wr := fmR om_4_9 _) ⟨hx, hb, hml, hown, hts⟩ hl.1 (c_em_qBracket l D cI cJ cC cZ cS mm g ta pa2_188 pe pd pb pp pf pg pn rt rn cd sn il tk am at_ aa wt wy rm ud nu sd zn zw zo qb qp qa qi oc qt (by omega) hqb hqt) w_7_71 w_7_73 w_0_65 w_1_14 w_7_74 hd_X12_qBracket_0 ⟨⟨(Nat.le_of_ble_eq_true rfl), (Nat.le_of_ble_eq_true rfl)⟩, (Nat.le_of_ble_eq_true rfl), (Nat.le_of_ble_eq_true rfl)⟩ hK hP hD hS hA (fmT om_4_9 0) (fmF om_4_9 0) (fm_C1 rfl rfl) (fm_R rfl rfl) (fm_nT om_4_9 0) (fm_nF om_4_9 0) (fm_di om_4_9 0) rfl rfl rfl rfl (Nat.le_of_ble_eq_true rfl) dX12_qGoesOn_363 (fun r_232 u H locs hw hP hD hS => ?_)
                    refine anE hw (fun hlb_233 eu_234 => ?_)
                    clear hw
                    refine o_mgE (ws' := [ro_ mm 12 (mo g (nI ta) (nI pa2_188) (nI pe) pd (nI pb) pp pf pg pn rt rn (nI cd) sn (nI il) tk am at_ aa 0 0 (-1) wt wy 0 (nI rm) (nI ud) (nI nu) sd (nI zn) (nI zw) zo (nI qb) (nI qp) qa (nI qi) (nI oc)), ra_N (g 0) cI 1600 tb, ra_N (g 80) cI 1700 zs, ra_N (g 82) cI 1700 qt]) eu_234 hP hD rfl (fun hP hD => ?_)
                    refine lv_iconst (v := (-1)) hx hb dX12_qGoesOn_366 (by decide) ?_
                    refine lv_icmp_eq (tgt := 386) hx hb dX12_qGoesOn_367 (by decide) (fun c_235 => ?_) (fun c_235 => ?_)
                    · skip
                      refine lv_iconst (v := 0) hx hb dX12_qGoesOn_386 ic_0 ?_
                      exact sk_iret hx hb hr rfl hlocks hK hP hD hS (⟨0, zg, pa2_188, pb, pp, zn, zw, zo, zs, qt, by omega, hpa3_191, hpb, by omega, by omega, (fun h => absurd h (by omega)), (fun _ _ => ⟨hzj, lb_no hlb_233 c_235⟩), hO_197, (fun h => absurd h (by omega)), (fun _ => by rw [hg2]; exact ⟨yd_0 hA1.1 hA1.2, hn42, hn47, hn43, hn45⟩), (fun _ => kp_0), hzs, hqt, rfl, rfl⟩) (Nat.le_of_ble_eq_true rfl) (Nat.le_of_ble_eq_true rfl) dX12_qGoesOn_387
                    · skip
                      refine lv_aload_n hx hb dX12_qGoesOn_370 rfl (lv_at hl 0 rfl) ?_
                      refine sk_get (v := .int (nI pb)) (C := RX12) (T := TX12) (N := 92) hx hb hts inlX12 hown hK hP 0 rfl rfl 5 (Nat.le_of_ble_eq_true rfl) w_5_160 rfl dX12_qGoesOn_371 ?_
                      refine lv_if_ne (tgt := 386) hx hb dX12_qGoesOn_374 (by decide) (fun c => absurd ((neq pb 0 (by omega) (Nat.le_of_ble_eq_true rfl)).mpr hpb0) c) (fun c_236 => ?_)
                      refine lv_aload_n hx hb dX12_qGoesOn_377 rfl (lv_at hl 0 rfl) ?_
                      refine lv_iconst (v := 1) hx hb dX12_qGoesOn_378 ic_1 ?_
                      refine lv_aload_n hx hb dX12_qGoesOn_379 rfl (lv_at hl 0 rfl) ?_
                      refine sk_get (v := .int (nI pa2_188)) (C := RX12) (T := TX12) (N := 92) hx hb hts inlX12 hown hK hP 0 rfl rfl 2 (Nat.le_of_ble_eq_true rfl) w_5_157 rfl dX12_qGoesOn_380 ?_
                      refine sk_Vv (q0 := 0) (n := 2) (rest := []) (wr := fmR om_4_8 _) ⟨hx, hb, hml, hown, hts⟩ hl.1 (c_em_fail l D cI cJ cC cZ cS mm g ta pa2_188 pe pd pb pp pf pg pn rt rn cd sn il tk am at_ aa wt wy rm ud nu sd zn zw zo qb qp qa qi oc 1 (nI pa2_188) hpb (by omega) (by omega)) w_6_229 w_6_231 w_0_46 w_1_14 w_6_232 hd_X12_fail_2 ⟨⟨(Nat.le_of_ble_eq_true rfl), (Nat.le_of_ble_eq_true rfl)⟩, (Nat.le_of_ble_eq_true rfl), (Nat.le_of_ble_eq_true rfl)⟩ hK hP hD hS hA (fmT om_4_8 0) (fmF om_4_8 0) (fm_C1 rfl rfl) (fm_R rfl rfl) (fm_nT om_4_8 0) (fm_nF om_4_8 0) (fm_di om_4_8 0) rfl rfl rfl rfl (Nat.le_of_ble_eq_true rfl) dX12_qGoesOn_383 (fun u H locs hw hP hD hS => ?_)
                      refine exE hw (fun pb2_237 hw1 => exE hw1 (fun pp2_238 hw2 => anE hw2 (fun hpb2_239 hw3 => anE hw3 (fun hpb3_240 hw4 => anE hw4 (fun hfl_241 eu_242 => ?_)))))
                      clear hw hw1 hw2 hw3 hw4
                      refine o_mgE (ws' := [ro_ mm 12 (mo g (nI ta) (nI pa2_188) (nI pe) pd (nI pb2_237) pp2_238 pf pg pn rt rn (nI cd) sn (nI il) tk am at_ aa 0 0 (-1) wt wy 0 (nI rm) (nI ud) (nI nu) sd (nI zn) (nI zw) zo (nI qb) (nI qp) qa (nI qi) (nI oc)), ra_N (g 0) cI 1600 tb, ra_N (g 80) cI 1700 zs, ra_N (g 82) cI 1700 qt]) eu_242 hP hD rfl (fun hP hD => ?_)
                      refine lv_iconst (v := 0) hx hb dX12_qGoesOn_386 ic_0 ?_
                      exact sk_iret hx hb hr rfl hlocks hK hP hD hS (⟨0, (.error (1, (cuO tb pe zat pd).1)), pa2_188, pb2_237, pp2_238, zn, zw, zo, zs, qt, by omega, hpa3_191, hpb2_239, by omega, by omega, (fun h => absurd h (by omega)), (fun _ h0 => absurd h0 (by omega)), (by have hf := (hfl_241.resolve_right (fun z => z.1 (by omega))).2; rw [hf.1, hf.2]; exact ⟨rfl, congrArg nI hcl, (show 1 ≤ 1 by decide), (show 1 ≤ 5 by decide)⟩), (fun h => absurd h (by omega)), (fun _ => yd_badL (v := 0) (yd_0 hA1.1 hA1.2) hlb_233 c_235 hn42 hn47 hn43 hn45 hx41b (fun hq => hq.elim (fun hq => absurd hq (by rw [lb_uniq hlb_233 hlb_200]; exact c_202)) (fun hq => absurd hq (by rw [lb_uniq hlb_233 hlb_229]; exact c_231)))), (fun _ => kp_0), hzs, hqt, rfl, rfl⟩) (Nat.le_of_ble_eq_true rfl) (Nat.le_of_ble_eq_true rfl) dX12_qGoesOn_387
                  · skip
                    refine lv_aload_n hx hb dX12_qGoesOn_326 rfl (lv_at hl 0 rfl) ?_
                    refine lv_bipush (v := 44) hx hb dX12_qGoesOn_327 (by decide) ?_
                    refine sk_Vv (q0 := 0) (n := 1) (rest := []) (wr := fmR om_4_c _) ⟨hx, hb, hml, hown, hts⟩ hl.1 (c_em_asksSign l D cI cJ cC cZ cS mm g ta pa2_188 pe pd pb pp pf pg pn rt rn cd sn il tk am at_ aa wt wy rm ud nu sd zn zw zo qb qp qa qi oc 44 tb zg hpa3_191 hpe hpb (by omega) (by decide) hO_197 htb) w_7_3 w_7_5 w_0_48 w_1_14 w_7_6 hd_X12_asksSign_1 ⟨⟨(Nat.le_of_ble_eq_true rfl), (Nat.le_of_ble_eq_true rfl)⟩, (Nat.le_of_ble_eq_true rfl), (Nat.le_of_ble_eq_true rfl)⟩ hK hP hD hS hA (fmT om_4_c 0) (fmF om_4_c 0) (fm_C1 rfl rfl) (fm_R rfl rfl) (fm_nT om_4_c 0) (fm_nF om_4_c 0) (fm_di om_4_c 0) rfl rfl rfl rfl (Nat.le_of_ble_eq_true rfl) dX12_qGoesOn_329 (fun u H locs hw hP hD hS => ?_)
                    refine exE hw (fun pa2_243 hw1 => exE hw1 (fun pb2_244 hw2 => exE hw2 (fun pp2_245 hw3 => anE hw3 (fun hpa2_246 hw4 => anE hw4 (fun hpa3_247 hw5 => anE hw5 (fun hpb2_248 hw6 => anE hw6 (fun hpb3_249 hw7 => anE hw7 (fun hO2_250 eu_251 => ?_))))))))
                    clear hw hw1 hw2 hw3 hw4 hw5 hw6 hw7
                    refine o_mgE (ws' := [ro_ mm 12 (mo g (nI ta) (nI pa2_243) (nI pe) pd (nI pb2_244) pp2_245 pf pg pn rt rn (nI cd) sn (nI il) tk am at_ aa 0 0 (-1) wt wy 0 (nI rm) (nI ud) (nI nu) sd (nI zn) (nI zw) zo (nI qb) (nI qp) qa (nI qi) (nI oc)), ra_N (g 0) cI 1600 tb, ra_N (g 80) cI 1700 zs, ra_N (g 82) cI 1700 qt]) eu_251 hP hD rfl (fun hP hD => ?_)
                    refine lv_aload_n hx hb dX12_qGoesOn_332 rfl (lv_at hl 0 rfl) ?_
                    refine sk_get (v := .int (nI pb2_244)) (C := RX12) (T := TX12) (N := 92) hx hb hts inlX12 hown hK hP 0 rfl rfl 5 (Nat.le_of_ble_eq_true rfl) w_5_160 rfl dX12_qGoesOn_333 ?_
                    refine lv_if_eq (tgt := 341) hx hb dX12_qGoesOn_336 (by decide) (fun c_252 => ?_) (fun c_252 => ?_)
                    · have c_252 : pb2_244 = 0 := (neq pb2_244 0 (by omega) (Nat.le_of_ble_eq_true rfl)).mp c_252
                      have hs44 : isS tb pe 44 (cuO tb pe zat pd) = true := sg_ok hg2 hO2_250 (by omega)
                      refine lv_aload_n hx hb dX12_qGoesOn_341 rfl (lv_at hl 0 rfl) ?_
                      refine sk_Vv (q0 := 0) (n := 0) (rest := []) (wr := fmR om_4_b _) ⟨hx, hb, hml, hown, hts⟩ hl.1 (c_em_qDropsToBracket l D cI cJ cC cZ cS mm g ta pa2_243 pe pd pb2_244 pp2_245 pf pg pn rt rn cd sn il tk am at_ aa wt wy rm ud nu sd zn zw zo qb qp qa qi oc zs qt K n0 tb kn d0 m0 T (cuO tb pe zat pd) (by omega) hqb hzj (yd_0 hA1.1 hA1.2) hn42 hn47 hzs hqt) w_7_78 w_7_80 w_0_66 w_1_14 w_7_81 hd_X12_qDropsToBracket_0 ⟨⟨(Nat.le_of_ble_eq_true rfl), (Nat.le_of_ble_eq_true rfl)⟩, (Nat.le_of_ble_eq_true rfl), (Nat.le_of_ble_eq_true rfl)⟩ hK hP hD hS hA (fmT om_4_b 0) (fmF om_4_b 0) (fm_C1 rfl rfl) (fm_R rfl rfl) (fm_nT om_4_b 0) (fm_nF om_4_b 0) (fm_di om_4_b 0) rfl rfl rfl rfl (Nat.le_of_ble_eq_true rfl) dX12_qGoesOn_342 (fun u H locs hw hP hD hS => ?_)
                      refine exE hw (fun qw2_253 hw1 => exE hw1 (fun qn2_254 hw2 => exE hw2 (fun qs2_255 hw3 => anE hw3 (fun hsj2_256 hw4 => anE hw4 (fun hsum_257 hw5 => anE hw5 (fun hle_258 hw6 => anE hw6 (fun hend_259 hw7 => anE hw7 (fun hnb2_260 hw8 => anE hw8 (fun hyd2_261 hw9 => anE hw9 (fun hqs2_262 eu_263 => ?_))))))))))
                      clear hw hw1 hw2 hw3 hw4 hw5 hw6 hw7 hw8 hw9
                      refine o_mgE (ws' := [ro_ mm 12 (mo g (nI ta) (nI pa2_243) (nI pe) pd (nI pb2_244) pp2_245 pf pg pn rt rn (nI cd) sn (nI il) tk am at_ aa 0 0 (-1) wt wy 0 (nI rm) (nI ud) (nI nu) sd (nI qn2_254) (nI qw2_253) zo (nI qb) (nI qp) qa (nI qi) (nI oc)), ra_N (g 0) cI 1600 tb, ra_N (g 80) cI 1700 qs2_255, ra_N (g 82) cI 1700 qt]) eu_263 hP hD rfl (fun hP hD => ?_)
                      have hld := lb_drop (v := 22) hlb_229 (by omega) c_231 hle_258 hend_259 hnb2_260
                      have htop : topO qt qb qw2_253 = 22 := by unfold topO; rw [if_pos (by omega)]; exact hld.2
                      have hY2 := yd_2 hyd2_261 (by rw [htop]; decide) hn42 hn47
                      refine lv_aload_n hx hb dX12_qGoesOn_345 rfl (lv_at hl 0 rfl) ?_
                      refine sk_get (v := .ref (g 82)) (C := RX12) (T := TX12) (N := 92) hx hb hts inlX12 hown hK hP 0 rfl rfl 82 (Nat.le_of_ble_eq_true rfl) w_5_237 rfl dX12_qGoesOn_346 ?_
                      refine lv_aload_n hx hb dX12_qGoesOn_349 rfl (lv_at hl 0 rfl) ?_
                      refine sk_get (v := .int (nI qw2_253)) (C := RX12) (T := TX12) (N := 92) hx hb hts inlX12 hown hK hP 0 rfl rfl 83 (Nat.le_of_ble_eq_true rfl) w_5_238 rfl dX12_qGoesOn_350 ?_
                      refine lv_iconst (v := 1) hx hb dX12_qGoesOn_353 ic_1 ?_
                      refine lv_isub hx hb dX12_qGoesOn_354 ?_
                      refine sk_top (nI (qw2_253 - 1)) (nsub qw2_253 1 (by omega)) ?_
                      refine lv_dup2_11 hx hb dX12_qGoesOn_355 rfl rfl ?_
                      refine va_iald hx hb hK.1 hP 3 0 rfl rfl (vin (qw2_253 - 1) 1700 (by omega) (Nat.le_of_ble_eq_true rfl)) dX12_qGoesOn_356 ?_
                      refine sk_top (nI (qt (qw2_253 - 1))) (nrd qt (qw2_253 - 1) (by omega)) ?_
                      have hb_264 := hqt (qw2_253 - 1)
                      refine lv_iconst (v := 2) hx hb dX12_qGoesOn_357 ic_2 ?_
                      refine lv_iadd hx hb dX12_qGoesOn_358 ?_
                      refine sk_top (nI (qt (qw2_253 - 1) + 2)) (nI_add (qt (qw2_253 - 1)) 2) ?_
                      refine sk_iastB (k := (qw2_253 - 1)) (v := (qt (qw2_253 - 1) + 2)) (B := 100) (ws' := fun f_265 => [ro_ mm 12 (mo g (nI ta) (nI pa2_243) (nI pe) pd (nI pb2_244) pp2_245 pf pg pn rt rn (nI cd) sn (nI il) tk am at_ aa 0 0 (-1) wt wy 0 (nI rm) (nI ud) (nI nu) sd (nI qn2_254) (nI qw2_253) zo (nI qb) (nI qp) qa (nI qi) (nI oc)), ra_N (g 0) cI 1600 tb, ra_N (g 80) cI 1700 qs2_255, ra_N (g 82) cI 1700 f_265]) hx hb hK hP hD hS 3 0 rfl rfl (by omega) (by omega) hqt (by omega) (fun _ => rfl) dX12_qGoesOn_359 (fun f_265 H locs hf_266 ef_267 hP hD hS => ?_)
                      refine lv_iconst (v := 1) hx hb dX12_qGoesOn_360 ic_1 ?_
                      exact sk_iret hx hb hr rfl hlocks hK hP hD hS (⟨1, (bindR zg (signP tb pe 44)), pa2_243, pb2_244, pp2_245, qn2_254, qw2_253, zo, qs2_255, f_265, by omega, hpa3_247, hpb2_248, by omega, by omega, (fun _ => SJ_next hsj2_256 hld.1 (by omega) rfl ef_267), (fun h => absurd h (by omega)), hO2_250, (fun _ => by rw [hg2]; show yO _ _ _ _ _ (signP tb pe 44 (cuO tb pe zat pd)) _ _ _ _ _; rw [signP_t hs44, ef_267]; exact y_comma hY2 hld.1 (by omega) rfl hs44), (fun h => absurd h (by omega)), (fun _ => kp_up kp_0 (by omega) ef_267), hqs2_262, hf_266, rfl, rfl⟩) (Nat.le_of_ble_eq_true rfl) (Nat.le_of_ble_eq_true rfl) dX12_qGoesOn_361
                    · have c_252 : ¬ (pb2_244 = 0) := fun h => c_252 ((neq pb2_244 0 (by omega) (Nat.le_of_ble_eq_true rfl)).mpr h)
                      have hns44 : ¬ isS tb pe 44 (cuO tb pe zat pd) = true := sg_no hg2 hO2_250 (by omega)
                      refine lv_iconst (v := 0) hx hb dX12_qGoesOn_339 ic_0 ?_
                      exact sk_iret hx hb hr rfl hlocks hK hP hD hS (⟨0, (bindR zg (signP tb pe 44)), pa2_243, pb2_244, pp2_245, zn, zw, zo, zs, qt, by omega, hpa3_247, hpb2_248, by omega, by omega, (fun h => absurd h (by omega)), (fun _ h0 => absurd h0 (by omega)), hO2_250, (fun h => absurd h (by omega)), (fun _ => by rw [hg2]; show gE _ _ _ _ _ _ _ (signP tb pe 44 (cuO tb pe zat pd)) _ _ _ _ _; rw [signP_f hns44]; exact yd_badL (v := 0) (yd_0 hA1.1 hA1.2) hlb_229 (by rw [c_231]; decide) hn42 hn47 hn43 hn45 hx41b (fun _ => hns44)), (fun _ => kp_0), hzs, hqt, rfl, rfl⟩) (Nat.le_of_ble_eq_true rfl) (Nat.le_of_ble_eq_true rfl) dX12_qGoesOn_340
              · have c_196 : ¬ (b_187 = 0) := fun h => c_196 ((neq b_187 0 (by omega) (Nat.le_of_ble_eq_true rfl)).mpr h)
                have hsg := (rr_1 hT_193 (by omega)).2
                exact jn_58 pa2_188 _ _ _ (by have h9 : sk tb pe pa2_176 = sk tb pe zat := congrArg Prod.fst hcu_186; rw [hsg.2.2, h9, hskt]) hpa3_191 (Or.inr (by have h9 := hsg.1; rw [hcu_186] at h9; exact h9)) hsg.2.1 hP hD hS (lv_sub hl [0] rfl)
          · have c_172 : ¬ (b_163 = 0) := fun h => c_172 ((neq b_163 0 (by omega) (Nat.le_of_ble_eq_true rfl)).mpr h)
            have hsg := (rr_1 hT_169 (by omega)).2
            exact jn_5 pa2_164 _ _ _ (by have h9 : sk tb pe pa2_152 = sk tb pe zat := congrArg Prod.fst hcu_162; rw [hsg.2.2, h9, hskt]) hpa3_167 (Or.inr (by have h9 := hsg.1; rw [hcu_162] at h9; exact h9)) hsg.2.1 hP hD hS (lv_sub hl [0] rfl)
      refine lv_aload_n hx hb dX12_qGoesOn_7 rfl (lv_at hl 0 rfl) ?_
      refine sk_Vi (q0 := 0) (n := 0) (rest := []) (wr := fmR om_4_c _) ⟨hx, hb, hml, hown, hts⟩ hl.1 (c_em_look l D cI cJ cC cZ cS mm g ta za pe pd pb pp pf pg pn rt rn cd sn il tk am at_ aa wt wy rm ud nu sd zn zw zo qb qp qa qi oc tb hza2 hpe htb) w_6_222 w_6_224 w_0_45 w_1_14 w_6_225 hd_X12_look_0 ⟨⟨(Nat.le_of_ble_eq_true rfl), (Nat.le_of_ble_eq_true rfl)⟩, (Nat.le_of_ble_eq_true rfl), (Nat.le_of_ble_eq_true rfl)⟩ hK hP hD hS hA (fmT om_4_c 0) (fmF om_4_c 0) (fm_C1 rfl rfl) (fm_R rfl rfl) (fm_nT om_4_c 0) (fm_nF om_4_c 0) (fm_di om_4_c 0) rfl rfl rfl rfl (Nat.le_of_ble_eq_true rfl) dX12_qGoesOn_8 (fun r_269 u H locs hw hP hD hS => ?_)
      refine exE hw (fun pa2_268 hw1 => anE hw1 (fun hpa2_270 hw2 => anE hw2 (fun hpa3_271 hw3 => anE hw3 (fun hlk_272 hw4 => anE hw4 (fun hst_273 hw5 => anE hw5 (fun hsk_274 eu_275 => ?_))))))
      clear hw hw1 hw2 hw3 hw4 hw5
      refine o_mgE (ws' := [ro_ mm 12 (mo g (nI ta) (nI pa2_268) (nI pe) pd (nI pb) pp pf pg pn rt rn (nI cd) sn (nI il) tk am at_ aa 0 0 (-1) wt wy 0 (nI rm) (nI ud) (nI nu) sd (nI zn) (nI zw) zo (nI qb) (nI qp) qa (nI qi) (nI oc)), ra_N (g 0) cI 1600 tb, ra_N (g 80) cI 1700 zs, ra_N (g 82) cI 1700 qt]) eu_275 hP hD rfl (fun hP hD => ?_)
      refine lv_bipush (v := 41) hx hb dX12_qGoesOn_11 (by decide) ?_
      refine lv_icmp_ne (tgt := 122) hx hb dX12_qGoesOn_13 (by decide) (fun c_276 => ?_) (fun c_276 => ?_)
      · have hn41 : ¬ isS tb pe 41 (cuO tb pe za pd) = true := fun hq => c_276 ((lk_S htb (by decide) hlk_272).mpr (by rw [hsk_274]; exact isS_cu.mp hq))
        exact jn_4 pa2_268 _ _ _ hpa2_270 hpa3_271 hsk_274 (fun hq => absurd hq hn41) hP hD hS (lv_sub hl [0] rfl)
      · have hq_277 := lk_at hlk_272 htb (w := 41) (by omega) c_276
        have hs41 : isS tb pe 41 (cuO tb pe za pd) = true := isS_cu.mpr (by have h9 := (lk_S htb (by decide) hlk_272).mp c_276; rw [hsk_274] at h9; exact h9)
        refine lv_aload_n hx hb dX12_qGoesOn_16 rfl (lv_at hl 0 rfl) ?_
        refine sk_Vi (q0 := 0) (n := 0) (rest := []) (wr := fmR om_4_9 _) ⟨hx, hb, hml, hown, hts⟩ hl.1 (c_em_qBracket l D cI cJ cC cZ cS mm g ta pa2_268 pe pd pb pp pf pg pn rt rn cd sn il tk am at_ aa wt wy rm ud nu sd zn zw zo qb qp qa qi oc qt (by omega) hqb hqt) w_7_71 w_7_73 w_0_65 w_1_14 w_7_74 hd_X12_qBracket_0 ⟨⟨(Nat.le_of_ble_eq_true rfl), (Nat.le_of_ble_eq_true rfl)⟩, (Nat.le_of_ble_eq_true rfl), (Nat.le_of_ble_eq_true rfl)⟩ hK hP hD hS hA (fmT om_4_9 0) (fmF om_4_9 0) (fm_C1 rfl rfl) (fm_R rfl rfl) (fm_nT om_4_9 0) (fm_nF om_4_9 0) (fm_di om_4_9 0) rfl rfl rfl rfl (Nat.le_of_ble_eq_true rfl) dX12_qGoesOn_17 (fun r_278 u H locs hw hP hD hS => ?_)
        refine anE hw (fun hlb_279 eu_280 => ?_)
        clear hw
        refine o_mgE (ws' := [ro_ mm 12 (mo g (nI ta) (nI pa2_268) (nI pe) pd (nI pb) pp pf pg pn rt rn (nI cd) sn (nI il) tk am at_ aa 0 0 (-1) wt wy 0 (nI rm) (nI ud) (nI nu) sd (nI zn) (nI zw) zo (nI qb) (nI qp) qa (nI qi) (nI oc)), ra_N (g 0) cI 1600 tb, ra_N (g 80) cI 1700 zs, ra_N (g 82) cI 1700 qt]) eu_280 hP hD rfl (fun hP hD => ?_)
        refine lv_bipush (v := 20) hx hb dX12_qGoesOn_20 (by decide) ?_
        refine lv_icmp_eq (tgt := 43) hx hb dX12_qGoesOn_22 (by decide) (fun c_281 => ?_) (fun c_281 => ?_)
        · skip
          refine lv_aload_n hx hb dX12_qGoesOn_43 rfl (lv_at hl 0 rfl) ?_
          refine lv_dup hx hb dX12_qGoesOn_44 rfl ?_
          refine sk_get (v := .int (nI pa2_268)) (C := RX12) (T := TX12) (N := 92) hx hb hts inlX12 hown hK hP 0 rfl rfl 2 (Nat.le_of_ble_eq_true rfl) w_5_157 rfl dX12_qGoesOn_45 ?_
          refine lv_iconst (v := 1) hx hb dX12_qGoesOn_48 ic_1 ?_
          refine lv_iadd hx hb dX12_qGoesOn_49 ?_
          refine sk_top (nI (pa2_268 + 1)) (nI_add pa2_268 1) ?_
          refine sk_put (ws' := [ro_ mm 12 (mo g (nI ta) (nI (pa2_268 + 1)) (nI pe) pd (nI pb) pp pf pg pn rt rn (nI cd) sn (nI il) tk am at_ aa 0 0 (-1) wt wy 0 (nI rm) (nI ud) (nI nu) sd (nI zn) (nI zw) zo (nI qb) (nI qp) qa (nI qi) (nI oc)), ra_N (g 0) cI 1600 tb, ra_N (g 80) cI 1700 zs, ra_N (g 82) cI 1700 qt]) (C := RX12) (T := TX12) (N := 92) (v := .int (nI (pa2_268 + 1))) hx hb hts inlX12 tyX12 tyX12_ok nmX12 hown hK hP hD hS 0 rfl rfl 2 (Nat.le_of_ble_eq_true rfl) w_5_157 rfl rfl rfl (Nat.le_of_ble_eq_true rfl) rfl dX12_qGoesOn_50 (fun H locs hP hD hS => ?_)
          refine lv_aload_n hx hb dX12_qGoesOn_53 rfl (lv_at hl 0 rfl) ?_
          refine sk_Vv (q0 := 0) (n := 0) (rest := []) (wr := fmR om_4_b _) ⟨hx, hb, hml, hown, hts⟩ hl.1 (c_em_qDropsToBracket l D cI cJ cC cZ cS mm g ta (pa2_268 + 1) pe pd pb pp pf pg pn rt rn cd sn il tk am at_ aa wt wy rm ud nu sd zn zw zo qb qp qa qi oc zs qt K n0 tb kn d0 m0 T (cuO tb pe za pd) (by omega) hqb hzj (yd_0 hA0.1 hA0.2) (isS_not hs41 (by decide)) (isS_not hs41 (by decide)) hzs hqt) w_7_78 w_7_80 w_0_66 w_1_14 w_7_81 hd_X12_qDropsToBracket_0 ⟨⟨(Nat.le_of_ble_eq_true rfl), (Nat.le_of_ble_eq_true rfl)⟩, (Nat.le_of_ble_eq_true rfl), (Nat.le_of_ble_eq_true rfl)⟩ hK hP hD hS hA (fmT om_4_b 0) (fmF om_4_b 0) (fm_C1 rfl rfl) (fm_R rfl rfl) (fm_nT om_4_b 0) (fm_nF om_4_b 0) (fm_di om_4_b 0) rfl rfl rfl rfl (Nat.le_of_ble_eq_true rfl) dX12_qGoesOn_54 (fun u H locs hw hP hD hS => ?_)
          refine exE hw (fun qw2_282 hw1 => exE hw1 (fun qn2_283 hw2 => exE hw2 (fun qs2_284 hw3 => anE hw3 (fun hsj2_285 hw4 => anE hw4 (fun hsum_286 hw5 => anE hw5 (fun hle_287 hw6 => anE hw6 (fun hend_288 hw7 => anE hw7 (fun hnb2_289 hw8 => anE hw8 (fun hyd2_290 hw9 => anE hw9 (fun hqs2_291 eu_292 => ?_))))))))))
          clear hw hw1 hw2 hw3 hw4 hw5 hw6 hw7 hw8 hw9
          refine o_mgE (ws' := [ro_ mm 12 (mo g (nI ta) (nI (pa2_268 + 1)) (nI pe) pd (nI pb) pp pf pg pn rt rn (nI cd) sn (nI il) tk am at_ aa 0 0 (-1) wt wy 0 (nI rm) (nI ud) (nI nu) sd (nI qn2_283) (nI qw2_282) zo (nI qb) (nI qp) qa (nI qi) (nI oc)), ra_N (g 0) cI 1600 tb, ra_N (g 80) cI 1700 qs2_284, ra_N (g 82) cI 1700 qt]) eu_292 hP hD rfl (fun hP hD => ?_)
          have hld := lb_drop (v := 20) hlb_279 (by omega) c_281 hle_287 hend_288 hnb2_289
          have htop : topO qt qb qw2_282 = 20 := by unfold topO; rw [if_pos (by omega)]; exact hld.2
          have hY2 := yd_2 hyd2_290 (by rw [htop]; decide) (isS_not hs41 (by decide)) (isS_not hs41 (by decide))
          refine lv_aload_n hx hb dX12_qGoesOn_57 rfl (lv_at hl 0 rfl) ?_
          refine lv_dup hx hb dX12_qGoesOn_58 rfl ?_
          refine sk_get (v := .int (nI qw2_282)) (C := RX12) (T := TX12) (N := 92) hx hb hts inlX12 hown hK hP 0 rfl rfl 83 (Nat.le_of_ble_eq_true rfl) w_5_238 rfl dX12_qGoesOn_59 ?_
          refine lv_iconst (v := 1) hx hb dX12_qGoesOn_62 ic_1 ?_
          refine lv_isub hx hb dX12_qGoesOn_63 ?_
          refine sk_top (nI (qw2_282 - 1)) (nsub qw2_282 1 (by omega)) ?_
          refine sk_put (ws' := [ro_ mm 12 (mo g (nI ta) (nI (pa2_268 + 1)) (nI pe) pd (nI pb) pp pf pg pn rt rn (nI cd) sn (nI il) tk am at_ aa 0 0 (-1) wt wy 0 (nI rm) (nI ud) (nI nu) sd (nI qn2_283) (nI (qw2_282 - 1)) zo (nI qb) (nI qp) qa (nI qi) (nI oc)), ra_N (g 0) cI 1600 tb, ra_N (g 80) cI 1700 qs2_284, ra_N (g 82) cI 1700 qt]) (C := RX12) (T := TX12) (N := 92) (v := .int (nI (qw2_282 - 1))) hx hb hts inlX12 tyX12 tyX12_ok nmX12 hown hK hP hD hS 0 rfl rfl 83 (Nat.le_of_ble_eq_true rfl) w_5_238 rfl rfl rfl (Nat.le_of_ble_eq_true rfl) rfl dX12_qGoesOn_64 (fun H locs hP hD hS => ?_)
          refine lv_aload_n hx hb dX12_qGoesOn_67 rfl (lv_at hl 0 rfl) ?_
          refine lv_dup hx hb dX12_qGoesOn_68 rfl ?_
          refine sk_get (v := .int zo) (C := RX12) (T := TX12) (N := 92) hx hb hts inlX12 hown hK hP 0 rfl rfl 84 (Nat.le_of_ble_eq_true rfl) w_5_239 rfl dX12_qGoesOn_69 ?_
          refine lv_iconst (v := 1) hx hb dX12_qGoesOn_72 ic_1 ?_
          refine lv_isub hx hb dX12_qGoesOn_73 ?_
          refine lv_topi (fun v_293 ev_293 => ?_)
          refine sk_put (ws' := [ro_ mm 12 (mo g (nI ta) (nI (pa2_268 + 1)) (nI pe) pd (nI pb) pp pf pg pn rt rn (nI cd) sn (nI il) tk am at_ aa 0 0 (-1) wt wy 0 (nI rm) (nI ud) (nI nu) sd (nI qn2_283) (nI (qw2_282 - 1)) v_293 (nI qb) (nI qp) qa (nI qi) (nI oc)), ra_N (g 0) cI 1600 tb, ra_N (g 80) cI 1700 qs2_284, ra_N (g 82) cI 1700 qt]) (C := RX12) (T := TX12) (N := 92) (v := .int v_293) hx hb hts inlX12 tyX12 tyX12_ok nmX12 hown hK hP hD hS 0 rfl rfl 84 (Nat.le_of_ble_eq_true rfl) w_5_239 rfl rfl rfl (Nat.le_of_ble_eq_true rfl) rfl dX12_qGoesOn_74 (fun H locs hP hD hS => ?_)
          refine lv_aload_n hx hb dX12_qGoesOn_77 rfl (lv_at hl 0 rfl) ?_
          refine sk_get (v := .ref (g 82)) (C := RX12) (T := TX12) (N := 92) hx hb hts inlX12 hown hK hP 0 rfl rfl 82 (Nat.le_of_ble_eq_true rfl) w_5_237 rfl dX12_qGoesOn_78 ?_
          refine lv_aload_n hx hb dX12_qGoesOn_81 rfl (lv_at hl 0 rfl) ?_
          refine sk_get (v := .int (nI (qw2_282 - 1))) (C := RX12) (T := TX12) (N := 92) hx hb hts inlX12 hown hK hP 0 rfl rfl 83 (Nat.le_of_ble_eq_true rfl) w_5_238 rfl dX12_qGoesOn_82 ?_
          refine va_iald hx hb hK.1 hP 3 0 rfl rfl (vin (qw2_282 - 1) 1700 (by omega) (Nat.le_of_ble_eq_true rfl)) dX12_qGoesOn_85 ?_
          refine sk_top (nI (qt (qw2_282 - 1))) (nrd qt (qw2_282 - 1) (by omega)) ?_
          have hb_294 := hqt (qw2_282 - 1)
          refine lv_bipush (v := 20) hx hb dX12_qGoesOn_86 (by decide) ?_
          refine lv_icmp_eq (tgt := 115) hx hb dX12_qGoesOn_88 (by decide) (fun c_295 => ?_) (fun c => absurd ((neq (qt (qw2_282 - 1)) 20 (by omega) (Nat.le_of_ble_eq_true rfl)).mpr hld.2) c)
          have hY3 := y_close hY2 hld.1 hld.2 hs41
          rw [← ev_293] at hY3
          have hO3 : moO tb pe (bindR zg (nxF tb pe)) (pa2_268 + 1) pd pb pp := mo_takeS hzO hpb0 hpe (isS_cu.mp hs41) (by decide) (by rw [hsk_274]) rfl
          have hY4 : yO (Xa tb pe kn 0) d0 m0 qb T (bindR zg (nxF tb pe)) _ _ qt _ _ := (by rw [hg]; exact hY3)
          refine lv_aload_n hx hb dX12_qGoesOn_115 rfl (lv_at hl 0 rfl) ?_
          refine sk_Vv (q0 := 0) (n := 0) (rest := []) (wr := fmR om_4_b _) ⟨hx, hb, hml, hown, hts⟩ hl.1 (c_em_qEndsPart l D cI cJ cC cZ cS mm g ta (pa2_268 + 1) pe pd pb pp pf pg pn rt rn cd sn il tk am at_ aa wt wy rm ud nu sd qn2_283 (qw2_282 - 1) v_293 qb qp qa qi oc qs2_284 qt K n0 tb kn d0 m0 T (cuO tb pe (pa2_268 + 1) pd) hpb (by omega) hqb (fun _ => SJ_pop hsj2_285 hld.1 hld.2) (fun h0 => yo_at hO3 h0 hY4) hqs2_291 hqt) w_7_59 w_7_61 w_0_62 w_1_14 w_7_62 hd_X12_qEndsPart_0 ⟨⟨(Nat.le_of_ble_eq_true rfl), (Nat.le_of_ble_eq_true rfl)⟩, (Nat.le_of_ble_eq_true rfl), (Nat.le_of_ble_eq_true rfl)⟩ hK hP hD hS hA (fmT om_4_b 0) (fmF om_4_b 0) (fm_C1 rfl rfl) (fm_R rfl rfl) (fm_nT om_4_b 0) (fm_nF om_4_b 0) (fm_di om_4_b 0) rfl rfl rfl rfl (Nat.le_of_ble_eq_true rfl) dX12_qGoesOn_116 (fun u H locs hw hP hD hS => ?_)
          refine exE hw (fun qw2_296 hw1 => exE hw1 (fun qn2_297 hw2 => exE hw2 (fun qo2_298 hw3 => exE hw3 (fun qs2_299 hw4 => anE hw4 (fun hsj2_300 hw5 => anE hw5 (fun hsum_301 hw6 => anE hw6 (fun hya2_302 hw7 => anE hw7 (fun hqs2_303 eu_304 => ?_))))))))
          clear hw hw1 hw2 hw3 hw4 hw5 hw6 hw7
          refine o_mgE (ws' := [ro_ mm 12 (mo g (nI ta) (nI (pa2_268 + 1)) (nI pe) pd (nI pb) pp pf pg pn rt rn (nI cd) sn (nI il) tk am at_ aa 0 0 (-1) wt wy 0 (nI rm) (nI ud) (nI nu) sd (nI qn2_297) (nI qw2_296) qo2_298 (nI qb) (nI qp) qa (nI qi) (nI oc)), ra_N (g 0) cI 1600 tb, ra_N (g 80) cI 1700 qs2_299, ra_N (g 82) cI 1700 qt]) eu_304 hP hD rfl (fun hP hD => ?_)
          refine lv_goto (tgt := 0) hx hb dX12_qGoesOn_119 (by decide) ?_
          exact ih_lp_1 (pa2_268 + 1) qn2_297 qw2_296 qo2_298 qs2_299 (bindR zg (nxF tb pe)) _ _ _ (by omega) hqs2_303 hO3 (by omega) (by omega) (by omega) (hsj2_300 hpb0) (ya_of hO3 (yo_e hY4) hya2_302) hP hD hS (lv_sub hl [0] rfl)
        · skip
          refine lv_aload_n hx hb dX12_qGoesOn_25 rfl (lv_at hl 0 rfl) ?_
          refine sk_Vi (q0 := 0) (n := 0) (rest := []) (wr := fmR om_4_9 _) ⟨hx, hb, hml, hown, hts⟩ hl.1 (c_em_qBracket l D cI cJ cC cZ cS mm g ta pa2_268 pe pd pb pp pf pg pn rt rn cd sn il tk am at_ aa wt wy rm ud nu sd zn zw zo qb qp qa qi oc qt (by omega) hqb hqt) w_7_71 w_7_73 w_0_65 w_1_14 w_7_74 hd_X12_qBracket_0 ⟨⟨(Nat.le_of_ble_eq_true rfl), (Nat.le_of_ble_eq_true rfl)⟩, (Nat.le_of_ble_eq_true rfl), (Nat.le_of_ble_eq_true rfl)⟩ hK hP hD hS hA (fmT om_4_9 0) (fmF om_4_9 0) (fm_C1 rfl rfl) (fm_R rfl rfl) (fm_nT om_4_9 0) (fm_nF om_4_9 0) (fm_di om_4_9 0) rfl rfl rfl rfl (Nat.le_of_ble_eq_true rfl) dX12_qGoesOn_26 (fun r_305 u H locs hw hP hD hS => ?_)
          refine anE hw (fun hlb_306 eu_307 => ?_)
          clear hw
          refine o_mgE (ws' := [ro_ mm 12 (mo g (nI ta) (nI pa2_268) (nI pe) pd (nI pb) pp pf pg pn rt rn (nI cd) sn (nI il) tk am at_ aa 0 0 (-1) wt wy 0 (nI rm) (nI ud) (nI nu) sd (nI zn) (nI zw) zo (nI qb) (nI qp) qa (nI qi) (nI oc)), ra_N (g 0) cI 1600 tb, ra_N (g 80) cI 1700 zs, ra_N (g 82) cI 1700 qt]) eu_307 hP hD rfl (fun hP hD => ?_)
          refine lv_bipush (v := 23) hx hb dX12_qGoesOn_29 (by decide) ?_
          refine lv_icmp_eq (tgt := 43) hx hb dX12_qGoesOn_31 (by decide) (fun c_308 => ?_) (fun c_308 => ?_)
          · skip
            refine lv_aload_n hx hb dX12_qGoesOn_43 rfl (lv_at hl 0 rfl) ?_
            refine lv_dup hx hb dX12_qGoesOn_44 rfl ?_
            refine sk_get (v := .int (nI pa2_268)) (C := RX12) (T := TX12) (N := 92) hx hb hts inlX12 hown hK hP 0 rfl rfl 2 (Nat.le_of_ble_eq_true rfl) w_5_157 rfl dX12_qGoesOn_45 ?_
            refine lv_iconst (v := 1) hx hb dX12_qGoesOn_48 ic_1 ?_
            refine lv_iadd hx hb dX12_qGoesOn_49 ?_
            refine sk_top (nI (pa2_268 + 1)) (nI_add pa2_268 1) ?_
            refine sk_put (ws' := [ro_ mm 12 (mo g (nI ta) (nI (pa2_268 + 1)) (nI pe) pd (nI pb) pp pf pg pn rt rn (nI cd) sn (nI il) tk am at_ aa 0 0 (-1) wt wy 0 (nI rm) (nI ud) (nI nu) sd (nI zn) (nI zw) zo (nI qb) (nI qp) qa (nI qi) (nI oc)), ra_N (g 0) cI 1600 tb, ra_N (g 80) cI 1700 zs, ra_N (g 82) cI 1700 qt]) (C := RX12) (T := TX12) (N := 92) (v := .int (nI (pa2_268 + 1))) hx hb hts inlX12 tyX12 tyX12_ok nmX12 hown hK hP hD hS 0 rfl rfl 2 (Nat.le_of_ble_eq_true rfl) w_5_157 rfl rfl rfl (Nat.le_of_ble_eq_true rfl) rfl dX12_qGoesOn_50 (fun H locs hP hD hS => ?_)
            refine lv_aload_n hx hb dX12_qGoesOn_53 rfl (lv_at hl 0 rfl) ?_
            refine sk_Vv (q0 := 0) (n := 0) (rest := []) (wr := fmR om_4_b _) ⟨hx, hb, hml, hown, hts⟩ hl.1 (c_em_qDropsToBracket l D cI cJ cC cZ cS mm g ta (pa2_268 + 1) pe pd pb pp pf pg pn rt rn cd sn il tk am at_ aa wt wy rm ud nu sd zn zw zo qb qp qa qi oc zs qt K n0 tb kn d0 m0 T (cuO tb pe za pd) (by omega) hqb hzj (yd_0 hA0.1 hA0.2) (isS_not hs41 (by decide)) (isS_not hs41 (by decide)) hzs hqt) w_7_78 w_7_80 w_0_66 w_1_14 w_7_81 hd_X12_qDropsToBracket_0 ⟨⟨(Nat.le_of_ble_eq_true rfl), (Nat.le_of_ble_eq_true rfl)⟩, (Nat.le_of_ble_eq_true rfl), (Nat.le_of_ble_eq_true rfl)⟩ hK hP hD hS hA (fmT om_4_b 0) (fmF om_4_b 0) (fm_C1 rfl rfl) (fm_R rfl rfl) (fm_nT om_4_b 0) (fm_nF om_4_b 0) (fm_di om_4_b 0) rfl rfl rfl rfl (Nat.le_of_ble_eq_true rfl) dX12_qGoesOn_54 (fun u H locs hw hP hD hS => ?_)
            refine exE hw (fun qw2_309 hw1 => exE hw1 (fun qn2_310 hw2 => exE hw2 (fun qs2_311 hw3 => anE hw3 (fun hsj2_312 hw4 => anE hw4 (fun hsum_313 hw5 => anE hw5 (fun hle_314 hw6 => anE hw6 (fun hend_315 hw7 => anE hw7 (fun hnb2_316 hw8 => anE hw8 (fun hyd2_317 hw9 => anE hw9 (fun hqs2_318 eu_319 => ?_))))))))))
            clear hw hw1 hw2 hw3 hw4 hw5 hw6 hw7 hw8 hw9
            refine o_mgE (ws' := [ro_ mm 12 (mo g (nI ta) (nI (pa2_268 + 1)) (nI pe) pd (nI pb) pp pf pg pn rt rn (nI cd) sn (nI il) tk am at_ aa 0 0 (-1) wt wy 0 (nI rm) (nI ud) (nI nu) sd (nI qn2_310) (nI qw2_309) zo (nI qb) (nI qp) qa (nI qi) (nI oc)), ra_N (g 0) cI 1600 tb, ra_N (g 80) cI 1700 qs2_311, ra_N (g 82) cI 1700 qt]) eu_319 hP hD rfl (fun hP hD => ?_)
            have hld := lb_drop (v := 23) hlb_306 (by omega) c_308 hle_314 hend_315 hnb2_316
            have htop : topO qt qb qw2_309 = 23 := by unfold topO; rw [if_pos (by omega)]; exact hld.2
            have hY2 := yd_2 hyd2_317 (by rw [htop]; decide) (isS_not hs41 (by decide)) (isS_not hs41 (by decide))
            refine lv_aload_n hx hb dX12_qGoesOn_57 rfl (lv_at hl 0 rfl) ?_
            refine lv_dup hx hb dX12_qGoesOn_58 rfl ?_
            refine sk_get (v := .int (nI qw2_309)) (C := RX12) (T := TX12) (N := 92) hx hb hts inlX12 hown hK hP 0 rfl rfl 83 (Nat.le_of_ble_eq_true rfl) w_5_238 rfl dX12_qGoesOn_59 ?_
            refine lv_iconst (v := 1) hx hb dX12_qGoesOn_62 ic_1 ?_
            refine lv_isub hx hb dX12_qGoesOn_63 ?_
            refine sk_top (nI (qw2_309 - 1)) (nsub qw2_309 1 (by omega)) ?_
            refine sk_put (ws' := [ro_ mm 12 (mo g (nI ta) (nI (pa2_268 + 1)) (nI pe) pd (nI pb) pp pf pg pn rt rn (nI cd) sn (nI il) tk am at_ aa 0 0 (-1) wt wy 0 (nI rm) (nI ud) (nI nu) sd (nI qn2_310) (nI (qw2_309 - 1)) zo (nI qb) (nI qp) qa (nI qi) (nI oc)), ra_N (g 0) cI 1600 tb, ra_N (g 80) cI 1700 qs2_311, ra_N (g 82) cI 1700 qt]) (C := RX12) (T := TX12) (N := 92) (v := .int (nI (qw2_309 - 1))) hx hb hts inlX12 tyX12 tyX12_ok nmX12 hown hK hP hD hS 0 rfl rfl 83 (Nat.le_of_ble_eq_true rfl) w_5_238 rfl rfl rfl (Nat.le_of_ble_eq_true rfl) rfl dX12_qGoesOn_64 (fun H locs hP hD hS => ?_)
            refine lv_aload_n hx hb dX12_qGoesOn_67 rfl (lv_at hl 0 rfl) ?_
            refine lv_dup hx hb dX12_qGoesOn_68 rfl ?_
            refine sk_get (v := .int zo) (C := RX12) (T := TX12) (N := 92) hx hb hts inlX12 hown hK hP 0 rfl rfl 84 (Nat.le_of_ble_eq_true rfl) w_5_239 rfl dX12_qGoesOn_69 ?_
            refine lv_iconst (v := 1) hx hb dX12_qGoesOn_72 ic_1 ?_
            refine lv_isub hx hb dX12_qGoesOn_73 ?_
            refine lv_topi (fun v_320 ev_320 => ?_)
            refine sk_put (ws' := [ro_ mm 12 (mo g (nI ta) (nI (pa2_268 + 1)) (nI pe) pd (nI pb) pp pf pg pn rt rn (nI cd) sn (nI il) tk am at_ aa 0 0 (-1) wt wy 0 (nI rm) (nI ud) (nI nu) sd (nI qn2_310) (nI (qw2_309 - 1)) v_320 (nI qb) (nI qp) qa (nI qi) (nI oc)), ra_N (g 0) cI 1600 tb, ra_N (g 80) cI 1700 qs2_311, ra_N (g 82) cI 1700 qt]) (C := RX12) (T := TX12) (N := 92) (v := .int v_320) hx hb hts inlX12 tyX12 tyX12_ok nmX12 hown hK hP hD hS 0 rfl rfl 84 (Nat.le_of_ble_eq_true rfl) w_5_239 rfl rfl rfl (Nat.le_of_ble_eq_true rfl) rfl dX12_qGoesOn_74 (fun H locs hP hD hS => ?_)
            refine lv_aload_n hx hb dX12_qGoesOn_77 rfl (lv_at hl 0 rfl) ?_
            refine sk_get (v := .ref (g 82)) (C := RX12) (T := TX12) (N := 92) hx hb hts inlX12 hown hK hP 0 rfl rfl 82 (Nat.le_of_ble_eq_true rfl) w_5_237 rfl dX12_qGoesOn_78 ?_
            refine lv_aload_n hx hb dX12_qGoesOn_81 rfl (lv_at hl 0 rfl) ?_
            refine sk_get (v := .int (nI (qw2_309 - 1))) (C := RX12) (T := TX12) (N := 92) hx hb hts inlX12 hown hK hP 0 rfl rfl 83 (Nat.le_of_ble_eq_true rfl) w_5_238 rfl dX12_qGoesOn_82 ?_
            refine va_iald hx hb hK.1 hP 3 0 rfl rfl (vin (qw2_309 - 1) 1700 (by omega) (Nat.le_of_ble_eq_true rfl)) dX12_qGoesOn_85 ?_
            refine sk_top (nI (qt (qw2_309 - 1))) (nrd qt (qw2_309 - 1) (by omega)) ?_
            have hb_321 := hqt (qw2_309 - 1)
            refine lv_bipush (v := 20) hx hb dX12_qGoesOn_86 (by decide) ?_
            refine lv_icmp_eq (tgt := 115) hx hb dX12_qGoesOn_88 (by decide) (fun c => absurd ((neq (qt (qw2_309 - 1)) 20 (by omega) (Nat.le_of_ble_eq_true rfl)).mp c) (by omega)) (fun c_322 => ?_)
            refine lv_aload_n hx hb dX12_qGoesOn_91 rfl (lv_at hl 0 rfl) ?_
            refine lv_aload_n hx hb dX12_qGoesOn_92 rfl (lv_at hl 0 rfl) ?_
            refine sk_get (v := .ref (g 82)) (C := RX12) (T := TX12) (N := 92) hx hb hts inlX12 hown hK hP 0 rfl rfl 82 (Nat.le_of_ble_eq_true rfl) w_5_237 rfl dX12_qGoesOn_93 ?_
            refine lv_aload_n hx hb dX12_qGoesOn_96 rfl (lv_at hl 0 rfl) ?_
            refine sk_get (v := .int (nI (qw2_309 - 1))) (C := RX12) (T := TX12) (N := 92) hx hb hts inlX12 hown hK hP 0 rfl rfl 83 (Nat.le_of_ble_eq_true rfl) w_5_238 rfl dX12_qGoesOn_97 ?_
            refine va_iald hx hb hK.1 hP 3 0 rfl rfl (vin (qw2_309 - 1) 1700 (by omega) (Nat.le_of_ble_eq_true rfl)) dX12_qGoesOn_100 ?_
            refine sk_top (nI (qt (qw2_309 - 1))) (nrd qt (qw2_309 - 1) (by omega)) ?_
            have hb_323 := hqt (qw2_309 - 1)
            refine lv_bipush (v := 23) hx hb dX12_qGoesOn_101 (by decide) ?_
            refine lv_icmp_ne (tgt := 110) hx hb dX12_qGoesOn_103 (by decide) (fun c => absurd ((neq (qt (qw2_309 - 1)) 23 (by omega) (Nat.le_of_ble_eq_true rfl)).mpr hld.2) c) (fun c_324 => ?_)
            refine lv_iconst (v := 5) hx hb dX12_qGoesOn_106 ic_5 ?_
            refine lv_goto (tgt := 112) hx hb dX12_qGoesOn_107 (by decide) ?_
            refine sk_Vv (q0 := 0) (n := 1) (rest := []) (wr := fmR om_4_a _) ⟨hx, hb, hml, hown, hts⟩ hl.1 (c_em_qCode l D cI cJ cC cZ cS mm g ta (pa2_268 + 1) pe pd pb pp pf pg pn rt rn cd sn il tk am at_ aa wt wy rm ud nu sd qn2_310 (qw2_309 - 1) v_320 qb qp qa qi oc 5 qs2_311 (by omega) (by omega) hqs2_318) w_7_55 w_7_57 w_0_61 w_1_14 w_7_58 hd_X12_qCode_1 ⟨⟨(Nat.le_of_ble_eq_true rfl), (Nat.le_of_ble_eq_true rfl)⟩, (Nat.le_of_ble_eq_true rfl), (Nat.le_of_ble_eq_true rfl)⟩ hK hP hD hS hA (fmT om_4_a 0) (fmF om_4_a 0) (fm_C1 rfl rfl) (fm_R rfl rfl) (fm_nT om_4_a 0) (fm_nF om_4_a 0) (fm_di om_4_a 0) rfl rfl rfl rfl (Nat.le_of_ble_eq_true rfl) dX12_qGoesOn_112 (fun u H locs hw hP hD hS => ?_)
            refine exE hw (fun qs2_325 hw1 => anE hw1 (fun hqe_326 hw2 => anE hw2 (fun hqs2_327 eu_328 => ?_)))
            clear hw hw1 hw2
            refine o_mgE (ws' := [ro_ mm 12 (mo g (nI ta) (nI (pa2_268 + 1)) (nI pe) pd (nI pb) pp pf pg pn rt rn (nI cd) sn (nI il) tk am at_ aa 0 0 (-1) wt wy 0 (nI rm) (nI ud) (nI nu) sd (nI (qn2_310 + 1)) (nI (qw2_309 - 1)) v_320 (nI qb) (nI qp) qa (nI qi) (nI oc)), ra_N (g 0) cI 1600 tb, ra_N (g 80) cI 1700 qs2_325, ra_N (g 82) cI 1700 qt]) eu_328 hP hD rfl (fun hP hD => ?_)
            have hY3 := y_closem (v := 5) hY2 hld.1 (by omega) (by omega) hs41
            rw [← hqe_326] at hY3
            rw [← ev_320] at hY3
            have hO3 : moO tb pe (bindR zg (nxF tb pe)) (pa2_268 + 1) pd pb pp := mo_takeS hzO hpb0 hpe (isS_cu.mp hs41) (by decide) (by rw [hsk_274]) rfl
            have hY4 : yO (Xa tb pe kn 0) d0 m0 qb T (bindR zg (nxF tb pe)) _ _ qt _ _ := (by rw [hg]; exact hY3)
            refine lv_aload_n hx hb dX12_qGoesOn_115 rfl (lv_at hl 0 rfl) ?_
            refine sk_Vv (q0 := 0) (n := 0) (rest := []) (wr := fmR om_4_b _) ⟨hx, hb, hml, hown, hts⟩ hl.1 (c_em_qEndsPart l D cI cJ cC cZ cS mm g ta (pa2_268 + 1) pe pd pb pp pf pg pn rt rn cd sn il tk am at_ aa wt wy rm ud nu sd (qn2_310 + 1) (qw2_309 - 1) v_320 qb qp qa qi oc qs2_325 qt K n0 tb kn d0 m0 T (cuO tb pe (pa2_268 + 1) pd) hpb (by omega) hqb (fun _ => SJ_popm hsj2_312 hld.1 (by omega) (by omega) hqe_326) (fun h0 => yo_at hO3 h0 hY4) hqs2_327 hqt) w_7_59 w_7_61 w_0_62 w_1_14 w_7_62 hd_X12_qEndsPart_0 ⟨⟨(Nat.le_of_ble_eq_true rfl), (Nat.le_of_ble_eq_true rfl)⟩, (Nat.le_of_ble_eq_true rfl), (Nat.le_of_ble_eq_true rfl)⟩ hK hP hD hS hA (fmT om_4_b 0) (fmF om_4_b 0) (fm_C1 rfl rfl) (fm_R rfl rfl) (fm_nT om_4_b 0) (fm_nF om_4_b 0) (fm_di om_4_b 0) rfl rfl rfl rfl (Nat.le_of_ble_eq_true rfl) dX12_qGoesOn_116 (fun u H locs hw hP hD hS => ?_)
            refine exE hw (fun qw2_329 hw1 => exE hw1 (fun qn2_330 hw2 => exE hw2 (fun qo2_331 hw3 => exE hw3 (fun qs2_332 hw4 => anE hw4 (fun hsj2_333 hw5 => anE hw5 (fun hsum_334 hw6 => anE hw6 (fun hya2_335 hw7 => anE hw7 (fun hqs2_336 eu_337 => ?_))))))))
            clear hw hw1 hw2 hw3 hw4 hw5 hw6 hw7
            refine o_mgE (ws' := [ro_ mm 12 (mo g (nI ta) (nI (pa2_268 + 1)) (nI pe) pd (nI pb) pp pf pg pn rt rn (nI cd) sn (nI il) tk am at_ aa 0 0 (-1) wt wy 0 (nI rm) (nI ud) (nI nu) sd (nI qn2_330) (nI qw2_329) qo2_331 (nI qb) (nI qp) qa (nI qi) (nI oc)), ra_N (g 0) cI 1600 tb, ra_N (g 80) cI 1700 qs2_332, ra_N (g 82) cI 1700 qt]) eu_337 hP hD rfl (fun hP hD => ?_)
            refine lv_goto (tgt := 0) hx hb dX12_qGoesOn_119 (by decide) ?_
            exact ih_lp_1 (pa2_268 + 1) qn2_330 qw2_329 qo2_331 qs2_332 (bindR zg (nxF tb pe)) _ _ _ (by omega) hqs2_336 hO3 (by omega) (by omega) (by omega) (hsj2_333 hpb0) (ya_of hO3 (yo_e hY4) hya2_335) hP hD hS (lv_sub hl [0] rfl)
          · skip
            refine lv_aload_n hx hb dX12_qGoesOn_34 rfl (lv_at hl 0 rfl) ?_
            refine sk_Vi (q0 := 0) (n := 0) (rest := []) (wr := fmR om_4_9 _) ⟨hx, hb, hml, hown, hts⟩ hl.1 (c_em_qBracket l D cI cJ cC cZ cS mm g ta pa2_268 pe pd pb pp pf pg pn rt rn cd sn il tk am at_ aa wt wy rm ud nu sd zn zw zo qb qp qa qi oc qt (by omega) hqb hqt) w_7_71 w_7_73 w_0_65 w_1_14 w_7_74 hd_X12_qBracket_0 ⟨⟨(Nat.le_of_ble_eq_true rfl), (Nat.le_of_ble_eq_true rfl)⟩, (Nat.le_of_ble_eq_true rfl), (Nat.le_of_ble_eq_true rfl)⟩ hK hP hD hS hA (fmT om_4_9 0) (fmF om_4_9 0) (fm_C1 rfl rfl) (fm_R rfl rfl) (fm_nT om_4_9 0) (fm_nF om_4_9 0) (fm_di om_4_9 0) rfl rfl rfl rfl (Nat.le_of_ble_eq_true rfl) dX12_qGoesOn_35 (fun r_338 u H locs hw hP hD hS => ?_)
            refine anE hw (fun hlb_339 eu_340 => ?_)
            clear hw
            refine o_mgE (ws' := [ro_ mm 12 (mo g (nI ta) (nI pa2_268) (nI pe) pd (nI pb) pp pf pg pn rt rn (nI cd) sn (nI il) tk am at_ aa 0 0 (-1) wt wy 0 (nI rm) (nI ud) (nI nu) sd (nI zn) (nI zw) zo (nI qb) (nI qp) qa (nI qi) (nI oc)), ra_N (g 0) cI 1600 tb, ra_N (g 80) cI 1700 zs, ra_N (g 82) cI 1700 qt]) eu_340 hP hD rfl (fun hP hD => ?_)
            refine lv_bipush (v := 24) hx hb dX12_qGoesOn_38 (by decide) ?_
            refine lv_icmp_ne (tgt := 122) hx hb dX12_qGoesOn_40 (by decide) (fun c_341 => ?_) (fun c_341 => ?_)
            · skip
              exact jn_4 pa2_268 _ _ _ hpa2_270 hpa3_271 hsk_274 (fun _ => brno_of hlb_279 hlb_306 hlb_339 c_281 c_308 c_341) hP hD hS (lv_sub hl [0] rfl)
            · skip
              refine lv_aload_n hx hb dX12_qGoesOn_43 rfl (lv_at hl 0 rfl) ?_
              refine lv_dup hx hb dX12_qGoesOn_44 rfl ?_
              refine sk_get (v := .int (nI pa2_268)) (C := RX12) (T := TX12) (N := 92) hx hb hts inlX12 hown hK hP 0 rfl rfl 2 (Nat.le_of_ble_eq_true rfl) w_5_157 rfl dX12_qGoesOn_45 ?_
              refine lv_iconst (v := 1) hx hb dX12_qGoesOn_48 ic_1 ?_
              refine lv_iadd hx hb dX12_qGoesOn_49 ?_
              refine sk_top (nI (pa2_268 + 1)) (nI_add pa2_268 1) ?_
              refine sk_put (ws' := [ro_ mm 12 (mo g (nI ta) (nI (pa2_268 + 1)) (nI pe) pd (nI pb) pp pf pg pn rt rn (nI cd) sn (nI il) tk am at_ aa 0 0 (-1) wt wy 0 (nI rm) (nI ud) (nI nu) sd (nI zn) (nI zw) zo (nI qb) (nI qp) qa (nI qi) (nI oc)), ra_N (g 0) cI 1600 tb, ra_N (g 80) cI 1700 zs, ra_N (g 82) cI 1700 qt]) (C := RX12) (T := TX12) (N := 92) (v := .int (nI (pa2_268 + 1))) hx hb hts inlX12 tyX12 tyX12_ok nmX12 hown hK hP hD hS 0 rfl rfl 2 (Nat.le_of_ble_eq_true rfl) w_5_157 rfl rfl rfl (Nat.le_of_ble_eq_true rfl) rfl dX12_qGoesOn_50 (fun H locs hP hD hS => ?_)
              refine lv_aload_n hx hb dX12_qGoesOn_53 rfl (lv_at hl 0 rfl) ?_
              refine sk_Vv (q0 := 0) (n := 0) (rest := []) (wr := fmR om_4_b _) ⟨hx, hb, hml, hown, hts⟩ hl.1 (c_em_qDropsToBracket l D cI cJ cC cZ cS mm g ta (pa2_268 + 1) pe pd pb pp pf pg pn rt rn cd sn il tk am at_ aa wt wy rm ud nu sd zn zw zo qb qp qa qi oc zs qt K n0 tb kn d0 m0 T (cuO tb pe za pd) (by omega) hqb hzj (yd_0 hA0.1 hA0.2) (isS_not hs41 (by decide)) (isS_not hs41 (by decide)) hzs hqt) w_7_78 w_7_80 w_0_66 w_1_14 w_7_81 hd_X12_qDropsToBracket_0 ⟨⟨(Nat.le_of_ble_eq_true rfl), (Nat.le_of_ble_eq_true rfl)⟩, (Nat.le_of_ble_eq_true rfl), (Nat.le_of_ble_eq_true rfl)⟩ hK hP hD hS hA (fmT om_4_b 0) (fmF om_4_b 0) (fm_C1 rfl rfl) (fm_R rfl rfl) (fm_nT om_4_b 0) (fm_nF om_4_b 0) (fm_di om_4_b 0) rfl rfl rfl rfl (Nat.le_of_ble_eq_true rfl) dX12_qGoesOn_54 (fun u H locs hw hP hD hS => ?_)
              refine exE hw (fun qw2_342 hw1 => exE hw1 (fun qn2_343 hw2 => exE hw2 (fun qs2_344 hw3 => anE hw3 (fun hsj2_345 hw4 => anE hw4 (fun hsum_346 hw5 => anE hw5 (fun hle_347 hw6 => anE hw6 (fun hend_348 hw7 => anE hw7 (fun hnb2_349 hw8 => anE hw8 (fun hyd2_350 hw9 => anE hw9 (fun hqs2_351 eu_352 => ?_))))))))))
              clear hw hw1 hw2 hw3 hw4 hw5 hw6 hw7 hw8 hw9
              refine o_mgE (ws' := [ro_ mm 12 (mo g (nI ta) (nI (pa2_268 + 1)) (nI pe) pd (nI pb) pp pf pg pn rt rn (nI cd) sn (nI il) tk am at_ aa 0 0 (-1) wt wy 0 (nI rm) (nI ud) (nI nu) sd (nI qn2_343) (nI qw2_342) zo (nI qb) (nI qp) qa (nI qi) (nI oc)), ra_N (g 0) cI 1600 tb, ra_N (g 80) cI 1700 qs2_344, ra_N (g 82) cI 1700 qt]) eu_352 hP hD rfl (fun hP hD => ?_)
              have hld := lb_drop (v := 24) hlb_339 (by omega) c_341 hle_347 hend_348 hnb2_349
              have htop : topO qt qb qw2_342 = 24 := by unfold topO; rw [if_pos (by omega)]; exact hld.2
              have hY2 := yd_2 hyd2_350 (by rw [htop]; decide) (isS_not hs41 (by decide)) (isS_not hs41 (by decide))
              refine lv_aload_n hx hb dX12_qGoesOn_57 rfl (lv_at hl 0 rfl) ?_
              refine lv_dup hx hb dX12_qGoesOn_58 rfl ?_
              refine sk_get (v := .int (nI qw2_342)) (C := RX12) (T := TX12) (N := 92) hx hb hts inlX12 hown hK hP 0 rfl rfl 83 (Nat.le_of_ble_eq_true rfl) w_5_238 rfl dX12_qGoesOn_59 ?_
              refine lv_iconst (v := 1) hx hb dX12_qGoesOn_62 ic_1 ?_
              refine lv_isub hx hb dX12_qGoesOn_63 ?_
              refine sk_top (nI (qw2_342 - 1)) (nsub qw2_342 1 (by omega)) ?_
              refine sk_put (ws' := [ro_ mm 12 (mo g (nI ta) (nI (pa2_268 + 1)) (nI pe) pd (nI pb) pp pf pg pn rt rn (nI cd) sn (nI il) tk am at_ aa 0 0 (-1) wt wy 0 (nI rm) (nI ud) (nI nu) sd (nI qn2_343) (nI (qw2_342 - 1)) zo (nI qb) (nI qp) qa (nI qi) (nI oc)), ra_N (g 0) cI 1600 tb, ra_N (g 80) cI 1700 qs2_344, ra_N (g 82) cI 1700 qt]) (C := RX12) (T := TX12) (N := 92) (v := .int (nI (qw2_342 - 1))) hx hb hts inlX12 tyX12 tyX12_ok nmX12 hown hK hP hD hS 0 rfl rfl 83 (Nat.le_of_ble_eq_true rfl) w_5_238 rfl rfl rfl (Nat.le_of_ble_eq_true rfl) rfl dX12_qGoesOn_64 (fun H locs hP hD hS => ?_)
              refine lv_aload_n hx hb dX12_qGoesOn_67 rfl (lv_at hl 0 rfl) ?_
              refine lv_dup hx hb dX12_qGoesOn_68 rfl ?_
              refine sk_get (v := .int zo) (C := RX12) (T := TX12) (N := 92) hx hb hts inlX12 hown hK hP 0 rfl rfl 84 (Nat.le_of_ble_eq_true rfl) w_5_239 rfl dX12_qGoesOn_69 ?_
              refine lv_iconst (v := 1) hx hb dX12_qGoesOn_72 ic_1 ?_
              refine lv_isub hx hb dX12_qGoesOn_73 ?_
              refine lv_topi (fun v_353 ev_353 => ?_)
              refine sk_put (ws' := [ro_ mm 12 (mo g (nI ta) (nI (pa2_268 + 1)) (nI pe) pd (nI pb) pp pf pg pn rt rn (nI cd) sn (nI il) tk am at_ aa 0 0 (-1) wt wy 0 (nI rm) (nI ud) (nI nu) sd (nI qn2_343) (nI (qw2_342 - 1)) v_353 (nI qb) (nI qp) qa (nI qi) (nI oc)), ra_N (g 0) cI 1600 tb, ra_N (g 80) cI 1700 qs2_344, ra_N (g 82) cI 1700 qt]) (C := RX12) (T := TX12) (N := 92) (v := .int v_353) hx hb hts inlX12 tyX12 tyX12_ok nmX12 hown hK hP hD hS 0 rfl rfl 84 (Nat.le_of_ble_eq_true rfl) w_5_239 rfl rfl rfl (Nat.le_of_ble_eq_true rfl) rfl dX12_qGoesOn_74 (fun H locs hP hD hS => ?_)
              refine lv_aload_n hx hb dX12_qGoesOn_77 rfl (lv_at hl 0 rfl) ?_
              refine sk_get (v := .ref (g 82)) (C := RX12) (T := TX12) (N := 92) hx hb hts inlX12 hown hK hP 0 rfl rfl 82 (Nat.le_of_ble_eq_true rfl) w_5_237 rfl dX12_qGoesOn_78 ?_
              refine lv_aload_n hx hb dX12_qGoesOn_81 rfl (lv_at hl 0 rfl) ?_
              refine sk_get (v := .int (nI (qw2_342 - 1))) (C := RX12) (T := TX12) (N := 92) hx hb hts inlX12 hown hK hP 0 rfl rfl 83 (Nat.le_of_ble_eq_true rfl) w_5_238 rfl dX12_qGoesOn_82 ?_
              refine va_iald hx hb hK.1 hP 3 0 rfl rfl (vin (qw2_342 - 1) 1700 (by omega) (Nat.le_of_ble_eq_true rfl)) dX12_qGoesOn_85 ?_
              refine sk_top (nI (qt (qw2_342 - 1))) (nrd qt (qw2_342 - 1) (by omega)) ?_
              have hb_354 := hqt (qw2_342 - 1)
              refine lv_bipush (v := 20) hx hb dX12_qGoesOn_86 (by decide) ?_
              refine lv_icmp_eq (tgt := 115) hx hb dX12_qGoesOn_88 (by decide) (fun c => absurd ((neq (qt (qw2_342 - 1)) 20 (by omega) (Nat.le_of_ble_eq_true rfl)).mp c) (by omega)) (fun c_355 => ?_)
              refine lv_aload_n hx hb dX12_qGoesOn_91 rfl (lv_at hl 0 rfl) ?_
              refine lv_aload_n hx hb dX12_qGoesOn_92 rfl (lv_at hl 0 rfl) ?_
              refine sk_get (v := .ref (g 82)) (C := RX12) (T := TX12) (N := 92) hx hb hts inlX12 hown hK hP 0 rfl rfl 82 (Nat.le_of_ble_eq_true rfl) w_5_237 rfl dX12_qGoesOn_93 ?_
              refine lv_aload_n hx hb dX12_qGoesOn_96 rfl (lv_at hl 0 rfl) ?_
              refine sk_get (v := .int (nI (qw2_342 - 1))) (C := RX12) (T := TX12) (N := 92) hx hb hts inlX12 hown hK hP 0 rfl rfl 83 (Nat.le_of_ble_eq_true rfl) w_5_238 rfl dX12_qGoesOn_97 ?_
              refine va_iald hx hb hK.1 hP 3 0 rfl rfl (vin (qw2_342 - 1) 1700 (by omega) (Nat.le_of_ble_eq_true rfl)) dX12_qGoesOn_100 ?_
              refine sk_top (nI (qt (qw2_342 - 1))) (nrd qt (qw2_342 - 1) (by omega)) ?_
              have hb_356 := hqt (qw2_342 - 1)
              refine lv_bipush (v := 23) hx hb dX12_qGoesOn_101 (by decide) ?_
              refine lv_icmp_ne (tgt := 110) hx hb dX12_qGoesOn_103 (by decide) (fun c_357 => ?_) (fun c => absurd ((neq (qt (qw2_342 - 1)) 23 (by omega) (Nat.le_of_ble_eq_true rfl)).mp c) (by omega))
              refine lv_bipush (v := 6) hx hb dX12_qGoesOn_110 (by decide) ?_
              refine sk_Vv (q0 := 0) (n := 1) (rest := []) (wr := fmR om_4_a _) ⟨hx, hb, hml, hown, hts⟩ hl.1 (c_em_qCode l D cI cJ cC cZ cS mm g ta (pa2_268 + 1) pe pd pb pp pf pg pn rt rn cd sn il tk am at_ aa wt wy rm ud nu sd qn2_343 (qw2_342 - 1) v_353 qb qp qa qi oc 6 qs2_344 (by omega) (by omega) hqs2_351) w_7_55 w_7_57 w_0_61 w_1_14 w_7_58 hd_X12_qCode_1 ⟨⟨(Nat.le_of_ble_eq_true rfl), (Nat.le_of_ble_eq_true rfl)⟩, (Nat.le_of_ble_eq_true rfl), (Nat.le_of_ble_eq_true rfl)⟩ hK hP hD hS hA (fmT om_4_a 0) (fmF om_4_a 0) (fm_C1 rfl rfl) (fm_R rfl rfl) (fm_nT om_4_a 0) (fm_nF om_4_a 0) (fm_di om_4_a 0) rfl rfl rfl rfl (Nat.le_of_ble_eq_true rfl) dX12_qGoesOn_112 (fun u H locs hw hP hD hS => ?_)
              refine exE hw (fun qs2_358 hw1 => anE hw1 (fun hqe_359 hw2 => anE hw2 (fun hqs2_360 eu_361 => ?_)))
              clear hw hw1 hw2
              refine o_mgE (ws' := [ro_ mm 12 (mo g (nI ta) (nI (pa2_268 + 1)) (nI pe) pd (nI pb) pp pf pg pn rt rn (nI cd) sn (nI il) tk am at_ aa 0 0 (-1) wt wy 0 (nI rm) (nI ud) (nI nu) sd (nI (qn2_343 + 1)) (nI (qw2_342 - 1)) v_353 (nI qb) (nI qp) qa (nI qi) (nI oc)), ra_N (g 0) cI 1600 tb, ra_N (g 80) cI 1700 qs2_358, ra_N (g 82) cI 1700 qt]) eu_361 hP hD rfl (fun hP hD => ?_)
              have hY3 := y_closem (v := 6) hY2 hld.1 (by omega) (by omega) hs41
              rw [← hqe_359] at hY3
              rw [← ev_353] at hY3
              have hO3 : moO tb pe (bindR zg (nxF tb pe)) (pa2_268 + 1) pd pb pp := mo_takeS hzO hpb0 hpe (isS_cu.mp hs41) (by decide) (by rw [hsk_274]) rfl
              have hY4 : yO (Xa tb pe kn 0) d0 m0 qb T (bindR zg (nxF tb pe)) _ _ qt _ _ := (by rw [hg]; exact hY3)
              refine lv_aload_n hx hb dX12_qGoesOn_115 rfl (lv_at hl 0 rfl) ?_
              refine sk_Vv (q0 := 0) (n := 0) (rest := []) (wr := fmR om_4_b _) ⟨hx, hb, hml, hown, hts⟩ hl.1 (c_em_qEndsPart l D cI cJ cC cZ cS mm g ta (pa2_268 + 1) pe pd pb pp pf pg pn rt rn cd sn il tk am at_ aa wt wy rm ud nu sd (qn2_343 + 1) (qw2_342 - 1) v_353 qb qp qa qi oc qs2_358 qt K n0 tb kn d0 m0 T (cuO tb pe (pa2_268 + 1) pd) hpb (by omega) hqb (fun _ => SJ_popm hsj2_345 hld.1 (by omega) (by omega) hqe_359) (fun h0 => yo_at hO3 h0 hY4) hqs2_360 hqt) w_7_59 w_7_61 w_0_62 w_1_14 w_7_62 hd_X12_qEndsPart_0 ⟨⟨(Nat.le_of_ble_eq_true rfl), (Nat.le_of_ble_eq_true rfl)⟩, (Nat.le_of_ble_eq_true rfl), (Nat.le_of_ble_eq_true rfl)⟩ hK hP hD hS hA (fmT om_4_b 0) (fmF om_4_b 0) (fm_C1 rfl rfl) (fm_R rfl rfl) (fm_nT om_4_b 0) (fm_nF om_4_b 0) (fm_di om_4_b 0) rfl rfl rfl rfl (Nat.le_of_ble_eq_true rfl) dX12_qGoesOn_116 (fun u H locs hw hP hD hS => ?_)
              refine exE hw (fun qw2_362 hw1 => exE hw1 (fun qn2_363 hw2 => exE hw2 (fun qo2_364 hw3 => exE hw3 (fun qs2_365 hw4 => anE hw4 (fun hsj2_366 hw5 => anE hw5 (fun hsum_367 hw6 => anE hw6 (fun hya2_368 hw7 => anE hw7 (fun hqs2_369 eu_370 => ?_))))))))
              clear hw hw1 hw2 hw3 hw4 hw5 hw6 hw7
              refine o_mgE (ws' := [ro_ mm 12 (mo g (nI ta) (nI (pa2_268 + 1)) (nI pe) pd (nI pb) pp pf pg pn rt rn (nI cd) sn (nI il) tk am at_ aa 0 0 (-1) wt wy 0 (nI rm) (nI ud) (nI nu) sd (nI qn2_363) (nI qw2_362) qo2_364 (nI qb) (nI qp) qa (nI qi) (nI oc)), ra_N (g 0) cI 1600 tb, ra_N (g 80) cI 1700 qs2_365, ra_N (g 82) cI 1700 qt]) eu_370 hP hD rfl (fun hP hD => ?_)
              refine lv_goto (tgt := 0) hx hb dX12_qGoesOn_119 (by decide) ?_
              exact ih_lp_1 (pa2_268 + 1) qn2_363 qw2_362 qo2_364 qs2_365 (bindR zg (nxF tb pe)) _ _ _ (by omega) hqs2_369 hO3 (by omega) (by omega) (by omega) (hsj2_366 hpb0) (ya_of hO3 (yo_e hY4) hya2_368) hP hD hS (lv_sub hl [0] rfl)
  exact lp_1 (pe - pa + 1) pa qn qw qo qs og _ _ _ (Nat.lt_succ_self _) hqs hO (by omega) hpa hqa hsj hyA hP hD hS (lv_sub hl [0] rfl)
theorem ge_er {tb : Nat → Nat} {n kn : Nat} {o : Except Err Cur} {pa : Nat} {pd : Int32} {pb : Nat} {pp : Int32} {d0 m0 b : Nat} {T : Res} {qs : Nat → Nat} {qn : Nat} {qt : Nat → Nat} {w : Nat} {qo : Int32} (h : moO tb n o pa pd pb pp) (hb : ¬ pb = 0) (he : ∀ e, o = .error e → T = .error e) : gE tb n kn d0 m0 b T o qs qn qt w qo := by
  obtain ⟨e, rfl⟩ := mo_nz h hb
  exact he e rfl
set_option maxHeartbeats 4000000 in
set_option maxRecDepth 100000 in
theorem c_em_qSums (l : Launch) (D : va_G) (cI cJ cC cZ cS : ClassId) (mm : Nat) (g : Nat → Nat) (ta : Nat) (pa : Nat) (pe : Nat) (pd : Int32) (pb : Nat) (pp : Int32) (pf : Int32) (pg : Int32) (pn : Int32) (rt : Int32) (rn : Int32) (cd : Nat) (sn : Int32) (il : Nat) (tk : Int32) (am : Int32) (at_ : Int32) (aa : Int32) (wt : Int32) (wy : Int64) (rm : Nat) (ud : Nat) (nu : Nat) (sd : Int64) (qn : Nat) (qw : Nat) (qo : Int32) (qb : Nat) (qp : Nat) (qa : Int64) (qi : Nat) (oc : Nat) (tb : Nat → Nat) (qs : Nat → Nat) (qt : Nat → Nat) (K : Nat) (n0 : Nat) (a0 : Nat) (kn : Nat) (d0 : Nat) (og : Except Err Cur) (hpa : pa ≤ pe) (hpe : pe ≤ 1600) (hpb : pb ≤ 5) (hpb0 : pb = 0) (hqa : qn + qw + a0 ≤ pa) (htk : tk = nI kn) (hkn : kn ≤ 2) (hd0 : d0 ≤ 6) (hqo : qo = nI (6 - d0)) (hsj : SJ K n0 qs qn qt qw qw) (hO : moO tb pe og pa pd pb pp) (htb : ∀ j, tb j ≤ 255) (hqs : ∀ j, qs j ≤ 20000) (hqt : ∀ j, qt j ≤ 100) : skM l yX12_qSums cX12_qSums 3 none 6 131 0 0 D (skT cI cJ cC cZ cS) [.ref mm] [ro_ mm 12 (mo g (nI ta) (nI pa) (nI pe) pd (nI pb) pp pf pg pn rt rn (nI cd) sn (nI il) tk am at_ aa 0 0 (-1) wt wy 0 (nI rm) (nI ud) (nI nu) sd (nI qn) (nI qw) qo (nI qb) (nI qp) qa (nI qi) (nI oc)), ra_N (g 0) cI 1600 tb, ra_N (g 80) cI 1700 qs, ra_N (g 82) cI 1700 qt, ra_I (g 68) cC 3 (cw [109, 105, 110]), ra_I (g 69) cC 3 (cw [109, 97, 120]), ra_I (g 70) cC 4 (cw [109, 111, 111, 100]), ra_I (g 71) cC 5 (cw [98, 97, 114, 103, 101]), ra_I (g 72) cC 3 (cw [119, 101, 116]), ra_I (g 73) cC 3 (cw [100, 97, 121]), ra_I (g 74) cC 4 (cw [119, 101, 101, 107]), ra_I (g 75) cC 4 (cw [116, 111, 108, 100]), ra_I (g 76) cC 5 (cw [97, 108, 111, 110, 101]), ra_I (g 77) cC 6 (cw [110, 117, 109, 98, 101, 114]), ra_I (g 78) cC 4 (cw [109, 117, 116, 101]), ra_I (g 58) cC 5 (cw [102, 105, 114, 115, 116]), ra_I (g 79) cC 5 (cw [119, 101, 101, 107, 115])] (skV D (skT cI cJ cC cZ cS) (fun (u : va_W) => ∃ (o2 : Except Err Cur), ∃ (pa2 : Nat), ∃ (pd2 : Int32), ∃ (pb2 : Nat), ∃ (pp2 : Int32), ∃ (pn2 : Int32), ∃ (qn2 : Nat), ∃ (qw2 : Nat), ∃ (qo2 : Int32), ∃ (qs2 : Nat → Nat), ∃ (qt2 : Nat → Nat), pa ≤ pa2 ∧ pa2 ≤ pe ∧ pb2 ≤ 5 ∧ (¬ pb2 = 0 ∨ (pa + 1 ≤ pa2 ∧ qn2 + qw2 + a0 ≤ pa2)) ∧ qn2 + qw2 + a0 ≤ pa2 + 1 ∧ (hide (pb2 = 0 → SJ (K + 1) n0 qs2 qn2 qt2 qw2 qw2)) ∧ moO tb pe o2 pa2 pd2 pb2 pp2 ∧ sE d0 qn (sumD tb pe kn d0 (cuO tb pe pa pd)) o2 qs2 qn2 qo2 ∧ (hide (pb2 = 0 → kpO qw qt qt2)) ∧ (pb2 = 0 → qw2 = qw) ∧ (∀ j, qs2 j ≤ 20000) ∧ (∀ j, qt2 j ≤ 100) ∧ u = [ro_ mm 12 (mo g (nI ta) (nI pa2) (nI pe) pd2 (nI pb2) pp2 pf pg pn2 rt rn (nI cd) sn (nI il) tk am at_ aa 0 0 (-1) wt wy 0 (nI rm) (nI ud) (nI nu) sd (nI qn2) (nI qw2) qo2 (nI qb) (nI qp) qa (nI qi) (nI oc)), ra_N (g 0) cI 1600 tb, ra_N (g 80) cI 1700 qs2, ra_N (g 82) cI 1700 qt2, ra_I (g 68) cC 3 (cw [109, 105, 110]), ra_I (g 69) cC 3 (cw [109, 97, 120]), ra_I (g 70) cC 4 (cw [109, 111, 111, 100]), ra_I (g 71) cC 5 (cw [98, 97, 114, 103, 101]), ra_I (g 72) cC 3 (cw [119, 101, 116]), ra_I (g 73) cC 3 (cw [100, 97, 121]), ra_I (g 74) cC 4 (cw [119, 101, 101, 107]), ra_I (g 75) cC 4 (cw [116, 111, 108, 100]), ra_I (g 76) cC 5 (cw [97, 108, 111, 110, 101]), ra_I (g 77) cC 6 (cw [110, 117, 109, 98, 101, 114]), ra_I (g 78) cC 4 (cw [109, 117, 116, 101]), ra_I (g 58) cC 5 (cw [102, 105, 114, 115, 116]), ra_I (g 79) cC 5 (cw [119, 101, 101, 107, 115])])) := by
  refine skM_of pf_X12_qSums (Nat.le_of_ble_eq_true rfl) ?_
  intro p e s m below meth c A ls E hP hD hl
  refine skE_el E (fun hx hb hr hml hlocks hin hown hts hK hA => ?_)
  have hown : s.vm.findClass RX12 = some m.cls := hown
  have hS : va_S A s.heap s.heap [] := va_S.rf
  have hl : lv_has ls 3 [(0, .ref mm)] := hl
  refine lv_aload_n hx hb dX12_qSums_0 rfl (lv_at hl 0 rfl) ?_
  refine sk_get (v := .int (nI qb)) (C := RX12) (T := TX12) (N := 92) hx hb hts inlX12 hown hK hP 0 rfl rfl 85 (Nat.le_of_ble_eq_true rfl) w_6_0 rfl dX12_qSums_1 ?_
  refine lv_istore_n (lv' := [(1, .int (nI qb)), (0, .ref mm)]) hx hb dX12_qSums_4 rfl hl (by decide) rfl (fun ls hl => ?_)
  refine lv_aload_n hx hb dX12_qSums_5 rfl (lv_at hl 1 rfl) ?_
  refine lv_aload_n hx hb dX12_qSums_6 rfl (lv_at hl 1 rfl) ?_
  refine sk_get (v := .int (nI qw)) (C := RX12) (T := TX12) (N := 92) hx hb hts inlX12 hown hK hP 0 rfl rfl 83 (Nat.le_of_ble_eq_true rfl) w_5_238 rfl dX12_qSums_7 ?_
  refine sk_put (ws' := [ro_ mm 12 (mo g (nI ta) (nI pa) (nI pe) pd (nI pb) pp pf pg pn rt rn (nI cd) sn (nI il) tk am at_ aa 0 0 (-1) wt wy 0 (nI rm) (nI ud) (nI nu) sd (nI qn) (nI qw) qo (nI qw) (nI qp) qa (nI qi) (nI oc)), ra_N (g 0) cI 1600 tb, ra_N (g 80) cI 1700 qs, ra_N (g 82) cI 1700 qt, ra_I (g 68) cC 3 (cw [109, 105, 110]), ra_I (g 69) cC 3 (cw [109, 97, 120]), ra_I (g 70) cC 4 (cw [109, 111, 111, 100]), ra_I (g 71) cC 5 (cw [98, 97, 114, 103, 101]), ra_I (g 72) cC 3 (cw [119, 101, 116]), ra_I (g 73) cC 3 (cw [100, 97, 121]), ra_I (g 74) cC 4 (cw [119, 101, 101, 107]), ra_I (g 75) cC 4 (cw [116, 111, 108, 100]), ra_I (g 76) cC 5 (cw [97, 108, 111, 110, 101]), ra_I (g 77) cC 6 (cw [110, 117, 109, 98, 101, 114]), ra_I (g 78) cC 4 (cw [109, 117, 116, 101]), ra_I (g 58) cC 5 (cw [102, 105, 114, 115, 116]), ra_I (g 79) cC 5 (cw [119, 101, 101, 107, 115])]) (C := RX12) (T := TX12) (N := 92) (v := .int (nI qw)) hx hb hts inlX12 tyX12 tyX12_ok nmX12 hown hK hP hD hS 0 rfl rfl 85 (Nat.le_of_ble_eq_true rfl) w_6_0 rfl rfl rfl (Nat.le_of_ble_eq_true rfl) rfl dX12_qSums_10 (fun H locs hP hD hS => ?_)
  refine lv_iconst (v := 1) hx hb dX12_qSums_13 ic_1 ?_
  refine lv_istore_n (lv' := [(2, .int 1), (1, .int (nI qb)), (0, .ref mm)]) hx hb dX12_qSums_14 rfl hl (by decide) rfl (fun ls hl => ?_)
  have lp_1 : ∀ (n_2 : Nat) (mo_ : Nat) (za : Nat) (zd : Int32) (zb : Nat) (zp : Int32) (znp : Int32) (zn : Nat) (zw : Nat) (zo : Int32) (zs : Nat → Nat) (zt : Nat → Nat) (zg : Except Err Cur) (H : Heap) (locs : List Loc) (ls : Array Slot), (pe - za) + (5 - zb) + mo_ < n_2 → (∀ j, zs j ≤ 20000) → (∀ j, zt j ≤ 100) → (moO tb pe zg za zd zb zp) → (pa ≤ za) → (za ≤ pe) → (zb ≤ 5) → (mo_ ≤ 1) → (¬ zb = 0 ∨ zn + zw + a0 ≤ za) → (zn + zw + a0 ≤ za + 1) → (mo_ = 1 ∨ ¬ zb = 0 ∨ pa + 1 ≤ za) → (hide (zb = 0 → mo_ = 1 → SJ K n0 zs zn zt qw zw)) → (hide (zb = 0 → mo_ = 0 → (SJ (K + 1) n0 zs zn zt qw zw ∧ nbr zt qw zw))) → (hide (mo_ = 1 → yO (Xp tb pe kn) d0 qn qw (sumD tb pe kn d0 (cuO tb pe pa pd)) zg zs zn zt zw zo)) → (hide (mo_ = 0 → gE tb pe kn d0 qn qw (sumD tb pe kn d0 (cuO tb pe pa pd)) zg zs zn zt zw zo)) → (hide (zb = 0 → kpO qw qt zt)) → va_P D vwCl [ro_ mm 12 (mo g (nI ta) (nI za) (nI pe) zd (nI zb) zp pf pg znp rt rn (nI cd) sn (nI il) tk am at_ aa 0 0 (-1) wt wy 0 (nI rm) (nI ud) (nI nu) sd (nI zn) (nI zw) zo (nI qw) (nI qp) qa (nI qi) (nI oc)), ra_N (g 0) cI 1600 tb, ra_N (g 80) cI 1700 zs, ra_N (g 82) cI 1700 zt, ra_I (g 68) cC 3 (cw [109, 105, 110]), ra_I (g 69) cC 3 (cw [109, 97, 120]), ra_I (g 70) cC 4 (cw [109, 111, 111, 100]), ra_I (g 71) cC 5 (cw [98, 97, 114, 103, 101]), ra_I (g 72) cC 3 (cw [119, 101, 116]), ra_I (g 73) cC 3 (cw [100, 97, 121]), ra_I (g 74) cC 4 (cw [119, 101, 101, 107]), ra_I (g 75) cC 4 (cw [116, 111, 108, 100]), ra_I (g 76) cC 5 (cw [97, 108, 111, 110, 101]), ra_I (g 77) cC 6 (cw [110, 117, 109, 98, 101, 114]), ra_I (g 78) cC 4 (cw [109, 117, 116, 101]), ra_I (g 58) cC 5 (cw [102, 105, 114, 115, 116]), ra_I (g 79) cC 5 (cw [119, 101, 101, 107, 115])] H → va_D A [ro_ mm 12 (mo g (nI ta) (nI za) (nI pe) zd (nI zb) zp pf pg znp rt rn (nI cd) sn (nI il) tk am at_ aa 0 0 (-1) wt wy 0 (nI rm) (nI ud) (nI nu) sd (nI zn) (nI zw) zo (nI qw) (nI qp) qa (nI qi) (nI oc)), ra_N (g 0) cI 1600 tb, ra_N (g 80) cI 1700 zs, ra_N (g 82) cI 1700 zt, ra_I (g 68) cC 3 (cw [109, 105, 110]), ra_I (g 69) cC 3 (cw [109, 97, 120]), ra_I (g 70) cC 4 (cw [109, 111, 111, 100]), ra_I (g 71) cC 5 (cw [98, 97, 114, 103, 101]), ra_I (g 72) cC 3 (cw [119, 101, 116]), ra_I (g 73) cC 3 (cw [100, 97, 121]), ra_I (g 74) cC 4 (cw [119, 101, 101, 107]), ra_I (g 75) cC 4 (cw [116, 111, 108, 100]), ra_I (g 76) cC 5 (cw [97, 108, 111, 110, 101]), ra_I (g 77) cC 6 (cw [110, 117, 109, 98, 101, 114]), ra_I (g 78) cC 4 (cw [109, 117, 116, 101]), ra_I (g 58) cC 5 (cw [102, 105, 114, 115, 116]), ra_I (g 79) cC 5 (cw [119, 101, 101, 107, 115])] → va_S A s.heap H locs → lv_has ls 3 [(2, .int (nI mo_)), (1, .int (nI qb)), (0, .ref mm)] → W p l e { frames := 6, cells := 0, slots := 0, locals := 131 } s m ([.ref mm] : List Value).toArray below meth c H locs 0 0 (MQ below (skV D (skT cI cJ cC cZ cS) (fun (u : va_W) => ∃ (o2 : Except Err Cur), ∃ (pa2 : Nat), ∃ (pd2 : Int32), ∃ (pb2 : Nat), ∃ (pp2 : Int32), ∃ (pn2 : Int32), ∃ (qn2 : Nat), ∃ (qw2 : Nat), ∃ (qo2 : Int32), ∃ (qs2 : Nat → Nat), ∃ (qt2 : Nat → Nat), pa ≤ pa2 ∧ pa2 ≤ pe ∧ pb2 ≤ 5 ∧ (¬ pb2 = 0 ∨ (pa + 1 ≤ pa2 ∧ qn2 + qw2 + a0 ≤ pa2)) ∧ qn2 + qw2 + a0 ≤ pa2 + 1 ∧ (hide (pb2 = 0 → SJ (K + 1) n0 qs2 qn2 qt2 qw2 qw2)) ∧ moO tb pe o2 pa2 pd2 pb2 pp2 ∧ sE d0 qn (sumD tb pe kn d0 (cuO tb pe pa pd)) o2 qs2 qn2 qo2 ∧ (hide (pb2 = 0 → kpO qw qt qt2)) ∧ (pb2 = 0 → qw2 = qw) ∧ (∀ j, qs2 j ≤ 20000) ∧ (∀ j, qt2 j ≤ 100) ∧ u = [ro_ mm 12 (mo g (nI ta) (nI pa2) (nI pe) pd2 (nI pb2) pp2 pf pg pn2 rt rn (nI cd) sn (nI il) tk am at_ aa 0 0 (-1) wt wy 0 (nI rm) (nI ud) (nI nu) sd (nI qn2) (nI qw2) qo2 (nI qb) (nI qp) qa (nI qi) (nI oc)), ra_N (g 0) cI 1600 tb, ra_N (g 80) cI 1700 qs2, ra_N (g 82) cI 1700 qt2, ra_I (g 68) cC 3 (cw [109, 105, 110]), ra_I (g 69) cC 3 (cw [109, 97, 120]), ra_I (g 70) cC 4 (cw [109, 111, 111, 100]), ra_I (g 71) cC 5 (cw [98, 97, 114, 103, 101]), ra_I (g 72) cC 3 (cw [119, 101, 116]), ra_I (g 73) cC 3 (cw [100, 97, 121]), ra_I (g 74) cC 4 (cw [119, 101, 101, 107]), ra_I (g 75) cC 4 (cw [116, 111, 108, 100]), ra_I (g 76) cC 5 (cw [97, 108, 111, 110, 101]), ra_I (g 77) cC 6 (cw [110, 117, 109, 98, 101, 114]), ra_I (g 78) cC 4 (cw [109, 117, 116, 101]), ra_I (g 58) cC 5 (cw [102, 105, 114, 115, 116]), ra_I (g 79) cC 5 (cw [119, 101, 101, 107, 115])]) A) ([.ref mm] : List Value).toArray s 0 0 A) (F0 m 15 ls []) := by
    intro n_2
    induction n_2 with
    | zero => intro mo_ za zd zb zp znp zn zw zo zs zt zg H locs ls hm; exact absurd hm (Nat.not_lt_zero _)
    | succ n_2 ih_lp_1 =>
      intro mo_ za zd zb zp znp zn zw zo zs zt zg H locs ls hm hzs hzt hzO hza hza2 hzb hmo hzq hzq2 hpr hz1 hz0 hz1Y hz0Y hzk hP hD hS hl
      refine lv_iload_n hx hb dX12_qSums_15 rfl (lv_at hl 0 rfl) ?_
      refine lv_if_eq (tgt := 53) hx hb dX12_qSums_16 (by decide) (fun c_3 => ?_) (fun c_3 => ?_)
      · have c_3 : mo_ = 0 := (neq mo_ 0 (by omega) (Nat.le_of_ble_eq_true rfl)).mp c_3
        have lp_4 : ∀ (n_5 : Nat) (zn3 : Nat) (zw3 : Nat) (zs3 : Nat → Nat) (H : Heap) (locs : List Loc) (ls : Array Slot), zw3 < n_5 → (∀ j, zs3 j ≤ 20000) → (zn3 + zw3 = zn + zw) → (zw3 ≤ zw) → (hide (zb = 0 → SJ (K + 1) n0 zs3 zn3 zt qw zw3)) → (hide (zb = 0 → YD tb pe kn d0 qn qw (sumD tb pe kn d0 (cuO tb pe pa pd)) (cuO tb pe za zd) zs3 zn3 zt zw3 zo)) → va_P D vwCl [ro_ mm 12 (mo g (nI ta) (nI za) (nI pe) zd (nI zb) zp pf pg znp rt rn (nI cd) sn (nI il) tk am at_ aa 0 0 (-1) wt wy 0 (nI rm) (nI ud) (nI nu) sd (nI zn3) (nI zw3) zo (nI qw) (nI qp) qa (nI qi) (nI oc)), ra_N (g 0) cI 1600 tb, ra_N (g 80) cI 1700 zs3, ra_N (g 82) cI 1700 zt, ra_I (g 68) cC 3 (cw [109, 105, 110]), ra_I (g 69) cC 3 (cw [109, 97, 120]), ra_I (g 70) cC 4 (cw [109, 111, 111, 100]), ra_I (g 71) cC 5 (cw [98, 97, 114, 103, 101]), ra_I (g 72) cC 3 (cw [119, 101, 116]), ra_I (g 73) cC 3 (cw [100, 97, 121]), ra_I (g 74) cC 4 (cw [119, 101, 101, 107]), ra_I (g 75) cC 4 (cw [116, 111, 108, 100]), ra_I (g 76) cC 5 (cw [97, 108, 111, 110, 101]), ra_I (g 77) cC 6 (cw [110, 117, 109, 98, 101, 114]), ra_I (g 78) cC 4 (cw [109, 117, 116, 101]), ra_I (g 58) cC 5 (cw [102, 105, 114, 115, 116]), ra_I (g 79) cC 5 (cw [119, 101, 101, 107, 115])] H → va_D A [ro_ mm 12 (mo g (nI ta) (nI za) (nI pe) zd (nI zb) zp pf pg znp rt rn (nI cd) sn (nI il) tk am at_ aa 0 0 (-1) wt wy 0 (nI rm) (nI ud) (nI nu) sd (nI zn3) (nI zw3) zo (nI qw) (nI qp) qa (nI qi) (nI oc)), ra_N (g 0) cI 1600 tb, ra_N (g 80) cI 1700 zs3, ra_N (g 82) cI 1700 zt, ra_I (g 68) cC 3 (cw [109, 105, 110]), ra_I (g 69) cC 3 (cw [109, 97, 120]), ra_I (g 70) cC 4 (cw [109, 111, 111, 100]), ra_I (g 71) cC 5 (cw [98, 97, 114, 103, 101]), ra_I (g 72) cC 3 (cw [119, 101, 116]), ra_I (g 73) cC 3 (cw [100, 97, 121]), ra_I (g 74) cC 4 (cw [119, 101, 101, 107]), ra_I (g 75) cC 4 (cw [116, 111, 108, 100]), ra_I (g 76) cC 5 (cw [97, 108, 111, 110, 101]), ra_I (g 77) cC 6 (cw [110, 117, 109, 98, 101, 114]), ra_I (g 78) cC 4 (cw [109, 117, 116, 101]), ra_I (g 58) cC 5 (cw [102, 105, 114, 115, 116]), ra_I (g 79) cC 5 (cw [119, 101, 101, 107, 115])] → va_S A s.heap H locs → lv_has ls 3 [(2, .int (nI mo_)), (1, .int (nI qb)), (0, .ref mm)] → W p l e { frames := 6, cells := 0, slots := 0, locals := 131 } s m ([.ref mm] : List Value).toArray below meth c H locs 0 0 (MQ below (skV D (skT cI cJ cC cZ cS) (fun (u : va_W) => ∃ (o2 : Except Err Cur), ∃ (pa2 : Nat), ∃ (pd2 : Int32), ∃ (pb2 : Nat), ∃ (pp2 : Int32), ∃ (pn2 : Int32), ∃ (qn2 : Nat), ∃ (qw2 : Nat), ∃ (qo2 : Int32), ∃ (qs2 : Nat → Nat), ∃ (qt2 : Nat → Nat), pa ≤ pa2 ∧ pa2 ≤ pe ∧ pb2 ≤ 5 ∧ (¬ pb2 = 0 ∨ (pa + 1 ≤ pa2 ∧ qn2 + qw2 + a0 ≤ pa2)) ∧ qn2 + qw2 + a0 ≤ pa2 + 1 ∧ (hide (pb2 = 0 → SJ (K + 1) n0 qs2 qn2 qt2 qw2 qw2)) ∧ moO tb pe o2 pa2 pd2 pb2 pp2 ∧ sE d0 qn (sumD tb pe kn d0 (cuO tb pe pa pd)) o2 qs2 qn2 qo2 ∧ (hide (pb2 = 0 → kpO qw qt qt2)) ∧ (pb2 = 0 → qw2 = qw) ∧ (∀ j, qs2 j ≤ 20000) ∧ (∀ j, qt2 j ≤ 100) ∧ u = [ro_ mm 12 (mo g (nI ta) (nI pa2) (nI pe) pd2 (nI pb2) pp2 pf pg pn2 rt rn (nI cd) sn (nI il) tk am at_ aa 0 0 (-1) wt wy 0 (nI rm) (nI ud) (nI nu) sd (nI qn2) (nI qw2) qo2 (nI qb) (nI qp) qa (nI qi) (nI oc)), ra_N (g 0) cI 1600 tb, ra_N (g 80) cI 1700 qs2, ra_N (g 82) cI 1700 qt2, ra_I (g 68) cC 3 (cw [109, 105, 110]), ra_I (g 69) cC 3 (cw [109, 97, 120]), ra_I (g 70) cC 4 (cw [109, 111, 111, 100]), ra_I (g 71) cC 5 (cw [98, 97, 114, 103, 101]), ra_I (g 72) cC 3 (cw [119, 101, 116]), ra_I (g 73) cC 3 (cw [100, 97, 121]), ra_I (g 74) cC 4 (cw [119, 101, 101, 107]), ra_I (g 75) cC 4 (cw [116, 111, 108, 100]), ra_I (g 76) cC 5 (cw [97, 108, 111, 110, 101]), ra_I (g 77) cC 6 (cw [110, 117, 109, 98, 101, 114]), ra_I (g 78) cC 4 (cw [109, 117, 116, 101]), ra_I (g 58) cC 5 (cw [102, 105, 114, 115, 116]), ra_I (g 79) cC 5 (cw [119, 101, 101, 107, 115])]) A) ([.ref mm] : List Value).toArray s 0 0 A) (F0 m 53 ls []) := by
          intro n_5
          induction n_5 with
          | zero => intro zn3 zw3 zs3 H locs ls hm; exact absurd hm (Nat.not_lt_zero _)
          | succ n_5 ih_lp_4 =>
            intro zn3 zw3 zs3 H locs ls hm hzs3 hs3 hw3 hz3 hz3y hP hD hS hl
            refine lv_aload_n hx hb dX12_qSums_53 rfl (lv_at hl 2 rfl) ?_
            refine sk_get (v := .int (nI zb)) (C := RX12) (T := TX12) (N := 92) hx hb hts inlX12 hown hK hP 0 rfl rfl 5 (Nat.le_of_ble_eq_true rfl) w_5_160 rfl dX12_qSums_54 ?_
            refine lv_if_ne (tgt := 78) hx hb dX12_qSums_57 (by decide) (fun c_6 => ?_) (fun c_6 => ?_)
            · have c_6 : ¬ (zb = 0) := fun h => c_6 ((neq zb 0 (by omega) (Nat.le_of_ble_eq_true rfl)).mpr h)
              refine lv_aload_n hx hb dX12_qSums_78 rfl (lv_at hl 2 rfl) ?_
              refine lv_iload_n hx hb dX12_qSums_79 rfl (lv_at hl 1 rfl) ?_
              refine sk_put (ws' := [ro_ mm 12 (mo g (nI ta) (nI za) (nI pe) zd (nI zb) zp pf pg znp rt rn (nI cd) sn (nI il) tk am at_ aa 0 0 (-1) wt wy 0 (nI rm) (nI ud) (nI nu) sd (nI zn3) (nI zw3) zo (nI qb) (nI qp) qa (nI qi) (nI oc)), ra_N (g 0) cI 1600 tb, ra_N (g 80) cI 1700 zs3, ra_N (g 82) cI 1700 zt, ra_I (g 68) cC 3 (cw [109, 105, 110]), ra_I (g 69) cC 3 (cw [109, 97, 120]), ra_I (g 70) cC 4 (cw [109, 111, 111, 100]), ra_I (g 71) cC 5 (cw [98, 97, 114, 103, 101]), ra_I (g 72) cC 3 (cw [119, 101, 116]), ra_I (g 73) cC 3 (cw [100, 97, 121]), ra_I (g 74) cC 4 (cw [119, 101, 101, 107]), ra_I (g 75) cC 4 (cw [116, 111, 108, 100]), ra_I (g 76) cC 5 (cw [97, 108, 111, 110, 101]), ra_I (g 77) cC 6 (cw [110, 117, 109, 98, 101, 114]), ra_I (g 78) cC 4 (cw [109, 117, 116, 101]), ra_I (g 58) cC 5 (cw [102, 105, 114, 115, 116]), ra_I (g 79) cC 5 (cw [119, 101, 101, 107, 115])]) (C := RX12) (T := TX12) (N := 92) (v := .int (nI qb)) hx hb hts inlX12 tyX12 tyX12_ok nmX12 hown hK hP hD hS 0 rfl rfl 85 (Nat.le_of_ble_eq_true rfl) w_6_0 rfl rfl rfl (Nat.le_of_ble_eq_true rfl) rfl dX12_qSums_80 (fun H locs hP hD hS => ?_)
              exact sk_vret hx hb hr hlocks hK hP hD hS (⟨zg, za, zd, zb, zp, znp, zn3, zw3, zo, zs3, zt, hza, hza2, hzb, by omega, by omega, (fun h0 => SJ_T (hz3 h0) (Nat.le_antisymm (by omega) (SJ_le (hz3 h0)))), hzO, (se_of (kn := kn) (b := qw) (qt := zt) (w := zw3) hzO (ge_e (hz0Y (by omega))) (fun h0 => ⟨hz3y h0, by omega, (ge_at hzO h0 (hz0Y (by omega))).2⟩)), hzk, (fun h0 => Nat.le_antisymm (by omega) (SJ_le (hz3 h0))), hzs3, hzt, rfl⟩) (Nat.le_of_ble_eq_true rfl) (Nat.le_of_ble_eq_true rfl) dX12_qSums_83
            · have c_6 : zb = 0 := (neq zb 0 (by omega) (Nat.le_of_ble_eq_true rfl)).mp c_6
              refine lv_aload_n hx hb dX12_qSums_60 rfl (lv_at hl 2 rfl) ?_
              refine sk_get (v := .int (nI zw3)) (C := RX12) (T := TX12) (N := 92) hx hb hts inlX12 hown hK hP 0 rfl rfl 83 (Nat.le_of_ble_eq_true rfl) w_5_238 rfl dX12_qSums_61 ?_
              refine lv_aload_n hx hb dX12_qSums_64 rfl (lv_at hl 2 rfl) ?_
              refine sk_get (v := .int (nI qw)) (C := RX12) (T := TX12) (N := 92) hx hb hts inlX12 hown hK hP 0 rfl rfl 85 (Nat.le_of_ble_eq_true rfl) w_6_0 rfl dX12_qSums_65 ?_
              refine lv_icmp_le (tgt := 78) hx hb dX12_qSums_68 (by decide) (fun c_7 => ?_) (fun c_7 => ?_)
              · have c_7 : zw3 ≤ qw := (nle zw3 qw (by omega) (by omega)).mp c_7
                refine lv_aload_n hx hb dX12_qSums_78 rfl (lv_at hl 2 rfl) ?_
                refine lv_iload_n hx hb dX12_qSums_79 rfl (lv_at hl 1 rfl) ?_
                refine sk_put (ws' := [ro_ mm 12 (mo g (nI ta) (nI za) (nI pe) zd (nI zb) zp pf pg znp rt rn (nI cd) sn (nI il) tk am at_ aa 0 0 (-1) wt wy 0 (nI rm) (nI ud) (nI nu) sd (nI zn3) (nI zw3) zo (nI qb) (nI qp) qa (nI qi) (nI oc)), ra_N (g 0) cI 1600 tb, ra_N (g 80) cI 1700 zs3, ra_N (g 82) cI 1700 zt, ra_I (g 68) cC 3 (cw [109, 105, 110]), ra_I (g 69) cC 3 (cw [109, 97, 120]), ra_I (g 70) cC 4 (cw [109, 111, 111, 100]), ra_I (g 71) cC 5 (cw [98, 97, 114, 103, 101]), ra_I (g 72) cC 3 (cw [119, 101, 116]), ra_I (g 73) cC 3 (cw [100, 97, 121]), ra_I (g 74) cC 4 (cw [119, 101, 101, 107]), ra_I (g 75) cC 4 (cw [116, 111, 108, 100]), ra_I (g 76) cC 5 (cw [97, 108, 111, 110, 101]), ra_I (g 77) cC 6 (cw [110, 117, 109, 98, 101, 114]), ra_I (g 78) cC 4 (cw [109, 117, 116, 101]), ra_I (g 58) cC 5 (cw [102, 105, 114, 115, 116]), ra_I (g 79) cC 5 (cw [119, 101, 101, 107, 115])]) (C := RX12) (T := TX12) (N := 92) (v := .int (nI qb)) hx hb hts inlX12 tyX12 tyX12_ok nmX12 hown hK hP hD hS 0 rfl rfl 85 (Nat.le_of_ble_eq_true rfl) w_6_0 rfl rfl rfl (Nat.le_of_ble_eq_true rfl) rfl dX12_qSums_80 (fun H locs hP hD hS => ?_)
                exact sk_vret hx hb hr hlocks hK hP hD hS (⟨zg, za, zd, zb, zp, znp, zn3, zw3, zo, zs3, zt, hza, hza2, hzb, by omega, by omega, (fun h0 => SJ_T (hz3 h0) (Nat.le_antisymm (by omega) (SJ_le (hz3 h0)))), hzO, (se_of (kn := kn) (b := qw) (qt := zt) (w := zw3) hzO (ge_e (hz0Y (by omega))) (fun h0 => ⟨hz3y h0, by omega, (ge_at hzO h0 (hz0Y (by omega))).2⟩)), hzk, (fun h0 => Nat.le_antisymm (by omega) (SJ_le (hz3 h0))), hzs3, hzt, rfl⟩) (Nat.le_of_ble_eq_true rfl) (Nat.le_of_ble_eq_true rfl) dX12_qSums_83
              · have c_7 : ¬ (zw3 ≤ qw) := fun h => c_7 ((nle zw3 qw (by omega) (by omega)).mpr h)
                refine lv_aload_n hx hb dX12_qSums_71 rfl (lv_at hl 2 rfl) ?_
                refine sk_Vv (q0 := 0) (n := 0) (rest := []) (wr := fmR om_17_16000 _) ⟨hx, hb, hml, hown, hts⟩ hl.1 (c_em_qDrops l D cI cJ cC cZ cS mm g ta za pe zd zb zp pf pg znp rt rn cd sn il tk am at_ aa wt wy rm ud nu sd zn3 zw3 zo qw qp qa qi oc zs3 zt (by omega) (by omega) (by omega) hzs3 hzt) w_7_63 w_7_65 w_0_63 w_1_14 w_7_66 hd_X12_qDrops_0 ⟨⟨(Nat.le_of_ble_eq_true rfl), (Nat.le_of_ble_eq_true rfl)⟩, (Nat.le_of_ble_eq_true rfl), (Nat.le_of_ble_eq_true rfl)⟩ hK hP hD hS hA (fmT om_17_16000 0) (fmF om_17_16000 0) (fm_C1 rfl rfl) (fm_R rfl rfl) (fm_nT om_17_16000 0) (fm_nF om_17_16000 0) (fm_di om_17_16000 0) rfl rfl rfl rfl (Nat.le_of_ble_eq_true rfl) dX12_qSums_72 (fun u H locs hw hP hD hS => ?_)
                refine exE hw (fun qs2_8 hw1 => anE hw1 (fun hqe_9 hw2 => anE hw2 (fun hqs2_10 eu_11 => ?_)))
                clear hw hw1 hw2
                refine o_mgE (ws' := [ro_ mm 12 (mo g (nI ta) (nI za) (nI pe) zd (nI zb) zp pf pg znp rt rn (nI cd) sn (nI il) tk am at_ aa 0 0 (-1) wt wy 0 (nI rm) (nI ud) (nI nu) sd (nI (zn3 + 1)) (nI (zw3 - 1)) zo (nI qw) (nI qp) qa (nI qi) (nI oc)), ra_N (g 0) cI 1600 tb, ra_N (g 80) cI 1700 qs2_8, ra_N (g 82) cI 1700 zt, ra_I (g 68) cC 3 (cw [109, 105, 110]), ra_I (g 69) cC 3 (cw [109, 97, 120]), ra_I (g 70) cC 4 (cw [109, 111, 111, 100]), ra_I (g 71) cC 5 (cw [98, 97, 114, 103, 101]), ra_I (g 72) cC 3 (cw [119, 101, 116]), ra_I (g 73) cC 3 (cw [100, 97, 121]), ra_I (g 74) cC 4 (cw [119, 101, 101, 107]), ra_I (g 75) cC 4 (cw [116, 111, 108, 100]), ra_I (g 76) cC 5 (cw [97, 108, 111, 110, 101]), ra_I (g 77) cC 6 (cw [110, 117, 109, 98, 101, 114]), ra_I (g 78) cC 4 (cw [109, 117, 116, 101]), ra_I (g 58) cC 5 (cw [102, 105, 114, 115, 116]), ra_I (g 79) cC 5 (cw [119, 101, 101, 107, 115])]) eu_11 hP hD rfl (fun hP hD => ?_)
                refine lv_goto (tgt := 53) hx hb dX12_qSums_75 (by decide) ?_
                exact ih_lp_4 (zn3 + 1) (zw3 - 1) qs2_8 _ _ _ (by omega) hqs2_10 (by omega) (by omega) (fun h0 => SJ_drop (hz3 h0) (by omega) (nbr_at (hz0 h0 (by omega)).2 (by omega) (by omega)) hqe_9) (fun h0 => yd_drop (hz3y h0) (by omega) (nbr_at (hz0 h0 (by omega)).2 (by omega) (by omega)) (ge_at hzO h0 (hz0Y (by omega))).2.1 (ge_at hzO h0 (hz0Y (by omega))).2.2.1 hqe_9) hP hD hS (lv_sub hl [0, 1, 2] rfl)
        exact lp_4 (zw + 1) zn zw zs _ _ _ (Nat.lt_succ_self _) hzs (by omega) (by omega) (fun h0 => (hz0 h0 (by omega)).1) (fun h0 => (ge_at hzO h0 (hz0Y (by omega))).1) hP hD hS (lv_sub hl [0, 1, 2] rfl)
      · have c_3 : ¬ (mo_ = 0) := fun h => c_3 ((neq mo_ 0 (by omega) (Nat.le_of_ble_eq_true rfl)).mpr h)
        refine lv_aload_n hx hb dX12_qSums_19 rfl (lv_at hl 2 rfl) ?_
        refine sk_get (v := .int (nI zb)) (C := RX12) (T := TX12) (N := 92) hx hb hts inlX12 hown hK hP 0 rfl rfl 5 (Nat.le_of_ble_eq_true rfl) w_5_160 rfl dX12_qSums_20 ?_
        refine lv_if_ne (tgt := 53) hx hb dX12_qSums_23 (by decide) (fun c_12 => ?_) (fun c_12 => ?_)
        · have c_12 : ¬ (zb = 0) := fun h => c_12 ((neq zb 0 (by omega) (Nat.le_of_ble_eq_true rfl)).mpr h)
          have lp_13 : ∀ (n_14 : Nat) (zn3 : Nat) (zw3 : Nat) (zs3 : Nat → Nat) (H : Heap) (locs : List Loc) (ls : Array Slot), zw3 < n_14 → (∀ j, zs3 j ≤ 20000) → (zn3 + zw3 = zn + zw) → (zw3 ≤ zw) → (hide (zb = 0 → SJ (K + 1) n0 zs3 zn3 zt qw zw3)) → (hide (zb = 0 → YD tb pe kn d0 qn qw (sumD tb pe kn d0 (cuO tb pe pa pd)) (cuO tb pe za zd) zs3 zn3 zt zw3 zo)) → va_P D vwCl [ro_ mm 12 (mo g (nI ta) (nI za) (nI pe) zd (nI zb) zp pf pg znp rt rn (nI cd) sn (nI il) tk am at_ aa 0 0 (-1) wt wy 0 (nI rm) (nI ud) (nI nu) sd (nI zn3) (nI zw3) zo (nI qw) (nI qp) qa (nI qi) (nI oc)), ra_N (g 0) cI 1600 tb, ra_N (g 80) cI 1700 zs3, ra_N (g 82) cI 1700 zt, ra_I (g 68) cC 3 (cw [109, 105, 110]), ra_I (g 69) cC 3 (cw [109, 97, 120]), ra_I (g 70) cC 4 (cw [109, 111, 111, 100]), ra_I (g 71) cC 5 (cw [98, 97, 114, 103, 101]), ra_I (g 72) cC 3 (cw [119, 101, 116]), ra_I (g 73) cC 3 (cw [100, 97, 121]), ra_I (g 74) cC 4 (cw [119, 101, 101, 107]), ra_I (g 75) cC 4 (cw [116, 111, 108, 100]), ra_I (g 76) cC 5 (cw [97, 108, 111, 110, 101]), ra_I (g 77) cC 6 (cw [110, 117, 109, 98, 101, 114]), ra_I (g 78) cC 4 (cw [109, 117, 116, 101]), ra_I (g 58) cC 5 (cw [102, 105, 114, 115, 116]), ra_I (g 79) cC 5 (cw [119, 101, 101, 107, 115])] H → va_D A [ro_ mm 12 (mo g (nI ta) (nI za) (nI pe) zd (nI zb) zp pf pg znp rt rn (nI cd) sn (nI il) tk am at_ aa 0 0 (-1) wt wy 0 (nI rm) (nI ud) (nI nu) sd (nI zn3) (nI zw3) zo (nI qw) (nI qp) qa (nI qi) (nI oc)), ra_N (g 0) cI 1600 tb, ra_N (g 80) cI 1700 zs3, ra_N (g 82) cI 1700 zt, ra_I (g 68) cC 3 (cw [109, 105, 110]), ra_I (g 69) cC 3 (cw [109, 97, 120]), ra_I (g 70) cC 4 (cw [109, 111, 111, 100]), ra_I (g 71) cC 5 (cw [98, 97, 114, 103, 101]), ra_I (g 72) cC 3 (cw [119, 101, 116]), ra_I (g 73) cC 3 (cw [100, 97, 121]), ra_I (g 74) cC 4 (cw [119, 101, 101, 107]), ra_I (g 75) cC 4 (cw [116, 111, 108, 100]), ra_I (g 76) cC 5 (cw [97, 108, 111, 110, 101]), ra_I (g 77) cC 6 (cw [110, 117, 109, 98, 101, 114]), ra_I (g 78) cC 4 (cw [109, 117, 116, 101]), ra_I (g 58) cC 5 (cw [102, 105, 114, 115, 116]), ra_I (g 79) cC 5 (cw [119, 101, 101, 107, 115])] → va_S A s.heap H locs → lv_has ls 3 [(2, .int (nI mo_)), (1, .int (nI qb)), (0, .ref mm)] → W p l e { frames := 6, cells := 0, slots := 0, locals := 131 } s m ([.ref mm] : List Value).toArray below meth c H locs 0 0 (MQ below (skV D (skT cI cJ cC cZ cS) (fun (u : va_W) => ∃ (o2 : Except Err Cur), ∃ (pa2 : Nat), ∃ (pd2 : Int32), ∃ (pb2 : Nat), ∃ (pp2 : Int32), ∃ (pn2 : Int32), ∃ (qn2 : Nat), ∃ (qw2 : Nat), ∃ (qo2 : Int32), ∃ (qs2 : Nat → Nat), ∃ (qt2 : Nat → Nat), pa ≤ pa2 ∧ pa2 ≤ pe ∧ pb2 ≤ 5 ∧ (¬ pb2 = 0 ∨ (pa + 1 ≤ pa2 ∧ qn2 + qw2 + a0 ≤ pa2)) ∧ qn2 + qw2 + a0 ≤ pa2 + 1 ∧ (hide (pb2 = 0 → SJ (K + 1) n0 qs2 qn2 qt2 qw2 qw2)) ∧ moO tb pe o2 pa2 pd2 pb2 pp2 ∧ sE d0 qn (sumD tb pe kn d0 (cuO tb pe pa pd)) o2 qs2 qn2 qo2 ∧ (hide (pb2 = 0 → kpO qw qt qt2)) ∧ (pb2 = 0 → qw2 = qw) ∧ (∀ j, qs2 j ≤ 20000) ∧ (∀ j, qt2 j ≤ 100) ∧ u = [ro_ mm 12 (mo g (nI ta) (nI pa2) (nI pe) pd2 (nI pb2) pp2 pf pg pn2 rt rn (nI cd) sn (nI il) tk am at_ aa 0 0 (-1) wt wy 0 (nI rm) (nI ud) (nI nu) sd (nI qn2) (nI qw2) qo2 (nI qb) (nI qp) qa (nI qi) (nI oc)), ra_N (g 0) cI 1600 tb, ra_N (g 80) cI 1700 qs2, ra_N (g 82) cI 1700 qt2, ra_I (g 68) cC 3 (cw [109, 105, 110]), ra_I (g 69) cC 3 (cw [109, 97, 120]), ra_I (g 70) cC 4 (cw [109, 111, 111, 100]), ra_I (g 71) cC 5 (cw [98, 97, 114, 103, 101]), ra_I (g 72) cC 3 (cw [119, 101, 116]), ra_I (g 73) cC 3 (cw [100, 97, 121]), ra_I (g 74) cC 4 (cw [119, 101, 101, 107]), ra_I (g 75) cC 4 (cw [116, 111, 108, 100]), ra_I (g 76) cC 5 (cw [97, 108, 111, 110, 101]), ra_I (g 77) cC 6 (cw [110, 117, 109, 98, 101, 114]), ra_I (g 78) cC 4 (cw [109, 117, 116, 101]), ra_I (g 58) cC 5 (cw [102, 105, 114, 115, 116]), ra_I (g 79) cC 5 (cw [119, 101, 101, 107, 115])]) A) ([.ref mm] : List Value).toArray s 0 0 A) (F0 m 53 ls []) := by
            intro n_14
            induction n_14 with
            | zero => intro zn3 zw3 zs3 H locs ls hm; exact absurd hm (Nat.not_lt_zero _)
            | succ n_14 ih_lp_13 =>
              intro zn3 zw3 zs3 H locs ls hm hzs3 hs3 hw3 hz3 hz3y hP hD hS hl
              refine lv_aload_n hx hb dX12_qSums_53 rfl (lv_at hl 2 rfl) ?_
              refine sk_get (v := .int (nI zb)) (C := RX12) (T := TX12) (N := 92) hx hb hts inlX12 hown hK hP 0 rfl rfl 5 (Nat.le_of_ble_eq_true rfl) w_5_160 rfl dX12_qSums_54 ?_
              refine lv_if_ne (tgt := 78) hx hb dX12_qSums_57 (by decide) (fun c_15 => ?_) (fun c_15 => ?_)
              · have c_15 : ¬ (zb = 0) := fun h => c_15 ((neq zb 0 (by omega) (Nat.le_of_ble_eq_true rfl)).mpr h)
                refine lv_aload_n hx hb dX12_qSums_78 rfl (lv_at hl 2 rfl) ?_
                refine lv_iload_n hx hb dX12_qSums_79 rfl (lv_at hl 1 rfl) ?_
                refine sk_put (ws' := [ro_ mm 12 (mo g (nI ta) (nI za) (nI pe) zd (nI zb) zp pf pg znp rt rn (nI cd) sn (nI il) tk am at_ aa 0 0 (-1) wt wy 0 (nI rm) (nI ud) (nI nu) sd (nI zn3) (nI zw3) zo (nI qb) (nI qp) qa (nI qi) (nI oc)), ra_N (g 0) cI 1600 tb, ra_N (g 80) cI 1700 zs3, ra_N (g 82) cI 1700 zt, ra_I (g 68) cC 3 (cw [109, 105, 110]), ra_I (g 69) cC 3 (cw [109, 97, 120]), ra_I (g 70) cC 4 (cw [109, 111, 111, 100]), ra_I (g 71) cC 5 (cw [98, 97, 114, 103, 101]), ra_I (g 72) cC 3 (cw [119, 101, 116]), ra_I (g 73) cC 3 (cw [100, 97, 121]), ra_I (g 74) cC 4 (cw [119, 101, 101, 107]), ra_I (g 75) cC 4 (cw [116, 111, 108, 100]), ra_I (g 76) cC 5 (cw [97, 108, 111, 110, 101]), ra_I (g 77) cC 6 (cw [110, 117, 109, 98, 101, 114]), ra_I (g 78) cC 4 (cw [109, 117, 116, 101]), ra_I (g 58) cC 5 (cw [102, 105, 114, 115, 116]), ra_I (g 79) cC 5 (cw [119, 101, 101, 107, 115])]) (C := RX12) (T := TX12) (N := 92) (v := .int (nI qb)) hx hb hts inlX12 tyX12 tyX12_ok nmX12 hown hK hP hD hS 0 rfl rfl 85 (Nat.le_of_ble_eq_true rfl) w_6_0 rfl rfl rfl (Nat.le_of_ble_eq_true rfl) rfl dX12_qSums_80 (fun H locs hP hD hS => ?_)
                exact sk_vret hx hb hr hlocks hK hP hD hS (⟨zg, za, zd, zb, zp, znp, zn3, zw3, zo, zs3, zt, hza, hza2, hzb, by omega, by omega, (fun h0 => SJ_T (hz3 h0) (Nat.le_antisymm (by omega) (SJ_le (hz3 h0)))), hzO, (se_of (kn := kn) (b := qw) (qt := zt) (w := zw3) hzO (yo_e (hz1Y (by omega))) (fun h0 => absurd h0 (by omega))), hzk, (fun h0 => Nat.le_antisymm (by omega) (SJ_le (hz3 h0))), hzs3, hzt, rfl⟩) (Nat.le_of_ble_eq_true rfl) (Nat.le_of_ble_eq_true rfl) dX12_qSums_83
              · have c_15 : zb = 0 := (neq zb 0 (by omega) (Nat.le_of_ble_eq_true rfl)).mp c_15
                refine lv_aload_n hx hb dX12_qSums_60 rfl (lv_at hl 2 rfl) ?_
                refine sk_get (v := .int (nI zw3)) (C := RX12) (T := TX12) (N := 92) hx hb hts inlX12 hown hK hP 0 rfl rfl 83 (Nat.le_of_ble_eq_true rfl) w_5_238 rfl dX12_qSums_61 ?_
                refine lv_aload_n hx hb dX12_qSums_64 rfl (lv_at hl 2 rfl) ?_
                refine sk_get (v := .int (nI qw)) (C := RX12) (T := TX12) (N := 92) hx hb hts inlX12 hown hK hP 0 rfl rfl 85 (Nat.le_of_ble_eq_true rfl) w_6_0 rfl dX12_qSums_65 ?_
                refine lv_icmp_le (tgt := 78) hx hb dX12_qSums_68 (by decide) (fun c_16 => ?_) (fun c_16 => ?_)
                · have c_16 : zw3 ≤ qw := (nle zw3 qw (by omega) (by omega)).mp c_16
                  refine lv_aload_n hx hb dX12_qSums_78 rfl (lv_at hl 2 rfl) ?_
                  refine lv_iload_n hx hb dX12_qSums_79 rfl (lv_at hl 1 rfl) ?_
                  refine sk_put (ws' := [ro_ mm 12 (mo g (nI ta) (nI za) (nI pe) zd (nI zb) zp pf pg znp rt rn (nI cd) sn (nI il) tk am at_ aa 0 0 (-1) wt wy 0 (nI rm) (nI ud) (nI nu) sd (nI zn3) (nI zw3) zo (nI qb) (nI qp) qa (nI qi) (nI oc)), ra_N (g 0) cI 1600 tb, ra_N (g 80) cI 1700 zs3, ra_N (g 82) cI 1700 zt, ra_I (g 68) cC 3 (cw [109, 105, 110]), ra_I (g 69) cC 3 (cw [109, 97, 120]), ra_I (g 70) cC 4 (cw [109, 111, 111, 100]), ra_I (g 71) cC 5 (cw [98, 97, 114, 103, 101]), ra_I (g 72) cC 3 (cw [119, 101, 116]), ra_I (g 73) cC 3 (cw [100, 97, 121]), ra_I (g 74) cC 4 (cw [119, 101, 101, 107]), ra_I (g 75) cC 4 (cw [116, 111, 108, 100]), ra_I (g 76) cC 5 (cw [97, 108, 111, 110, 101]), ra_I (g 77) cC 6 (cw [110, 117, 109, 98, 101, 114]), ra_I (g 78) cC 4 (cw [109, 117, 116, 101]), ra_I (g 58) cC 5 (cw [102, 105, 114, 115, 116]), ra_I (g 79) cC 5 (cw [119, 101, 101, 107, 115])]) (C := RX12) (T := TX12) (N := 92) (v := .int (nI qb)) hx hb hts inlX12 tyX12 tyX12_ok nmX12 hown hK hP hD hS 0 rfl rfl 85 (Nat.le_of_ble_eq_true rfl) w_6_0 rfl rfl rfl (Nat.le_of_ble_eq_true rfl) rfl dX12_qSums_80 (fun H locs hP hD hS => ?_)
                  exact sk_vret hx hb hr hlocks hK hP hD hS (⟨zg, za, zd, zb, zp, znp, zn3, zw3, zo, zs3, zt, hza, hza2, hzb, by omega, by omega, (fun h0 => SJ_T (hz3 h0) (Nat.le_antisymm (by omega) (SJ_le (hz3 h0)))), hzO, (se_of (kn := kn) (b := qw) (qt := zt) (w := zw3) hzO (yo_e (hz1Y (by omega))) (fun h0 => absurd h0 (by omega))), hzk, (fun h0 => Nat.le_antisymm (by omega) (SJ_le (hz3 h0))), hzs3, hzt, rfl⟩) (Nat.le_of_ble_eq_true rfl) (Nat.le_of_ble_eq_true rfl) dX12_qSums_83
                · have c_16 : ¬ (zw3 ≤ qw) := fun h => c_16 ((nle zw3 qw (by omega) (by omega)).mpr h)
                  refine lv_aload_n hx hb dX12_qSums_71 rfl (lv_at hl 2 rfl) ?_
                  refine sk_Vv (q0 := 0) (n := 0) (rest := []) (wr := fmR om_17_16000 _) ⟨hx, hb, hml, hown, hts⟩ hl.1 (c_em_qDrops l D cI cJ cC cZ cS mm g ta za pe zd zb zp pf pg znp rt rn cd sn il tk am at_ aa wt wy rm ud nu sd zn3 zw3 zo qw qp qa qi oc zs3 zt (by omega) (by omega) (by omega) hzs3 hzt) w_7_63 w_7_65 w_0_63 w_1_14 w_7_66 hd_X12_qDrops_0 ⟨⟨(Nat.le_of_ble_eq_true rfl), (Nat.le_of_ble_eq_true rfl)⟩, (Nat.le_of_ble_eq_true rfl), (Nat.le_of_ble_eq_true rfl)⟩ hK hP hD hS hA (fmT om_17_16000 0) (fmF om_17_16000 0) (fm_C1 rfl rfl) (fm_R rfl rfl) (fm_nT om_17_16000 0) (fm_nF om_17_16000 0) (fm_di om_17_16000 0) rfl rfl rfl rfl (Nat.le_of_ble_eq_true rfl) dX12_qSums_72 (fun u H locs hw hP hD hS => ?_)
                  refine exE hw (fun qs2_17 hw1 => anE hw1 (fun hqe_18 hw2 => anE hw2 (fun hqs2_19 eu_20 => ?_)))
                  clear hw hw1 hw2
                  refine o_mgE (ws' := [ro_ mm 12 (mo g (nI ta) (nI za) (nI pe) zd (nI zb) zp pf pg znp rt rn (nI cd) sn (nI il) tk am at_ aa 0 0 (-1) wt wy 0 (nI rm) (nI ud) (nI nu) sd (nI (zn3 + 1)) (nI (zw3 - 1)) zo (nI qw) (nI qp) qa (nI qi) (nI oc)), ra_N (g 0) cI 1600 tb, ra_N (g 80) cI 1700 qs2_17, ra_N (g 82) cI 1700 zt, ra_I (g 68) cC 3 (cw [109, 105, 110]), ra_I (g 69) cC 3 (cw [109, 97, 120]), ra_I (g 70) cC 4 (cw [109, 111, 111, 100]), ra_I (g 71) cC 5 (cw [98, 97, 114, 103, 101]), ra_I (g 72) cC 3 (cw [119, 101, 116]), ra_I (g 73) cC 3 (cw [100, 97, 121]), ra_I (g 74) cC 4 (cw [119, 101, 101, 107]), ra_I (g 75) cC 4 (cw [116, 111, 108, 100]), ra_I (g 76) cC 5 (cw [97, 108, 111, 110, 101]), ra_I (g 77) cC 6 (cw [110, 117, 109, 98, 101, 114]), ra_I (g 78) cC 4 (cw [109, 117, 116, 101]), ra_I (g 58) cC 5 (cw [102, 105, 114, 115, 116]), ra_I (g 79) cC 5 (cw [119, 101, 101, 107, 115])]) eu_20 hP hD rfl (fun hP hD => ?_)
                  refine lv_goto (tgt := 53) hx hb dX12_qSums_75 (by decide) ?_
                  exact ih_lp_13 (zn3 + 1) (zw3 - 1) qs2_17 _ _ _ (by omega) hqs2_19 (by omega) (by omega) (fun h0 => SJ_drop (hz3 h0) (by omega) (nbr_at (hz0 h0 (by omega)).2 (by omega) (by omega)) hqe_18) (fun h0 => yd_drop (hz3y h0) (by omega) (nbr_at (hz0 h0 (by omega)).2 (by omega) (by omega)) (ge_at hzO h0 (hz0Y (by omega))).2.1 (ge_at hzO h0 (hz0Y (by omega))).2.2.1 hqe_18) hP hD hS (lv_sub hl [0, 1, 2] rfl)
          exact lp_13 (zw + 1) zn zw zs _ _ _ (Nat.lt_succ_self _) hzs (by omega) (by omega) (fun h0 => (hz0 h0 (by omega)).1) (fun h0 => (ge_at hzO h0 (hz0Y (by omega))).1) hP hD hS (lv_sub hl [0, 1, 2] rfl)
        · have c_12 : zb = 0 := (neq zb 0 (by omega) (Nat.le_of_ble_eq_true rfl)).mp c_12
          refine lv_aload_n hx hb dX12_qSums_26 rfl (lv_at hl 2 rfl) ?_
          refine sk_Vv (q0 := 0) (n := 0) (rest := []) (wr := fmR om_17_1ffff _) ⟨hx, hb, hml, hown, hts⟩ hl.1 (c_em_qPartTold l D cI cJ cC cZ cS mm g ta za pe zd zb zp pf pg znp rt rn cd sn il tk am at_ aa wt wy rm ud nu sd zn zw zo qw qp qa qi oc tb zs zt K n0 a0 d0 qn (sumD tb pe kn d0 (cuO tb pe pa pd)) kn zg hza2 hpe hzb (by omega) (by omega) (by omega) htk hkn (hz1 (by omega) (by omega)) (hz1Y (by omega)) hzO htb hzs hzt) w_7_31 w_7_33 w_0_55 w_1_14 w_7_34 hd_X12_qPartTold_0 ⟨⟨(Nat.le_of_ble_eq_true rfl), (Nat.le_of_ble_eq_true rfl)⟩, (Nat.le_of_ble_eq_true rfl), (Nat.le_of_ble_eq_true rfl)⟩ hK hP hD hS hA (fmT om_17_1ffff 0) (fmF om_17_1ffff 0) (fm_C1 rfl rfl) (fm_R rfl rfl) (fm_nT om_17_1ffff 0) (fm_nF om_17_1ffff 0) (fm_di om_17_1ffff 0) rfl rfl rfl rfl (Nat.le_of_ble_eq_true rfl) dX12_qSums_27 (fun u H locs hw hP hD hS => ?_)
          refine exE hw (fun o2_21 hw1 => exE hw1 (fun pa2_22 hw2 => exE hw2 (fun pd2_23 hw3 => exE hw3 (fun pb2_24 hw4 => exE hw4 (fun pp2_25 hw5 => exE hw5 (fun pn2_26 hw6 => exE hw6 (fun qn2_27 hw7 => exE hw7 (fun qw2_28 hw8 => exE hw8 (fun qo2_29 hw9 => exE hw9 (fun qs2_30 hw10 => exE hw10 (fun qt2_31 hw11 => anE hw11 (fun hpa2_32 hw12 => anE hw12 (fun hpa3_33 hw13 => anE hw13 (fun hpb2_34 hw14 => anE hw14 (fun hpb3_35 hw15 => anE hw15 (fun hqa2_36 hw16 => anE hw16 (fun hsj2_37 hw17 => anE hw17 (fun hO2_38 hw18 => anE hw18 (fun hY2_39 hw19 => anE hw19 (fun hkp_40 hw20 => anE hw20 (fun hqs2_41 hw21 => anE hw21 (fun hqt2_42 eu_43 => ?_))))))))))))))))))))))
          clear hw hw1 hw2 hw3 hw4 hw5 hw6 hw7 hw8 hw9 hw10 hw11 hw12 hw13 hw14 hw15 hw16 hw17 hw18 hw19 hw20 hw21
          refine o_mgE (ws' := [ro_ mm 12 (mo g (nI ta) (nI pa2_22) (nI pe) pd2_23 (nI pb2_24) pp2_25 pf pg pn2_26 rt rn (nI cd) sn (nI il) tk am at_ aa 0 0 (-1) wt wy 0 (nI rm) (nI ud) (nI nu) sd (nI qn2_27) (nI qw2_28) qo2_29 (nI qw) (nI qp) qa (nI qi) (nI oc)), ra_N (g 0) cI 1600 tb, ra_N (g 80) cI 1700 qs2_30, ra_N (g 82) cI 1700 qt2_31, ra_I (g 68) cC 3 (cw [109, 105, 110]), ra_I (g 69) cC 3 (cw [109, 97, 120]), ra_I (g 70) cC 4 (cw [109, 111, 111, 100]), ra_I (g 71) cC 5 (cw [98, 97, 114, 103, 101]), ra_I (g 72) cC 3 (cw [119, 101, 116]), ra_I (g 73) cC 3 (cw [100, 97, 121]), ra_I (g 74) cC 4 (cw [119, 101, 101, 107]), ra_I (g 75) cC 4 (cw [116, 111, 108, 100]), ra_I (g 76) cC 5 (cw [97, 108, 111, 110, 101]), ra_I (g 77) cC 6 (cw [110, 117, 109, 98, 101, 114]), ra_I (g 78) cC 4 (cw [109, 117, 116, 101]), ra_I (g 58) cC 5 (cw [102, 105, 114, 115, 116]), ra_I (g 79) cC 5 (cw [119, 101, 101, 107, 115])]) eu_43 hP hD rfl (fun hP hD => ?_)
          refine lv_aload_n hx hb dX12_qSums_30 rfl (lv_at hl 2 rfl) ?_
          refine sk_get (v := .int (nI pb2_24)) (C := RX12) (T := TX12) (N := 92) hx hb hts inlX12 hown hK hP 0 rfl rfl 5 (Nat.le_of_ble_eq_true rfl) w_5_160 rfl dX12_qSums_31 ?_
          refine lv_if_ne (tgt := 48) hx hb dX12_qSums_34 (by decide) (fun c_44 => ?_) (fun c_44 => ?_)
          · have c_44 : ¬ (pb2_24 = 0) := fun h => c_44 ((neq pb2_24 0 (by omega) (Nat.le_of_ble_eq_true rfl)).mpr h)
            refine lv_iconst (v := 0) hx hb dX12_qSums_48 ic_0 ?_
            refine lv_istore_n (lv' := [(2, .int 0), (1, .int (nI qb)), (0, .ref mm)]) hx hb dX12_qSums_49 rfl hl (by decide) rfl (fun ls hl => ?_)
            refine lv_goto (tgt := 15) hx hb dX12_qSums_50 (by decide) ?_
            exact ih_lp_1 0 pa2_22 pd2_23 pb2_24 pp2_25 pn2_26 qn2_27 qw2_28 qo2_29 qs2_30 qt2_31 o2_21 _ _ _ (by omega) hqs2_41 hqt2_42 hO2_38 (by omega) hpa3_33 hpb2_34 (by omega) (by omega) hqa2_36 (by omega) (fun _ h => absurd h (by omega)) (fun h0 _ => absurd h0 (by omega)) (fun h => absurd h (by omega)) (fun _ => ge_er hO2_38 (by omega) (ya_e hY2_39)) (fun h0 => absurd h0 (by omega)) hP hD hS (lv_sub hl [0, 1, 2] rfl)
          · have c_44 : pb2_24 = 0 := (neq pb2_24 0 (by omega) (Nat.le_of_ble_eq_true rfl)).mp c_44
            refine lv_aload_n hx hb dX12_qSums_37 rfl (lv_at hl 2 rfl) ?_
            refine sk_Vi (q0 := 0) (n := 0) (rest := []) (wr := fmR om_17_1e000 _) ⟨hx, hb, hml, hown, hts⟩ hl.1 (c_em_qGoesOn l D cI cJ cC cZ cS mm g ta pa2_22 pe pd2_23 pb2_24 pp2_25 pf pg pn2_26 rt rn cd sn il tk am at_ aa wt wy rm ud nu sd qn2_27 qw2_28 qo2_29 qw qp qa qi oc tb qs2_30 qt2_31 K n0 a0 kn d0 qn (sumD tb pe kn d0 (cuO tb pe pa pd)) o2_21 hpa3_33 hpe hpb2_34 (by omega) (by omega) (by omega) (hsj2_37 (by omega)) hY2_39 hO2_38 htb hqs2_41 hqt2_42) w_7_67 w_7_69 w_0_64 w_1_14 w_7_70 hd_X12_qGoesOn_0 ⟨⟨(Nat.le_of_ble_eq_true rfl), (Nat.le_of_ble_eq_true rfl)⟩, (Nat.le_of_ble_eq_true rfl), (Nat.le_of_ble_eq_true rfl)⟩ hK hP hD hS hA (fmT om_17_1e000 0) (fmF om_17_1e000 0) (fm_C1 rfl rfl) (fm_R rfl rfl) (fm_nT om_17_1e000 0) (fm_nF om_17_1e000 0) (fm_di om_17_1e000 0) rfl rfl rfl rfl (Nat.le_of_ble_eq_true rfl) dX12_qSums_38 (fun r_55 u H locs hw hP hD hS => ?_)
            refine exE hw (fun b_45 hw1 => exE hw1 (fun o2_46 hw2 => exE hw2 (fun pa2_47 hw3 => exE hw3 (fun pb2_48 hw4 => exE hw4 (fun pp2_49 hw5 => exE hw5 (fun qn2_50 hw6 => exE hw6 (fun qw2_51 hw7 => exE hw7 (fun qo2_52 hw8 => exE hw8 (fun qs2_53 hw9 => exE hw9 (fun qt2_54 hw10 => anE hw10 (fun hpa2_56 hw11 => anE hw11 (fun hpa3_57 hw12 => anE hw12 (fun hpb2_58 hw13 => anE hw13 (fun hbb_59 hw14 => anE hw14 (fun hqa2_60 hw15 => anE hw15 (fun hgo1_61 hw16 => anE hw16 (fun hgo0_62 hw17 => anE hw17 (fun hO2_63 hw18 => anE hw18 (fun hgy1_64 hw19 => anE hw19 (fun hgy0_65 hw20 => anE hw20 (fun hkp_66 hw21 => anE hw21 (fun hqs2_67 hw22 => anE hw22 (fun hqt2_68 hw23 => anE hw23 (fun er_70 eu_69 => ?_))))))))))))))))))))))))
            clear hw hw1 hw2 hw3 hw4 hw5 hw6 hw7 hw8 hw9 hw10 hw11 hw12 hw13 hw14 hw15 hw16 hw17 hw18 hw19 hw20 hw21 hw22 hw23
            subst er_70
            refine o_mgE (ws' := [ro_ mm 12 (mo g (nI ta) (nI pa2_47) (nI pe) pd2_23 (nI pb2_48) pp2_49 pf pg pn2_26 rt rn (nI cd) sn (nI il) tk am at_ aa 0 0 (-1) wt wy 0 (nI rm) (nI ud) (nI nu) sd (nI qn2_50) (nI qw2_51) qo2_52 (nI qw) (nI qp) qa (nI qi) (nI oc)), ra_N (g 0) cI 1600 tb, ra_N (g 80) cI 1700 qs2_53, ra_N (g 82) cI 1700 qt2_54, ra_I (g 68) cC 3 (cw [109, 105, 110]), ra_I (g 69) cC 3 (cw [109, 97, 120]), ra_I (g 70) cC 4 (cw [109, 111, 111, 100]), ra_I (g 71) cC 5 (cw [98, 97, 114, 103, 101]), ra_I (g 72) cC 3 (cw [119, 101, 116]), ra_I (g 73) cC 3 (cw [100, 97, 121]), ra_I (g 74) cC 4 (cw [119, 101, 101, 107]), ra_I (g 75) cC 4 (cw [116, 111, 108, 100]), ra_I (g 76) cC 5 (cw [97, 108, 111, 110, 101]), ra_I (g 77) cC 6 (cw [110, 117, 109, 98, 101, 114]), ra_I (g 78) cC 4 (cw [109, 117, 116, 101]), ra_I (g 58) cC 5 (cw [102, 105, 114, 115, 116]), ra_I (g 79) cC 5 (cw [119, 101, 101, 107, 115])]) eu_69 hP hD rfl (fun hP hD => ?_)
            refine lv_if_eq (tgt := 48) hx hb dX12_qSums_41 (by decide) (fun c_71 => ?_) (fun c_71 => ?_)
            · have c_71 : b_45 = 0 := (neq b_45 0 (by omega) (Nat.le_of_ble_eq_true rfl)).mp c_71
              refine lv_iconst (v := 0) hx hb dX12_qSums_48 ic_0 ?_
              refine lv_istore_n (lv' := [(2, .int 0), (1, .int (nI qb)), (0, .ref mm)]) hx hb dX12_qSums_49 rfl hl (by decide) rfl (fun ls hl => ?_)
              refine lv_goto (tgt := 15) hx hb dX12_qSums_50 (by decide) ?_
              exact ih_lp_1 0 pa2_47 pd2_23 pb2_48 pp2_49 pn2_26 qn2_50 qw2_51 qo2_52 qs2_53 qt2_54 o2_46 _ _ _ (by omega) hqs2_67 hqt2_68 hO2_63 (by omega) hpa3_57 hpb2_58 (by omega) (by omega) (by omega) (by omega) (fun _ h => absurd h (by omega)) (fun h0 _ => hgo0_62 (by omega) h0) (fun h => absurd h (by omega)) (fun _ => hgy0_65 (by omega)) (fun h0 => kp_tr (kp_tr (hzk (by omega)) (hkp_40 (by omega))) (hkp_66 h0)) hP hD hS (lv_sub hl [0, 1, 2] rfl)
            · have c_71 : ¬ (b_45 = 0) := fun h => c_71 ((neq b_45 0 (by omega) (Nat.le_of_ble_eq_true rfl)).mpr h)
              refine lv_iconst (v := 1) hx hb dX12_qSums_44 ic_1 ?_
              refine lv_goto (tgt := 49) hx hb dX12_qSums_45 (by decide) ?_
              refine lv_istore_n (lv' := [(2, .int 1), (1, .int (nI qb)), (0, .ref mm)]) hx hb dX12_qSums_49 rfl hl (by decide) rfl (fun ls hl => ?_)
              refine lv_goto (tgt := 15) hx hb dX12_qSums_50 (by decide) ?_
              exact ih_lp_1 1 pa2_47 pd2_23 pb2_48 pp2_49 pn2_26 qn2_50 qw2_51 qo2_52 qs2_53 qt2_54 o2_46 _ _ _ (by omega) hqs2_67 hqt2_68 hO2_63 (by omega) hpa3_57 hpb2_58 (by omega) (by omega) (by omega) (by omega) (fun _ _ => hgo1_61 (by omega)) (fun _ h => absurd h (by omega)) (fun _ => hgy1_64 (by omega)) (fun h => absurd h (by omega)) (fun h0 => kp_tr (kp_tr (hzk (by omega)) (hkp_40 (by omega))) (hkp_66 h0)) hP hD hS (lv_sub hl [0, 1, 2] rfl)
  exact lp_1 ((pe - pa) + (5 - pb) + 1 + 1) 1 pa pd pb pp pn qn qw qo qs qt og _ _ _ (Nat.lt_succ_self _) hqs hqt hO (by omega) hpa hpb (by omega) (by omega) (by omega) (by omega) (fun _ _ => hsj) (fun _ h => absurd h (by omega)) (fun _ => by rw [(mo_ok hO hpb0).1]; exact y_start hd0 hqo) (fun h => absurd h (by omega)) (fun _ => kp_0) hP hD hS (lv_sub hl [0, 1, 2] rfl)
theorem rc_pre {k : List Nat} (x : Res) : rc (bindR x (fun r => .ok (r.1, k ++ r.2))) = rc x := by cases x <;> rfl
theorem rc_or {tb : Nat → Nat} {n : Nat} {F : Cur → Res} {f : Nat} {c : Cur} (k : List Nat) : rc (orR tb n F f c k) = rc (orR tb n F f c []) := by
  have h := orR_pre (tb := tb) (n := n) (F := F) k f c []
  rw [List.append_nil] at h
  rw [h, rc_pre]
def fcC (tb : Nat → Nat) (n d : Nat) (c : Cur) : Except Err Cur := rc (fcR tb n d c)
def goT (tb : Nat → Nat) (n d : Nat) (c : Cur) : Except Err Cur := rc (bindR (andR tb n (fcR tb n d) (n + 2) c []) (fun r => orR tb n (fcR tb n d) (n + 2) r.1 r.2))
theorem goT_k {tb : Nat → Nat} {n : Nat} {d : Nat} {c : Cur} (k : List Nat) : rc (bindR (andR tb n (fcR tb n d) (n + 2) c k) (fun r => orR tb n (fcR tb n d) (n + 2) r.1 r.2)) = goT tb n d c := by
  have h := andR_pre (tb := tb) (n := n) (F := fcR tb n d) k (n + 2) c []
  rw [List.append_nil] at h
  rw [h, bindR_assoc]
  unfold goT
  cases andR tb n (fcR tb n d) (n + 2) c [] with
  | error e => rfl
  | ok r =>
    show rc (orR tb n (fcR tb n d) (n + 2) r.1 (k ++ r.2)) = rc (orR tb n (fcR tb n d) (n + 2) r.1 r.2)
    rw [rc_or (k ++ r.2), rc_or r.2]
theorem te_rc {tb : Nat → Nat} {n : Nat} {d : Nat} (c : Cur) : rc (testR tb n (fcR tb n d) c) = bindR (fcC tb n d c) (goT tb n d) := by
  unfold testR bothR fcC
  rw [bindR_assoc]
  cases fcR tb n d c with
  | error e => rfl
  | ok r => exact goT_k r.2
theorem rc_bindC {G : Cur → Except Err Cur} (x : Res) : rc (bindR x (fun r => bindR (G r.1) (fun c1 => .ok (c1, r.2)))) = bindR (rc x) G := rc_bd x G
def relC (tb : Nat → Nat) (n d : Nat) (c : Cur) : Except Err Cur := match relV tb n c with
  | some _ => rc (sumD tb n 2 d (nx tb n c.1))
  | none => .error (1, c.1)
def atC (tb : Nat → Nat) (n d : Nat) (c : Cur) : Except Err Cur := if isW tb n wAll c = true then .ok (nx tb n c.1) else bindR (rc (sumD tb n 2 d c)) (relC tb n d)
theorem rc_rel {tb : Nat → Nat} {n : Nat} {d : Nat} (c : Cur) : rc (relR tb n d c) = bindR (rc (sumD tb n 2 d c)) (relC tb n d) := by
  unfold relR sumD
  cases sumOf tb n (rdPart tb n 2 d) c with
  | error e => rfl
  | ok r =>
    show rc (relB tb n d r) = relC tb n d r.1
    unfold relB relC
    cases relV tb n r.1 with
    | none => rfl
    | some v =>
      show rc (bindR (sumOf tb n (rdPart tb n 2 d) (nx tb n r.1.1)) _) = rc (sumOf tb n (rdPart tb n 2 d) (nx tb n r.1.1))
      cases sumOf tb n (rdPart tb n 2 d) (nx tb n r.1.1) <;> rfl
theorem fc_sq {tb : Nat → Nat} {n : Nat} {d : Nat} {c : Cur} (hs : isS tb n 91 c = true) : fcC tb n (d + 1) c = bindR (fcC tb n d (nx tb n c.1)) (fun c1 => bindR (goT tb n d c1) (signP tb n 93)) := by
  unfold fcC
  rw [fcR, fcB, if_neg (fun q => isW_noS q (by decide) hs), if_pos hs]
  show rc (bindR (testR tb n (fcR tb n d) (nx tb n c.1)) (fun r => bindR (signP tb n 93 r.1) (fun c1 => .ok (c1, r.2)))) = _
  rw [rc_bindC (G := signP tb n 93), te_rc, bindR_assoc]
  rfl
theorem fc_not {tb : Nat → Nat} {n : Nat} {d : Nat} {c : Cur} (hw : isW tb n wNot c = true) : fcC tb n (d + 1) c = fcC tb n d (nx tb n c.1) := by
  unfold fcC
  rw [fcR, fcB, if_pos hw]
  show rc (bindR (fcR tb n d (nx tb n c.1)) _) = _
  cases fcR tb n d (nx tb n c.1) <;> rfl
theorem fc_0 {tb : Nat → Nat} {n : Nat} {c : Cur} (h : isS tb n 91 c = true ∨ isW tb n wNot c = true) : fcC tb n 0 c = .error (4, c.1) := by
  unfold fcC
  rw [fcR, fcB]
  by_cases hw : isW tb n wNot c = true
  · rw [if_pos hw]; rfl
  · rw [if_neg hw, if_pos (h.resolve_right hw)]; rfl
theorem fc_at {tb : Nat → Nat} {n : Nat} {d : Nat} {c : Cur} (h1 : ¬ isS tb n 91 c = true) (h2 : ¬ isW tb n wNot c = true) : fcC tb n d c = atC tb n d c := by
  unfold fcC atC
  obtain ⟨Q, e⟩ := fcR_B tb n d c
  rw [e]
  unfold fcB
  rw [if_neg h2, if_neg h1]
  by_cases h3 : isW tb n wAll c = true
  · rw [if_pos h3, if_pos h3]; rfl
  · rw [if_neg h3, if_neg h3]; exact rc_rel c
theorem goT_and {tb : Nat → Nat} {n : Nat} {d : Nat} {c : Cur} (hw : isW tb n wAnd c = true) : goT tb n d c = bindR (fcC tb n d (nx tb n c.1)) (goT tb n d) := by
  have hn := nx_gt (tb := tb) (isW_lt hw)
  unfold fcC
  rw [goT, andR, if_pos hw, bindR_assoc]
  cases hF : fcR tb n d (nx tb n c.1) with
  | error e => rfl
  | ok r =>
    have hm := fcR_mono d _ _ hF
    show rc (bindR (andR tb n (fcR tb n d) (n + 1) r.1 ([] ++ r.2 ++ [10])) _) = goT tb n d r.1
    rw [andR_fuel (fcR_mono d) (n + 1) (n + 2) r.1 _ (by omega) (by omega) (by omega) (by omega)]
    exact goT_k _
theorem goT_or {tb : Nat → Nat} {n : Nat} {d : Nat} {c : Cur} (h1 : ¬ isW tb n wAnd c = true) (hw : isW tb n wOr c = true) : goT tb n d c = bindR (fcC tb n d (nx tb n c.1)) (goT tb n d) := by
  have hn := nx_gt (tb := tb) (isW_lt hw)
  unfold fcC
  rw [goT, andR_stop h1]
  show rc (orR tb n (fcR tb n d) (n + 1 + 1) c []) = _
  rw [orR, if_pos hw]
  unfold bothR
  rw [bindR_assoc]
  cases hF : fcR tb n d (nx tb n c.1) with
  | error e => rfl
  | ok r =>
    have hm := fcR_mono d _ _ hF
    show rc (bindR (andR tb n (fcR tb n d) (n + 2) r.1 r.2) _) = goT tb n d r.1
    rw [← goT_k r.2]
    cases hA : andR tb n (fcR tb n d) (n + 2) r.1 r.2 with
    | error e => rfl
    | ok a =>
      have hm2 := andR_mono (fcR_mono d) _ _ _ _ hA
      show rc (orR tb n (fcR tb n d) (n + 1) a.1 ([] ++ a.2 ++ [11])) = rc (orR tb n (fcR tb n d) (n + 2) a.1 a.2)
      rw [orR_fuel (fcR_mono d) (n + 1) (n + 2) a.1 _ (by omega) (by omega) (by omega) (by omega), rc_or, rc_or a.2]
theorem goT_stop {tb : Nat → Nat} {n : Nat} {d : Nat} {c : Cur} (h1 : ¬ isW tb n wAnd c = true) (h2 : ¬ isW tb n wOr c = true) : goT tb n d c = .ok c := by
  rw [goT, andR_stop h1]
  show rc (orR tb n (fcR tb n d) (n + 1 + 1) c []) = _
  rw [orR_stop h2]; rfl
def aftL (tb : Nat → Nat) (n : Nat) : List Nat → Nat → Cur → Except Err Cur
  | [], d, c => goT tb n d c
  | o :: L, d, c => if o = 12 then aftL tb n L (d + 1) c else if o = 25 then bindR (goT tb n d c) (fun c1 => bindR (signP tb n 93 c1) (fun c2 => aftL tb n L (d + 1) c2)) else aftL tb n L d c
def befL (tb : Nat → Nat) (n : Nat) (L : List Nat) (d : Nat) (c : Cur) : Except Err Cur := bindR (fcC tb n d c) (fun c1 => aftL tb n L d c1)
def opT : List Nat → Nat
  | [] => 0
  | o :: L => (if o = 12 ∨ o = 25 then 1 else 0) + opT L
def shT : List Nat → Prop
  | [] => True
  | o :: L => shT L ∧ (o = 12 ∨ o = 25 ∨ ((o = 10 ∨ o = 11) ∧ ¬ hdL L = 12))
def TT (X : List Nat → Nat → Cur → Except Err Cur) (T : Except Err Cur) (c : Cur) (qt : Nat → Nat) (w : Nat) (qo : Int32) : Prop := ∃ dd, dd + opT (wlist qt 0 w) = 6 ∧ qo = nI (6 - dd) ∧ shT (wlist qt 0 w) ∧ X (wlist qt 0 w) dd c = T
def tO (X : List Nat → Nat → Cur → Except Err Cur) (T o : Except Err Cur) (qt : Nat → Nat) (w : Nat) (qo : Int32) : Prop := match o with
  | .error e => T = .error e
  | .ok c => TT X T c qt w qo
theorem to_at {tb : Nat → Nat} {n : Nat} {o : Except Err Cur} {pa : Nat} {pd : Int32} {pb : Nat} {pp : Int32} {X : List Nat → Nat → Cur → Except Err Cur} {T : Except Err Cur} {qt : Nat → Nat} {w : Nat} {qo : Int32} (h : moO tb n o pa pd pb pp) (hb : pb = 0) (hy : tO X T o qt w qo) : TT X T (cuO tb n pa pd) qt w qo := by
  rw [(mo_ok h hb).1] at hy
  exact hy
theorem to_bad {tb : Nat → Nat} {n : Nat} {o : Except Err Cur} {pa : Nat} {pd : Int32} {pb : Nat} {pp : Int32} {X : List Nat → Nat → Cur → Except Err Cur} {T : Except Err Cur} {qt : Nat → Nat} {w : Nat} {qo : Int32} (h : moO tb n o pa pd pb pp) (hb : ¬ pb = 0) (hy : tO X T o qt w qo) : o = T := by
  obtain ⟨e, rfl⟩ := mo_nz h hb
  exact (show T = .error e from hy).symm
theorem wl_push {qt : Nat → Nat} {w v : Nat} : wlist (updN qt w v) 0 (w + 1) = v :: wlist qt 0 w := wlist_push (b := 0) (Nat.zero_le w)
theorem wl_pop {qt : Nat → Nat} {w : Nat} (h : 1 ≤ w) : wlist qt 0 w = qt (w - 1) :: wlist qt 0 (w - 1) := wlist_pop (b := 0) (by omega)
theorem hd_top0 {qt : Nat → Nat} {w : Nat} : hdL (wlist qt 0 w) = topO qt 0 w := hd_top (b := 0)
theorem tt_0 {tb : Nat → Nat} {n : Nat} {c : Cur} {qt : Nat → Nat} : TT (befL tb n) (rc (testR tb n (fcR tb n 6) c)) c qt 0 0 := ⟨6, rfl, rfl, trivial, (te_rc c).symm⟩
theorem nI_6 {dd : Nat} (h : dd ≤ 6) (q : ¬ nI (6 - dd) = 6) : 1 ≤ dd := by
  rcases Nat.eq_zero_or_pos dd with e | e
  · exact absurd ((qo_6 h).mpr e) q
  · exact e
theorem tb_sq {tb : Nat → Nat} {n : Nat} {T : Except Err Cur} {c : Cur} {qt : Nat → Nat} {w : Nat} {qo : Int32} (h : TT (befL tb n) T c qt w qo) (hq : ¬ qo = 6) (hs : isS tb n 91 c = true) : TT (befL tb n) T (nx tb n c.1) (updN qt w 25) (w + 1) (qo + 1) := by
  obtain ⟨dd, h1, h2, h3, h4⟩ := h
  rw [h2] at hq
  have h0 := nI_6 (by omega) hq
  obtain ⟨d, rfl⟩ : ∃ d, dd = d + 1 := ⟨dd - 1, by omega⟩
  refine ⟨d, ?_, by rw [h2]; exact nI_add1 h0 (by omega), ?_, ?_⟩
  · rw [wl_push, opT, if_pos (Or.inr rfl)]; omega
  · rw [wl_push]; exact ⟨h3, Or.inr (Or.inl rfl)⟩
  · rw [wl_push, ← h4]
    unfold befL
    rw [fc_sq hs, bindR_assoc]
    refine bindR_congr _ (fun a _ => ?_)
    rw [aftL, if_neg (by decide), if_pos rfl, bindR_assoc]
theorem tb_not {tb : Nat → Nat} {n : Nat} {T : Except Err Cur} {c : Cur} {qt : Nat → Nat} {w : Nat} {qo : Int32} (h : TT (befL tb n) T c qt w qo) (hq : ¬ qo = 6) (hw : isW tb n wNot c = true) : TT (befL tb n) T (nx tb n c.1) (updN qt w 12) (w + 1) (qo + 1) := by
  obtain ⟨dd, h1, h2, h3, h4⟩ := h
  rw [h2] at hq
  have h0 := nI_6 (by omega) hq
  obtain ⟨d, rfl⟩ : ∃ d, dd = d + 1 := ⟨dd - 1, by omega⟩
  refine ⟨d, ?_, by rw [h2]; exact nI_add1 h0 (by omega), ?_, ?_⟩
  · rw [wl_push, opT, if_pos (Or.inl rfl)]; omega
  · rw [wl_push]; exact ⟨h3, Or.inl rfl⟩
  · rw [wl_push, ← h4]
    unfold befL
    rw [fc_not hw]
    refine bindR_congr _ (fun a _ => ?_)
    rw [aftL, if_pos rfl]
theorem tb_full {tb : Nat → Nat} {n : Nat} {T : Except Err Cur} {c : Cur} {qt : Nat → Nat} {w : Nat} {qo : Int32} (h : TT (befL tb n) T c qt w qo) (hq : qo = 6) (hs : isS tb n 91 c = true ∨ isW tb n wNot c = true) : T = .error (4, c.1) := by
  obtain ⟨dd, h1, h2, h3, h4⟩ := h
  have h0 := (qo_6 (by omega)).mp (h2.symm.trans hq)
  subst h0
  rw [← h4]
  unfold befL
  rw [fc_0 hs]; rfl
theorem wl_keep {qt qt2 : Nat → Nat} {w : Nat} (h : ∀ j, j < w → qt2 j = qt j) : wlist qt2 0 w = wlist qt 0 w := wlist_cg w (fun j hj => by rw [Nat.zero_add]; exact h j hj)
theorem ta_at {tb : Nat → Nat} {n : Nat} {T : Except Err Cur} {c : Cur} {qt qt2 : Nat → Nat} {w w2 : Nat} {qo qo2 : Int32} {dd : Nat} {o2 : Except Err Cur} (h1 : dd + opT (wlist qt 0 w) = 6) (h2 : qo = nI (6 - dd)) (h3 : shT (wlist qt 0 w)) (h4 : befL tb n (wlist qt 0 w) dd c = T) (n1 : ¬ isS tb n 91 c = true) (n2 : isW tb n wNot c = false) (ho : o2 = atC tb n dd c) (hk : ∀ c2, o2 = .ok c2 → (qo2 = qo ∧ w2 = w ∧ ∀ j, j < w → qt2 j = qt j)) : tO (aftL tb n) T o2 qt2 w2 qo2 := by
  have h5 : bindR o2 (fun c1 => aftL tb n (wlist qt 0 w) dd c1) = T := by
    rw [← h4, ho]
    unfold befL
    rw [fc_at n1 (by rw [n2]; decide)]
  cases o2 with
  | error e => exact h5.symm
  | ok c2 =>
    obtain ⟨k1, k2, k3⟩ := hk c2 rfl
    subst k1; subst k2
    exact ⟨dd, by rw [wl_keep k3]; exact h1, h2, by rw [wl_keep k3]; exact h3, by rw [wl_keep k3]; exact h5⟩
theorem ta_not {tb : Nat → Nat} {n : Nat} {T : Except Err Cur} {c : Cur} {qt : Nat → Nat} {w : Nat} {qo : Int32} (h : TT (aftL tb n) T c qt w qo) (hw : 1 ≤ w) (hv : qt (w - 1) = 12) : TT (aftL tb n) T c qt (w - 1) (qo - 1) := by
  obtain ⟨dd, h1, h2, h3, h4⟩ := h
  rw [wl_pop hw, hv] at h1 h3 h4
  rw [opT, if_pos (Or.inl rfl)] at h1
  rw [aftL, if_pos rfl] at h4
  exact ⟨dd + 1, by omega, by rw [h2]; exact nI_sub1 (by omega), h3.1, h4⟩
theorem ta_drop {tb : Nat → Nat} {n : Nat} {T : Except Err Cur} {c : Cur} {qt : Nat → Nat} {w : Nat} {qo : Int32} (h : TT (aftL tb n) T c qt w qo) (hw : 1 ≤ w) (hv : qt (w - 1) = 10 ∨ qt (w - 1) = 11) : TT (aftL tb n) T c qt (w - 1) qo ∧ ¬ topO qt 0 (w - 1) = 12 := by
  obtain ⟨dd, h1, h2, h3, h4⟩ := h
  rw [wl_pop hw] at h1 h3 h4
  rw [opT, if_neg (by omega)] at h1
  rw [aftL, if_neg (by omega), if_neg (by omega)] at h4
  have h5 := h3.2
  rw [hd_top0] at h5
  exact ⟨⟨dd, by omega, h2, h3.1, h4⟩, by omega⟩
theorem ta_top {tb : Nat → Nat} {n : Nat} {T : Except Err Cur} {c : Cur} {qt : Nat → Nat} {w : Nat} {qo : Int32} (h : TT (aftL tb n) T c qt w qo) (hw : 1 ≤ w) (ht : ¬ topO qt 0 w = 12) (h25 : ¬ qt (w - 1) = 25) : qt (w - 1) = 10 ∨ qt (w - 1) = 11 := by
  obtain ⟨dd, h1, h2, h3, h4⟩ := h
  rw [wl_pop hw] at h3
  have h5 := h3.2
  have h6 : topO qt 0 w = qt (w - 1) := by unfold topO; rw [if_pos (by omega)]
  omega
theorem ta_pop {tb : Nat → Nat} {n : Nat} {T : Except Err Cur} {c : Cur} {qt : Nat → Nat} {w : Nat} {qo : Int32} (h : TT (aftL tb n) T c qt w qo) (hw : 1 ≤ w) (hv : qt (w - 1) = 25) (hs : isS tb n 93 c = true) : TT (aftL tb n) T (nx tb n c.1) qt (w - 1) (qo - 1) := by
  obtain ⟨dd, h1, h2, h3, h4⟩ := h
  rw [wl_pop hw, hv] at h1 h3 h4
  rw [opT, if_pos (Or.inr rfl)] at h1
  rw [aftL, if_neg (by decide), if_pos rfl, goT_stop (fun q => isW_noS q (by decide) hs) (fun q => isW_noS q (by decide) hs)] at h4
  have h5 : bindR (signP tb n 93 c) (fun c2 => aftL tb n (wlist qt 0 (w - 1)) (dd + 1) c2) = T := h4
  rw [signP_t hs] at h5
  exact ⟨dd + 1, by omega, by rw [h2]; exact nI_sub1 (by omega), h3.1, h5⟩
theorem aft_sqgo {tb : Nat → Nat} {n : Nat} {c c2 : Cur} {d : Nat} (hg : goT tb n d c = bindR (fcC tb n d c2) (goT tb n d)) : ∀ L, shT L → ¬ hdL L = 12 → aftL tb n L d c = bindR (fcC tb n d c2) (fun c1 => aftL tb n L d c1)
  | [], _, _ => hg
  | o :: L, hs, ht => by
    have h12 : ¬ o = 12 := ht
    by_cases h25 : o = 25
    · rw [aftL, if_neg h12, if_pos h25, hg, bindR_assoc]
      refine bindR_congr _ (fun a _ => ?_)
      rw [aftL, if_neg h12, if_pos h25]
    · have h5 := hs.2
      rw [aftL, if_neg h12, if_neg h25, aft_sqgo hg L hs.1 (by omega)]
      refine bindR_congr _ (fun a _ => ?_)
      rw [aftL, if_neg h12, if_neg h25]
theorem ta_push {tb : Nat → Nat} {n : Nat} {T : Except Err Cur} {c : Cur} {qt : Nat → Nat} {w : Nat} {qo : Int32} {v : Nat} {c2 : Cur} (h : TT (aftL tb n) T c qt w qo) (ht : ¬ topO qt 0 w = 12) (hv : v = 10 ∨ v = 11) (hg : ∀ d, goT tb n d c = bindR (fcC tb n d c2) (goT tb n d)) : TT (befL tb n) T c2 (updN qt w v) (w + 1) qo := by
  obtain ⟨dd, h1, h2, h3, h4⟩ := h
  rw [← hd_top0] at ht
  refine ⟨dd, ?_, h2, ?_, ?_⟩
  · rw [wl_push, opT, if_neg (by omega)]; omega
  · rw [wl_push]; exact ⟨h3, Or.inr (Or.inr ⟨hv, ht⟩)⟩
  · rw [wl_push, ← h4, aft_sqgo (hg dd) _ h3 ht]
    unfold befL
    refine bindR_congr _ (fun a _ => ?_)
    rw [aftL, if_neg (by omega), if_neg (by omega)]
theorem wl_noQ {qt : Nat → Nat} : ∀ w, noQ qt w → ∀ x, x ∈ wlist qt 0 w → ¬ x = 25
  | 0, _, x, hx => by cases hx
  | w + 1, h, x, hx => by
    rcases List.mem_cons.mp (show x ∈ qt (0 + w) :: wlist qt 0 w from hx) with e | e
    · rw [e, Nat.zero_add]; exact h w (by omega)
    · exact wl_noQ w (fun j hj => h j (by omega)) x e
theorem wl_hasQ {qt : Nat → Nat} : ∀ w, hasQ qt w → 25 ∈ wlist qt 0 w
  | 0, h => by obtain ⟨j, hj, -⟩ := h; omega
  | w + 1, h => by
    obtain ⟨j, hj, e⟩ := h
    show 25 ∈ qt (0 + w) :: wlist qt 0 w
    rw [Nat.zero_add]
    by_cases q : j = w
    · subst q; rw [e]; exact List.mem_cons_self ..
    · exact List.mem_cons_of_mem _ (wl_hasQ w ⟨j, by omega, e⟩)
theorem aft_sqno {tb : Nat → Nat} {n : Nat} {c : Cur} {d : Nat} (hg : goT tb n d c = .ok c) : ∀ L, shT L → ¬ hdL L = 12 → (∀ x, x ∈ L → ¬ x = 25) → aftL tb n L d c = .ok c
  | [], _, _, _ => hg
  | o :: L, hs, ht, h25 => by
    have h12 : ¬ o = 12 := ht
    have h5 := hs.2
    have h6 : ¬ o = 25 := h25 o (List.mem_cons_self ..)
    rw [aftL, if_neg h12, if_neg h6]
    exact aft_sqno hg L hs.1 (by omega) (fun x hx => h25 x (List.mem_cons_of_mem _ hx))
theorem aft_sqbad {tb : Nat → Nat} {n : Nat} {c : Cur} {d : Nat} (hg : goT tb n d c = .ok c) (hs3 : ¬ isS tb n 93 c = true) : ∀ L, shT L → ¬ hdL L = 12 → 25 ∈ L → aftL tb n L d c = .error (1, c.1)
  | [], _, _, h => by cases h
  | o :: L, hs, ht, h => by
    have h12 : ¬ o = 12 := ht
    have h5 := hs.2
    by_cases h6 : o = 25
    · rw [aftL, if_neg h12, if_pos h6, hg]
      show bindR (signP tb n 93 c) _ = _
      rw [signP_f hs3]; rfl
    · rw [aftL, if_neg h12, if_neg h6]
      rcases List.mem_cons.mp h with e | e
      · exact absurd e.symm h6
      · exact aft_sqbad hg hs3 L hs.1 (by omega) e
theorem ta_end {tb : Nat → Nat} {n : Nat} {T : Except Err Cur} {c : Cur} {qt : Nat → Nat} {w : Nat} {qo : Int32} (h : TT (aftL tb n) T c qt w qo) (ht : ¬ topO qt 0 w = 12) (hq : noQ qt w) (h1 : isW tb n wAnd c = false) (h2 : isW tb n wOr c = false) : T = .ok c := by
  obtain ⟨dd, g1, g2, g3, g4⟩ := h
  rw [← hd_top0] at ht
  rw [← g4]
  exact aft_sqno (goT_stop (by rw [h1]; decide) (by rw [h2]; decide)) _ g3 ht (wl_noQ w hq)
theorem ta_bad {tb : Nat → Nat} {n : Nat} {T : Except Err Cur} {c : Cur} {qt : Nat → Nat} {w : Nat} {qo : Int32} (h : TT (aftL tb n) T c qt w qo) (ht : ¬ topO qt 0 w = 12) (hq : hasQ qt w) (h1 : isW tb n wAnd c = false) (h2 : isW tb n wOr c = false) (hs : ¬ isS tb n 93 c = true) : T = .error (1, c.1) := by
  obtain ⟨dd, g1, g2, g3, g4⟩ := h
  rw [← hd_top0] at ht
  rw [← g4]
  exact aft_sqbad (goT_stop (by rw [h1]; decide) (by rw [h2]; decide)) hs _ g3 ht (wl_hasQ w hq)
theorem se_rc {d0 m0 : Nat} {R : Res} {o : Except Err Cur} {qs : Nat → Nat} {qn : Nat} {qo : Int32} (h : sE d0 m0 R o qs qn qo) : o = rc R := by
  cases o with
  | error e =>
    have h1 : R = .error e := h
    rw [h1]; rfl
  | ok c =>
    obtain ⟨k, h1, -, -⟩ := h
    rw [h1]; rfl
theorem se_qo {tb : Nat → Nat} {n : Nat} {o : Except Err Cur} {pa : Nat} {pd : Int32} {pb : Nat} {pp : Int32} {d0 m0 : Nat} {R : Res} {qs : Nat → Nat} {qn : Nat} {qo : Int32} (h : moO tb n o pa pd pb pp) (hb : pb = 0) (hy : sE d0 m0 R o qs qn qo) : qo = nI (6 - d0) := by
  rw [(mo_ok h hb).1] at hy
  obtain ⟨k, -, -, h3⟩ := hy
  exact h3
theorem at_all {tb : Nat → Nat} {n : Nat} {o : Except Err Cur} {pa : Nat} {pd : Int32} {pb : Nat} {pp : Int32} {d : Nat} (h : moO tb n o pa pd pb pp) (hb : pb = 0) (hw : isW tb n wAll (cuO tb n pa pd) = true) : bindR o (nxF tb n) = bindR o (atC tb n d) := by
  rw [(mo_ok h hb).1]
  show _ = atC tb n d (cuO tb n pa pd)
  unfold atC
  rw [if_pos hw]; rfl
theorem at_sum {tb : Nat → Nat} {n : Nat} {o : Except Err Cur} {pa : Nat} {pd : Int32} {pb : Nat} {pp : Int32} {d : Nat} (h : moO tb n o pa pd pb pp) (hb : pb = 0) (hw : isW tb n wAll (cuO tb n pa pd) = false) : bindR (rc (sumD tb n 2 d (cuO tb n pa pd))) (relC tb n d) = bindR o (atC tb n d) := by
  rw [(mo_ok h hb).1]
  show _ = atC tb n d (cuO tb n pa pd)
  unfold atC
  rw [if_neg (by rw [hw]; decide)]
theorem at_s1 {tb : Nat → Nat} {n : Nat} {o : Except Err Cur} {pa : Nat} {pd : Int32} {pb : Nat} {pp : Int32} {d a : Nat} {e : Int32} {b : Nat} {p2 : Int32} {o1 : Except Err Cur} (h : moO tb n o pa pd pb pp) (hb : pb = 0) (hw : isW tb n wAll (cuO tb n pa pd) = false) (e1 : o1 = rc (sumD tb n 2 d (cuO tb n pa pd))) (h1 : moO tb n o1 a e b p2) (hx : ¬ b = 0) : o1 = bindR o (atC tb n d) := by
  rw [← at_sum h hb hw, ← e1]
  obtain ⟨z, rfl⟩ := mo_nz h1 hx
  rfl
theorem at_s2 {tb : Nat → Nat} {n : Nat} {o : Except Err Cur} {pa : Nat} {pd : Int32} {pb : Nat} {pp : Int32} {d a : Nat} {e : Int32} {b : Nat} {p2 : Int32} {o1 : Except Err Cur} (h : moO tb n o pa pd pb pp) (hb : pb = 0) (hw : isW tb n wAll (cuO tb n pa pd) = false) (e1 : o1 = rc (sumD tb n 2 d (cuO tb n pa pd))) (h1 : moO tb n o1 a e b p2) (hx : b = 0) (hv : relV tb n (cuO tb n a e) = none) : (Except.error (1, sk tb n a) : Except Err Cur) = bindR o (atC tb n d) := by
  rw [← at_sum h hb hw, ← e1, (mo_ok h1 hx).1]
  show _ = relC tb n d (cuO tb n a e)
  unfold relC
  rw [hv]; rfl
theorem at_s3 {tb : Nat → Nat} {n : Nat} {o : Except Err Cur} {pa : Nat} {pd : Int32} {pb : Nat} {pp : Int32} {d a v : Nat} {e : Int32} {b : Nat} {p2 : Int32} {o1 o3 : Except Err Cur} {a3 : Nat} {e3 : Int32} {b3 : Nat} {p3 : Int32} (h : moO tb n o pa pd pb pp) (hb : pb = 0) (hw : isW tb n wAll (cuO tb n pa pd) = false) (e1 : o1 = rc (sumD tb n 2 d (cuO tb n pa pd))) (h1 : moO tb n o1 a e b p2) (hx : b = 0) (hv : relV tb n (cuO tb n a e) = some v) (h3 : moO tb n (bindR o1 (nxF tb n)) a3 e3 b3 p3) (e3_ : o3 = rc (sumD tb n 2 d (cuO tb n a3 e3))) : o3 = bindR o (atC tb n d) := by
  rw [← at_sum h hb hw, ← e1, e3_]
  rw [(mo_ok h1 hx).1] at h3 ⊢
  have h4 : moO tb n (.ok (nx tb n (cuO tb n a e).1)) a3 e3 b3 p3 := h3
  rw [← h4.2.2.2.1]
  show _ = relC tb n d (cuO tb n a e)
  unfold relC
  simp only [hv]
theorem relV_60 {tb : Nat → Nat} {n : Nat} {c : Cur} (h : isS tb n 60 c = true) : relV tb n c = some 7 := by unfold relV; rw [if_pos h]
theorem relV_62 {tb : Nat → Nat} {n : Nat} {c : Cur} (h : isS tb n 62 c = true) : relV tb n c = some 8 := by unfold relV; rw [if_neg (isS_not h (by decide)), if_pos h]
theorem relV_61 {tb : Nat → Nat} {n : Nat} {c : Cur} (h : isS tb n 61 c = true) : relV tb n c = some 9 := by unfold relV; rw [if_neg (isS_not h (by decide)), if_neg (isS_not h (by decide)), if_pos h]
theorem relV_no {tb : Nat → Nat} {n : Nat} {c : Cur} (h1 : ¬ isS tb n 60 c = true) (h2 : ¬ isS tb n 62 c = true) (h3 : ¬ isS tb n 61 c = true) : relV tb n c = none := by unfold relV; rw [if_neg h1, if_neg h2, if_neg h3]
abbrev isV3 (tb : Nat → Nat) (n : Nat) (c : Cur) : Prop := isV tb n 15 c = true ∨ isV tb n 23 c = true ∨ isV tb n 24 c = true
abbrev isV6 (tb : Nat → Nat) (n : Nat) (c : Cur) : Prop := isV tb n 25 c = true ∨ isV tb n 26 c = true ∨ isV tb n 27 c = true
def vkO (tb : Nat → Nat) (n : Nat) (c : Cur) (kd : Nat) (o2 : Except Err Cur) : Prop := (kd < 3 ∧ isV3 tb n c ∧ o2 = .ok (nx tb n c.1)) ∨ (3 ≤ kd ∧ ¬ isV3 tb n c ∧ isV6 tb n c ∧ o2 = .ok (nx tb n c.1)) ∨ (3 ≤ kd ∧ ¬ isV3 tb n c ∧ ¬ isV6 tb n c ∧ o2 = .error (1, c.1))
theorem kd_t {tb : Nat → Nat} {n : Nat} {c : Cur} {kd : Nat} {o2 : Except Err Cur} {a : Nat} {d : Int32} {b : Nat} {p : Int32} (h : vkO tb n c kd o2) (hm : moO tb n o2 a d b p) (hb : b = 0) (hk : kd < 3) : quF tb n c = qtP tb n (cuO tb n a d) := by
  rcases h with ⟨-, h2, h3⟩ | ⟨h1, -⟩ | ⟨h1, -⟩
  · unfold quF
    rw [if_pos h2]
    subst h3
    rw [hm.2.2.2.1]
  · exact absurd h1 (by omega)
  · exact absurd h1 (by omega)
theorem kd_s {tb : Nat → Nat} {n : Nat} {c : Cur} {kd : Nat} {o2 : Except Err Cur} {a : Nat} {d : Int32} {b : Nat} {p : Int32} (h : vkO tb n c kd o2) (hm : moO tb n o2 a d b p) (hb : b = 0) (hk : ¬ kd < 3) : quF tb n c = rc (sumD tb n 2 6 (cuO tb n a d)) := by
  rcases h with ⟨h1, -⟩ | ⟨-, h2, h3, h4⟩ | ⟨-, -, -, h4⟩
  · exact absurd h1 hk
  · unfold quF
    rw [if_neg h2, if_pos h3]
    subst h4
    rw [hm.2.2.2.1]; rfl
  · subst h4
    have h5 := hm.1
    have : b = 1 := h5
    omega
theorem kd_e {tb : Nat → Nat} {n : Nat} {c : Cur} {kd : Nat} {o2 : Except Err Cur} {a : Nat} {d : Int32} {b : Nat} {p : Int32} (h : vkO tb n c kd o2) (hm : moO tb n o2 a d b p) (hb : ¬ b = 0) : quF tb n c = o2 := by
  rcases h with ⟨-, -, h3⟩ | ⟨-, -, -, h4⟩ | ⟨-, h2, h3, h4⟩
  · subst h3; exact absurd hm.1 hb
  · subst h4; exact absurd hm.1 hb
  · unfold quF
    rw [if_neg h2, if_neg h3, h4]
theorem qe_f {tb : Nat → Nat} {n : Nat} {o : Except Err Cur} {pa : Nat} {pd : Int32} {pb : Nat} {pp : Int32} (h : moO tb n o pa pd pb pp) (hb : ¬ pb = 0) : quO (bindR o (fiF n)) (nI pb) pp := by
  obtain ⟨e, rfl⟩ := mo_nz h hb
  exact ⟨congrArg nI h.1, h.2.1⟩
theorem qe_0 {tb : Nat → Nat} {n : Nat} {o : Except Err Cur} {pa : Nat} {pd : Int32} {pb : Nat} {pp : Int32} (h : moO tb n o pa pd pb pp) (hb : pb = 0) (hn : n ≤ sk tb n pa) : quO (bindR o (fiF n)) (nI pb) pp := by
  have h1 := mo_ok h hb
  rw [h1.1]
  show quO (fiF n (cuO tb n pa pd)) (nI pb) pp
  unfold fiF
  rw [if_pos (show n ≤ (cuO tb n pa pd).1 from hn)]
  exact ⟨by rw [hb]; rfl, h1.2.1⟩
theorem qe_1 {tb : Nat → Nat} {n : Nat} {o : Except Err Cur} {pa : Nat} {pd : Int32} {pb : Nat} {pp : Int32} (h : moO tb n o pa pd pb pp) (hb : pb = 0) (hn : ¬ n ≤ sk tb n pa) : quO (bindR o (fiF n)) (nI 1) (nI (sk tb n pa)) := by
  rw [(mo_ok h hb).1]
  show quO (fiF n (cuO tb n pa pd)) (nI 1) (nI (sk tb n pa))
  unfold fiF
  rw [if_neg (show ¬ n ≤ (cuO tb n pa pd).1 from hn)]
  exact ⟨rfl, rfl⟩
