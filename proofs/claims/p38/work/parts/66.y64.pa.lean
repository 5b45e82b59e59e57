theorem kd_3 {tb : Nat → Nat} {n : Nat} {o : Except Err Cur} {pa : Nat} {pd : Int32} {pb : Nat} {pp : Int32} {kd : Nat} (h : moO tb n o pa pd pb pp) (hb : pb = 0) (hk : kd < 3) (hv : isV3 tb n (cuO tb n pa pd)) : vkO tb n (cuO tb n pa pd) kd (bindR o (nxF tb n)) := by
  rw [(mo_ok h hb).1]
  exact Or.inl ⟨hk, hv, rfl⟩
theorem kd_6 {tb : Nat → Nat} {n : Nat} {o : Except Err Cur} {pa : Nat} {pd : Int32} {pb : Nat} {pp : Int32} {kd : Nat} (h : moO tb n o pa pd pb pp) (hb : pb = 0) (hk : 3 ≤ kd) (hn : ¬ isV3 tb n (cuO tb n pa pd)) (hv : isV6 tb n (cuO tb n pa pd)) : vkO tb n (cuO tb n pa pd) kd (bindR o (nxF tb n)) := by
  rw [(mo_ok h hb).1]
  exact Or.inr (Or.inl ⟨hk, hn, hv, rfl⟩)
theorem kd_5 {tb : Nat → Nat} {n : Nat} {o : Except Err Cur} {pa : Nat} {pd : Int32} {pb : Nat} {pp : Int32} (h : moO tb n o pa pd pb pp) (hb : pb = 0) (hn : ¬ isV3 tb n (cuO tb n pa pd)) (h1 : isV tb n 25 (cuO tb n pa pd) = false) (h2 : isV tb n 26 (cuO tb n pa pd) = false) : vkO tb n (cuO tb n pa pd) 5 (bindR o (wordP tb n (CWs.getD 27 []))) := by
  rw [(mo_ok h hb).1]
  show vkO tb n (cuO tb n pa pd) 5 (wordP tb n (CWs.getD 27 []) (cuO tb n pa pd))
  cases hq : isV tb n 27 (cuO tb n pa pd) with
  | true => exact Or.inr (Or.inl ⟨by decide, hn, Or.inr (Or.inr hq), mo_asks2 hq⟩)
  | false => exact Or.inr (Or.inr ⟨by decide, hn, (fun q => by rcases q with q | q | q; (rw [h1] at q; cases q); (rw [h2] at q; cases q); (rw [hq] at q; cases q)), mo_asks1 hq⟩)
theorem nV3 {tb : Nat → Nat} {n : Nat} {c : Cur} (h1 : isV tb n 15 c = false) (h2 : isV tb n 23 c = false) (h3 : isV tb n 24 c = false) : ¬ isV3 tb n c := fun q => by
  rcases q with q | q | q
  · rw [h1] at q; cases q
  · rw [h2] at q; cases q
  · rw [h3] at q; cases q
set_option maxHeartbeats 4000000 in
set_option maxRecDepth 100000 in
theorem c_em_qKind (l : Launch) (D : va_G) (cI cJ cC cZ cS : ClassId) (mm : Nat) (g : Nat → Nat) (ta : Nat) (pa : Nat) (pe : Nat) (pd : Int32) (pb : Nat) (pp : Int32) (pf : Int32) (pg : Int32) (pn : Int32) (rt : Int32) (rn : Int32) (cd : Nat) (sn : Int32) (il : Nat) (tk : Int32) (am : Int32) (at_ : Int32) (aa : Int32) (wt : Int32) (wy : Int64) (rm : Nat) (ud : Nat) (nu : Nat) (sd : Int64) (qn : Nat) (qw : Nat) (qo : Int32) (qb : Nat) (qp : Nat) (qa : Int64) (qi : Nat) (oc : Nat) (tb : Nat → Nat) (og : Except Err Cur) (hpa : pa ≤ pe) (hpe : pe ≤ 1600) (hpb : pb ≤ 5) (hpb0 : pb = 0) (hO : moO tb pe og pa pd pb pp) (htb : ∀ j, tb j ≤ 255) : skM l yX12_qKind cX12_qKind 2 (some .int) 4 85 0 0 D (skT cI cJ cC cZ cS) [.ref mm] [ro_ mm 12 (mo g (nI ta) (nI pa) (nI pe) pd (nI pb) pp pf pg pn rt rn (nI cd) sn (nI il) tk am at_ aa 0 0 (-1) wt wy 0 (nI rm) (nI ud) (nI nu) sd (nI qn) (nI qw) qo (nI qb) (nI qp) qa (nI qi) (nI oc)), ra_N (g 0) cI 1600 tb, ra_I (g 58) cC 5 (cw [102, 105, 114, 115, 116]), ra_I (g 59) cC 4 (cw [108, 97, 115, 116]), ra_I (g 60) cC 5 (cw [111, 102, 116, 101, 110]), ra_I (g 61) cC 5 (cw [116, 111, 116, 97, 108]), ra_I (g 62) cC 4 (cw [109, 111, 115, 116]), ra_I (g 63) cC 5 (cw [108, 101, 97, 115, 116])] (skI D (skT cI cJ cC cZ cS) (fun (r : Int32) (u : va_W) => ∃ (kd : Nat), ∃ (o2 : Except Err Cur), ∃ (pa2 : Nat), ∃ (pd2 : Int32), ∃ (pb2 : Nat), ∃ (pp2 : Int32), pa ≤ pa2 ∧ pa2 ≤ pe ∧ pb2 ≤ 5 ∧ kd ≤ 5 ∧ moO tb pe o2 pa2 pd2 pb2 pp2 ∧ vkO tb pe (cuO tb pe pa pd) kd o2 ∧ r = nI kd ∧ u = [ro_ mm 12 (mo g (nI ta) (nI pa2) (nI pe) pd2 (nI pb2) pp2 pf pg pn rt rn (nI cd) sn (nI il) tk am at_ aa 0 0 (-1) wt wy 0 (nI rm) (nI ud) (nI nu) sd (nI qn) (nI qw) qo (nI qb) (nI qp) qa (nI qi) (nI oc)), ra_N (g 0) cI 1600 tb, ra_I (g 58) cC 5 (cw [102, 105, 114, 115, 116]), ra_I (g 59) cC 4 (cw [108, 97, 115, 116]), ra_I (g 60) cC 5 (cw [111, 102, 116, 101, 110]), ra_I (g 61) cC 5 (cw [116, 111, 116, 97, 108]), ra_I (g 62) cC 4 (cw [109, 111, 115, 116]), ra_I (g 63) cC 5 (cw [108, 101, 97, 115, 116])])) := by
  refine skM_of pf_X12_qKind (Nat.le_of_ble_eq_true rfl) ?_
  intro p e s m below meth c A ls E hP hD hl
  refine skE_el E (fun hx hb hr hml hlocks hin hown hts hK hA => ?_)
  have hown : s.vm.findClass RX12 = some m.cls := hown
  have hS : va_S A s.heap s.heap [] := va_S.rf
  have hl : lv_has ls 2 [(0, .ref mm)] := hl
  refine lv_aload_n hx hb dX12_qKind_0 rfl (lv_at hl 0 rfl) ?_
  refine lv_aload_n hx hb dX12_qKind_1 rfl (lv_at hl 0 rfl) ?_
  refine sk_get (v := .ref (g 58)) (C := RX12) (T := TX12) (N := 92) hx hb hts inlX12 hown hK hP 0 rfl rfl 58 (Nat.le_of_ble_eq_true rfl) w_5_213 rfl dX12_qKind_2 ?_
  refine sk_Vi (q0 := 0) (n := 1) (rest := []) (wr := fmR om_8_e0 _) ⟨hx, hb, hml, hown, hts⟩ hl.1 (c_em_takes l D cI cJ cC cZ cS mm g ta pa pe pd pb pp pf pg pn rt rn cd sn il tk am at_ aa wt wy rm ud nu sd qn qw qo qb qp qa qi oc tb (g 58) 5 ([102, 105, 114, 115, 116]) og hpa hpe hpb (by omega) (by omega) rfl (wb_of (by decide)) hO htb) w_6_214 w_6_216 w_0_43 w_1_14 w_6_217 hd_X12_takes_1 ⟨⟨(Nat.le_of_ble_eq_true rfl), (Nat.le_of_ble_eq_true rfl)⟩, (Nat.le_of_ble_eq_true rfl), (Nat.le_of_ble_eq_true rfl)⟩ hK hP hD hS hA (fmT om_8_e0 0) (fmF om_8_e0 0) (fm_C1 rfl rfl) (fm_R rfl rfl) (fm_nT om_8_e0 0) (fm_nF om_8_e0 0) (fm_di om_8_e0 0) rfl rfl rfl rfl (Nat.le_of_ble_eq_true rfl) dX12_qKind_5 (fun r_4 u H locs hw hP hD hS => ?_)
  refine exE hw (fun b_1 hw1 => exE hw1 (fun pa2_2 hw2 => exE hw2 (fun pd2_3 hw3 => anE hw3 (fun hpa2_5 hw4 => anE hw4 (fun hpa3_6 hw5 => anE hw5 (fun hb1_7 hw6 => anE hw6 (fun hT_8 hw7 => anE hw7 (fun er_10 eu_9 => ?_))))))))
  clear hw hw1 hw2 hw3 hw4 hw5 hw6 hw7
  subst er_10
  refine o_mgE (ws' := [ro_ mm 12 (mo g (nI ta) (nI pa2_2) (nI pe) pd2_3 (nI pb) pp pf pg pn rt rn (nI cd) sn (nI il) tk am at_ aa 0 0 (-1) wt wy 0 (nI rm) (nI ud) (nI nu) sd (nI qn) (nI qw) qo (nI qb) (nI qp) qa (nI qi) (nI oc)), ra_N (g 0) cI 1600 tb, ra_I (g 58) cC 5 (cw ([102, 105, 114, 115, 116])), ra_I (g 59) cC 4 (cw [108, 97, 115, 116]), ra_I (g 60) cC 5 (cw [111, 102, 116, 101, 110]), ra_I (g 61) cC 5 (cw [116, 111, 116, 97, 108]), ra_I (g 62) cC 4 (cw [109, 111, 115, 116]), ra_I (g 63) cC 5 (cw [108, 101, 97, 115, 116])]) eu_9 hP hD rfl (fun hP hD => ?_)
  refine lv_if_eq (tgt := 15) hx hb dX12_qKind_8 (by decide) (fun c_11 => ?_) (fun c_11 => ?_)
  · have c_11 : b_1 = 0 := (neq b_1 0 (by omega) (Nat.le_of_ble_eq_true rfl)).mp c_11
    have hv15 : isV tb pe 15 (cuO tb pe pa pd) = false := by rw [← (rfl : (cuO tb pe pa pd) = (cuO tb pe pa pd))]; exact ((rr_0 hT_8 (by omega)).1 hpb0).2
    have hO_12 := (rr_0 hT_8 (by omega)).2
    have hcu_13 : cuO tb pe pa2_2 pd2_3 = (cuO tb pe pa pd) := mo_two hO_12 hO hpb0 hpb0
    refine lv_aload_n hx hb dX12_qKind_15 rfl (lv_at hl 0 rfl) ?_
    refine lv_aload_n hx hb dX12_qKind_16 rfl (lv_at hl 0 rfl) ?_
    refine sk_get (v := .ref (g 59)) (C := RX12) (T := TX12) (N := 92) hx hb hts inlX12 hown hK hP 0 rfl rfl 59 (Nat.le_of_ble_eq_true rfl) w_5_214 rfl dX12_qKind_17 ?_
    refine sk_Vi (q0 := 0) (n := 1) (rest := []) (wr := fmR om_8_d0 _) ⟨hx, hb, hml, hown, hts⟩ hl.1 (c_em_takes l D cI cJ cC cZ cS mm g ta pa2_2 pe pd2_3 pb pp pf pg pn rt rn cd sn il tk am at_ aa wt wy rm ud nu sd qn qw qo qb qp qa qi oc tb (g 59) 4 ([108, 97, 115, 116]) og hpa3_6 hpe hpb (by omega) (by omega) rfl (wb_of (by decide)) hO_12 htb) w_6_214 w_6_216 w_0_43 w_1_14 w_6_217 hd_X12_takes_1 ⟨⟨(Nat.le_of_ble_eq_true rfl), (Nat.le_of_ble_eq_true rfl)⟩, (Nat.le_of_ble_eq_true rfl), (Nat.le_of_ble_eq_true rfl)⟩ hK hP hD hS hA (fmT om_8_d0 0) (fmF om_8_d0 0) (fm_C1 rfl rfl) (fm_R rfl rfl) (fm_nT om_8_d0 0) (fm_nF om_8_d0 0) (fm_di om_8_d0 0) rfl rfl rfl rfl (Nat.le_of_ble_eq_true rfl) dX12_qKind_20 (fun r_17 u H locs hw hP hD hS => ?_)
    refine exE hw (fun b_14 hw1 => exE hw1 (fun pa2_15 hw2 => exE hw2 (fun pd2_16 hw3 => anE hw3 (fun hpa2_18 hw4 => anE hw4 (fun hpa3_19 hw5 => anE hw5 (fun hb1_20 hw6 => anE hw6 (fun hT_21 hw7 => anE hw7 (fun er_23 eu_22 => ?_))))))))
    clear hw hw1 hw2 hw3 hw4 hw5 hw6 hw7
    subst er_23
    refine o_mgE (ws' := [ro_ mm 12 (mo g (nI ta) (nI pa2_15) (nI pe) pd2_16 (nI pb) pp pf pg pn rt rn (nI cd) sn (nI il) tk am at_ aa 0 0 (-1) wt wy 0 (nI rm) (nI ud) (nI nu) sd (nI qn) (nI qw) qo (nI qb) (nI qp) qa (nI qi) (nI oc)), ra_N (g 0) cI 1600 tb, ra_I (g 58) cC 5 (cw ([102, 105, 114, 115, 116])), ra_I (g 59) cC 4 (cw ([108, 97, 115, 116])), ra_I (g 60) cC 5 (cw [111, 102, 116, 101, 110]), ra_I (g 61) cC 5 (cw [116, 111, 116, 97, 108]), ra_I (g 62) cC 4 (cw [109, 111, 115, 116]), ra_I (g 63) cC 5 (cw [108, 101, 97, 115, 116])]) eu_22 hP hD rfl (fun hP hD => ?_)
    refine lv_if_eq (tgt := 30) hx hb dX12_qKind_23 (by decide) (fun c_24 => ?_) (fun c_24 => ?_)
    · have c_24 : b_14 = 0 := (neq b_14 0 (by omega) (Nat.le_of_ble_eq_true rfl)).mp c_24
      have hv23 : isV tb pe 23 (cuO tb pe pa pd) = false := by rw [← hcu_13]; exact ((rr_0 hT_21 (by omega)).1 hpb0).2
      have hO_25 := (rr_0 hT_21 (by omega)).2
      have hcu_26 : cuO tb pe pa2_15 pd2_16 = (cuO tb pe pa pd) := mo_two hO_25 hO hpb0 hpb0
      refine lv_aload_n hx hb dX12_qKind_30 rfl (lv_at hl 0 rfl) ?_
      refine lv_aload_n hx hb dX12_qKind_31 rfl (lv_at hl 0 rfl) ?_
      refine sk_get (v := .ref (g 60)) (C := RX12) (T := TX12) (N := 92) hx hb hts inlX12 hown hK hP 0 rfl rfl 60 (Nat.le_of_ble_eq_true rfl) w_5_215 rfl dX12_qKind_32 ?_
      refine sk_Vi (q0 := 0) (n := 1) (rest := []) (wr := fmR om_8_c8 _) ⟨hx, hb, hml, hown, hts⟩ hl.1 (c_em_takes l D cI cJ cC cZ cS mm g ta pa2_15 pe pd2_16 pb pp pf pg pn rt rn cd sn il tk am at_ aa wt wy rm ud nu sd qn qw qo qb qp qa qi oc tb (g 60) 5 ([111, 102, 116, 101, 110]) og hpa3_19 hpe hpb (by omega) (by omega) rfl (wb_of (by decide)) hO_25 htb) w_6_214 w_6_216 w_0_43 w_1_14 w_6_217 hd_X12_takes_1 ⟨⟨(Nat.le_of_ble_eq_true rfl), (Nat.le_of_ble_eq_true rfl)⟩, (Nat.le_of_ble_eq_true rfl), (Nat.le_of_ble_eq_true rfl)⟩ hK hP hD hS hA (fmT om_8_c8 0) (fmF om_8_c8 0) (fm_C1 rfl rfl) (fm_R rfl rfl) (fm_nT om_8_c8 0) (fm_nF om_8_c8 0) (fm_di om_8_c8 0) rfl rfl rfl rfl (Nat.le_of_ble_eq_true rfl) dX12_qKind_35 (fun r_30 u H locs hw hP hD hS => ?_)
      refine exE hw (fun b_27 hw1 => exE hw1 (fun pa2_28 hw2 => exE hw2 (fun pd2_29 hw3 => anE hw3 (fun hpa2_31 hw4 => anE hw4 (fun hpa3_32 hw5 => anE hw5 (fun hb1_33 hw6 => anE hw6 (fun hT_34 hw7 => anE hw7 (fun er_36 eu_35 => ?_))))))))
      clear hw hw1 hw2 hw3 hw4 hw5 hw6 hw7
      subst er_36
      refine o_mgE (ws' := [ro_ mm 12 (mo g (nI ta) (nI pa2_28) (nI pe) pd2_29 (nI pb) pp pf pg pn rt rn (nI cd) sn (nI il) tk am at_ aa 0 0 (-1) wt wy 0 (nI rm) (nI ud) (nI nu) sd (nI qn) (nI qw) qo (nI qb) (nI qp) qa (nI qi) (nI oc)), ra_N (g 0) cI 1600 tb, ra_I (g 58) cC 5 (cw ([102, 105, 114, 115, 116])), ra_I (g 59) cC 4 (cw ([108, 97, 115, 116])), ra_I (g 60) cC 5 (cw ([111, 102, 116, 101, 110])), ra_I (g 61) cC 5 (cw [116, 111, 116, 97, 108]), ra_I (g 62) cC 4 (cw [109, 111, 115, 116]), ra_I (g 63) cC 5 (cw [108, 101, 97, 115, 116])]) eu_35 hP hD rfl (fun hP hD => ?_)
      refine lv_if_eq (tgt := 45) hx hb dX12_qKind_38 (by decide) (fun c_37 => ?_) (fun c_37 => ?_)
      · have c_37 : b_27 = 0 := (neq b_27 0 (by omega) (Nat.le_of_ble_eq_true rfl)).mp c_37
        have hv24 : isV tb pe 24 (cuO tb pe pa pd) = false := by rw [← hcu_26]; exact ((rr_0 hT_34 (by omega)).1 hpb0).2
        have hO_38 := (rr_0 hT_34 (by omega)).2
        have hcu_39 : cuO tb pe pa2_28 pd2_29 = (cuO tb pe pa pd) := mo_two hO_38 hO hpb0 hpb0
        refine lv_aload_n hx hb dX12_qKind_45 rfl (lv_at hl 0 rfl) ?_
        refine lv_aload_n hx hb dX12_qKind_46 rfl (lv_at hl 0 rfl) ?_
        refine sk_get (v := .ref (g 61)) (C := RX12) (T := TX12) (N := 92) hx hb hts inlX12 hown hK hP 0 rfl rfl 61 (Nat.le_of_ble_eq_true rfl) w_5_216 rfl dX12_qKind_47 ?_
        refine sk_Vi (q0 := 0) (n := 1) (rest := []) (wr := fmR om_8_c4 _) ⟨hx, hb, hml, hown, hts⟩ hl.1 (c_em_takes l D cI cJ cC cZ cS mm g ta pa2_28 pe pd2_29 pb pp pf pg pn rt rn cd sn il tk am at_ aa wt wy rm ud nu sd qn qw qo qb qp qa qi oc tb (g 61) 5 ([116, 111, 116, 97, 108]) og hpa3_32 hpe hpb (by omega) (by omega) rfl (wb_of (by decide)) hO_38 htb) w_6_214 w_6_216 w_0_43 w_1_14 w_6_217 hd_X12_takes_1 ⟨⟨(Nat.le_of_ble_eq_true rfl), (Nat.le_of_ble_eq_true rfl)⟩, (Nat.le_of_ble_eq_true rfl), (Nat.le_of_ble_eq_true rfl)⟩ hK hP hD hS hA (fmT om_8_c4 0) (fmF om_8_c4 0) (fm_C1 rfl rfl) (fm_R rfl rfl) (fm_nT om_8_c4 0) (fm_nF om_8_c4 0) (fm_di om_8_c4 0) rfl rfl rfl rfl (Nat.le_of_ble_eq_true rfl) dX12_qKind_50 (fun r_43 u H locs hw hP hD hS => ?_)
        refine exE hw (fun b_40 hw1 => exE hw1 (fun pa2_41 hw2 => exE hw2 (fun pd2_42 hw3 => anE hw3 (fun hpa2_44 hw4 => anE hw4 (fun hpa3_45 hw5 => anE hw5 (fun hb1_46 hw6 => anE hw6 (fun hT_47 hw7 => anE hw7 (fun er_49 eu_48 => ?_))))))))
        clear hw hw1 hw2 hw3 hw4 hw5 hw6 hw7
        subst er_49
        refine o_mgE (ws' := [ro_ mm 12 (mo g (nI ta) (nI pa2_41) (nI pe) pd2_42 (nI pb) pp pf pg pn rt rn (nI cd) sn (nI il) tk am at_ aa 0 0 (-1) wt wy 0 (nI rm) (nI ud) (nI nu) sd (nI qn) (nI qw) qo (nI qb) (nI qp) qa (nI qi) (nI oc)), ra_N (g 0) cI 1600 tb, ra_I (g 58) cC 5 (cw ([102, 105, 114, 115, 116])), ra_I (g 59) cC 4 (cw ([108, 97, 115, 116])), ra_I (g 60) cC 5 (cw ([111, 102, 116, 101, 110])), ra_I (g 61) cC 5 (cw ([116, 111, 116, 97, 108])), ra_I (g 62) cC 4 (cw [109, 111, 115, 116]), ra_I (g 63) cC 5 (cw [108, 101, 97, 115, 116])]) eu_48 hP hD rfl (fun hP hD => ?_)
        refine lv_if_eq (tgt := 60) hx hb dX12_qKind_53 (by decide) (fun c_50 => ?_) (fun c_50 => ?_)
        · have c_50 : b_40 = 0 := (neq b_40 0 (by omega) (Nat.le_of_ble_eq_true rfl)).mp c_50
          have hv25 : isV tb pe 25 (cuO tb pe pa pd) = false := by rw [← hcu_39]; exact ((rr_0 hT_47 (by omega)).1 hpb0).2
          have hO_51 := (rr_0 hT_47 (by omega)).2
          have hcu_52 : cuO tb pe pa2_41 pd2_42 = (cuO tb pe pa pd) := mo_two hO_51 hO hpb0 hpb0
          refine lv_aload_n hx hb dX12_qKind_60 rfl (lv_at hl 0 rfl) ?_
          refine lv_aload_n hx hb dX12_qKind_61 rfl (lv_at hl 0 rfl) ?_
          refine sk_get (v := .ref (g 62)) (C := RX12) (T := TX12) (N := 92) hx hb hts inlX12 hown hK hP 0 rfl rfl 62 (Nat.le_of_ble_eq_true rfl) w_5_217 rfl dX12_qKind_62 ?_
          refine sk_Vi (q0 := 0) (n := 1) (rest := []) (wr := fmR om_8_c2 _) ⟨hx, hb, hml, hown, hts⟩ hl.1 (c_em_takes l D cI cJ cC cZ cS mm g ta pa2_41 pe pd2_42 pb pp pf pg pn rt rn cd sn il tk am at_ aa wt wy rm ud nu sd qn qw qo qb qp qa qi oc tb (g 62) 4 ([109, 111, 115, 116]) og hpa3_45 hpe hpb (by omega) (by omega) rfl (wb_of (by decide)) hO_51 htb) w_6_214 w_6_216 w_0_43 w_1_14 w_6_217 hd_X12_takes_1 ⟨⟨(Nat.le_of_ble_eq_true rfl), (Nat.le_of_ble_eq_true rfl)⟩, (Nat.le_of_ble_eq_true rfl), (Nat.le_of_ble_eq_true rfl)⟩ hK hP hD hS hA (fmT om_8_c2 0) (fmF om_8_c2 0) (fm_C1 rfl rfl) (fm_R rfl rfl) (fm_nT om_8_c2 0) (fm_nF om_8_c2 0) (fm_di om_8_c2 0) rfl rfl rfl rfl (Nat.le_of_ble_eq_true rfl) dX12_qKind_65 (fun r_56 u H locs hw hP hD hS => ?_)
          refine exE hw (fun b_53 hw1 => exE hw1 (fun pa2_54 hw2 => exE hw2 (fun pd2_55 hw3 => anE hw3 (fun hpa2_57 hw4 => anE hw4 (fun hpa3_58 hw5 => anE hw5 (fun hb1_59 hw6 => anE hw6 (fun hT_60 hw7 => anE hw7 (fun er_62 eu_61 => ?_))))))))
          clear hw hw1 hw2 hw3 hw4 hw5 hw6 hw7
          subst er_62
          refine o_mgE (ws' := [ro_ mm 12 (mo g (nI ta) (nI pa2_54) (nI pe) pd2_55 (nI pb) pp pf pg pn rt rn (nI cd) sn (nI il) tk am at_ aa 0 0 (-1) wt wy 0 (nI rm) (nI ud) (nI nu) sd (nI qn) (nI qw) qo (nI qb) (nI qp) qa (nI qi) (nI oc)), ra_N (g 0) cI 1600 tb, ra_I (g 58) cC 5 (cw ([102, 105, 114, 115, 116])), ra_I (g 59) cC 4 (cw ([108, 97, 115, 116])), ra_I (g 60) cC 5 (cw ([111, 102, 116, 101, 110])), ra_I (g 61) cC 5 (cw ([116, 111, 116, 97, 108])), ra_I (g 62) cC 4 (cw ([109, 111, 115, 116])), ra_I (g 63) cC 5 (cw [108, 101, 97, 115, 116])]) eu_61 hP hD rfl (fun hP hD => ?_)
          refine lv_if_eq (tgt := 75) hx hb dX12_qKind_68 (by decide) (fun c_63 => ?_) (fun c_63 => ?_)
          · have c_63 : b_53 = 0 := (neq b_53 0 (by omega) (Nat.le_of_ble_eq_true rfl)).mp c_63
            have hv26 : isV tb pe 26 (cuO tb pe pa pd) = false := by rw [← hcu_52]; exact ((rr_0 hT_60 (by omega)).1 hpb0).2
            have hO_64 := (rr_0 hT_60 (by omega)).2
            have hcu_65 : cuO tb pe pa2_54 pd2_55 = (cuO tb pe pa pd) := mo_two hO_64 hO hpb0 hpb0
            refine lv_iconst (v := 5) hx hb dX12_qKind_75 ic_5 ?_
            refine lv_istore_n (lv' := [(1, .int 5), (0, .ref mm)]) hx hb dX12_qKind_76 rfl hl (by decide) rfl (fun ls hl => ?_)
            refine lv_iload_n hx hb dX12_qKind_77 rfl (lv_at hl 0 rfl) ?_
            refine lv_iconst (v := 5) hx hb dX12_qKind_78 ic_5 ?_
            refine lv_icmp_ne (tgt := 90) hx hb dX12_qKind_79 (by decide) (fun c => absurd c (by decide)) (fun c_66 => ?_)
            refine lv_aload_n hx hb dX12_qKind_82 rfl (lv_at hl 1 rfl) ?_
            refine lv_aload_n hx hb dX12_qKind_83 rfl (lv_at hl 1 rfl) ?_
            refine sk_get (v := .ref (g 63)) (C := RX12) (T := TX12) (N := 92) hx hb hts inlX12 hown hK hP 0 rfl rfl 63 (Nat.le_of_ble_eq_true rfl) w_5_218 rfl dX12_qKind_84 ?_
            refine sk_Vv (q0 := 0) (n := 1) (rest := []) (wr := fmR om_8_c1 _) ⟨hx, hb, hml, hown, hts⟩ hl.1 (c_em_asks l D cI cJ cC cZ cS mm g ta pa2_54 pe pd2_55 pb pp pf pg pn rt rn cd sn il tk am at_ aa wt wy rm ud nu sd qn qw qo qb qp qa qi oc tb (g 63) 5 ([108, 101, 97, 115, 116]) og hpa3_58 hpe hpb (by omega) (by omega) rfl (wb_of (by decide)) hO_64 htb) w_6_210 w_6_212 w_0_42 w_1_14 w_6_213 hd_X12_asks_1 ⟨⟨(Nat.le_of_ble_eq_true rfl), (Nat.le_of_ble_eq_true rfl)⟩, (Nat.le_of_ble_eq_true rfl), (Nat.le_of_ble_eq_true rfl)⟩ hK hP hD hS hA (fmT om_8_c1 0) (fmF om_8_c1 0) (fm_C1 rfl rfl) (fm_R rfl rfl) (fm_nT om_8_c1 0) (fm_nF om_8_c1 0) (fm_di om_8_c1 0) rfl rfl rfl rfl (Nat.le_of_ble_eq_true rfl) dX12_qKind_87 (fun u H locs hw hP hD hS => ?_)
            refine exE hw (fun pa2_67 hw1 => exE hw1 (fun pd2_68 hw2 => exE hw2 (fun pb2_69 hw3 => exE hw3 (fun pp2_70 hw4 => anE hw4 (fun hpa2_71 hw5 => anE hw5 (fun hpa3_72 hw6 => anE hw6 (fun hpb2_73 hw7 => anE hw7 (fun hpb3_74 hw8 => anE hw8 (fun hO2_75 eu_76 => ?_)))))))))
            clear hw hw1 hw2 hw3 hw4 hw5 hw6 hw7 hw8
            refine o_mgE (ws' := [ro_ mm 12 (mo g (nI ta) (nI pa2_67) (nI pe) pd2_68 (nI pb2_69) pp2_70 pf pg pn rt rn (nI cd) sn (nI il) tk am at_ aa 0 0 (-1) wt wy 0 (nI rm) (nI ud) (nI nu) sd (nI qn) (nI qw) qo (nI qb) (nI qp) qa (nI qi) (nI oc)), ra_N (g 0) cI 1600 tb, ra_I (g 58) cC 5 (cw ([102, 105, 114, 115, 116])), ra_I (g 59) cC 4 (cw ([108, 97, 115, 116])), ra_I (g 60) cC 5 (cw ([111, 102, 116, 101, 110])), ra_I (g 61) cC 5 (cw ([116, 111, 116, 97, 108])), ra_I (g 62) cC 4 (cw ([109, 111, 115, 116])), ra_I (g 63) cC 5 (cw ([108, 101, 97, 115, 116]))]) eu_76 hP hD rfl (fun hP hD => ?_)
            refine lv_iload_n hx hb dX12_qKind_90 rfl (lv_at hl 0 rfl) ?_
            exact sk_iret hx hb hr rfl hlocks hK hP hD hS (⟨5, (bindR og (wordP tb pe (CWs.getD 27 []))), pa2_67, pd2_68, pb2_69, pp2_70, by omega, hpa3_72, hpb2_73, by omega, hO2_75, (kd_5 hO hpb0 (nV3 hv15 hv23 hv24) hv25 hv26), rfl, rfl⟩) (Nat.le_of_ble_eq_true rfl) (Nat.le_of_ble_eq_true rfl) dX12_qKind_91
          · have c_63 : ¬ (b_53 = 0) := fun h => c_63 ((neq b_53 0 (by omega) (Nat.le_of_ble_eq_true rfl)).mpr h)
            have hyv : isV tb pe 26 (cuO tb pe pa pd) = true := by rw [← hcu_52]; exact (rr_1 hT_60 (by omega)).2.1
            have hO_77 := (rr_1 hT_60 (by omega)).2.2
            refine lv_iconst (v := 4) hx hb dX12_qKind_71 ic_4 ?_
            refine lv_goto (tgt := 76) hx hb dX12_qKind_72 (by decide) ?_
            refine lv_istore_n (lv' := [(1, .int 4), (0, .ref mm)]) hx hb dX12_qKind_76 rfl hl (by decide) rfl (fun ls hl => ?_)
            refine lv_iload_n hx hb dX12_qKind_77 rfl (lv_at hl 0 rfl) ?_
            refine lv_iconst (v := 5) hx hb dX12_qKind_78 ic_5 ?_
            refine lv_icmp_ne (tgt := 90) hx hb dX12_qKind_79 (by decide) (fun c_78 => ?_) (fun c => absurd c (by decide))
            refine lv_iload_n hx hb dX12_qKind_90 rfl (lv_at hl 0 rfl) ?_
            exact sk_iret hx hb hr rfl hlocks hK hP hD hS (⟨4, (bindR og (nxF tb pe)), pa2_54, pd2_55, pb, pp, by omega, hpa3_58, hpb, by omega, hO_77, (kd_6 hO hpb0 (by decide) (nV3 hv15 hv23 hv24) (Or.inr (Or.inl hyv))), rfl, rfl⟩) (Nat.le_of_ble_eq_true rfl) (Nat.le_of_ble_eq_true rfl) dX12_qKind_91
        · have c_50 : ¬ (b_40 = 0) := fun h => c_50 ((neq b_40 0 (by omega) (Nat.le_of_ble_eq_true rfl)).mpr h)
          have hyv : isV tb pe 25 (cuO tb pe pa pd) = true := by rw [← hcu_39]; exact (rr_1 hT_47 (by omega)).2.1
          have hO_79 := (rr_1 hT_47 (by omega)).2.2
          refine lv_iconst (v := 3) hx hb dX12_qKind_56 ic_3 ?_
          refine lv_goto (tgt := 76) hx hb dX12_qKind_57 (by decide) ?_
          refine lv_istore_n (lv' := [(1, .int 3), (0, .ref mm)]) hx hb dX12_qKind_76 rfl hl (by decide) rfl (fun ls hl => ?_)
          refine lv_iload_n hx hb dX12_qKind_77 rfl (lv_at hl 0 rfl) ?_
          refine lv_iconst (v := 5) hx hb dX12_qKind_78 ic_5 ?_
          refine lv_icmp_ne (tgt := 90) hx hb dX12_qKind_79 (by decide) (fun c_80 => ?_) (fun c => absurd c (by decide))
          refine lv_iload_n hx hb dX12_qKind_90 rfl (lv_at hl 0 rfl) ?_
          exact sk_iret hx hb hr rfl hlocks hK hP hD hS (⟨3, (bindR og (nxF tb pe)), pa2_41, pd2_42, pb, pp, by omega, hpa3_45, hpb, by omega, hO_79, (kd_6 hO hpb0 (by decide) (nV3 hv15 hv23 hv24) (Or.inl hyv)), rfl, rfl⟩) (Nat.le_of_ble_eq_true rfl) (Nat.le_of_ble_eq_true rfl) dX12_qKind_91
      · have c_37 : ¬ (b_27 = 0) := fun h => c_37 ((neq b_27 0 (by omega) (Nat.le_of_ble_eq_true rfl)).mpr h)
        have hyv : isV tb pe 24 (cuO tb pe pa pd) = true := by rw [← hcu_26]; exact (rr_1 hT_34 (by omega)).2.1
        have hO_81 := (rr_1 hT_34 (by omega)).2.2
        refine lv_iconst (v := 2) hx hb dX12_qKind_41 ic_2 ?_
        refine lv_goto (tgt := 76) hx hb dX12_qKind_42 (by decide) ?_
        refine lv_istore_n (lv' := [(1, .int 2), (0, .ref mm)]) hx hb dX12_qKind_76 rfl hl (by decide) rfl (fun ls hl => ?_)
        refine lv_iload_n hx hb dX12_qKind_77 rfl (lv_at hl 0 rfl) ?_
        refine lv_iconst (v := 5) hx hb dX12_qKind_78 ic_5 ?_
        refine lv_icmp_ne (tgt := 90) hx hb dX12_qKind_79 (by decide) (fun c_82 => ?_) (fun c => absurd c (by decide))
        refine lv_iload_n hx hb dX12_qKind_90 rfl (lv_at hl 0 rfl) ?_
        exact sk_iret hx hb hr rfl hlocks hK hP hD hS (⟨2, (bindR og (nxF tb pe)), pa2_28, pd2_29, pb, pp, by omega, hpa3_32, hpb, by omega, hO_81, (kd_3 hO hpb0 (by decide) (Or.inr (Or.inr hyv))), rfl, rfl⟩) (Nat.le_of_ble_eq_true rfl) (Nat.le_of_ble_eq_true rfl) dX12_qKind_91
    · have c_24 : ¬ (b_14 = 0) := fun h => c_24 ((neq b_14 0 (by omega) (Nat.le_of_ble_eq_true rfl)).mpr h)
      have hyv : isV tb pe 23 (cuO tb pe pa pd) = true := by rw [← hcu_13]; exact (rr_1 hT_21 (by omega)).2.1
      have hO_83 := (rr_1 hT_21 (by omega)).2.2
      refine lv_iconst (v := 1) hx hb dX12_qKind_26 ic_1 ?_
      refine lv_goto (tgt := 76) hx hb dX12_qKind_27 (by decide) ?_
      refine lv_istore_n (lv' := [(1, .int 1), (0, .ref mm)]) hx hb dX12_qKind_76 rfl hl (by decide) rfl (fun ls hl => ?_)
      refine lv_iload_n hx hb dX12_qKind_77 rfl (lv_at hl 0 rfl) ?_
      refine lv_iconst (v := 5) hx hb dX12_qKind_78 ic_5 ?_
      refine lv_icmp_ne (tgt := 90) hx hb dX12_qKind_79 (by decide) (fun c_84 => ?_) (fun c => absurd c (by decide))
      refine lv_iload_n hx hb dX12_qKind_90 rfl (lv_at hl 0 rfl) ?_
      exact sk_iret hx hb hr rfl hlocks hK hP hD hS (⟨1, (bindR og (nxF tb pe)), pa2_15, pd2_16, pb, pp, by omega, hpa3_19, hpb, by omega, hO_83, (kd_3 hO hpb0 (by decide) (Or.inr (Or.inl hyv))), rfl, rfl⟩) (Nat.le_of_ble_eq_true rfl) (Nat.le_of_ble_eq_true rfl) dX12_qKind_91
  · have c_11 : ¬ (b_1 = 0) := fun h => c_11 ((neq b_1 0 (by omega) (Nat.le_of_ble_eq_true rfl)).mpr h)
    have hyv : isV tb pe 15 (cuO tb pe pa pd) = true := by rw [← (rfl : (cuO tb pe pa pd) = (cuO tb pe pa pd))]; exact (rr_1 hT_8 (by omega)).2.1
    have hO_85 := (rr_1 hT_8 (by omega)).2.2
    refine lv_iconst (v := 0) hx hb dX12_qKind_11 ic_0 ?_
    refine lv_goto (tgt := 76) hx hb dX12_qKind_12 (by decide) ?_
    refine lv_istore_n (lv' := [(1, .int 0), (0, .ref mm)]) hx hb dX12_qKind_76 rfl hl (by decide) rfl (fun ls hl => ?_)
    refine lv_iload_n hx hb dX12_qKind_77 rfl (lv_at hl 0 rfl) ?_
    refine lv_iconst (v := 5) hx hb dX12_qKind_78 ic_5 ?_
    refine lv_icmp_ne (tgt := 90) hx hb dX12_qKind_79 (by decide) (fun c_86 => ?_) (fun c => absurd c (by decide))
    refine lv_iload_n hx hb dX12_qKind_90 rfl (lv_at hl 0 rfl) ?_
    exact sk_iret hx hb hr rfl hlocks hK hP hD hS (⟨0, (bindR og (nxF tb pe)), pa2_2, pd2_3, pb, pp, hpa2_5, hpa3_6, hpb, by omega, hO_85, (kd_3 hO hpb0 (by decide) (Or.inl hyv)), rfl, rfl⟩) (Nat.le_of_ble_eq_true rfl) (Nat.le_of_ble_eq_true rfl) dX12_qKind_91
