theorem al_k2 {kn : Nat} {tk : Int32} (h : kn ≤ 2) (e : tk = nI kn) (h0 : ¬ tk = 0) (h1 : ¬ tk = 1) : kn = 2 := by
  match kn, h with
  | 0, _ => exact absurd e h0
  | 1, _ => exact absurd e h1
  | 2, _ => rfl
  | n + 3, h => exact absurd h (by omega)
set_option maxHeartbeats 4000000 in
set_option maxRecDepth 100000 in
theorem c_em_isAllowed (l : Launch) (D : va_G) (cI cJ cC cZ cS : ClassId) (mm : Nat) (g : Nat → Nat) (ta : Nat) (pa : Nat) (pe : Nat) (pd : Int32) (pb : Nat) (pp : Int32) (pf : Int32) (pg : Int32) (pn : Int32) (rt : Int32) (rn : Int32) (cd : Nat) (sn : Int32) (il : Nat) (tk : Int32) (am : Int32) (at_ : Int32) (aa : Int32) (wt : Int32) (wy : Int64) (rm : Nat) (ud : Nat) (nu : Nat) (sd : Int64) (qn : Nat) (qw : Nat) (qo : Int32) (qb : Nat) (qp : Nat) (qa : Int64) (qi : Nat) (oc : Nat) (o : Nat) (kn : Nat) (htk : tk = nI kn) (hkn : kn ≤ 2) (ho : o ≤ 20) : skM l yX12_isAllowed cX12_isAllowed 2 (some .boolean) 0 0 0 0 D (skT cI cJ cC cZ cS) [.ref mm, .int (nI o)] [ro_ mm 12 (mo g (nI ta) (nI pa) (nI pe) pd (nI pb) pp pf pg pn rt rn (nI cd) sn (nI il) tk am at_ aa 0 0 (-1) wt wy 0 (nI rm) (nI ud) (nI nu) sd (nI qn) (nI qw) qo (nI qb) (nI qp) qa (nI qi) (nI oc))] (skI D (skT cI cJ cC cZ cS) (fun (r : Int32) (u : va_W) => ∃ (b : Nat), b ≤ 1 ∧ ((b = 0 ∧ allow kn o = false) ∨ (b = 1 ∧ allow kn o = true)) ∧ r = nI b ∧ u = [ro_ mm 12 (mo g (nI ta) (nI pa) (nI pe) pd (nI pb) pp pf pg pn rt rn (nI cd) sn (nI il) tk am at_ aa 0 0 (-1) wt wy 0 (nI rm) (nI ud) (nI nu) sd (nI qn) (nI qw) qo (nI qb) (nI qp) qa (nI qi) (nI oc))])) := by
  refine skM_of pf_X12_isAllowed (Nat.le_of_ble_eq_true rfl) ?_
  intro p e s m below meth c A ls E hP hD hl
  refine skE_el E (fun hx hb hr hml hlocks hin hown hts hK hA => ?_)
  have hown : s.vm.findClass RX12 = some m.cls := hown
  have hS : va_S A s.heap s.heap [] := va_S.rf
  have hl : lv_has ls 2 [(0, .ref mm), (1, .int (nI o))] := hl
  refine lv_aload_n hx hb dX12_isAllowed_0 rfl (lv_at hl 0 rfl) ?_
  refine sk_get (v := .int tk) (C := RX12) (T := TX12) (N := 92) hx hb hts inlX12 hown hK hP 0 rfl rfl 30 (Nat.le_of_ble_eq_true rfl) w_5_185 rfl dX12_isAllowed_1 ?_
  refine lv_if_ne (tgt := 20) hx hb dX12_isAllowed_4 (by decide) (fun c_1 => ?_) (fun c_1 => ?_)
  · skip
    refine lv_aload_n hx hb dX12_isAllowed_20 rfl (lv_at hl 0 rfl) ?_
    refine sk_get (v := .int tk) (C := RX12) (T := TX12) (N := 92) hx hb hts inlX12 hown hK hP 0 rfl rfl 30 (Nat.le_of_ble_eq_true rfl) w_5_185 rfl dX12_isAllowed_21 ?_
    refine lv_iconst (v := 1) hx hb dX12_isAllowed_24 ic_1 ?_
    refine lv_icmp_ne (tgt := 42) hx hb dX12_isAllowed_25 (by decide) (fun c_2 => ?_) (fun c_2 => ?_)
    · skip
      refine lv_iload_n hx hb dX12_isAllowed_42 rfl (lv_at hl 1 rfl) ?_
      refine lv_iconst (v := 1) hx hb dX12_isAllowed_43 ic_1 ?_
      refine lv_icmp_eq (tgt := 63) hx hb dX12_isAllowed_44 (by decide) (fun c_3 => ?_) (fun c_3 => ?_)
      · have c_3 : o = 1 := (neq o 1 (by omega) (Nat.le_of_ble_eq_true rfl)).mp c_3
        refine lv_iconst (v := 1) hx hb dX12_isAllowed_63 ic_1 ?_
        refine lv_goto (tgt := 68) hx hb dX12_isAllowed_64 (by decide) ?_
        exact sk_iret hx hb hr rfl hlocks hK hP hD hS (⟨1, by omega, (by (obtain rfl : kn = 2 := al_k2 hkn htk c_1 c_2); exact Or.inr ⟨rfl, decide_eq_true_iff.mpr (by omega)⟩), rfl, rfl⟩) (Nat.le_of_ble_eq_true rfl) (Nat.le_of_ble_eq_true rfl) dX12_isAllowed_68
      · have c_3 : ¬ (o = 1) := fun h => c_3 ((neq o 1 (by omega) (Nat.le_of_ble_eq_true rfl)).mpr h)
        refine lv_iload_n hx hb dX12_isAllowed_47 rfl (lv_at hl 1 rfl) ?_
        refine lv_iconst (v := 2) hx hb dX12_isAllowed_48 ic_2 ?_
        refine lv_icmp_eq (tgt := 63) hx hb dX12_isAllowed_49 (by decide) (fun c_4 => ?_) (fun c_4 => ?_)
        · have c_4 : o = 2 := (neq o 2 (by omega) (Nat.le_of_ble_eq_true rfl)).mp c_4
          refine lv_iconst (v := 1) hx hb dX12_isAllowed_63 ic_1 ?_
          refine lv_goto (tgt := 68) hx hb dX12_isAllowed_64 (by decide) ?_
          exact sk_iret hx hb hr rfl hlocks hK hP hD hS (⟨1, by omega, (by (obtain rfl : kn = 2 := al_k2 hkn htk c_1 c_2); exact Or.inr ⟨rfl, decide_eq_true_iff.mpr (by omega)⟩), rfl, rfl⟩) (Nat.le_of_ble_eq_true rfl) (Nat.le_of_ble_eq_true rfl) dX12_isAllowed_68
        · have c_4 : ¬ (o = 2) := fun h => c_4 ((neq o 2 (by omega) (Nat.le_of_ble_eq_true rfl)).mpr h)
          refine lv_iload_n hx hb dX12_isAllowed_52 rfl (lv_at hl 1 rfl) ?_
          refine lv_iconst (v := 4) hx hb dX12_isAllowed_53 ic_4 ?_
          refine lv_icmp_eq (tgt := 63) hx hb dX12_isAllowed_54 (by decide) (fun c_5 => ?_) (fun c_5 => ?_)
          · have c_5 : o = 4 := (neq o 4 (by omega) (Nat.le_of_ble_eq_true rfl)).mp c_5
            refine lv_iconst (v := 1) hx hb dX12_isAllowed_63 ic_1 ?_
            refine lv_goto (tgt := 68) hx hb dX12_isAllowed_64 (by decide) ?_
            exact sk_iret hx hb hr rfl hlocks hK hP hD hS (⟨1, by omega, (by (obtain rfl : kn = 2 := al_k2 hkn htk c_1 c_2); exact Or.inr ⟨rfl, decide_eq_true_iff.mpr (by omega)⟩), rfl, rfl⟩) (Nat.le_of_ble_eq_true rfl) (Nat.le_of_ble_eq_true rfl) dX12_isAllowed_68
          · have c_5 : ¬ (o = 4) := fun h => c_5 ((neq o 4 (by omega) (Nat.le_of_ble_eq_true rfl)).mpr h)
            refine lv_iload_n hx hb dX12_isAllowed_57 rfl (lv_at hl 1 rfl) ?_
            refine lv_bipush (v := 6) hx hb dX12_isAllowed_58 (by decide) ?_
            refine lv_icmp_le (tgt := 67) hx hb dX12_isAllowed_60 (by decide) (fun c_6 => ?_) (fun c_6 => ?_)
            · have c_6 : o ≤ 6 := (nle o 6 (by omega) (Nat.le_of_ble_eq_true rfl)).mp c_6
              refine lv_iconst (v := 0) hx hb dX12_isAllowed_67 ic_0 ?_
              exact sk_iret hx hb hr rfl hlocks hK hP hD hS (⟨0, by omega, (by (obtain rfl : kn = 2 := al_k2 hkn htk c_1 c_2); exact Or.inl ⟨rfl, decide_eq_false_iff_not.mpr (by omega)⟩), rfl, rfl⟩) (Nat.le_of_ble_eq_true rfl) (Nat.le_of_ble_eq_true rfl) dX12_isAllowed_68
            · have c_6 : ¬ (o ≤ 6) := fun h => c_6 ((nle o 6 (by omega) (Nat.le_of_ble_eq_true rfl)).mpr h)
              refine lv_iconst (v := 1) hx hb dX12_isAllowed_63 ic_1 ?_
              refine lv_goto (tgt := 68) hx hb dX12_isAllowed_64 (by decide) ?_
              exact sk_iret hx hb hr rfl hlocks hK hP hD hS (⟨1, by omega, (by (obtain rfl : kn = 2 := al_k2 hkn htk c_1 c_2); exact Or.inr ⟨rfl, decide_eq_true_iff.mpr (by omega)⟩), rfl, rfl⟩) (Nat.le_of_ble_eq_true rfl) (Nat.le_of_ble_eq_true rfl) dX12_isAllowed_68
    · skip
      refine lv_iload_n hx hb dX12_isAllowed_28 rfl (lv_at hl 1 rfl) ?_
      refine lv_bipush (v := 7) hx hb dX12_isAllowed_29 (by decide) ?_
      refine lv_icmp_ge (tgt := 38) hx hb dX12_isAllowed_31 (by decide) (fun c_7 => ?_) (fun c_7 => ?_)
      · have c_7 : 7 ≤ o := (nle 7 o (Nat.le_of_ble_eq_true rfl) (by omega)).mp c_7
        refine lv_iconst (v := 0) hx hb dX12_isAllowed_38 ic_0 ?_
        refine lv_goto (tgt := 68) hx hb dX12_isAllowed_39 (by decide) ?_
        exact sk_iret hx hb hr rfl hlocks hK hP hD hS (⟨0, by omega, (by (obtain rfl : kn = 1 := (neq kn 1 (by omega) (Nat.le_of_ble_eq_true rfl)).mp (htk.symm.trans c_2)); exact Or.inl ⟨rfl, decide_eq_false_iff_not.mpr (by omega)⟩), rfl, rfl⟩) (Nat.le_of_ble_eq_true rfl) (Nat.le_of_ble_eq_true rfl) dX12_isAllowed_68
      · have c_7 : ¬ (7 ≤ o) := fun h => c_7 ((nle 7 o (Nat.le_of_ble_eq_true rfl) (by omega)).mpr h)
        refine lv_iconst (v := 1) hx hb dX12_isAllowed_34 ic_1 ?_
        refine lv_goto (tgt := 68) hx hb dX12_isAllowed_35 (by decide) ?_
        exact sk_iret hx hb hr rfl hlocks hK hP hD hS (⟨1, by omega, (by (obtain rfl : kn = 1 := (neq kn 1 (by omega) (Nat.le_of_ble_eq_true rfl)).mp (htk.symm.trans c_2)); exact Or.inr ⟨rfl, decide_eq_true_iff.mpr (by omega)⟩), rfl, rfl⟩) (Nat.le_of_ble_eq_true rfl) (Nat.le_of_ble_eq_true rfl) dX12_isAllowed_68
  · skip
    refine lv_iload_n hx hb dX12_isAllowed_7 rfl (lv_at hl 1 rfl) ?_
    refine lv_iconst (v := 5) hx hb dX12_isAllowed_8 ic_5 ?_
    refine lv_icmp_ge (tgt := 16) hx hb dX12_isAllowed_9 (by decide) (fun c_8 => ?_) (fun c_8 => ?_)
    · have c_8 : 5 ≤ o := (nle 5 o (Nat.le_of_ble_eq_true rfl) (by omega)).mp c_8
      refine lv_iconst (v := 0) hx hb dX12_isAllowed_16 ic_0 ?_
      refine lv_goto (tgt := 68) hx hb dX12_isAllowed_17 (by decide) ?_
      exact sk_iret hx hb hr rfl hlocks hK hP hD hS (⟨0, by omega, (by (obtain rfl : kn = 0 := (neq kn 0 (by omega) (Nat.le_of_ble_eq_true rfl)).mp (htk.symm.trans c_1)); exact Or.inl ⟨rfl, decide_eq_false_iff_not.mpr (by omega)⟩), rfl, rfl⟩) (Nat.le_of_ble_eq_true rfl) (Nat.le_of_ble_eq_true rfl) dX12_isAllowed_68
    · have c_8 : ¬ (5 ≤ o) := fun h => c_8 ((nle 5 o (Nat.le_of_ble_eq_true rfl) (by omega)).mpr h)
      refine lv_iconst (v := 1) hx hb dX12_isAllowed_12 ic_1 ?_
      refine lv_goto (tgt := 68) hx hb dX12_isAllowed_13 (by decide) ?_
      exact sk_iret hx hb hr rfl hlocks hK hP hD hS (⟨1, by omega, (by (obtain rfl : kn = 0 := (neq kn 0 (by omega) (Nat.le_of_ble_eq_true rfl)).mp (htk.symm.trans c_1)); exact Or.inr ⟨rfl, decide_eq_true_iff.mpr (by omega)⟩), rfl, rfl⟩) (Nat.le_of_ble_eq_true rfl) (Nat.le_of_ble_eq_true rfl) dX12_isAllowed_68
theorem sk_ch {tb : Nat → Nat} {n a b c pb : Nat} (h1 : (pb = 0 ∧ b = sk tb n a) ∨ (¬ pb = 0 ∧ b = a)) (h2 : (pb = 0 ∧ c = sk tb n b) ∨ (¬ pb = 0 ∧ c = b)) : (pb = 0 ∧ c = sk tb n a) ∨ (¬ pb = 0 ∧ c = a) := by
  rcases h1 with ⟨q, rfl⟩ | ⟨q, rfl⟩
  · rcases h2 with ⟨_, rfl⟩ | ⟨q2, _⟩
    · exact Or.inl ⟨q, sk_sk tb n a⟩
    · exact absurd q q2
  · rcases h2 with ⟨q2, _⟩ | ⟨_, rfl⟩
    · exact absurd q2 q
    · exact Or.inr ⟨q, rfl⟩
set_option maxHeartbeats 4000000 in
set_option maxRecDepth 100000 in
theorem c_em_qWordHere (l : Launch) (D : va_G) (cI cJ cC cZ cS : ClassId) (mm : Nat) (g : Nat → Nat) (ta : Nat) (pa : Nat) (pe : Nat) (pd : Int32) (pb : Nat) (pp : Int32) (pf : Int32) (pg : Int32) (pn : Int32) (rt : Int32) (rn : Int32) (cd : Nat) (sn : Int32) (il : Nat) (tk : Int32) (am : Int32) (at_ : Int32) (aa : Int32) (wt : Int32) (wy : Int64) (rm : Nat) (ud : Nat) (nu : Nat) (sd : Int64) (qn : Nat) (qw : Nat) (qo : Int32) (qb : Nat) (qp : Nat) (qa : Int64) (qi : Nat) (oc : Nat) (tb : Nat → Nat) (hpa : pa ≤ pe) (hpe : pe ≤ 1600) (hpb : pb ≤ 5) (htb : ∀ j, tb j ≤ 255) : skM l yX12_qWordHere cX12_qWordHere 1 (some .int) 2 43 0 0 D (skT cI cJ cC cZ cS) [.ref mm] [ro_ mm 12 (mo g (nI ta) (nI pa) (nI pe) pd (nI pb) pp pf pg pn rt rn (nI cd) sn (nI il) tk am at_ aa 0 0 (-1) wt wy 0 (nI rm) (nI ud) (nI nu) sd (nI qn) (nI qw) qo (nI qb) (nI qp) qa (nI qi) (nI oc)), ra_N (g 0) cI 1600 tb, ra_I (g 70) cC 4 (cw [109, 111, 111, 100]), ra_I (g 71) cC 5 (cw [98, 97, 114, 103, 101]), ra_I (g 72) cC 3 (cw [119, 101, 116]), ra_I (g 73) cC 3 (cw [100, 97, 121]), ra_I (g 74) cC 4 (cw [119, 101, 101, 107]), ra_I (g 75) cC 4 (cw [116, 111, 108, 100]), ra_I (g 76) cC 5 (cw [97, 108, 111, 110, 101]), ra_I (g 77) cC 6 (cw [110, 117, 109, 98, 101, 114]), ra_I (g 78) cC 4 (cw [109, 117, 116, 101]), ra_I (g 58) cC 5 (cw [102, 105, 114, 115, 116]), ra_I (g 79) cC 5 (cw [119, 101, 101, 107, 115])] (skI D (skT cI cJ cC cZ cS) (fun (r : Int32) (u : va_W) => ∃ (pa2 : Nat), pa ≤ pa2 ∧ pa2 ≤ pe ∧ stay tb pe pa pa2 ∧ (r = -1 ∨ ∃ kq : Nat, kq ≤ 10 ∧ r = nI kq) ∧ ((pb = 0 ∧ pa2 = sk tb pe pa) ∨ (¬ pb = 0 ∧ pa2 = pa)) ∧ whO tb pe (cuO tb pe pa pd) pb r ∧ u = [ro_ mm 12 (mo g (nI ta) (nI pa2) (nI pe) pd (nI pb) pp pf pg pn rt rn (nI cd) sn (nI il) tk am at_ aa 0 0 (-1) wt wy 0 (nI rm) (nI ud) (nI nu) sd (nI qn) (nI qw) qo (nI qb) (nI qp) qa (nI qi) (nI oc)), ra_N (g 0) cI 1600 tb, ra_I (g 70) cC 4 (cw [109, 111, 111, 100]), ra_I (g 71) cC 5 (cw [98, 97, 114, 103, 101]), ra_I (g 72) cC 3 (cw [119, 101, 116]), ra_I (g 73) cC 3 (cw [100, 97, 121]), ra_I (g 74) cC 4 (cw [119, 101, 101, 107]), ra_I (g 75) cC 4 (cw [116, 111, 108, 100]), ra_I (g 76) cC 5 (cw [97, 108, 111, 110, 101]), ra_I (g 77) cC 6 (cw [110, 117, 109, 98, 101, 114]), ra_I (g 78) cC 4 (cw [109, 117, 116, 101]), ra_I (g 58) cC 5 (cw [102, 105, 114, 115, 116]), ra_I (g 79) cC 5 (cw [119, 101, 101, 107, 115])])) := by
  refine skM_of pf_X12_qWordHere (Nat.le_of_ble_eq_true rfl) ?_
  intro p e s m below meth c A ls E hP hD hl
  refine skE_el E (fun hx hb hr hml hlocks hin hown hts hK hA => ?_)
  have hown : s.vm.findClass RX12 = some m.cls := hown
  have hS : va_S A s.heap s.heap [] := va_S.rf
  have hl : lv_has ls 1 [(0, .ref mm)] := hl
  refine lv_aload_n hx hb dX12_qWordHere_0 rfl (lv_at hl 0 rfl) ?_
  refine lv_aload_n hx hb dX12_qWordHere_1 rfl (lv_at hl 0 rfl) ?_
  refine sk_get (v := .ref (g 70)) (C := RX12) (T := TX12) (N := 92) hx hb hts inlX12 hown hK hP 0 rfl rfl 70 (Nat.le_of_ble_eq_true rfl) w_5_225 rfl dX12_qWordHere_2 ?_
  refine sk_Vi (q0 := 0) (n := 1) (rest := []) (wr := fmR om_13_1c00 _) ⟨hx, hb, hml, hown, hts⟩ hl.1 (c_em_isHere l D cI cJ cC cZ cS mm g ta pa pe pd pb pp pf pg pn rt rn cd sn il tk am at_ aa wt wy rm ud nu sd qn qw qo qb qp qa qi oc tb (g 70) 4 ([109, 111, 111, 100]) hpa hpe hpb (by omega) (by omega) rfl (wb_of (by decide)) htb) w_6_218 w_6_220 w_0_44 w_1_14 w_6_221 hd_X12_isHere_1 ⟨⟨(Nat.le_of_ble_eq_true rfl), (Nat.le_of_ble_eq_true rfl)⟩, (Nat.le_of_ble_eq_true rfl), (Nat.le_of_ble_eq_true rfl)⟩ hK hP hD hS hA (fmT om_13_1c00 0) (fmF om_13_1c00 0) (fm_C1 rfl rfl) (fm_R rfl rfl) (fm_nT om_13_1c00 0) (fm_nF om_13_1c00 0) (fm_di om_13_1c00 0) rfl rfl rfl rfl (Nat.le_of_ble_eq_true rfl) dX12_qWordHere_5 (fun r_3 u H locs hw hP hD hS => ?_)
  refine exE hw (fun b_1 hw1 => exE hw1 (fun pa2_2 hw2 => anE hw2 (fun hpa2_4 hw3 => anE hw3 (fun hpa3_5 hw4 => anE hw4 (fun hst_6 hw5 => anE hw5 (fun hb1_7 hw6 => anE hw6 (fun hsk_8 hw7 => anE hw7 (fun hW_9 hw8 => anE hw8 (fun er_11 eu_10 => ?_)))))))))
  clear hw hw1 hw2 hw3 hw4 hw5 hw6 hw7 hw8
  subst er_11
  refine o_mgE (ws' := [ro_ mm 12 (mo g (nI ta) (nI pa2_2) (nI pe) pd (nI pb) pp pf pg pn rt rn (nI cd) sn (nI il) tk am at_ aa 0 0 (-1) wt wy 0 (nI rm) (nI ud) (nI nu) sd (nI qn) (nI qw) qo (nI qb) (nI qp) qa (nI qi) (nI oc)), ra_N (g 0) cI 1600 tb, ra_I (g 70) cC 4 (cw ([109, 111, 111, 100])), ra_I (g 71) cC 5 (cw [98, 97, 114, 103, 101]), ra_I (g 72) cC 3 (cw [119, 101, 116]), ra_I (g 73) cC 3 (cw [100, 97, 121]), ra_I (g 74) cC 4 (cw [119, 101, 101, 107]), ra_I (g 75) cC 4 (cw [116, 111, 108, 100]), ra_I (g 76) cC 5 (cw [97, 108, 111, 110, 101]), ra_I (g 77) cC 6 (cw [110, 117, 109, 98, 101, 114]), ra_I (g 78) cC 4 (cw [109, 117, 116, 101]), ra_I (g 58) cC 5 (cw [102, 105, 114, 115, 116]), ra_I (g 79) cC 5 (cw [119, 101, 101, 107, 115])]) eu_10 hP hD rfl (fun hP hD => ?_)
  have hc_13 := cu_step (X := (cuO tb pe pa pd)) (fun _ => rfl) hsk_8
  refine lv_if_eq (tgt := 13) hx hb dX12_qWordHere_8 (by decide) (fun c_15 => ?_) (fun c_15 => ?_)
  · have c_15 : b_1 = 0 := (neq b_1 0 (by omega) (Nat.le_of_ble_eq_true rfl)).mp c_15
    refine lv_aload_n hx hb dX12_qWordHere_13 rfl (lv_at hl 0 rfl) ?_
    refine lv_aload_n hx hb dX12_qWordHere_14 rfl (lv_at hl 0 rfl) ?_
    refine sk_get (v := .ref (g 71)) (C := RX12) (T := TX12) (N := 92) hx hb hts inlX12 hown hK hP 0 rfl rfl 71 (Nat.le_of_ble_eq_true rfl) w_5_226 rfl dX12_qWordHere_15 ?_
    refine sk_Vi (q0 := 0) (n := 1) (rest := []) (wr := fmR om_13_1a00 _) ⟨hx, hb, hml, hown, hts⟩ hl.1 (c_em_isHere l D cI cJ cC cZ cS mm g ta pa2_2 pe pd pb pp pf pg pn rt rn cd sn il tk am at_ aa wt wy rm ud nu sd qn qw qo qb qp qa qi oc tb (g 71) 5 ([98, 97, 114, 103, 101]) hpa3_5 hpe hpb (by omega) (by omega) rfl (wb_of (by decide)) htb) w_6_218 w_6_220 w_0_44 w_1_14 w_6_221 hd_X12_isHere_1 ⟨⟨(Nat.le_of_ble_eq_true rfl), (Nat.le_of_ble_eq_true rfl)⟩, (Nat.le_of_ble_eq_true rfl), (Nat.le_of_ble_eq_true rfl)⟩ hK hP hD hS hA (fmT om_13_1a00 0) (fmF om_13_1a00 0) (fm_C1 rfl rfl) (fm_R rfl rfl) (fm_nT om_13_1a00 0) (fm_nF om_13_1a00 0) (fm_di om_13_1a00 0) rfl rfl rfl rfl (Nat.le_of_ble_eq_true rfl) dX12_qWordHere_18 (fun r_18 u H locs hw hP hD hS => ?_)
    refine exE hw (fun b_16 hw1 => exE hw1 (fun pa2_17 hw2 => anE hw2 (fun hpa2_19 hw3 => anE hw3 (fun hpa3_20 hw4 => anE hw4 (fun hst_21 hw5 => anE hw5 (fun hb1_22 hw6 => anE hw6 (fun hsk_23 hw7 => anE hw7 (fun hW_24 hw8 => anE hw8 (fun er_26 eu_25 => ?_)))))))))
    clear hw hw1 hw2 hw3 hw4 hw5 hw6 hw7 hw8
    subst er_26
    refine o_mgE (ws' := [ro_ mm 12 (mo g (nI ta) (nI pa2_17) (nI pe) pd (nI pb) pp pf pg pn rt rn (nI cd) sn (nI il) tk am at_ aa 0 0 (-1) wt wy 0 (nI rm) (nI ud) (nI nu) sd (nI qn) (nI qw) qo (nI qb) (nI qp) qa (nI qi) (nI oc)), ra_N (g 0) cI 1600 tb, ra_I (g 70) cC 4 (cw ([109, 111, 111, 100])), ra_I (g 71) cC 5 (cw ([98, 97, 114, 103, 101])), ra_I (g 72) cC 3 (cw [119, 101, 116]), ra_I (g 73) cC 3 (cw [100, 97, 121]), ra_I (g 74) cC 4 (cw [119, 101, 101, 107]), ra_I (g 75) cC 4 (cw [116, 111, 108, 100]), ra_I (g 76) cC 5 (cw [97, 108, 111, 110, 101]), ra_I (g 77) cC 6 (cw [110, 117, 109, 98, 101, 114]), ra_I (g 78) cC 4 (cw [109, 117, 116, 101]), ra_I (g 58) cC 5 (cw [102, 105, 114, 115, 116]), ra_I (g 79) cC 5 (cw [119, 101, 101, 107, 115])]) eu_25 hP hD rfl (fun hP hD => ?_)
    have hc_28 := cu_step (X := (cuO tb pe pa pd)) hc_13 hsk_23
    have hk_29 := sk_ch hsk_8 hsk_23
    refine lv_if_eq (tgt := 26) hx hb dX12_qWordHere_21 (by decide) (fun c_30 => ?_) (fun c_30 => ?_)
    · have c_30 : b_16 = 0 := (neq b_16 0 (by omega) (Nat.le_of_ble_eq_true rfl)).mp c_30
      refine lv_aload_n hx hb dX12_qWordHere_26 rfl (lv_at hl 0 rfl) ?_
      refine lv_aload_n hx hb dX12_qWordHere_27 rfl (lv_at hl 0 rfl) ?_
      refine sk_get (v := .ref (g 72)) (C := RX12) (T := TX12) (N := 92) hx hb hts inlX12 hown hK hP 0 rfl rfl 72 (Nat.le_of_ble_eq_true rfl) w_5_227 rfl dX12_qWordHere_28 ?_
      refine sk_Vi (q0 := 0) (n := 1) (rest := []) (wr := fmR om_13_1900 _) ⟨hx, hb, hml, hown, hts⟩ hl.1 (c_em_isHere l D cI cJ cC cZ cS mm g ta pa2_17 pe pd pb pp pf pg pn rt rn cd sn il tk am at_ aa wt wy rm ud nu sd qn qw qo qb qp qa qi oc tb (g 72) 3 ([119, 101, 116]) hpa3_20 hpe hpb (by omega) (by omega) rfl (wb_of (by decide)) htb) w_6_218 w_6_220 w_0_44 w_1_14 w_6_221 hd_X12_isHere_1 ⟨⟨(Nat.le_of_ble_eq_true rfl), (Nat.le_of_ble_eq_true rfl)⟩, (Nat.le_of_ble_eq_true rfl), (Nat.le_of_ble_eq_true rfl)⟩ hK hP hD hS hA (fmT om_13_1900 0) (fmF om_13_1900 0) (fm_C1 rfl rfl) (fm_R rfl rfl) (fm_nT om_13_1900 0) (fm_nF om_13_1900 0) (fm_di om_13_1900 0) rfl rfl rfl rfl (Nat.le_of_ble_eq_true rfl) dX12_qWordHere_31 (fun r_33 u H locs hw hP hD hS => ?_)
      refine exE hw (fun b_31 hw1 => exE hw1 (fun pa2_32 hw2 => anE hw2 (fun hpa2_34 hw3 => anE hw3 (fun hpa3_35 hw4 => anE hw4 (fun hst_36 hw5 => anE hw5 (fun hb1_37 hw6 => anE hw6 (fun hsk_38 hw7 => anE hw7 (fun hW_39 hw8 => anE hw8 (fun er_41 eu_40 => ?_)))))))))
      clear hw hw1 hw2 hw3 hw4 hw5 hw6 hw7 hw8
      subst er_41
      refine o_mgE (ws' := [ro_ mm 12 (mo g (nI ta) (nI pa2_32) (nI pe) pd (nI pb) pp pf pg pn rt rn (nI cd) sn (nI il) tk am at_ aa 0 0 (-1) wt wy 0 (nI rm) (nI ud) (nI nu) sd (nI qn) (nI qw) qo (nI qb) (nI qp) qa (nI qi) (nI oc)), ra_N (g 0) cI 1600 tb, ra_I (g 70) cC 4 (cw ([109, 111, 111, 100])), ra_I (g 71) cC 5 (cw ([98, 97, 114, 103, 101])), ra_I (g 72) cC 3 (cw ([119, 101, 116])), ra_I (g 73) cC 3 (cw [100, 97, 121]), ra_I (g 74) cC 4 (cw [119, 101, 101, 107]), ra_I (g 75) cC 4 (cw [116, 111, 108, 100]), ra_I (g 76) cC 5 (cw [97, 108, 111, 110, 101]), ra_I (g 77) cC 6 (cw [110, 117, 109, 98, 101, 114]), ra_I (g 78) cC 4 (cw [109, 117, 116, 101]), ra_I (g 58) cC 5 (cw [102, 105, 114, 115, 116]), ra_I (g 79) cC 5 (cw [119, 101, 101, 107, 115])]) eu_40 hP hD rfl (fun hP hD => ?_)
      have hc_43 := cu_step (X := (cuO tb pe pa pd)) hc_28 hsk_38
      have hk_44 := sk_ch hk_29 hsk_38
      refine lv_if_eq (tgt := 39) hx hb dX12_qWordHere_34 (by decide) (fun c_45 => ?_) (fun c_45 => ?_)
      · have c_45 : b_31 = 0 := (neq b_31 0 (by omega) (Nat.le_of_ble_eq_true rfl)).mp c_45
        refine lv_aload_n hx hb dX12_qWordHere_39 rfl (lv_at hl 0 rfl) ?_
        refine lv_aload_n hx hb dX12_qWordHere_40 rfl (lv_at hl 0 rfl) ?_
        refine sk_get (v := .ref (g 73)) (C := RX12) (T := TX12) (N := 92) hx hb hts inlX12 hown hK hP 0 rfl rfl 73 (Nat.le_of_ble_eq_true rfl) w_5_228 rfl dX12_qWordHere_41 ?_
        refine sk_Vi (q0 := 0) (n := 1) (rest := []) (wr := fmR om_13_1880 _) ⟨hx, hb, hml, hown, hts⟩ hl.1 (c_em_isHere l D cI cJ cC cZ cS mm g ta pa2_32 pe pd pb pp pf pg pn rt rn cd sn il tk am at_ aa wt wy rm ud nu sd qn qw qo qb qp qa qi oc tb (g 73) 3 ([100, 97, 121]) hpa3_35 hpe hpb (by omega) (by omega) rfl (wb_of (by decide)) htb) w_6_218 w_6_220 w_0_44 w_1_14 w_6_221 hd_X12_isHere_1 ⟨⟨(Nat.le_of_ble_eq_true rfl), (Nat.le_of_ble_eq_true rfl)⟩, (Nat.le_of_ble_eq_true rfl), (Nat.le_of_ble_eq_true rfl)⟩ hK hP hD hS hA (fmT om_13_1880 0) (fmF om_13_1880 0) (fm_C1 rfl rfl) (fm_R rfl rfl) (fm_nT om_13_1880 0) (fm_nF om_13_1880 0) (fm_di om_13_1880 0) rfl rfl rfl rfl (Nat.le_of_ble_eq_true rfl) dX12_qWordHere_44 (fun r_48 u H locs hw hP hD hS => ?_)
        refine exE hw (fun b_46 hw1 => exE hw1 (fun pa2_47 hw2 => anE hw2 (fun hpa2_49 hw3 => anE hw3 (fun hpa3_50 hw4 => anE hw4 (fun hst_51 hw5 => anE hw5 (fun hb1_52 hw6 => anE hw6 (fun hsk_53 hw7 => anE hw7 (fun hW_54 hw8 => anE hw8 (fun er_56 eu_55 => ?_)))))))))
        clear hw hw1 hw2 hw3 hw4 hw5 hw6 hw7 hw8
        subst er_56
        refine o_mgE (ws' := [ro_ mm 12 (mo g (nI ta) (nI pa2_47) (nI pe) pd (nI pb) pp pf pg pn rt rn (nI cd) sn (nI il) tk am at_ aa 0 0 (-1) wt wy 0 (nI rm) (nI ud) (nI nu) sd (nI qn) (nI qw) qo (nI qb) (nI qp) qa (nI qi) (nI oc)), ra_N (g 0) cI 1600 tb, ra_I (g 70) cC 4 (cw ([109, 111, 111, 100])), ra_I (g 71) cC 5 (cw ([98, 97, 114, 103, 101])), ra_I (g 72) cC 3 (cw ([119, 101, 116])), ra_I (g 73) cC 3 (cw ([100, 97, 121])), ra_I (g 74) cC 4 (cw [119, 101, 101, 107]), ra_I (g 75) cC 4 (cw [116, 111, 108, 100]), ra_I (g 76) cC 5 (cw [97, 108, 111, 110, 101]), ra_I (g 77) cC 6 (cw [110, 117, 109, 98, 101, 114]), ra_I (g 78) cC 4 (cw [109, 117, 116, 101]), ra_I (g 58) cC 5 (cw [102, 105, 114, 115, 116]), ra_I (g 79) cC 5 (cw [119, 101, 101, 107, 115])]) eu_55 hP hD rfl (fun hP hD => ?_)
        have hc_58 := cu_step (X := (cuO tb pe pa pd)) hc_43 hsk_53
        have hk_59 := sk_ch hk_44 hsk_53
        refine lv_if_eq (tgt := 52) hx hb dX12_qWordHere_47 (by decide) (fun c_60 => ?_) (fun c_60 => ?_)
        · have c_60 : b_46 = 0 := (neq b_46 0 (by omega) (Nat.le_of_ble_eq_true rfl)).mp c_60
          refine lv_aload_n hx hb dX12_qWordHere_52 rfl (lv_at hl 0 rfl) ?_
          refine lv_aload_n hx hb dX12_qWordHere_53 rfl (lv_at hl 0 rfl) ?_
          refine sk_get (v := .ref (g 74)) (C := RX12) (T := TX12) (N := 92) hx hb hts inlX12 hown hK hP 0 rfl rfl 74 (Nat.le_of_ble_eq_true rfl) w_5_229 rfl dX12_qWordHere_54 ?_
          refine sk_Vi (q0 := 0) (n := 1) (rest := []) (wr := fmR om_13_1840 _) ⟨hx, hb, hml, hown, hts⟩ hl.1 (c_em_isHere l D cI cJ cC cZ cS mm g ta pa2_47 pe pd pb pp pf pg pn rt rn cd sn il tk am at_ aa wt wy rm ud nu sd qn qw qo qb qp qa qi oc tb (g 74) 4 ([119, 101, 101, 107]) hpa3_50 hpe hpb (by omega) (by omega) rfl (wb_of (by decide)) htb) w_6_218 w_6_220 w_0_44 w_1_14 w_6_221 hd_X12_isHere_1 ⟨⟨(Nat.le_of_ble_eq_true rfl), (Nat.le_of_ble_eq_true rfl)⟩, (Nat.le_of_ble_eq_true rfl), (Nat.le_of_ble_eq_true rfl)⟩ hK hP hD hS hA (fmT om_13_1840 0) (fmF om_13_1840 0) (fm_C1 rfl rfl) (fm_R rfl rfl) (fm_nT om_13_1840 0) (fm_nF om_13_1840 0) (fm_di om_13_1840 0) rfl rfl rfl rfl (Nat.le_of_ble_eq_true rfl) dX12_qWordHere_57 (fun r_63 u H locs hw hP hD hS => ?_)
          refine exE hw (fun b_61 hw1 => exE hw1 (fun pa2_62 hw2 => anE hw2 (fun hpa2_64 hw3 => anE hw3 (fun hpa3_65 hw4 => anE hw4 (fun hst_66 hw5 => anE hw5 (fun hb1_67 hw6 => anE hw6 (fun hsk_68 hw7 => anE hw7 (fun hW_69 hw8 => anE hw8 (fun er_71 eu_70 => ?_)))))))))
          clear hw hw1 hw2 hw3 hw4 hw5 hw6 hw7 hw8
          subst er_71
          refine o_mgE (ws' := [ro_ mm 12 (mo g (nI ta) (nI pa2_62) (nI pe) pd (nI pb) pp pf pg pn rt rn (nI cd) sn (nI il) tk am at_ aa 0 0 (-1) wt wy 0 (nI rm) (nI ud) (nI nu) sd (nI qn) (nI qw) qo (nI qb) (nI qp) qa (nI qi) (nI oc)), ra_N (g 0) cI 1600 tb, ra_I (g 70) cC 4 (cw ([109, 111, 111, 100])), ra_I (g 71) cC 5 (cw ([98, 97, 114, 103, 101])), ra_I (g 72) cC 3 (cw ([119, 101, 116])), ra_I (g 73) cC 3 (cw ([100, 97, 121])), ra_I (g 74) cC 4 (cw ([119, 101, 101, 107])), ra_I (g 75) cC 4 (cw [116, 111, 108, 100]), ra_I (g 76) cC 5 (cw [97, 108, 111, 110, 101]), ra_I (g 77) cC 6 (cw [110, 117, 109, 98, 101, 114]), ra_I (g 78) cC 4 (cw [109, 117, 116, 101]), ra_I (g 58) cC 5 (cw [102, 105, 114, 115, 116]), ra_I (g 79) cC 5 (cw [119, 101, 101, 107, 115])]) eu_70 hP hD rfl (fun hP hD => ?_)
          have hc_73 := cu_step (X := (cuO tb pe pa pd)) hc_58 hsk_68
          have hk_74 := sk_ch hk_59 hsk_68
          refine lv_if_eq (tgt := 65) hx hb dX12_qWordHere_60 (by decide) (fun c_75 => ?_) (fun c_75 => ?_)
          · have c_75 : b_61 = 0 := (neq b_61 0 (by omega) (Nat.le_of_ble_eq_true rfl)).mp c_75
            refine lv_aload_n hx hb dX12_qWordHere_65 rfl (lv_at hl 0 rfl) ?_
            refine lv_aload_n hx hb dX12_qWordHere_66 rfl (lv_at hl 0 rfl) ?_
            refine sk_get (v := .ref (g 75)) (C := RX12) (T := TX12) (N := 92) hx hb hts inlX12 hown hK hP 0 rfl rfl 75 (Nat.le_of_ble_eq_true rfl) w_5_230 rfl dX12_qWordHere_67 ?_
            refine sk_Vi (q0 := 0) (n := 1) (rest := []) (wr := fmR om_13_1820 _) ⟨hx, hb, hml, hown, hts⟩ hl.1 (c_em_isHere l D cI cJ cC cZ cS mm g ta pa2_62 pe pd pb pp pf pg pn rt rn cd sn il tk am at_ aa wt wy rm ud nu sd qn qw qo qb qp qa qi oc tb (g 75) 4 ([116, 111, 108, 100]) hpa3_65 hpe hpb (by omega) (by omega) rfl (wb_of (by decide)) htb) w_6_218 w_6_220 w_0_44 w_1_14 w_6_221 hd_X12_isHere_1 ⟨⟨(Nat.le_of_ble_eq_true rfl), (Nat.le_of_ble_eq_true rfl)⟩, (Nat.le_of_ble_eq_true rfl), (Nat.le_of_ble_eq_true rfl)⟩ hK hP hD hS hA (fmT om_13_1820 0) (fmF om_13_1820 0) (fm_C1 rfl rfl) (fm_R rfl rfl) (fm_nT om_13_1820 0) (fm_nF om_13_1820 0) (fm_di om_13_1820 0) rfl rfl rfl rfl (Nat.le_of_ble_eq_true rfl) dX12_qWordHere_70 (fun r_78 u H locs hw hP hD hS => ?_)
            refine exE hw (fun b_76 hw1 => exE hw1 (fun pa2_77 hw2 => anE hw2 (fun hpa2_79 hw3 => anE hw3 (fun hpa3_80 hw4 => anE hw4 (fun hst_81 hw5 => anE hw5 (fun hb1_82 hw6 => anE hw6 (fun hsk_83 hw7 => anE hw7 (fun hW_84 hw8 => anE hw8 (fun er_86 eu_85 => ?_)))))))))
            clear hw hw1 hw2 hw3 hw4 hw5 hw6 hw7 hw8
            subst er_86
            refine o_mgE (ws' := [ro_ mm 12 (mo g (nI ta) (nI pa2_77) (nI pe) pd (nI pb) pp pf pg pn rt rn (nI cd) sn (nI il) tk am at_ aa 0 0 (-1) wt wy 0 (nI rm) (nI ud) (nI nu) sd (nI qn) (nI qw) qo (nI qb) (nI qp) qa (nI qi) (nI oc)), ra_N (g 0) cI 1600 tb, ra_I (g 70) cC 4 (cw ([109, 111, 111, 100])), ra_I (g 71) cC 5 (cw ([98, 97, 114, 103, 101])), ra_I (g 72) cC 3 (cw ([119, 101, 116])), ra_I (g 73) cC 3 (cw ([100, 97, 121])), ra_I (g 74) cC 4 (cw ([119, 101, 101, 107])), ra_I (g 75) cC 4 (cw ([116, 111, 108, 100])), ra_I (g 76) cC 5 (cw [97, 108, 111, 110, 101]), ra_I (g 77) cC 6 (cw [110, 117, 109, 98, 101, 114]), ra_I (g 78) cC 4 (cw [109, 117, 116, 101]), ra_I (g 58) cC 5 (cw [102, 105, 114, 115, 116]), ra_I (g 79) cC 5 (cw [119, 101, 101, 107, 115])]) eu_85 hP hD rfl (fun hP hD => ?_)
            have hc_88 := cu_step (X := (cuO tb pe pa pd)) hc_73 hsk_83
            have hk_89 := sk_ch hk_74 hsk_83
            refine lv_if_eq (tgt := 78) hx hb dX12_qWordHere_73 (by decide) (fun c_90 => ?_) (fun c_90 => ?_)
            · have c_90 : b_76 = 0 := (neq b_76 0 (by omega) (Nat.le_of_ble_eq_true rfl)).mp c_90
              refine lv_aload_n hx hb dX12_qWordHere_78 rfl (lv_at hl 0 rfl) ?_
              refine lv_aload_n hx hb dX12_qWordHere_79 rfl (lv_at hl 0 rfl) ?_
              refine sk_get (v := .ref (g 76)) (C := RX12) (T := TX12) (N := 92) hx hb hts inlX12 hown hK hP 0 rfl rfl 76 (Nat.le_of_ble_eq_true rfl) w_5_231 rfl dX12_qWordHere_80 ?_
              refine sk_Vi (q0 := 0) (n := 1) (rest := []) (wr := fmR om_13_1810 _) ⟨hx, hb, hml, hown, hts⟩ hl.1 (c_em_isHere l D cI cJ cC cZ cS mm g ta pa2_77 pe pd pb pp pf pg pn rt rn cd sn il tk am at_ aa wt wy rm ud nu sd qn qw qo qb qp qa qi oc tb (g 76) 5 ([97, 108, 111, 110, 101]) hpa3_80 hpe hpb (by omega) (by omega) rfl (wb_of (by decide)) htb) w_6_218 w_6_220 w_0_44 w_1_14 w_6_221 hd_X12_isHere_1 ⟨⟨(Nat.le_of_ble_eq_true rfl), (Nat.le_of_ble_eq_true rfl)⟩, (Nat.le_of_ble_eq_true rfl), (Nat.le_of_ble_eq_true rfl)⟩ hK hP hD hS hA (fmT om_13_1810 0) (fmF om_13_1810 0) (fm_C1 rfl rfl) (fm_R rfl rfl) (fm_nT om_13_1810 0) (fm_nF om_13_1810 0) (fm_di om_13_1810 0) rfl rfl rfl rfl (Nat.le_of_ble_eq_true rfl) dX12_qWordHere_83 (fun r_93 u H locs hw hP hD hS => ?_)
              refine exE hw (fun b_91 hw1 => exE hw1 (fun pa2_92 hw2 => anE hw2 (fun hpa2_94 hw3 => anE hw3 (fun hpa3_95 hw4 => anE hw4 (fun hst_96 hw5 => anE hw5 (fun hb1_97 hw6 => anE hw6 (fun hsk_98 hw7 => anE hw7 (fun hW_99 hw8 => anE hw8 (fun er_101 eu_100 => ?_)))))))))
              clear hw hw1 hw2 hw3 hw4 hw5 hw6 hw7 hw8
              subst er_101
              refine o_mgE (ws' := [ro_ mm 12 (mo g (nI ta) (nI pa2_92) (nI pe) pd (nI pb) pp pf pg pn rt rn (nI cd) sn (nI il) tk am at_ aa 0 0 (-1) wt wy 0 (nI rm) (nI ud) (nI nu) sd (nI qn) (nI qw) qo (nI qb) (nI qp) qa (nI qi) (nI oc)), ra_N (g 0) cI 1600 tb, ra_I (g 70) cC 4 (cw ([109, 111, 111, 100])), ra_I (g 71) cC 5 (cw ([98, 97, 114, 103, 101])), ra_I (g 72) cC 3 (cw ([119, 101, 116])), ra_I (g 73) cC 3 (cw ([100, 97, 121])), ra_I (g 74) cC 4 (cw ([119, 101, 101, 107])), ra_I (g 75) cC 4 (cw ([116, 111, 108, 100])), ra_I (g 76) cC 5 (cw ([97, 108, 111, 110, 101])), ra_I (g 77) cC 6 (cw [110, 117, 109, 98, 101, 114]), ra_I (g 78) cC 4 (cw [109, 117, 116, 101]), ra_I (g 58) cC 5 (cw [102, 105, 114, 115, 116]), ra_I (g 79) cC 5 (cw [119, 101, 101, 107, 115])]) eu_100 hP hD rfl (fun hP hD => ?_)
              have hc_103 := cu_step (X := (cuO tb pe pa pd)) hc_88 hsk_98
              have hk_104 := sk_ch hk_89 hsk_98
              refine lv_if_eq (tgt := 92) hx hb dX12_qWordHere_86 (by decide) (fun c_105 => ?_) (fun c_105 => ?_)
              · have c_105 : b_91 = 0 := (neq b_91 0 (by omega) (Nat.le_of_ble_eq_true rfl)).mp c_105
                refine lv_aload_n hx hb dX12_qWordHere_92 rfl (lv_at hl 0 rfl) ?_
                refine lv_aload_n hx hb dX12_qWordHere_93 rfl (lv_at hl 0 rfl) ?_
                refine sk_get (v := .ref (g 77)) (C := RX12) (T := TX12) (N := 92) hx hb hts inlX12 hown hK hP 0 rfl rfl 77 (Nat.le_of_ble_eq_true rfl) w_5_232 rfl dX12_qWordHere_94 ?_
                refine sk_Vi (q0 := 0) (n := 1) (rest := []) (wr := fmR om_13_1808 _) ⟨hx, hb, hml, hown, hts⟩ hl.1 (c_em_isHere l D cI cJ cC cZ cS mm g ta pa2_92 pe pd pb pp pf pg pn rt rn cd sn il tk am at_ aa wt wy rm ud nu sd qn qw qo qb qp qa qi oc tb (g 77) 6 ([110, 117, 109, 98, 101, 114]) hpa3_95 hpe hpb (by omega) (by omega) rfl (wb_of (by decide)) htb) w_6_218 w_6_220 w_0_44 w_1_14 w_6_221 hd_X12_isHere_1 ⟨⟨(Nat.le_of_ble_eq_true rfl), (Nat.le_of_ble_eq_true rfl)⟩, (Nat.le_of_ble_eq_true rfl), (Nat.le_of_ble_eq_true rfl)⟩ hK hP hD hS hA (fmT om_13_1808 0) (fmF om_13_1808 0) (fm_C1 rfl rfl) (fm_R rfl rfl) (fm_nT om_13_1808 0) (fm_nF om_13_1808 0) (fm_di om_13_1808 0) rfl rfl rfl rfl (Nat.le_of_ble_eq_true rfl) dX12_qWordHere_97 (fun r_108 u H locs hw hP hD hS => ?_)
                refine exE hw (fun b_106 hw1 => exE hw1 (fun pa2_107 hw2 => anE hw2 (fun hpa2_109 hw3 => anE hw3 (fun hpa3_110 hw4 => anE hw4 (fun hst_111 hw5 => anE hw5 (fun hb1_112 hw6 => anE hw6 (fun hsk_113 hw7 => anE hw7 (fun hW_114 hw8 => anE hw8 (fun er_116 eu_115 => ?_)))))))))
                clear hw hw1 hw2 hw3 hw4 hw5 hw6 hw7 hw8
                subst er_116
                refine o_mgE (ws' := [ro_ mm 12 (mo g (nI ta) (nI pa2_107) (nI pe) pd (nI pb) pp pf pg pn rt rn (nI cd) sn (nI il) tk am at_ aa 0 0 (-1) wt wy 0 (nI rm) (nI ud) (nI nu) sd (nI qn) (nI qw) qo (nI qb) (nI qp) qa (nI qi) (nI oc)), ra_N (g 0) cI 1600 tb, ra_I (g 70) cC 4 (cw ([109, 111, 111, 100])), ra_I (g 71) cC 5 (cw ([98, 97, 114, 103, 101])), ra_I (g 72) cC 3 (cw ([119, 101, 116])), ra_I (g 73) cC 3 (cw ([100, 97, 121])), ra_I (g 74) cC 4 (cw ([119, 101, 101, 107])), ra_I (g 75) cC 4 (cw ([116, 111, 108, 100])), ra_I (g 76) cC 5 (cw ([97, 108, 111, 110, 101])), ra_I (g 77) cC 6 (cw ([110, 117, 109, 98, 101, 114])), ra_I (g 78) cC 4 (cw [109, 117, 116, 101]), ra_I (g 58) cC 5 (cw [102, 105, 114, 115, 116]), ra_I (g 79) cC 5 (cw [119, 101, 101, 107, 115])]) eu_115 hP hD rfl (fun hP hD => ?_)
                have hc_118 := cu_step (X := (cuO tb pe pa pd)) hc_103 hsk_113
                have hk_119 := sk_ch hk_104 hsk_113
                refine lv_if_eq (tgt := 106) hx hb dX12_qWordHere_100 (by decide) (fun c_120 => ?_) (fun c_120 => ?_)
                · have c_120 : b_106 = 0 := (neq b_106 0 (by omega) (Nat.le_of_ble_eq_true rfl)).mp c_120
                  refine lv_aload_n hx hb dX12_qWordHere_106 rfl (lv_at hl 0 rfl) ?_
                  refine lv_aload_n hx hb dX12_qWordHere_107 rfl (lv_at hl 0 rfl) ?_
                  refine sk_get (v := .ref (g 78)) (C := RX12) (T := TX12) (N := 92) hx hb hts inlX12 hown hK hP 0 rfl rfl 78 (Nat.le_of_ble_eq_true rfl) w_5_233 rfl dX12_qWordHere_108 ?_
                  refine sk_Vi (q0 := 0) (n := 1) (rest := []) (wr := fmR om_13_1804 _) ⟨hx, hb, hml, hown, hts⟩ hl.1 (c_em_isHere l D cI cJ cC cZ cS mm g ta pa2_107 pe pd pb pp pf pg pn rt rn cd sn il tk am at_ aa wt wy rm ud nu sd qn qw qo qb qp qa qi oc tb (g 78) 4 ([109, 117, 116, 101]) hpa3_110 hpe hpb (by omega) (by omega) rfl (wb_of (by decide)) htb) w_6_218 w_6_220 w_0_44 w_1_14 w_6_221 hd_X12_isHere_1 ⟨⟨(Nat.le_of_ble_eq_true rfl), (Nat.le_of_ble_eq_true rfl)⟩, (Nat.le_of_ble_eq_true rfl), (Nat.le_of_ble_eq_true rfl)⟩ hK hP hD hS hA (fmT om_13_1804 0) (fmF om_13_1804 0) (fm_C1 rfl rfl) (fm_R rfl rfl) (fm_nT om_13_1804 0) (fm_nF om_13_1804 0) (fm_di om_13_1804 0) rfl rfl rfl rfl (Nat.le_of_ble_eq_true rfl) dX12_qWordHere_111 (fun r_123 u H locs hw hP hD hS => ?_)
                  refine exE hw (fun b_121 hw1 => exE hw1 (fun pa2_122 hw2 => anE hw2 (fun hpa2_124 hw3 => anE hw3 (fun hpa3_125 hw4 => anE hw4 (fun hst_126 hw5 => anE hw5 (fun hb1_127 hw6 => anE hw6 (fun hsk_128 hw7 => anE hw7 (fun hW_129 hw8 => anE hw8 (fun er_131 eu_130 => ?_)))))))))
                  clear hw hw1 hw2 hw3 hw4 hw5 hw6 hw7 hw8
                  subst er_131
                  refine o_mgE (ws' := [ro_ mm 12 (mo g (nI ta) (nI pa2_122) (nI pe) pd (nI pb) pp pf pg pn rt rn (nI cd) sn (nI il) tk am at_ aa 0 0 (-1) wt wy 0 (nI rm) (nI ud) (nI nu) sd (nI qn) (nI qw) qo (nI qb) (nI qp) qa (nI qi) (nI oc)), ra_N (g 0) cI 1600 tb, ra_I (g 70) cC 4 (cw ([109, 111, 111, 100])), ra_I (g 71) cC 5 (cw ([98, 97, 114, 103, 101])), ra_I (g 72) cC 3 (cw ([119, 101, 116])), ra_I (g 73) cC 3 (cw ([100, 97, 121])), ra_I (g 74) cC 4 (cw ([119, 101, 101, 107])), ra_I (g 75) cC 4 (cw ([116, 111, 108, 100])), ra_I (g 76) cC 5 (cw ([97, 108, 111, 110, 101])), ra_I (g 77) cC 6 (cw ([110, 117, 109, 98, 101, 114])), ra_I (g 78) cC 4 (cw ([109, 117, 116, 101])), ra_I (g 58) cC 5 (cw [102, 105, 114, 115, 116]), ra_I (g 79) cC 5 (cw [119, 101, 101, 107, 115])]) eu_130 hP hD rfl (fun hP hD => ?_)
                  have hc_133 := cu_step (X := (cuO tb pe pa pd)) hc_118 hsk_128
                  have hk_134 := sk_ch hk_119 hsk_128
                  refine lv_if_eq (tgt := 120) hx hb dX12_qWordHere_114 (by decide) (fun c_135 => ?_) (fun c_135 => ?_)
                  · have c_135 : b_121 = 0 := (neq b_121 0 (by omega) (Nat.le_of_ble_eq_true rfl)).mp c_135
                    refine lv_aload_n hx hb dX12_qWordHere_120 rfl (lv_at hl 0 rfl) ?_
                    refine lv_aload_n hx hb dX12_qWordHere_121 rfl (lv_at hl 0 rfl) ?_
                    refine sk_get (v := .ref (g 58)) (C := RX12) (T := TX12) (N := 92) hx hb hts inlX12 hown hK hP 0 rfl rfl 58 (Nat.le_of_ble_eq_true rfl) w_5_213 rfl dX12_qWordHere_122 ?_
                    refine sk_Vi (q0 := 0) (n := 1) (rest := []) (wr := fmR om_13_1802 _) ⟨hx, hb, hml, hown, hts⟩ hl.1 (c_em_isHere l D cI cJ cC cZ cS mm g ta pa2_122 pe pd pb pp pf pg pn rt rn cd sn il tk am at_ aa wt wy rm ud nu sd qn qw qo qb qp qa qi oc tb (g 58) 5 ([102, 105, 114, 115, 116]) hpa3_125 hpe hpb (by omega) (by omega) rfl (wb_of (by decide)) htb) w_6_218 w_6_220 w_0_44 w_1_14 w_6_221 hd_X12_isHere_1 ⟨⟨(Nat.le_of_ble_eq_true rfl), (Nat.le_of_ble_eq_true rfl)⟩, (Nat.le_of_ble_eq_true rfl), (Nat.le_of_ble_eq_true rfl)⟩ hK hP hD hS hA (fmT om_13_1802 0) (fmF om_13_1802 0) (fm_C1 rfl rfl) (fm_R rfl rfl) (fm_nT om_13_1802 0) (fm_nF om_13_1802 0) (fm_di om_13_1802 0) rfl rfl rfl rfl (Nat.le_of_ble_eq_true rfl) dX12_qWordHere_125 (fun r_138 u H locs hw hP hD hS => ?_)
                    refine exE hw (fun b_136 hw1 => exE hw1 (fun pa2_137 hw2 => anE hw2 (fun hpa2_139 hw3 => anE hw3 (fun hpa3_140 hw4 => anE hw4 (fun hst_141 hw5 => anE hw5 (fun hb1_142 hw6 => anE hw6 (fun hsk_143 hw7 => anE hw7 (fun hW_144 hw8 => anE hw8 (fun er_146 eu_145 => ?_)))))))))
                    clear hw hw1 hw2 hw3 hw4 hw5 hw6 hw7 hw8
                    subst er_146
                    refine o_mgE (ws' := [ro_ mm 12 (mo g (nI ta) (nI pa2_137) (nI pe) pd (nI pb) pp pf pg pn rt rn (nI cd) sn (nI il) tk am at_ aa 0 0 (-1) wt wy 0 (nI rm) (nI ud) (nI nu) sd (nI qn) (nI qw) qo (nI qb) (nI qp) qa (nI qi) (nI oc)), ra_N (g 0) cI 1600 tb, ra_I (g 70) cC 4 (cw ([109, 111, 111, 100])), ra_I (g 71) cC 5 (cw ([98, 97, 114, 103, 101])), ra_I (g 72) cC 3 (cw ([119, 101, 116])), ra_I (g 73) cC 3 (cw ([100, 97, 121])), ra_I (g 74) cC 4 (cw ([119, 101, 101, 107])), ra_I (g 75) cC 4 (cw ([116, 111, 108, 100])), ra_I (g 76) cC 5 (cw ([97, 108, 111, 110, 101])), ra_I (g 77) cC 6 (cw ([110, 117, 109, 98, 101, 114])), ra_I (g 78) cC 4 (cw ([109, 117, 116, 101])), ra_I (g 58) cC 5 (cw ([102, 105, 114, 115, 116])), ra_I (g 79) cC 5 (cw [119, 101, 101, 107, 115])]) eu_145 hP hD rfl (fun hP hD => ?_)
                    have hc_148 := cu_step (X := (cuO tb pe pa pd)) hc_133 hsk_143
                    have hk_149 := sk_ch hk_134 hsk_143
                    refine lv_if_eq (tgt := 134) hx hb dX12_qWordHere_128 (by decide) (fun c_150 => ?_) (fun c_150 => ?_)
                    · have c_150 : b_136 = 0 := (neq b_136 0 (by omega) (Nat.le_of_ble_eq_true rfl)).mp c_150
                      refine lv_aload_n hx hb dX12_qWordHere_134 rfl (lv_at hl 0 rfl) ?_
                      refine lv_aload_n hx hb dX12_qWordHere_135 rfl (lv_at hl 0 rfl) ?_
                      refine sk_get (v := .ref (g 79)) (C := RX12) (T := TX12) (N := 92) hx hb hts inlX12 hown hK hP 0 rfl rfl 79 (Nat.le_of_ble_eq_true rfl) w_5_234 rfl dX12_qWordHere_136 ?_
                      refine sk_Vi (q0 := 0) (n := 1) (rest := []) (wr := fmR om_13_1801 _) ⟨hx, hb, hml, hown, hts⟩ hl.1 (c_em_isHere l D cI cJ cC cZ cS mm g ta pa2_137 pe pd pb pp pf pg pn rt rn cd sn il tk am at_ aa wt wy rm ud nu sd qn qw qo qb qp qa qi oc tb (g 79) 5 ([119, 101, 101, 107, 115]) hpa3_140 hpe hpb (by omega) (by omega) rfl (wb_of (by decide)) htb) w_6_218 w_6_220 w_0_44 w_1_14 w_6_221 hd_X12_isHere_1 ⟨⟨(Nat.le_of_ble_eq_true rfl), (Nat.le_of_ble_eq_true rfl)⟩, (Nat.le_of_ble_eq_true rfl), (Nat.le_of_ble_eq_true rfl)⟩ hK hP hD hS hA (fmT om_13_1801 0) (fmF om_13_1801 0) (fm_C1 rfl rfl) (fm_R rfl rfl) (fm_nT om_13_1801 0) (fm_nF om_13_1801 0) (fm_di om_13_1801 0) rfl rfl rfl rfl (Nat.le_of_ble_eq_true rfl) dX12_qWordHere_139 (fun r_153 u H locs hw hP hD hS => ?_)
                      refine exE hw (fun b_151 hw1 => exE hw1 (fun pa2_152 hw2 => anE hw2 (fun hpa2_154 hw3 => anE hw3 (fun hpa3_155 hw4 => anE hw4 (fun hst_156 hw5 => anE hw5 (fun hb1_157 hw6 => anE hw6 (fun hsk_158 hw7 => anE hw7 (fun hW_159 hw8 => anE hw8 (fun er_161 eu_160 => ?_)))))))))
                      clear hw hw1 hw2 hw3 hw4 hw5 hw6 hw7 hw8
                      subst er_161
                      refine o_mgE (ws' := [ro_ mm 12 (mo g (nI ta) (nI pa2_152) (nI pe) pd (nI pb) pp pf pg pn rt rn (nI cd) sn (nI il) tk am at_ aa 0 0 (-1) wt wy 0 (nI rm) (nI ud) (nI nu) sd (nI qn) (nI qw) qo (nI qb) (nI qp) qa (nI qi) (nI oc)), ra_N (g 0) cI 1600 tb, ra_I (g 70) cC 4 (cw ([109, 111, 111, 100])), ra_I (g 71) cC 5 (cw ([98, 97, 114, 103, 101])), ra_I (g 72) cC 3 (cw ([119, 101, 116])), ra_I (g 73) cC 3 (cw ([100, 97, 121])), ra_I (g 74) cC 4 (cw ([119, 101, 101, 107])), ra_I (g 75) cC 4 (cw ([116, 111, 108, 100])), ra_I (g 76) cC 5 (cw ([97, 108, 111, 110, 101])), ra_I (g 77) cC 6 (cw ([110, 117, 109, 98, 101, 114])), ra_I (g 78) cC 4 (cw ([109, 117, 116, 101])), ra_I (g 58) cC 5 (cw ([102, 105, 114, 115, 116])), ra_I (g 79) cC 5 (cw ([119, 101, 101, 107, 115]))]) eu_160 hP hD rfl (fun hP hD => ?_)
                      have hc_163 := cu_step (X := (cuO tb pe pa pd)) hc_148 hsk_158
                      have hk_164 := sk_ch hk_149 hsk_158
                      refine lv_if_eq (tgt := 148) hx hb dX12_qWordHere_142 (by decide) (fun c_165 => ?_) (fun c_165 => ?_)
                      · have c_165 : b_151 = 0 := (neq b_151 0 (by omega) (Nat.le_of_ble_eq_true rfl)).mp c_165
                        refine lv_iconst (v := (-1)) hx hb dX12_qWordHere_148 (by decide) ?_
                        exact sk_iret hx hb hr rfl hlocks hK hP hD hS (⟨pa2_152, by omega, hpa3_155, (stay_tr (stay_tr (stay_tr (stay_tr (stay_tr (stay_tr (stay_tr (stay_tr (stay_tr (stay_tr hst_6 hst_21) hst_36) hst_51) hst_66) hst_81) hst_96) hst_111) hst_126) hst_141) hst_156), (Or.inl rfl), hk_164, (Or.inl ⟨rfl, wh_all (wh_n (w := pw11 0) (fun _ => rfl) hW_9 (by omega)) (wh_n (w := pw11 1) hc_13 hW_24 (by omega)) (wh_n (w := pw11 2) hc_28 hW_39 (by omega)) (wh_n (w := pw11 3) hc_43 hW_54 (by omega)) (wh_n (w := pw11 4) hc_58 hW_69 (by omega)) (wh_n (w := pw11 5) hc_73 hW_84 (by omega)) (wh_n (w := pw11 6) hc_88 hW_99 (by omega)) (wh_n (w := pw11 7) hc_103 hW_114 (by omega)) (wh_n (w := pw11 8) hc_118 hW_129 (by omega)) (wh_n (w := pw11 9) hc_133 hW_144 (by omega)) (wh_n (w := pw11 10) hc_148 hW_159 (by omega))⟩), rfl⟩) (Nat.le_of_ble_eq_true rfl) (Nat.le_of_ble_eq_true rfl) dX12_qWordHere_149
                      · have c_165 : ¬ (b_151 = 0) := fun h => c_165 ((neq b_151 0 (by omega) (Nat.le_of_ble_eq_true rfl)).mpr h)
                        refine lv_bipush (v := 10) hx hb dX12_qWordHere_145 (by decide) ?_
                        exact sk_iret hx hb hr rfl hlocks hK hP hD hS (⟨pa2_152, by omega, hpa3_155, (stay_tr (stay_tr (stay_tr (stay_tr (stay_tr (stay_tr (stay_tr (stay_tr (stay_tr (stay_tr hst_6 hst_21) hst_36) hst_51) hst_66) hst_81) hst_96) hst_111) hst_126) hst_141) hst_156), (Or.inr ⟨10, by omega, rfl⟩), hk_164, (Or.inr ⟨10, by decide, rfl, wh_y (w := pw11 10) hc_148 hW_159 (by omega)⟩), rfl⟩) (Nat.le_of_ble_eq_true rfl) (Nat.le_of_ble_eq_true rfl) dX12_qWordHere_147
                    · have c_150 : ¬ (b_136 = 0) := fun h => c_150 ((neq b_136 0 (by omega) (Nat.le_of_ble_eq_true rfl)).mpr h)
                      refine lv_bipush (v := 9) hx hb dX12_qWordHere_131 (by decide) ?_
                      exact sk_iret hx hb hr rfl hlocks hK hP hD hS (⟨pa2_137, by omega, hpa3_140, (stay_tr (stay_tr (stay_tr (stay_tr (stay_tr (stay_tr (stay_tr (stay_tr (stay_tr hst_6 hst_21) hst_36) hst_51) hst_66) hst_81) hst_96) hst_111) hst_126) hst_141), (Or.inr ⟨9, by omega, rfl⟩), hk_149, (Or.inr ⟨9, by decide, rfl, wh_y (w := pw11 9) hc_133 hW_144 (by omega)⟩), rfl⟩) (Nat.le_of_ble_eq_true rfl) (Nat.le_of_ble_eq_true rfl) dX12_qWordHere_133
                  · have c_135 : ¬ (b_121 = 0) := fun h => c_135 ((neq b_121 0 (by omega) (Nat.le_of_ble_eq_true rfl)).mpr h)
                    refine lv_bipush (v := 8) hx hb dX12_qWordHere_117 (by decide) ?_
                    exact sk_iret hx hb hr rfl hlocks hK hP hD hS (⟨pa2_122, by omega, hpa3_125, (stay_tr (stay_tr (stay_tr (stay_tr (stay_tr (stay_tr (stay_tr (stay_tr hst_6 hst_21) hst_36) hst_51) hst_66) hst_81) hst_96) hst_111) hst_126), (Or.inr ⟨8, by omega, rfl⟩), hk_134, (Or.inr ⟨8, by decide, rfl, wh_y (w := pw11 8) hc_118 hW_129 (by omega)⟩), rfl⟩) (Nat.le_of_ble_eq_true rfl) (Nat.le_of_ble_eq_true rfl) dX12_qWordHere_119
                · have c_120 : ¬ (b_106 = 0) := fun h => c_120 ((neq b_106 0 (by omega) (Nat.le_of_ble_eq_true rfl)).mpr h)
                  refine lv_bipush (v := 7) hx hb dX12_qWordHere_103 (by decide) ?_
                  exact sk_iret hx hb hr rfl hlocks hK hP hD hS (⟨pa2_107, by omega, hpa3_110, (stay_tr (stay_tr (stay_tr (stay_tr (stay_tr (stay_tr (stay_tr hst_6 hst_21) hst_36) hst_51) hst_66) hst_81) hst_96) hst_111), (Or.inr ⟨7, by omega, rfl⟩), hk_119, (Or.inr ⟨7, by decide, rfl, wh_y (w := pw11 7) hc_103 hW_114 (by omega)⟩), rfl⟩) (Nat.le_of_ble_eq_true rfl) (Nat.le_of_ble_eq_true rfl) dX12_qWordHere_105
              · have c_105 : ¬ (b_91 = 0) := fun h => c_105 ((neq b_91 0 (by omega) (Nat.le_of_ble_eq_true rfl)).mpr h)
                refine lv_bipush (v := 6) hx hb dX12_qWordHere_89 (by decide) ?_
                exact sk_iret hx hb hr rfl hlocks hK hP hD hS (⟨pa2_92, by omega, hpa3_95, (stay_tr (stay_tr (stay_tr (stay_tr (stay_tr (stay_tr hst_6 hst_21) hst_36) hst_51) hst_66) hst_81) hst_96), (Or.inr ⟨6, by omega, rfl⟩), hk_104, (Or.inr ⟨6, by decide, rfl, wh_y (w := pw11 6) hc_88 hW_99 (by omega)⟩), rfl⟩) (Nat.le_of_ble_eq_true rfl) (Nat.le_of_ble_eq_true rfl) dX12_qWordHere_91
            · have c_90 : ¬ (b_76 = 0) := fun h => c_90 ((neq b_76 0 (by omega) (Nat.le_of_ble_eq_true rfl)).mpr h)
              refine lv_iconst (v := 5) hx hb dX12_qWordHere_76 ic_5 ?_
              exact sk_iret hx hb hr rfl hlocks hK hP hD hS (⟨pa2_77, by omega, hpa3_80, (stay_tr (stay_tr (stay_tr (stay_tr (stay_tr hst_6 hst_21) hst_36) hst_51) hst_66) hst_81), (Or.inr ⟨5, by omega, rfl⟩), hk_89, (Or.inr ⟨5, by decide, rfl, wh_y (w := pw11 5) hc_73 hW_84 (by omega)⟩), rfl⟩) (Nat.le_of_ble_eq_true rfl) (Nat.le_of_ble_eq_true rfl) dX12_qWordHere_77
          · have c_75 : ¬ (b_61 = 0) := fun h => c_75 ((neq b_61 0 (by omega) (Nat.le_of_ble_eq_true rfl)).mpr h)
            refine lv_iconst (v := 4) hx hb dX12_qWordHere_63 ic_4 ?_
            exact sk_iret hx hb hr rfl hlocks hK hP hD hS (⟨pa2_62, by omega, hpa3_65, (stay_tr (stay_tr (stay_tr (stay_tr hst_6 hst_21) hst_36) hst_51) hst_66), (Or.inr ⟨4, by omega, rfl⟩), hk_74, (Or.inr ⟨4, by decide, rfl, wh_y (w := pw11 4) hc_58 hW_69 (by omega)⟩), rfl⟩) (Nat.le_of_ble_eq_true rfl) (Nat.le_of_ble_eq_true rfl) dX12_qWordHere_64
        · have c_60 : ¬ (b_46 = 0) := fun h => c_60 ((neq b_46 0 (by omega) (Nat.le_of_ble_eq_true rfl)).mpr h)
          refine lv_iconst (v := 3) hx hb dX12_qWordHere_50 ic_3 ?_
          exact sk_iret hx hb hr rfl hlocks hK hP hD hS (⟨pa2_47, by omega, hpa3_50, (stay_tr (stay_tr (stay_tr hst_6 hst_21) hst_36) hst_51), (Or.inr ⟨3, by omega, rfl⟩), hk_59, (Or.inr ⟨3, by decide, rfl, wh_y (w := pw11 3) hc_43 hW_54 (by omega)⟩), rfl⟩) (Nat.le_of_ble_eq_true rfl) (Nat.le_of_ble_eq_true rfl) dX12_qWordHere_51
      · have c_45 : ¬ (b_31 = 0) := fun h => c_45 ((neq b_31 0 (by omega) (Nat.le_of_ble_eq_true rfl)).mpr h)
        refine lv_iconst (v := 2) hx hb dX12_qWordHere_37 ic_2 ?_
        exact sk_iret hx hb hr rfl hlocks hK hP hD hS (⟨pa2_32, by omega, hpa3_35, (stay_tr (stay_tr hst_6 hst_21) hst_36), (Or.inr ⟨2, by omega, rfl⟩), hk_44, (Or.inr ⟨2, by decide, rfl, wh_y (w := pw11 2) hc_28 hW_39 (by omega)⟩), rfl⟩) (Nat.le_of_ble_eq_true rfl) (Nat.le_of_ble_eq_true rfl) dX12_qWordHere_38
    · have c_30 : ¬ (b_16 = 0) := fun h => c_30 ((neq b_16 0 (by omega) (Nat.le_of_ble_eq_true rfl)).mpr h)
      refine lv_iconst (v := 1) hx hb dX12_qWordHere_24 ic_1 ?_
      exact sk_iret hx hb hr rfl hlocks hK hP hD hS (⟨pa2_17, by omega, hpa3_20, (stay_tr hst_6 hst_21), (Or.inr ⟨1, by omega, rfl⟩), hk_29, (Or.inr ⟨1, by decide, rfl, wh_y (w := pw11 1) hc_13 hW_24 (by omega)⟩), rfl⟩) (Nat.le_of_ble_eq_true rfl) (Nat.le_of_ble_eq_true rfl) dX12_qWordHere_25
  · have c_15 : ¬ (b_1 = 0) := fun h => c_15 ((neq b_1 0 (by omega) (Nat.le_of_ble_eq_true rfl)).mpr h)
    refine lv_iconst (v := 0) hx hb dX12_qWordHere_11 ic_0 ?_
    exact sk_iret hx hb hr rfl hlocks hK hP hD hS (⟨pa2_2, hpa2_4, hpa3_5, hst_6, (Or.inr ⟨0, by omega, rfl⟩), hsk_8, (Or.inr ⟨0, by decide, rfl, wh_y (w := pw11 0) (fun _ => rfl) hW_9 (by omega)⟩), rfl⟩) (Nat.le_of_ble_eq_true rfl) (Nat.le_of_ble_eq_true rfl) dX12_qWordHere_12
theorem wo_00 {tb : Nat → Nat} {n kn lo hi pb : Nat} {c : Cur} {r : Int32} (h : whO tb n c pb r) (hc : r < nI lo) (hl : lo < 2147483648 := by omega) : woO tb n kn lo hi c pb (-1) := by
  rcases h with ⟨h1, h2⟩ | ⟨k, h1, h2, h3, h4⟩
  · exact wo_0 (Or.inl ⟨rfl, h2⟩)
  · subst h2
    exact wo_1 (by omega) (Or.inr ⟨k, h1, rfl, h3, h4⟩) (fun hq => absurd ((nlt k lo (by omega) hl).mp hc) (by omega))
set_option maxHeartbeats 4000000 in
set_option maxRecDepth 100000 in
theorem c_em_qWordOf (l : Launch) (D : va_G) (cI cJ cC cZ cS : ClassId) (mm : Nat) (g : Nat → Nat) (ta : Nat) (pa : Nat) (pe : Nat) (pd : Int32) (pb : Nat) (pp : Int32) (pf : Int32) (pg : Int32) (pn : Int32) (rt : Int32) (rn : Int32) (cd : Nat) (sn : Int32) (il : Nat) (tk : Int32) (am : Int32) (at_ : Int32) (aa : Int32) (wt : Int32) (wy : Int64) (rm : Nat) (ud : Nat) (nu : Nat) (sd : Int64) (qn : Nat) (qw : Nat) (qo : Int32) (qb : Nat) (qp : Nat) (qa : Int64) (qi : Nat) (oc : Nat) (lo : Nat) (hi : Nat) (tb : Nat → Nat) (kn : Nat) (hpa : pa ≤ pe) (hpe : pe ≤ 1600) (hpb : pb ≤ 5) (hlo : lo ≤ 20) (hhi : hi ≤ 20) (htk : tk = nI kn) (hkn : kn ≤ 2) (htb : ∀ j, tb j ≤ 255) : skM l yX12_qWordOf cX12_qWordOf 4 (some .int) 3 63 0 0 D (skT cI cJ cC cZ cS) [.ref mm, .int (nI lo), .int (nI hi)] [ro_ mm 12 (mo g (nI ta) (nI pa) (nI pe) pd (nI pb) pp pf pg pn rt rn (nI cd) sn (nI il) tk am at_ aa 0 0 (-1) wt wy 0 (nI rm) (nI ud) (nI nu) sd (nI qn) (nI qw) qo (nI qb) (nI qp) qa (nI qi) (nI oc)), ra_N (g 0) cI 1600 tb, ra_I (g 70) cC 4 (cw [109, 111, 111, 100]), ra_I (g 71) cC 5 (cw [98, 97, 114, 103, 101]), ra_I (g 72) cC 3 (cw [119, 101, 116]), ra_I (g 73) cC 3 (cw [100, 97, 121]), ra_I (g 74) cC 4 (cw [119, 101, 101, 107]), ra_I (g 75) cC 4 (cw [116, 111, 108, 100]), ra_I (g 76) cC 5 (cw [97, 108, 111, 110, 101]), ra_I (g 77) cC 6 (cw [110, 117, 109, 98, 101, 114]), ra_I (g 78) cC 4 (cw [109, 117, 116, 101]), ra_I (g 58) cC 5 (cw [102, 105, 114, 115, 116]), ra_I (g 79) cC 5 (cw [119, 101, 101, 107, 115])] (skI D (skT cI cJ cC cZ cS) (fun (r : Int32) (u : va_W) => ∃ (pa2 : Nat), pa ≤ pa2 ∧ pa2 ≤ pe ∧ stay tb pe pa pa2 ∧ (r = -1 ∨ ∃ kq : Nat, lo ≤ kq ∧ kq < hi ∧ r = nI kq) ∧ ((pb = 0 ∧ pa2 = sk tb pe pa) ∨ (¬ pb = 0 ∧ pa2 = pa)) ∧ woO tb pe kn lo hi (cuO tb pe pa pd) pb r ∧ u = [ro_ mm 12 (mo g (nI ta) (nI pa2) (nI pe) pd (nI pb) pp pf pg pn rt rn (nI cd) sn (nI il) tk am at_ aa 0 0 (-1) wt wy 0 (nI rm) (nI ud) (nI nu) sd (nI qn) (nI qw) qo (nI qb) (nI qp) qa (nI qi) (nI oc)), ra_N (g 0) cI 1600 tb, ra_I (g 70) cC 4 (cw [109, 111, 111, 100]), ra_I (g 71) cC 5 (cw [98, 97, 114, 103, 101]), ra_I (g 72) cC 3 (cw [119, 101, 116]), ra_I (g 73) cC 3 (cw [100, 97, 121]), ra_I (g 74) cC 4 (cw [119, 101, 101, 107]), ra_I (g 75) cC 4 (cw [116, 111, 108, 100]), ra_I (g 76) cC 5 (cw [97, 108, 111, 110, 101]), ra_I (g 77) cC 6 (cw [110, 117, 109, 98, 101, 114]), ra_I (g 78) cC 4 (cw [109, 117, 116, 101]), ra_I (g 58) cC 5 (cw [102, 105, 114, 115, 116]), ra_I (g 79) cC 5 (cw [119, 101, 101, 107, 115])])) := by
  refine skM_of pf_X12_qWordOf (Nat.le_of_ble_eq_true rfl) ?_
  intro p e s m below meth c A ls E hP hD hl
  refine skE_el E (fun hx hb hr hml hlocks hin hown hts hK hA => ?_)
  have hown : s.vm.findClass RX12 = some m.cls := hown
  have hS : va_S A s.heap s.heap [] := va_S.rf
  have hl : lv_has ls 4 [(0, .ref mm), (1, .int (nI lo)), (2, .int (nI hi))] := hl
  refine lv_aload_n hx hb dX12_qWordOf_0 rfl (lv_at hl 0 rfl) ?_
  refine sk_Vi (q0 := 0) (n := 0) (rest := []) (wr := fmR om_13_1fff _) ⟨hx, hb, hml, hown, hts⟩ hl.1 (c_em_qWordHere l D cI cJ cC cZ cS mm g ta pa pe pd pb pp pf pg pn rt rn cd sn il tk am at_ aa wt wy rm ud nu sd qn qw qo qb qp qa qi oc tb hpa hpe hpb htb) w_7_39 w_7_41 w_0_57 w_1_14 w_7_42 hd_X12_qWordHere_0 ⟨⟨(Nat.le_of_ble_eq_true rfl), (Nat.le_of_ble_eq_true rfl)⟩, (Nat.le_of_ble_eq_true rfl), (Nat.le_of_ble_eq_true rfl)⟩ hK hP hD hS hA (fmT om_13_1fff 0) (fmF om_13_1fff 0) (fm_C1 rfl rfl) (fm_R rfl rfl) (fm_nT om_13_1fff 0) (fm_nF om_13_1fff 0) (fm_di om_13_1fff 0) rfl rfl rfl rfl (Nat.le_of_ble_eq_true rfl) dX12_qWordOf_1 (fun r_2 u H locs hw hP hD hS => ?_)
  refine exE hw (fun pa2_1 hw1 => anE hw1 (fun hpa2_3 hw2 => anE hw2 (fun hpa3_4 hw3 => anE hw3 (fun hst_5 hw4 => anE hw4 (fun hr1_6 hw5 => anE hw5 (fun hsk_7 hw6 => anE hw6 (fun hwh_8 eu_9 => ?_)))))))
  clear hw hw1 hw2 hw3 hw4 hw5 hw6
  refine o_mgE (ws' := [ro_ mm 12 (mo g (nI ta) (nI pa2_1) (nI pe) pd (nI pb) pp pf pg pn rt rn (nI cd) sn (nI il) tk am at_ aa 0 0 (-1) wt wy 0 (nI rm) (nI ud) (nI nu) sd (nI qn) (nI qw) qo (nI qb) (nI qp) qa (nI qi) (nI oc)), ra_N (g 0) cI 1600 tb, ra_I (g 70) cC 4 (cw [109, 111, 111, 100]), ra_I (g 71) cC 5 (cw [98, 97, 114, 103, 101]), ra_I (g 72) cC 3 (cw [119, 101, 116]), ra_I (g 73) cC 3 (cw [100, 97, 121]), ra_I (g 74) cC 4 (cw [119, 101, 101, 107]), ra_I (g 75) cC 4 (cw [116, 111, 108, 100]), ra_I (g 76) cC 5 (cw [97, 108, 111, 110, 101]), ra_I (g 77) cC 6 (cw [110, 117, 109, 98, 101, 114]), ra_I (g 78) cC 4 (cw [109, 117, 116, 101]), ra_I (g 58) cC 5 (cw [102, 105, 114, 115, 116]), ra_I (g 79) cC 5 (cw [119, 101, 101, 107, 115])]) eu_9 hP hD rfl (fun hP hD => ?_)
  refine lv_istore_n (lv' := [(3, .int r_2), (0, .ref mm), (1, .int (nI lo)), (2, .int (nI hi))]) hx hb dX12_qWordOf_4 rfl hl (by decide) rfl (fun ls hl => ?_)
  refine lv_iload_n hx hb dX12_qWordOf_5 rfl (lv_at hl 0 rfl) ?_
  refine lv_iload_n hx hb dX12_qWordOf_6 rfl (lv_at hl 2 rfl) ?_
  refine lv_icmp_lt (tgt := 27) hx hb dX12_qWordOf_7 (by decide) (fun c_10 => ?_) (fun c_10 => ?_)
  · skip
    refine lv_iconst (v := (-1)) hx hb dX12_qWordOf_27 (by decide) ?_
    exact sk_iret hx hb hr rfl hlocks hK hP hD hS (⟨pa2_1, hpa2_3, hpa3_4, hst_5, (Or.inl rfl), hsk_7, (wo_00 hwh_8 c_10), rfl⟩) (Nat.le_of_ble_eq_true rfl) (Nat.le_of_ble_eq_true rfl) dX12_qWordOf_28
  · obtain ⟨k_11, hk_11, h1k_11, rfl⟩ := nofge r_2 lo (by omega) c_10
    refine lv_iload_n hx hb dX12_qWordOf_10 rfl (lv_at hl 0 rfl) ?_
    refine lv_iload_n hx hb dX12_qWordOf_11 rfl (lv_at hl 3 rfl) ?_
    refine lv_icmp_ge (tgt := 27) hx hb dX12_qWordOf_12 (by decide) (fun c_12 => ?_) (fun c_12 => ?_)
    · have c_12 : hi ≤ k_11 := (nle hi k_11 (by omega) (by omega)).mp c_12
      refine lv_iconst (v := (-1)) hx hb dX12_qWordOf_27 (by decide) ?_
      exact sk_iret hx hb hr rfl hlocks hK hP hD hS (⟨pa2_1, hpa2_3, hpa3_4, hst_5, (Or.inl rfl), hsk_7, (wo_1 (k := k_11) (by omega) hwh_8 (fun hq => absurd hq.2.1 (by omega))), rfl⟩) (Nat.le_of_ble_eq_true rfl) (Nat.le_of_ble_eq_true rfl) dX12_qWordOf_28
    · have c_12 : ¬ (hi ≤ k_11) := fun h => c_12 ((nle hi k_11 (by omega) (by omega)).mpr h)
      refine lv_aload_n hx hb dX12_qWordOf_15 rfl (lv_at hl 1 rfl) ?_
      refine lv_iload_n hx hb dX12_qWordOf_16 rfl (lv_at hl 0 rfl) ?_
      refine sk_Vi (q0 := 0) (n := 1) (rest := []) (wr := fmR om_13_1000 _) ⟨hx, hb, hml, hown, hts⟩ hl.1 (c_em_isAllowed l D cI cJ cC cZ cS mm g ta pa2_1 pe pd pb pp pf pg pn rt rn cd sn il tk am at_ aa wt wy rm ud nu sd qn qw qo qb qp qa qi oc k_11 kn htk hkn (by omega)) w_7_43 w_7_45 w_0_58 w_1_14 w_7_46 hd_X12_isAllowed_1 ⟨⟨(Nat.le_of_ble_eq_true rfl), (Nat.le_of_ble_eq_true rfl)⟩, (Nat.le_of_ble_eq_true rfl), (Nat.le_of_ble_eq_true rfl)⟩ hK hP hD hS hA (fmT om_13_1000 0) (fmF om_13_1000 0) (fm_C1 rfl rfl) (fm_R rfl rfl) (fm_nT om_13_1000 0) (fm_nF om_13_1000 0) (fm_di om_13_1000 0) rfl rfl rfl rfl (Nat.le_of_ble_eq_true rfl) dX12_qWordOf_17 (fun r_14 u H locs hw hP hD hS => ?_)
      refine exE hw (fun b_13 hw1 => anE hw1 (fun hb1_15 hw2 => anE hw2 (fun hal_16 hw3 => anE hw3 (fun er_18 eu_17 => ?_))))
      clear hw hw1 hw2 hw3
      subst er_18
      refine o_mgE (ws' := [ro_ mm 12 (mo g (nI ta) (nI pa2_1) (nI pe) pd (nI pb) pp pf pg pn rt rn (nI cd) sn (nI il) tk am at_ aa 0 0 (-1) wt wy 0 (nI rm) (nI ud) (nI nu) sd (nI qn) (nI qw) qo (nI qb) (nI qp) qa (nI qi) (nI oc)), ra_N (g 0) cI 1600 tb, ra_I (g 70) cC 4 (cw [109, 111, 111, 100]), ra_I (g 71) cC 5 (cw [98, 97, 114, 103, 101]), ra_I (g 72) cC 3 (cw [119, 101, 116]), ra_I (g 73) cC 3 (cw [100, 97, 121]), ra_I (g 74) cC 4 (cw [119, 101, 101, 107]), ra_I (g 75) cC 4 (cw [116, 111, 108, 100]), ra_I (g 76) cC 5 (cw [97, 108, 111, 110, 101]), ra_I (g 77) cC 6 (cw [110, 117, 109, 98, 101, 114]), ra_I (g 78) cC 4 (cw [109, 117, 116, 101]), ra_I (g 58) cC 5 (cw [102, 105, 114, 115, 116]), ra_I (g 79) cC 5 (cw [119, 101, 101, 107, 115])]) eu_17 hP hD rfl (fun hP hD => ?_)
      refine lv_if_eq (tgt := 27) hx hb dX12_qWordOf_20 (by decide) (fun c_19 => ?_) (fun c_19 => ?_)
      · have c_19 : b_13 = 0 := (neq b_13 0 (by omega) (Nat.le_of_ble_eq_true rfl)).mp c_19
        refine lv_iconst (v := (-1)) hx hb dX12_qWordOf_27 (by decide) ?_
        exact sk_iret hx hb hr rfl hlocks hK hP hD hS (⟨pa2_1, hpa2_3, hpa3_4, hst_5, (Or.inl rfl), hsk_7, (wo_1 (by omega) hwh_8 (fun hq => by rw [rr_0 hal_16 (by omega)] at hq; cases hq.2.2)), rfl⟩) (Nat.le_of_ble_eq_true rfl) (Nat.le_of_ble_eq_true rfl) dX12_qWordOf_28
      · have c_19 : ¬ (b_13 = 0) := fun h => c_19 ((neq b_13 0 (by omega) (Nat.le_of_ble_eq_true rfl)).mpr h)
        refine lv_iload_n hx hb dX12_qWordOf_23 rfl (lv_at hl 0 rfl) ?_
        refine lv_goto (tgt := 28) hx hb dX12_qWordOf_24 (by decide) ?_
        exact sk_iret hx hb hr rfl hlocks hK hP hD hS (⟨pa2_1, hpa2_3, hpa3_4, hst_5, (Or.inr ⟨k_11, by omega, by omega, rfl⟩), hsk_7, (wo_2 (by omega) hwh_8 (by omega) (by omega) (rr_1 hal_16 (by omega))), rfl⟩) (Nat.le_of_ble_eq_true rfl) (Nat.le_of_ble_eq_true rfl) dX12_qWordOf_28
theorem qa10 {o : Nat} (h : o < 11) (h0 : ¬ nI o = 0) (h1 : ¬ nI o = 1) (h2 : ¬ nI o = 2) (h3 : ¬ nI o = 3) (h4 : ¬ nI o = 4) (h5 : ¬ nI o = 5) (h6 : ¬ nI o = 6) (h7 : ¬ nI o = 7) (h8 : ¬ nI o = 8) (h9 : ¬ nI o = 9) : o = 10 := by
  match o, h with
  | 0, _ => exact absurd rfl h0
  | 1, _ => exact absurd rfl h1
  | 2, _ => exact absurd rfl h2
  | 3, _ => exact absurd rfl h3
  | 4, _ => exact absurd rfl h4
  | 5, _ => exact absurd rfl h5
  | 6, _ => exact absurd rfl h6
  | 7, _ => exact absurd rfl h7
  | 8, _ => exact absurd rfl h8
  | 9, _ => exact absurd rfl h9
  | 10, _ => rfl
  | n + 11, h => exact absurd h (by omega)
set_option maxHeartbeats 4000000 in
set_option maxRecDepth 100000 in
theorem c_em_qAsksWord (l : Launch) (D : va_G) (cI cJ cC cZ cS : ClassId) (mm : Nat) (g : Nat → Nat) (ta : Nat) (pa : Nat) (pe : Nat) (pd : Int32) (pb : Nat) (pp : Int32) (pf : Int32) (pg : Int32) (pn : Int32) (rt : Int32) (rn : Int32) (cd : Nat) (sn : Int32) (il : Nat) (tk : Int32) (am : Int32) (at_ : Int32) (aa : Int32) (wt : Int32) (wy : Int64) (rm : Nat) (ud : Nat) (nu : Nat) (sd : Int64) (qn : Nat) (qw : Nat) (qo : Int32) (qb : Nat) (qp : Nat) (qa : Int64) (qi : Nat) (oc : Nat) (o : Nat) (tb : Nat → Nat) (og : Except Err Cur) (hpa : pa ≤ pe) (hpe : pe ≤ 1600) (hpb : pb ≤ 5) (ho : o < 11) (hO : moO tb pe og pa pd pb pp) (htb : ∀ j, tb j ≤ 255) : skM l yX12_qAsksWord cX12_qAsksWord 2 none 4 85 0 0 D (skT cI cJ cC cZ cS) [.ref mm, .int (nI o)] [ro_ mm 12 (mo g (nI ta) (nI pa) (nI pe) pd (nI pb) pp pf pg pn rt rn (nI cd) sn (nI il) tk am at_ aa 0 0 (-1) wt wy 0 (nI rm) (nI ud) (nI nu) sd (nI qn) (nI qw) qo (nI qb) (nI qp) qa (nI qi) (nI oc)), ra_N (g 0) cI 1600 tb, ra_I (g 70) cC 4 (cw [109, 111, 111, 100]), ra_I (g 71) cC 5 (cw [98, 97, 114, 103, 101]), ra_I (g 72) cC 3 (cw [119, 101, 116]), ra_I (g 73) cC 3 (cw [100, 97, 121]), ra_I (g 74) cC 4 (cw [119, 101, 101, 107]), ra_I (g 75) cC 4 (cw [116, 111, 108, 100]), ra_I (g 76) cC 5 (cw [97, 108, 111, 110, 101]), ra_I (g 77) cC 6 (cw [110, 117, 109, 98, 101, 114]), ra_I (g 78) cC 4 (cw [109, 117, 116, 101]), ra_I (g 58) cC 5 (cw [102, 105, 114, 115, 116]), ra_I (g 79) cC 5 (cw [119, 101, 101, 107, 115])] (skV D (skT cI cJ cC cZ cS) (fun (u : va_W) => ∃ (pa2 : Nat), ∃ (pd2 : Int32), ∃ (pb2 : Nat), ∃ (pp2 : Int32), pa ≤ pa2 ∧ pa2 ≤ pe ∧ pb2 ≤ 5 ∧ (¬ pb2 = 0 ∨ (pb = 0 ∧ pa + 1 ≤ pa2)) ∧ moO tb pe (bindR og (wordP tb pe (pw11 o))) pa2 pd2 pb2 pp2 ∧ u = [ro_ mm 12 (mo g (nI ta) (nI pa2) (nI pe) pd2 (nI pb2) pp2 pf pg pn rt rn (nI cd) sn (nI il) tk am at_ aa 0 0 (-1) wt wy 0 (nI rm) (nI ud) (nI nu) sd (nI qn) (nI qw) qo (nI qb) (nI qp) qa (nI qi) (nI oc)), ra_N (g 0) cI 1600 tb, ra_I (g 70) cC 4 (cw [109, 111, 111, 100]), ra_I (g 71) cC 5 (cw [98, 97, 114, 103, 101]), ra_I (g 72) cC 3 (cw [119, 101, 116]), ra_I (g 73) cC 3 (cw [100, 97, 121]), ra_I (g 74) cC 4 (cw [119, 101, 101, 107]), ra_I (g 75) cC 4 (cw [116, 111, 108, 100]), ra_I (g 76) cC 5 (cw [97, 108, 111, 110, 101]), ra_I (g 77) cC 6 (cw [110, 117, 109, 98, 101, 114]), ra_I (g 78) cC 4 (cw [109, 117, 116, 101]), ra_I (g 58) cC 5 (cw [102, 105, 114, 115, 116]), ra_I (g 79) cC 5 (cw [119, 101, 101, 107, 115])])) := by
  refine skM_of pf_X12_qAsksWord (Nat.le_of_ble_eq_true rfl) ?_
  intro p e s m below meth c A ls E hP hD hl
  refine skE_el E (fun hx hb hr hml hlocks hin hown hts hK hA => ?_)
  have hown : s.vm.findClass RX12 = some m.cls := hown
  have hS : va_S A s.heap s.heap [] := va_S.rf
  have hl : lv_has ls 2 [(0, .ref mm), (1, .int (nI o))] := hl
  refine lv_iload_n hx hb dX12_qAsksWord_0 rfl (lv_at hl 1 rfl) ?_
  by_cases g_1 : nI o = 0
  · refine lv_tableIn (off := 55) (tgt := 56) hx hb dX12_qAsksWord_1 (by rw [g_1]; decide) (by rw [g_1]; decide) (by rw [g_1]; rfl) (by decide) ?_
    refine lv_aload_n hx hb dX12_qAsksWord_56 rfl (lv_at hl 0 rfl) ?_
    refine lv_aload_n hx hb dX12_qAsksWord_57 rfl (lv_at hl 0 rfl) ?_
    refine sk_get (v := .ref (g 70)) (C := RX12) (T := TX12) (N := 92) hx hb hts inlX12 hown hK hP 0 rfl rfl 70 (Nat.le_of_ble_eq_true rfl) w_5_225 rfl dX12_qAsksWord_58 ?_
    refine sk_Vv (q0 := 0) (n := 1) (rest := []) (wr := fmR om_13_1c00 _) ⟨hx, hb, hml, hown, hts⟩ hl.1 (c_em_asks l D cI cJ cC cZ cS mm g ta pa pe pd pb pp pf pg pn rt rn cd sn il tk am at_ aa wt wy rm ud nu sd qn qw qo qb qp qa qi oc tb (g 70) 4 ([109, 111, 111, 100]) og hpa hpe hpb (by omega) (by omega) rfl (wb_of (by decide)) hO htb) w_6_210 w_6_212 w_0_42 w_1_14 w_6_213 hd_X12_asks_1 ⟨⟨(Nat.le_of_ble_eq_true rfl), (Nat.le_of_ble_eq_true rfl)⟩, (Nat.le_of_ble_eq_true rfl), (Nat.le_of_ble_eq_true rfl)⟩ hK hP hD hS hA (fmT om_13_1c00 0) (fmF om_13_1c00 0) (fm_C1 rfl rfl) (fm_R rfl rfl) (fm_nT om_13_1c00 0) (fm_nF om_13_1c00 0) (fm_di om_13_1c00 0) rfl rfl rfl rfl (Nat.le_of_ble_eq_true rfl) dX12_qAsksWord_61 (fun u H locs hw hP hD hS => ?_)
    refine exE hw (fun pa2_2 hw1 => exE hw1 (fun pd2_3 hw2 => exE hw2 (fun pb2_4 hw3 => exE hw3 (fun pp2_5 hw4 => anE hw4 (fun hpa2_6 hw5 => anE hw5 (fun hpa3_7 hw6 => anE hw6 (fun hpb2_8 hw7 => anE hw7 (fun hpb3_9 hw8 => anE hw8 (fun hO2_10 eu_11 => ?_)))))))))
    clear hw hw1 hw2 hw3 hw4 hw5 hw6 hw7 hw8
    refine o_mgE (ws' := [ro_ mm 12 (mo g (nI ta) (nI pa2_2) (nI pe) pd2_3 (nI pb2_4) pp2_5 pf pg pn rt rn (nI cd) sn (nI il) tk am at_ aa 0 0 (-1) wt wy 0 (nI rm) (nI ud) (nI nu) sd (nI qn) (nI qw) qo (nI qb) (nI qp) qa (nI qi) (nI oc)), ra_N (g 0) cI 1600 tb, ra_I (g 70) cC 4 (cw ([109, 111, 111, 100])), ra_I (g 71) cC 5 (cw [98, 97, 114, 103, 101]), ra_I (g 72) cC 3 (cw [119, 101, 116]), ra_I (g 73) cC 3 (cw [100, 97, 121]), ra_I (g 74) cC 4 (cw [119, 101, 101, 107]), ra_I (g 75) cC 4 (cw [116, 111, 108, 100]), ra_I (g 76) cC 5 (cw [97, 108, 111, 110, 101]), ra_I (g 77) cC 6 (cw [110, 117, 109, 98, 101, 114]), ra_I (g 78) cC 4 (cw [109, 117, 116, 101]), ra_I (g 58) cC 5 (cw [102, 105, 114, 115, 116]), ra_I (g 79) cC 5 (cw [119, 101, 101, 107, 115])]) eu_11 hP hD rfl (fun hP hD => ?_)
    refine lv_goto (tgt := 174) hx hb dX12_qAsksWord_64 (by decide) ?_
    exact sk_vret hx hb hr hlocks hK hP hD hS (⟨pa2_2, pd2_3, pb2_4, pp2_5, hpa2_6, hpa3_7, hpb2_8, by omega, (by rw [show o = 0 from (neq o 0 (by omega) (Nat.le_of_ble_eq_true rfl)).mp g_1]; exact hO2_10), rfl⟩) (Nat.le_of_ble_eq_true rfl) (Nat.le_of_ble_eq_true rfl) dX12_qAsksWord_174
  by_cases g_12 : nI o = 1
  · refine lv_tableIn (off := 66) (tgt := 67) hx hb dX12_qAsksWord_1 (by rw [g_12]; decide) (by rw [g_12]; decide) (by rw [g_12]; rfl) (by decide) ?_
    refine lv_aload_n hx hb dX12_qAsksWord_67 rfl (lv_at hl 0 rfl) ?_
    refine lv_aload_n hx hb dX12_qAsksWord_68 rfl (lv_at hl 0 rfl) ?_
    refine sk_get (v := .ref (g 71)) (C := RX12) (T := TX12) (N := 92) hx hb hts inlX12 hown hK hP 0 rfl rfl 71 (Nat.le_of_ble_eq_true rfl) w_5_226 rfl dX12_qAsksWord_69 ?_
    refine sk_Vv (q0 := 0) (n := 1) (rest := []) (wr := fmR om_13_1a00 _) ⟨hx, hb, hml, hown, hts⟩ hl.1 (c_em_asks l D cI cJ cC cZ cS mm g ta pa pe pd pb pp pf pg pn rt rn cd sn il tk am at_ aa wt wy rm ud nu sd qn qw qo qb qp qa qi oc tb (g 71) 5 ([98, 97, 114, 103, 101]) og hpa hpe hpb (by omega) (by omega) rfl (wb_of (by decide)) hO htb) w_6_210 w_6_212 w_0_42 w_1_14 w_6_213 hd_X12_asks_1 ⟨⟨(Nat.le_of_ble_eq_true rfl), (Nat.le_of_ble_eq_true rfl)⟩, (Nat.le_of_ble_eq_true rfl), (Nat.le_of_ble_eq_true rfl)⟩ hK hP hD hS hA (fmT om_13_1a00 0) (fmF om_13_1a00 0) (fm_C1 rfl rfl) (fm_R rfl rfl) (fm_nT om_13_1a00 0) (fm_nF om_13_1a00 0) (fm_di om_13_1a00 0) rfl rfl rfl rfl (Nat.le_of_ble_eq_true rfl) dX12_qAsksWord_72 (fun u H locs hw hP hD hS => ?_)
    refine exE hw (fun pa2_13 hw1 => exE hw1 (fun pd2_14 hw2 => exE hw2 (fun pb2_15 hw3 => exE hw3 (fun pp2_16 hw4 => anE hw4 (fun hpa2_17 hw5 => anE hw5 (fun hpa3_18 hw6 => anE hw6 (fun hpb2_19 hw7 => anE hw7 (fun hpb3_20 hw8 => anE hw8 (fun hO2_21 eu_22 => ?_)))))))))
    clear hw hw1 hw2 hw3 hw4 hw5 hw6 hw7 hw8
    refine o_mgE (ws' := [ro_ mm 12 (mo g (nI ta) (nI pa2_13) (nI pe) pd2_14 (nI pb2_15) pp2_16 pf pg pn rt rn (nI cd) sn (nI il) tk am at_ aa 0 0 (-1) wt wy 0 (nI rm) (nI ud) (nI nu) sd (nI qn) (nI qw) qo (nI qb) (nI qp) qa (nI qi) (nI oc)), ra_N (g 0) cI 1600 tb, ra_I (g 70) cC 4 (cw [109, 111, 111, 100]), ra_I (g 71) cC 5 (cw ([98, 97, 114, 103, 101])), ra_I (g 72) cC 3 (cw [119, 101, 116]), ra_I (g 73) cC 3 (cw [100, 97, 121]), ra_I (g 74) cC 4 (cw [119, 101, 101, 107]), ra_I (g 75) cC 4 (cw [116, 111, 108, 100]), ra_I (g 76) cC 5 (cw [97, 108, 111, 110, 101]), ra_I (g 77) cC 6 (cw [110, 117, 109, 98, 101, 114]), ra_I (g 78) cC 4 (cw [109, 117, 116, 101]), ra_I (g 58) cC 5 (cw [102, 105, 114, 115, 116]), ra_I (g 79) cC 5 (cw [119, 101, 101, 107, 115])]) eu_22 hP hD rfl (fun hP hD => ?_)
    refine lv_goto (tgt := 174) hx hb dX12_qAsksWord_75 (by decide) ?_
    exact sk_vret hx hb hr hlocks hK hP hD hS (⟨pa2_13, pd2_14, pb2_15, pp2_16, hpa2_17, hpa3_18, hpb2_19, by omega, (by rw [show o = 1 from (neq o 1 (by omega) (Nat.le_of_ble_eq_true rfl)).mp g_12]; exact hO2_21), rfl⟩) (Nat.le_of_ble_eq_true rfl) (Nat.le_of_ble_eq_true rfl) dX12_qAsksWord_174
  by_cases g_23 : nI o = 2
  · refine lv_tableIn (off := 77) (tgt := 78) hx hb dX12_qAsksWord_1 (by rw [g_23]; decide) (by rw [g_23]; decide) (by rw [g_23]; rfl) (by decide) ?_
    refine lv_aload_n hx hb dX12_qAsksWord_78 rfl (lv_at hl 0 rfl) ?_
    refine lv_aload_n hx hb dX12_qAsksWord_79 rfl (lv_at hl 0 rfl) ?_
    refine sk_get (v := .ref (g 72)) (C := RX12) (T := TX12) (N := 92) hx hb hts inlX12 hown hK hP 0 rfl rfl 72 (Nat.le_of_ble_eq_true rfl) w_5_227 rfl dX12_qAsksWord_80 ?_
    refine sk_Vv (q0 := 0) (n := 1) (rest := []) (wr := fmR om_13_1900 _) ⟨hx, hb, hml, hown, hts⟩ hl.1 (c_em_asks l D cI cJ cC cZ cS mm g ta pa pe pd pb pp pf pg pn rt rn cd sn il tk am at_ aa wt wy rm ud nu sd qn qw qo qb qp qa qi oc tb (g 72) 3 ([119, 101, 116]) og hpa hpe hpb (by omega) (by omega) rfl (wb_of (by decide)) hO htb) w_6_210 w_6_212 w_0_42 w_1_14 w_6_213 hd_X12_asks_1 ⟨⟨(Nat.le_of_ble_eq_true rfl), (Nat.le_of_ble_eq_true rfl)⟩, (Nat.le_of_ble_eq_true rfl), (Nat.le_of_ble_eq_true rfl)⟩ hK hP hD hS hA (fmT om_13_1900 0) (fmF om_13_1900 0) (fm_C1 rfl rfl) (fm_R rfl rfl) (fm_nT om_13_1900 0) (fm_nF om_13_1900 0) (fm_di om_13_1900 0) rfl rfl rfl rfl (Nat.le_of_ble_eq_true rfl) dX12_qAsksWord_83 (fun u H locs hw hP hD hS => ?_)
    refine exE hw (fun pa2_24 hw1 => exE hw1 (fun pd2_25 hw2 => exE hw2 (fun pb2_26 hw3 => exE hw3 (fun pp2_27 hw4 => anE hw4 (fun hpa2_28 hw5 => anE hw5 (fun hpa3_29 hw6 => anE hw6 (fun hpb2_30 hw7 => anE hw7 (fun hpb3_31 hw8 => anE hw8 (fun hO2_32 eu_33 => ?_)))))))))
    clear hw hw1 hw2 hw3 hw4 hw5 hw6 hw7 hw8
    refine o_mgE (ws' := [ro_ mm 12 (mo g (nI ta) (nI pa2_24) (nI pe) pd2_25 (nI pb2_26) pp2_27 pf pg pn rt rn (nI cd) sn (nI il) tk am at_ aa 0 0 (-1) wt wy 0 (nI rm) (nI ud) (nI nu) sd (nI qn) (nI qw) qo (nI qb) (nI qp) qa (nI qi) (nI oc)), ra_N (g 0) cI 1600 tb, ra_I (g 70) cC 4 (cw [109, 111, 111, 100]), ra_I (g 71) cC 5 (cw [98, 97, 114, 103, 101]), ra_I (g 72) cC 3 (cw ([119, 101, 116])), ra_I (g 73) cC 3 (cw [100, 97, 121]), ra_I (g 74) cC 4 (cw [119, 101, 101, 107]), ra_I (g 75) cC 4 (cw [116, 111, 108, 100]), ra_I (g 76) cC 5 (cw [97, 108, 111, 110, 101]), ra_I (g 77) cC 6 (cw [110, 117, 109, 98, 101, 114]), ra_I (g 78) cC 4 (cw [109, 117, 116, 101]), ra_I (g 58) cC 5 (cw [102, 105, 114, 115, 116]), ra_I (g 79) cC 5 (cw [119, 101, 101, 107, 115])]) eu_33 hP hD rfl (fun hP hD => ?_)
    refine lv_goto (tgt := 174) hx hb dX12_qAsksWord_86 (by decide) ?_
    exact sk_vret hx hb hr hlocks hK hP hD hS (⟨pa2_24, pd2_25, pb2_26, pp2_27, hpa2_28, hpa3_29, hpb2_30, by omega, (by rw [show o = 2 from (neq o 2 (by omega) (Nat.le_of_ble_eq_true rfl)).mp g_23]; exact hO2_32), rfl⟩) (Nat.le_of_ble_eq_true rfl) (Nat.le_of_ble_eq_true rfl) dX12_qAsksWord_174
  by_cases g_34 : nI o = 3
  · refine lv_tableIn (off := 88) (tgt := 89) hx hb dX12_qAsksWord_1 (by rw [g_34]; decide) (by rw [g_34]; decide) (by rw [g_34]; rfl) (by decide) ?_
    refine lv_aload_n hx hb dX12_qAsksWord_89 rfl (lv_at hl 0 rfl) ?_
    refine lv_aload_n hx hb dX12_qAsksWord_90 rfl (lv_at hl 0 rfl) ?_
    refine sk_get (v := .ref (g 73)) (C := RX12) (T := TX12) (N := 92) hx hb hts inlX12 hown hK hP 0 rfl rfl 73 (Nat.le_of_ble_eq_true rfl) w_5_228 rfl dX12_qAsksWord_91 ?_
    refine sk_Vv (q0 := 0) (n := 1) (rest := []) (wr := fmR om_13_1880 _) ⟨hx, hb, hml, hown, hts⟩ hl.1 (c_em_asks l D cI cJ cC cZ cS mm g ta pa pe pd pb pp pf pg pn rt rn cd sn il tk am at_ aa wt wy rm ud nu sd qn qw qo qb qp qa qi oc tb (g 73) 3 ([100, 97, 121]) og hpa hpe hpb (by omega) (by omega) rfl (wb_of (by decide)) hO htb) w_6_210 w_6_212 w_0_42 w_1_14 w_6_213 hd_X12_asks_1 ⟨⟨(Nat.le_of_ble_eq_true rfl), (Nat.le_of_ble_eq_true rfl)⟩, (Nat.le_of_ble_eq_true rfl), (Nat.le_of_ble_eq_true rfl)⟩ hK hP hD hS hA (fmT om_13_1880 0) (fmF om_13_1880 0) (fm_C1 rfl rfl) (fm_R rfl rfl) (fm_nT om_13_1880 0) (fm_nF om_13_1880 0) (fm_di om_13_1880 0) rfl rfl rfl rfl (Nat.le_of_ble_eq_true rfl) dX12_qAsksWord_94 (fun u H locs hw hP hD hS => ?_)
    refine exE hw (fun pa2_35 hw1 => exE hw1 (fun pd2_36 hw2 => exE hw2 (fun pb2_37 hw3 => exE hw3 (fun pp2_38 hw4 => anE hw4 (fun hpa2_39 hw5 => anE hw5 (fun hpa3_40 hw6 => anE hw6 (fun hpb2_41 hw7 => anE hw7 (fun hpb3_42 hw8 => anE hw8 (fun hO2_43 eu_44 => ?_)))))))))
    clear hw hw1 hw2 hw3 hw4 hw5 hw6 hw7 hw8
    refine o_mgE (ws' := [ro_ mm 12 (mo g (nI ta) (nI pa2_35) (nI pe) pd2_36 (nI pb2_37) pp2_38 pf pg pn rt rn (nI cd) sn (nI il) tk am at_ aa 0 0 (-1) wt wy 0 (nI rm) (nI ud) (nI nu) sd (nI qn) (nI qw) qo (nI qb) (nI qp) qa (nI qi) (nI oc)), ra_N (g 0) cI 1600 tb, ra_I (g 70) cC 4 (cw [109, 111, 111, 100]), ra_I (g 71) cC 5 (cw [98, 97, 114, 103, 101]), ra_I (g 72) cC 3 (cw [119, 101, 116]), ra_I (g 73) cC 3 (cw ([100, 97, 121])), ra_I (g 74) cC 4 (cw [119, 101, 101, 107]), ra_I (g 75) cC 4 (cw [116, 111, 108, 100]), ra_I (g 76) cC 5 (cw [97, 108, 111, 110, 101]), ra_I (g 77) cC 6 (cw [110, 117, 109, 98, 101, 114]), ra_I (g 78) cC 4 (cw [109, 117, 116, 101]), ra_I (g 58) cC 5 (cw [102, 105, 114, 115, 116]), ra_I (g 79) cC 5 (cw [119, 101, 101, 107, 115])]) eu_44 hP hD rfl (fun hP hD => ?_)
    refine lv_goto (tgt := 174) hx hb dX12_qAsksWord_97 (by decide) ?_
    exact sk_vret hx hb hr hlocks hK hP hD hS (⟨pa2_35, pd2_36, pb2_37, pp2_38, hpa2_39, hpa3_40, hpb2_41, by omega, (by rw [show o = 3 from (neq o 3 (by omega) (Nat.le_of_ble_eq_true rfl)).mp g_34]; exact hO2_43), rfl⟩) (Nat.le_of_ble_eq_true rfl) (Nat.le_of_ble_eq_true rfl) dX12_qAsksWord_174
  by_cases g_45 : nI o = 4
  · refine lv_tableIn (off := 99) (tgt := 100) hx hb dX12_qAsksWord_1 (by rw [g_45]; decide) (by rw [g_45]; decide) (by rw [g_45]; rfl) (by decide) ?_
    refine lv_aload_n hx hb dX12_qAsksWord_100 rfl (lv_at hl 0 rfl) ?_
    refine lv_aload_n hx hb dX12_qAsksWord_101 rfl (lv_at hl 0 rfl) ?_
    refine sk_get (v := .ref (g 74)) (C := RX12) (T := TX12) (N := 92) hx hb hts inlX12 hown hK hP 0 rfl rfl 74 (Nat.le_of_ble_eq_true rfl) w_5_229 rfl dX12_qAsksWord_102 ?_
    refine sk_Vv (q0 := 0) (n := 1) (rest := []) (wr := fmR om_13_1840 _) ⟨hx, hb, hml, hown, hts⟩ hl.1 (c_em_asks l D cI cJ cC cZ cS mm g ta pa pe pd pb pp pf pg pn rt rn cd sn il tk am at_ aa wt wy rm ud nu sd qn qw qo qb qp qa qi oc tb (g 74) 4 ([119, 101, 101, 107]) og hpa hpe hpb (by omega) (by omega) rfl (wb_of (by decide)) hO htb) w_6_210 w_6_212 w_0_42 w_1_14 w_6_213 hd_X12_asks_1 ⟨⟨(Nat.le_of_ble_eq_true rfl), (Nat.le_of_ble_eq_true rfl)⟩, (Nat.le_of_ble_eq_true rfl), (Nat.le_of_ble_eq_true rfl)⟩ hK hP hD hS hA (fmT om_13_1840 0) (fmF om_13_1840 0) (fm_C1 rfl rfl) (fm_R rfl rfl) (fm_nT om_13_1840 0) (fm_nF om_13_1840 0) (fm_di om_13_1840 0) rfl rfl rfl rfl (Nat.le_of_ble_eq_true rfl) dX12_qAsksWord_105 (fun u H locs hw hP hD hS => ?_)
    refine exE hw (fun pa2_46 hw1 => exE hw1 (fun pd2_47 hw2 => exE hw2 (fun pb2_48 hw3 => exE hw3 (fun pp2_49 hw4 => anE hw4 (fun hpa2_50 hw5 => anE hw5 (fun hpa3_51 hw6 => anE hw6 (fun hpb2_52 hw7 => anE hw7 (fun hpb3_53 hw8 => anE hw8 (fun hO2_54 eu_55 => ?_)))))))))
    clear hw hw1 hw2 hw3 hw4 hw5 hw6 hw7 hw8
    refine o_mgE (ws' := [ro_ mm 12 (mo g (nI ta) (nI pa2_46) (nI pe) pd2_47 (nI pb2_48) pp2_49 pf pg pn rt rn (nI cd) sn (nI il) tk am at_ aa 0 0 (-1) wt wy 0 (nI rm) (nI ud) (nI nu) sd (nI qn) (nI qw) qo (nI qb) (nI qp) qa (nI qi) (nI oc)), ra_N (g 0) cI 1600 tb, ra_I (g 70) cC 4 (cw [109, 111, 111, 100]), ra_I (g 71) cC 5 (cw [98, 97, 114, 103, 101]), ra_I (g 72) cC 3 (cw [119, 101, 116]), ra_I (g 73) cC 3 (cw [100, 97, 121]), ra_I (g 74) cC 4 (cw ([119, 101, 101, 107])), ra_I (g 75) cC 4 (cw [116, 111, 108, 100]), ra_I (g 76) cC 5 (cw [97, 108, 111, 110, 101]), ra_I (g 77) cC 6 (cw [110, 117, 109, 98, 101, 114]), ra_I (g 78) cC 4 (cw [109, 117, 116, 101]), ra_I (g 58) cC 5 (cw [102, 105, 114, 115, 116]), ra_I (g 79) cC 5 (cw [119, 101, 101, 107, 115])]) eu_55 hP hD rfl (fun hP hD => ?_)
    refine lv_goto (tgt := 174) hx hb dX12_qAsksWord_108 (by decide) ?_
    exact sk_vret hx hb hr hlocks hK hP hD hS (⟨pa2_46, pd2_47, pb2_48, pp2_49, hpa2_50, hpa3_51, hpb2_52, by omega, (by rw [show o = 4 from (neq o 4 (by omega) (Nat.le_of_ble_eq_true rfl)).mp g_45]; exact hO2_54), rfl⟩) (Nat.le_of_ble_eq_true rfl) (Nat.le_of_ble_eq_true rfl) dX12_qAsksWord_174
  by_cases g_56 : nI o = 5
  · refine lv_tableIn (off := 110) (tgt := 111) hx hb dX12_qAsksWord_1 (by rw [g_56]; decide) (by rw [g_56]; decide) (by rw [g_56]; rfl) (by decide) ?_
    refine lv_aload_n hx hb dX12_qAsksWord_111 rfl (lv_at hl 0 rfl) ?_
    refine lv_aload_n hx hb dX12_qAsksWord_112 rfl (lv_at hl 0 rfl) ?_
    refine sk_get (v := .ref (g 75)) (C := RX12) (T := TX12) (N := 92) hx hb hts inlX12 hown hK hP 0 rfl rfl 75 (Nat.le_of_ble_eq_true rfl) w_5_230 rfl dX12_qAsksWord_113 ?_
    refine sk_Vv (q0 := 0) (n := 1) (rest := []) (wr := fmR om_13_1820 _) ⟨hx, hb, hml, hown, hts⟩ hl.1 (c_em_asks l D cI cJ cC cZ cS mm g ta pa pe pd pb pp pf pg pn rt rn cd sn il tk am at_ aa wt wy rm ud nu sd qn qw qo qb qp qa qi oc tb (g 75) 4 ([116, 111, 108, 100]) og hpa hpe hpb (by omega) (by omega) rfl (wb_of (by decide)) hO htb) w_6_210 w_6_212 w_0_42 w_1_14 w_6_213 hd_X12_asks_1 ⟨⟨(Nat.le_of_ble_eq_true rfl), (Nat.le_of_ble_eq_true rfl)⟩, (Nat.le_of_ble_eq_true rfl), (Nat.le_of_ble_eq_true rfl)⟩ hK hP hD hS hA (fmT om_13_1820 0) (fmF om_13_1820 0) (fm_C1 rfl rfl) (fm_R rfl rfl) (fm_nT om_13_1820 0) (fm_nF om_13_1820 0) (fm_di om_13_1820 0) rfl rfl rfl rfl (Nat.le_of_ble_eq_true rfl) dX12_qAsksWord_116 (fun u H locs hw hP hD hS => ?_)
    refine exE hw (fun pa2_57 hw1 => exE hw1 (fun pd2_58 hw2 => exE hw2 (fun pb2_59 hw3 => exE hw3 (fun pp2_60 hw4 => anE hw4 (fun hpa2_61 hw5 => anE hw5 (fun hpa3_62 hw6 => anE hw6 (fun hpb2_63 hw7 => anE hw7 (fun hpb3_64 hw8 => anE hw8 (fun hO2_65 eu_66 => ?_)))))))))
    clear hw hw1 hw2 hw3 hw4 hw5 hw6 hw7 hw8
    refine o_mgE (ws' := [ro_ mm 12 (mo g (nI ta) (nI pa2_57) (nI pe) pd2_58 (nI pb2_59) pp2_60 pf pg pn rt rn (nI cd) sn (nI il) tk am at_ aa 0 0 (-1) wt wy 0 (nI rm) (nI ud) (nI nu) sd (nI qn) (nI qw) qo (nI qb) (nI qp) qa (nI qi) (nI oc)), ra_N (g 0) cI 1600 tb, ra_I (g 70) cC 4 (cw [109, 111, 111, 100]), ra_I (g 71) cC 5 (cw [98, 97, 114, 103, 101]), ra_I (g 72) cC 3 (cw [119, 101, 116]), ra_I (g 73) cC 3 (cw [100, 97, 121]), ra_I (g 74) cC 4 (cw [119, 101, 101, 107]), ra_I (g 75) cC 4 (cw ([116, 111, 108, 100])), ra_I (g 76) cC 5 (cw [97, 108, 111, 110, 101]), ra_I (g 77) cC 6 (cw [110, 117, 109, 98, 101, 114]), ra_I (g 78) cC 4 (cw [109, 117, 116, 101]), ra_I (g 58) cC 5 (cw [102, 105, 114, 115, 116]), ra_I (g 79) cC 5 (cw [119, 101, 101, 107, 115])]) eu_66 hP hD rfl (fun hP hD => ?_)
    refine lv_goto (tgt := 174) hx hb dX12_qAsksWord_119 (by decide) ?_
    exact sk_vret hx hb hr hlocks hK hP hD hS (⟨pa2_57, pd2_58, pb2_59, pp2_60, hpa2_61, hpa3_62, hpb2_63, by omega, (by rw [show o = 5 from (neq o 5 (by omega) (Nat.le_of_ble_eq_true rfl)).mp g_56]; exact hO2_65), rfl⟩) (Nat.le_of_ble_eq_true rfl) (Nat.le_of_ble_eq_true rfl) dX12_qAsksWord_174
  by_cases g_67 : nI o = 6
  · refine lv_tableIn (off := 121) (tgt := 122) hx hb dX12_qAsksWord_1 (by rw [g_67]; decide) (by rw [g_67]; decide) (by rw [g_67]; rfl) (by decide) ?_
    refine lv_aload_n hx hb dX12_qAsksWord_122 rfl (lv_at hl 0 rfl) ?_
    refine lv_aload_n hx hb dX12_qAsksWord_123 rfl (lv_at hl 0 rfl) ?_
    refine sk_get (v := .ref (g 76)) (C := RX12) (T := TX12) (N := 92) hx hb hts inlX12 hown hK hP 0 rfl rfl 76 (Nat.le_of_ble_eq_true rfl) w_5_231 rfl dX12_qAsksWord_124 ?_
    refine sk_Vv (q0 := 0) (n := 1) (rest := []) (wr := fmR om_13_1810 _) ⟨hx, hb, hml, hown, hts⟩ hl.1 (c_em_asks l D cI cJ cC cZ cS mm g ta pa pe pd pb pp pf pg pn rt rn cd sn il tk am at_ aa wt wy rm ud nu sd qn qw qo qb qp qa qi oc tb (g 76) 5 ([97, 108, 111, 110, 101]) og hpa hpe hpb (by omega) (by omega) rfl (wb_of (by decide)) hO htb) w_6_210 w_6_212 w_0_42 w_1_14 w_6_213 hd_X12_asks_1 ⟨⟨(Nat.le_of_ble_eq_true rfl), (Nat.le_of_ble_eq_true rfl)⟩, (Nat.le_of_ble_eq_true rfl), (Nat.le_of_ble_eq_true rfl)⟩ hK hP hD hS hA (fmT om_13_1810 0) (fmF om_13_1810 0) (fm_C1 rfl rfl) (fm_R rfl rfl) (fm_nT om_13_1810 0) (fm_nF om_13_1810 0) (fm_di om_13_1810 0) rfl rfl rfl rfl (Nat.le_of_ble_eq_true rfl) dX12_qAsksWord_127 (fun u H locs hw hP hD hS => ?_)
    refine exE hw (fun pa2_68 hw1 => exE hw1 (fun pd2_69 hw2 => exE hw2 (fun pb2_70 hw3 => exE hw3 (fun pp2_71 hw4 => anE hw4 (fun hpa2_72 hw5 => anE hw5 (fun hpa3_73 hw6 => anE hw6 (fun hpb2_74 hw7 => anE hw7 (fun hpb3_75 hw8 => anE hw8 (fun hO2_76 eu_77 => ?_)))))))))
    clear hw hw1 hw2 hw3 hw4 hw5 hw6 hw7 hw8
    refine o_mgE (ws' := [ro_ mm 12 (mo g (nI ta) (nI pa2_68) (nI pe) pd2_69 (nI pb2_70) pp2_71 pf pg pn rt rn (nI cd) sn (nI il) tk am at_ aa 0 0 (-1) wt wy 0 (nI rm) (nI ud) (nI nu) sd (nI qn) (nI qw) qo (nI qb) (nI qp) qa (nI qi) (nI oc)), ra_N (g 0) cI 1600 tb, ra_I (g 70) cC 4 (cw [109, 111, 111, 100]), ra_I (g 71) cC 5 (cw [98, 97, 114, 103, 101]), ra_I (g 72) cC 3 (cw [119, 101, 116]), ra_I (g 73) cC 3 (cw [100, 97, 121]), ra_I (g 74) cC 4 (cw [119, 101, 101, 107]), ra_I (g 75) cC 4 (cw [116, 111, 108, 100]), ra_I (g 76) cC 5 (cw ([97, 108, 111, 110, 101])), ra_I (g 77) cC 6 (cw [110, 117, 109, 98, 101, 114]), ra_I (g 78) cC 4 (cw [109, 117, 116, 101]), ra_I (g 58) cC 5 (cw [102, 105, 114, 115, 116]), ra_I (g 79) cC 5 (cw [119, 101, 101, 107, 115])]) eu_77 hP hD rfl (fun hP hD => ?_)
    refine lv_goto (tgt := 174) hx hb dX12_qAsksWord_130 (by decide) ?_
    exact sk_vret hx hb hr hlocks hK hP hD hS (⟨pa2_68, pd2_69, pb2_70, pp2_71, hpa2_72, hpa3_73, hpb2_74, by omega, (by rw [show o = 6 from (neq o 6 (by omega) (Nat.le_of_ble_eq_true rfl)).mp g_67]; exact hO2_76), rfl⟩) (Nat.le_of_ble_eq_true rfl) (Nat.le_of_ble_eq_true rfl) dX12_qAsksWord_174
  by_cases g_78 : nI o = 7
  · refine lv_tableIn (off := 132) (tgt := 133) hx hb dX12_qAsksWord_1 (by rw [g_78]; decide) (by rw [g_78]; decide) (by rw [g_78]; rfl) (by decide) ?_
    refine lv_aload_n hx hb dX12_qAsksWord_133 rfl (lv_at hl 0 rfl) ?_
    refine lv_aload_n hx hb dX12_qAsksWord_134 rfl (lv_at hl 0 rfl) ?_
    refine sk_get (v := .ref (g 77)) (C := RX12) (T := TX12) (N := 92) hx hb hts inlX12 hown hK hP 0 rfl rfl 77 (Nat.le_of_ble_eq_true rfl) w_5_232 rfl dX12_qAsksWord_135 ?_
    refine sk_Vv (q0 := 0) (n := 1) (rest := []) (wr := fmR om_13_1808 _) ⟨hx, hb, hml, hown, hts⟩ hl.1 (c_em_asks l D cI cJ cC cZ cS mm g ta pa pe pd pb pp pf pg pn rt rn cd sn il tk am at_ aa wt wy rm ud nu sd qn qw qo qb qp qa qi oc tb (g 77) 6 ([110, 117, 109, 98, 101, 114]) og hpa hpe hpb (by omega) (by omega) rfl (wb_of (by decide)) hO htb) w_6_210 w_6_212 w_0_42 w_1_14 w_6_213 hd_X12_asks_1 ⟨⟨(Nat.le_of_ble_eq_true rfl), (Nat.le_of_ble_eq_true rfl)⟩, (Nat.le_of_ble_eq_true rfl), (Nat.le_of_ble_eq_true rfl)⟩ hK hP hD hS hA (fmT om_13_1808 0) (fmF om_13_1808 0) (fm_C1 rfl rfl) (fm_R rfl rfl) (fm_nT om_13_1808 0) (fm_nF om_13_1808 0) (fm_di om_13_1808 0) rfl rfl rfl rfl (Nat.le_of_ble_eq_true rfl) dX12_qAsksWord_138 (fun u H locs hw hP hD hS => ?_)
    refine exE hw (fun pa2_79 hw1 => exE hw1 (fun pd2_80 hw2 => exE hw2 (fun pb2_81 hw3 => exE hw3 (fun pp2_82 hw4 => anE hw4 (fun hpa2_83 hw5 => anE hw5 (fun hpa3_84 hw6 => anE hw6 (fun hpb2_85 hw7 => anE hw7 (fun hpb3_86 hw8 => anE hw8 (fun hO2_87 eu_88 => ?_)))))))))
    clear hw hw1 hw2 hw3 hw4 hw5 hw6 hw7 hw8
    refine o_mgE (ws' := [ro_ mm 12 (mo g (nI ta) (nI pa2_79) (nI pe) pd2_80 (nI pb2_81) pp2_82 pf pg pn rt rn (nI cd) sn (nI il) tk am at_ aa 0 0 (-1) wt wy 0 (nI rm) (nI ud) (nI nu) sd (nI qn) (nI qw) qo (nI qb) (nI qp) qa (nI qi) (nI oc)), ra_N (g 0) cI 1600 tb, ra_I (g 70) cC 4 (cw [109, 111, 111, 100]), ra_I (g 71) cC 5 (cw [98, 97, 114, 103, 101]), ra_I (g 72) cC 3 (cw [119, 101, 116]), ra_I (g 73) cC 3 (cw [100, 97, 121]), ra_I (g 74) cC 4 (cw [119, 101, 101, 107]), ra_I (g 75) cC 4 (cw [116, 111, 108, 100]), ra_I (g 76) cC 5 (cw [97, 108, 111, 110, 101]), ra_I (g 77) cC 6 (cw ([110, 117, 109, 98, 101, 114])), ra_I (g 78) cC 4 (cw [109, 117, 116, 101]), ra_I (g 58) cC 5 (cw [102, 105, 114, 115, 116]), ra_I (g 79) cC 5 (cw [119, 101, 101, 107, 115])]) eu_88 hP hD rfl (fun hP hD => ?_)
    refine lv_goto (tgt := 174) hx hb dX12_qAsksWord_141 (by decide) ?_
    exact sk_vret hx hb hr hlocks hK hP hD hS (⟨pa2_79, pd2_80, pb2_81, pp2_82, hpa2_83, hpa3_84, hpb2_85, by omega, (by rw [show o = 7 from (neq o 7 (by omega) (Nat.le_of_ble_eq_true rfl)).mp g_78]; exact hO2_87), rfl⟩) (Nat.le_of_ble_eq_true rfl) (Nat.le_of_ble_eq_true rfl) dX12_qAsksWord_174
  by_cases g_89 : nI o = 8
  · refine lv_tableIn (off := 143) (tgt := 144) hx hb dX12_qAsksWord_1 (by rw [g_89]; decide) (by rw [g_89]; decide) (by rw [g_89]; rfl) (by decide) ?_
    refine lv_aload_n hx hb dX12_qAsksWord_144 rfl (lv_at hl 0 rfl) ?_
    refine lv_aload_n hx hb dX12_qAsksWord_145 rfl (lv_at hl 0 rfl) ?_
    refine sk_get (v := .ref (g 78)) (C := RX12) (T := TX12) (N := 92) hx hb hts inlX12 hown hK hP 0 rfl rfl 78 (Nat.le_of_ble_eq_true rfl) w_5_233 rfl dX12_qAsksWord_146 ?_
    refine sk_Vv (q0 := 0) (n := 1) (rest := []) (wr := fmR om_13_1804 _) ⟨hx, hb, hml, hown, hts⟩ hl.1 (c_em_asks l D cI cJ cC cZ cS mm g ta pa pe pd pb pp pf pg pn rt rn cd sn il tk am at_ aa wt wy rm ud nu sd qn qw qo qb qp qa qi oc tb (g 78) 4 ([109, 117, 116, 101]) og hpa hpe hpb (by omega) (by omega) rfl (wb_of (by decide)) hO htb) w_6_210 w_6_212 w_0_42 w_1_14 w_6_213 hd_X12_asks_1 ⟨⟨(Nat.le_of_ble_eq_true rfl), (Nat.le_of_ble_eq_true rfl)⟩, (Nat.le_of_ble_eq_true rfl), (Nat.le_of_ble_eq_true rfl)⟩ hK hP hD hS hA (fmT om_13_1804 0) (fmF om_13_1804 0) (fm_C1 rfl rfl) (fm_R rfl rfl) (fm_nT om_13_1804 0) (fm_nF om_13_1804 0) (fm_di om_13_1804 0) rfl rfl rfl rfl (Nat.le_of_ble_eq_true rfl) dX12_qAsksWord_149 (fun u H locs hw hP hD hS => ?_)
    refine exE hw (fun pa2_90 hw1 => exE hw1 (fun pd2_91 hw2 => exE hw2 (fun pb2_92 hw3 => exE hw3 (fun pp2_93 hw4 => anE hw4 (fun hpa2_94 hw5 => anE hw5 (fun hpa3_95 hw6 => anE hw6 (fun hpb2_96 hw7 => anE hw7 (fun hpb3_97 hw8 => anE hw8 (fun hO2_98 eu_99 => ?_)))))))))
    clear hw hw1 hw2 hw3 hw4 hw5 hw6 hw7 hw8
    refine o_mgE (ws' := [ro_ mm 12 (mo g (nI ta) (nI pa2_90) (nI pe) pd2_91 (nI pb2_92) pp2_93 pf pg pn rt rn (nI cd) sn (nI il) tk am at_ aa 0 0 (-1) wt wy 0 (nI rm) (nI ud) (nI nu) sd (nI qn) (nI qw) qo (nI qb) (nI qp) qa (nI qi) (nI oc)), ra_N (g 0) cI 1600 tb, ra_I (g 70) cC 4 (cw [109, 111, 111, 100]), ra_I (g 71) cC 5 (cw [98, 97, 114, 103, 101]), ra_I (g 72) cC 3 (cw [119, 101, 116]), ra_I (g 73) cC 3 (cw [100, 97, 121]), ra_I (g 74) cC 4 (cw [119, 101, 101, 107]), ra_I (g 75) cC 4 (cw [116, 111, 108, 100]), ra_I (g 76) cC 5 (cw [97, 108, 111, 110, 101]), ra_I (g 77) cC 6 (cw [110, 117, 109, 98, 101, 114]), ra_I (g 78) cC 4 (cw ([109, 117, 116, 101])), ra_I (g 58) cC 5 (cw [102, 105, 114, 115, 116]), ra_I (g 79) cC 5 (cw [119, 101, 101, 107, 115])]) eu_99 hP hD rfl (fun hP hD => ?_)
    refine lv_goto (tgt := 174) hx hb dX12_qAsksWord_152 (by decide) ?_
    exact sk_vret hx hb hr hlocks hK hP hD hS (⟨pa2_90, pd2_91, pb2_92, pp2_93, hpa2_94, hpa3_95, hpb2_96, by omega, (by rw [show o = 8 from (neq o 8 (by omega) (Nat.le_of_ble_eq_true rfl)).mp g_89]; exact hO2_98), rfl⟩) (Nat.le_of_ble_eq_true rfl) (Nat.le_of_ble_eq_true rfl) dX12_qAsksWord_174
  by_cases g_100 : nI o = 9
  · refine lv_tableIn (off := 154) (tgt := 155) hx hb dX12_qAsksWord_1 (by rw [g_100]; decide) (by rw [g_100]; decide) (by rw [g_100]; rfl) (by decide) ?_
    refine lv_aload_n hx hb dX12_qAsksWord_155 rfl (lv_at hl 0 rfl) ?_
    refine lv_aload_n hx hb dX12_qAsksWord_156 rfl (lv_at hl 0 rfl) ?_
    refine sk_get (v := .ref (g 58)) (C := RX12) (T := TX12) (N := 92) hx hb hts inlX12 hown hK hP 0 rfl rfl 58 (Nat.le_of_ble_eq_true rfl) w_5_213 rfl dX12_qAsksWord_157 ?_
    refine sk_Vv (q0 := 0) (n := 1) (rest := []) (wr := fmR om_13_1802 _) ⟨hx, hb, hml, hown, hts⟩ hl.1 (c_em_asks l D cI cJ cC cZ cS mm g ta pa pe pd pb pp pf pg pn rt rn cd sn il tk am at_ aa wt wy rm ud nu sd qn qw qo qb qp qa qi oc tb (g 58) 5 ([102, 105, 114, 115, 116]) og hpa hpe hpb (by omega) (by omega) rfl (wb_of (by decide)) hO htb) w_6_210 w_6_212 w_0_42 w_1_14 w_6_213 hd_X12_asks_1 ⟨⟨(Nat.le_of_ble_eq_true rfl), (Nat.le_of_ble_eq_true rfl)⟩, (Nat.le_of_ble_eq_true rfl), (Nat.le_of_ble_eq_true rfl)⟩ hK hP hD hS hA (fmT om_13_1802 0) (fmF om_13_1802 0) (fm_C1 rfl rfl) (fm_R rfl rfl) (fm_nT om_13_1802 0) (fm_nF om_13_1802 0) (fm_di om_13_1802 0) rfl rfl rfl rfl (Nat.le_of_ble_eq_true rfl) dX12_qAsksWord_160 (fun u H locs hw hP hD hS => ?_)
    refine exE hw (fun pa2_101 hw1 => exE hw1 (fun pd2_102 hw2 => exE hw2 (fun pb2_103 hw3 => exE hw3 (fun pp2_104 hw4 => anE hw4 (fun hpa2_105 hw5 => anE hw5 (fun hpa3_106 hw6 => anE hw6 (fun hpb2_107 hw7 => anE hw7 (fun hpb3_108 hw8 => anE hw8 (fun hO2_109 eu_110 => ?_)))))))))
    clear hw hw1 hw2 hw3 hw4 hw5 hw6 hw7 hw8
    refine o_mgE (ws' := [ro_ mm 12 (mo g (nI ta) (nI pa2_101) (nI pe) pd2_102 (nI pb2_103) pp2_104 pf pg pn rt rn (nI cd) sn (nI il) tk am at_ aa 0 0 (-1) wt wy 0 (nI rm) (nI ud) (nI nu) sd (nI qn) (nI qw) qo (nI qb) (nI qp) qa (nI qi) (nI oc)), ra_N (g 0) cI 1600 tb, ra_I (g 70) cC 4 (cw [109, 111, 111, 100]), ra_I (g 71) cC 5 (cw [98, 97, 114, 103, 101]), ra_I (g 72) cC 3 (cw [119, 101, 116]), ra_I (g 73) cC 3 (cw [100, 97, 121]), ra_I (g 74) cC 4 (cw [119, 101, 101, 107]), ra_I (g 75) cC 4 (cw [116, 111, 108, 100]), ra_I (g 76) cC 5 (cw [97, 108, 111, 110, 101]), ra_I (g 77) cC 6 (cw [110, 117, 109, 98, 101, 114]), ra_I (g 78) cC 4 (cw [109, 117, 116, 101]), ra_I (g 58) cC 5 (cw ([102, 105, 114, 115, 116])), ra_I (g 79) cC 5 (cw [119, 101, 101, 107, 115])]) eu_110 hP hD rfl (fun hP hD => ?_)
    refine lv_goto (tgt := 174) hx hb dX12_qAsksWord_163 (by decide) ?_
    exact sk_vret hx hb hr hlocks hK hP hD hS (⟨pa2_101, pd2_102, pb2_103, pp2_104, hpa2_105, hpa3_106, hpb2_107, by omega, (by rw [show o = 9 from (neq o 9 (by omega) (Nat.le_of_ble_eq_true rfl)).mp g_100]; exact hO2_109), rfl⟩) (Nat.le_of_ble_eq_true rfl) (Nat.le_of_ble_eq_true rfl) dX12_qAsksWord_174
  refine lv_tableOut (tgt := 166) hx hb dX12_qAsksWord_1 (sk_out (n := 9) (by intro k hk; rcases (show k = 0 ∨ k = 1 ∨ k = 2 ∨ k = 3 ∨ k = 4 ∨ k = 5 ∨ k = 6 ∨ k = 7 ∨ k = 8 ∨ k = 9 by omega) with rfl | rfl | rfl | rfl | rfl | rfl | rfl | rfl | rfl | rfl <;> assumption)) (by decide) ?_
  refine lv_aload_n hx hb dX12_qAsksWord_166 rfl (lv_at hl 0 rfl) ?_
  refine lv_aload_n hx hb dX12_qAsksWord_167 rfl (lv_at hl 0 rfl) ?_
  refine sk_get (v := .ref (g 79)) (C := RX12) (T := TX12) (N := 92) hx hb hts inlX12 hown hK hP 0 rfl rfl 79 (Nat.le_of_ble_eq_true rfl) w_5_234 rfl dX12_qAsksWord_168 ?_
  refine sk_Vv (q0 := 0) (n := 1) (rest := []) (wr := fmR om_13_1801 _) ⟨hx, hb, hml, hown, hts⟩ hl.1 (c_em_asks l D cI cJ cC cZ cS mm g ta pa pe pd pb pp pf pg pn rt rn cd sn il tk am at_ aa wt wy rm ud nu sd qn qw qo qb qp qa qi oc tb (g 79) 5 ([119, 101, 101, 107, 115]) og hpa hpe hpb (by omega) (by omega) rfl (wb_of (by decide)) hO htb) w_6_210 w_6_212 w_0_42 w_1_14 w_6_213 hd_X12_asks_1 ⟨⟨(Nat.le_of_ble_eq_true rfl), (Nat.le_of_ble_eq_true rfl)⟩, (Nat.le_of_ble_eq_true rfl), (Nat.le_of_ble_eq_true rfl)⟩ hK hP hD hS hA (fmT om_13_1801 0) (fmF om_13_1801 0) (fm_C1 rfl rfl) (fm_R rfl rfl) (fm_nT om_13_1801 0) (fm_nF om_13_1801 0) (fm_di om_13_1801 0) rfl rfl rfl rfl (Nat.le_of_ble_eq_true rfl) dX12_qAsksWord_171 (fun u H locs hw hP hD hS => ?_)
  refine exE hw (fun pa2_111 hw1 => exE hw1 (fun pd2_112 hw2 => exE hw2 (fun pb2_113 hw3 => exE hw3 (fun pp2_114 hw4 => anE hw4 (fun hpa2_115 hw5 => anE hw5 (fun hpa3_116 hw6 => anE hw6 (fun hpb2_117 hw7 => anE hw7 (fun hpb3_118 hw8 => anE hw8 (fun hO2_119 eu_120 => ?_)))))))))
  clear hw hw1 hw2 hw3 hw4 hw5 hw6 hw7 hw8
  refine o_mgE (ws' := [ro_ mm 12 (mo g (nI ta) (nI pa2_111) (nI pe) pd2_112 (nI pb2_113) pp2_114 pf pg pn rt rn (nI cd) sn (nI il) tk am at_ aa 0 0 (-1) wt wy 0 (nI rm) (nI ud) (nI nu) sd (nI qn) (nI qw) qo (nI qb) (nI qp) qa (nI qi) (nI oc)), ra_N (g 0) cI 1600 tb, ra_I (g 70) cC 4 (cw [109, 111, 111, 100]), ra_I (g 71) cC 5 (cw [98, 97, 114, 103, 101]), ra_I (g 72) cC 3 (cw [119, 101, 116]), ra_I (g 73) cC 3 (cw [100, 97, 121]), ra_I (g 74) cC 4 (cw [119, 101, 101, 107]), ra_I (g 75) cC 4 (cw [116, 111, 108, 100]), ra_I (g 76) cC 5 (cw [97, 108, 111, 110, 101]), ra_I (g 77) cC 6 (cw [110, 117, 109, 98, 101, 114]), ra_I (g 78) cC 4 (cw [109, 117, 116, 101]), ra_I (g 58) cC 5 (cw [102, 105, 114, 115, 116]), ra_I (g 79) cC 5 (cw ([119, 101, 101, 107, 115]))]) eu_120 hP hD rfl (fun hP hD => ?_)
  exact sk_vret hx hb hr hlocks hK hP hD hS (⟨pa2_111, pd2_112, pb2_113, pp2_114, hpa2_115, hpa3_116, hpb2_117, by omega, (by rw [qa10 ho (by assumption) (by assumption) (by assumption) (by assumption) (by assumption) (by assumption) (by assumption) (by assumption) (by assumption) (by assumption)]; exact hO2_119), rfl⟩) (Nat.le_of_ble_eq_true rfl) (Nat.le_of_ble_eq_true rfl) dX12_qAsksWord_174
set_option maxHeartbeats 4000000 in
set_option maxRecDepth 100000 in
theorem c_em_qCode (l : Launch) (D : va_G) (cI cJ cC cZ cS : ClassId) (mm : Nat) (g : Nat → Nat) (ta : Nat) (pa : Nat) (pe : Nat) (pd : Int32) (pb : Nat) (pp : Int32) (pf : Int32) (pg : Int32) (pn : Int32) (rt : Int32) (rn : Int32) (cd : Nat) (sn : Int32) (il : Nat) (tk : Int32) (am : Int32) (at_ : Int32) (aa : Int32) (wt : Int32) (wy : Int64) (rm : Nat) (ud : Nat) (nu : Nat) (sd : Int64) (qn : Nat) (qw : Nat) (qo : Int32) (qb : Nat) (qp : Nat) (qa : Int64) (qi : Nat) (oc : Nat) (o : Nat) (qs : Nat → Nat) (hqn : qn < 1700) (ho : o ≤ 20000) (hqs : ∀ j, qs j ≤ 20000) : skM l yX12_qCode cX12_qCode 2 none 0 0 0 0 D (skT cI cJ cC cZ cS) [.ref mm, .int (nI o)] [ro_ mm 12 (mo g (nI ta) (nI pa) (nI pe) pd (nI pb) pp pf pg pn rt rn (nI cd) sn (nI il) tk am at_ aa 0 0 (-1) wt wy 0 (nI rm) (nI ud) (nI nu) sd (nI qn) (nI qw) qo (nI qb) (nI qp) qa (nI qi) (nI oc)), ra_N (g 80) cI 1700 qs] (skV D (skT cI cJ cC cZ cS) (fun (u : va_W) => ∃ (qs2 : Nat → Nat), qs2 = updN qs qn o ∧ (∀ j, qs2 j ≤ 20000) ∧ u = [ro_ mm 12 (mo g (nI ta) (nI pa) (nI pe) pd (nI pb) pp pf pg pn rt rn (nI cd) sn (nI il) tk am at_ aa 0 0 (-1) wt wy 0 (nI rm) (nI ud) (nI nu) sd (nI (qn + 1)) (nI qw) qo (nI qb) (nI qp) qa (nI qi) (nI oc)), ra_N (g 80) cI 1700 qs2])) := by
  refine skM_of pf_X12_qCode (Nat.le_of_ble_eq_true rfl) ?_
  intro p e s m below meth c A ls E hP hD hl
  refine skE_el E (fun hx hb hr hml hlocks hin hown hts hK hA => ?_)
  have hown : s.vm.findClass RX12 = some m.cls := hown
  have hS : va_S A s.heap s.heap [] := va_S.rf
  have hl : lv_has ls 2 [(0, .ref mm), (1, .int (nI o))] := hl
  refine lv_aload_n hx hb dX12_qCode_0 rfl (lv_at hl 0 rfl) ?_
  refine sk_get (v := .ref (g 80)) (C := RX12) (T := TX12) (N := 92) hx hb hts inlX12 hown hK hP 0 rfl rfl 80 (Nat.le_of_ble_eq_true rfl) w_5_235 rfl dX12_qCode_1 ?_
  refine lv_aload_n hx hb dX12_qCode_4 rfl (lv_at hl 0 rfl) ?_
  refine sk_get (v := .int (nI qn)) (C := RX12) (T := TX12) (N := 92) hx hb hts inlX12 hown hK hP 0 rfl rfl 81 (Nat.le_of_ble_eq_true rfl) w_5_236 rfl dX12_qCode_5 ?_
  refine lv_iload_n hx hb dX12_qCode_8 rfl (lv_at hl 1 rfl) ?_
  refine sk_iastB (k := qn) (v := o) (B := 20000) (ws' := fun f_1 => [ro_ mm 12 (mo g (nI ta) (nI pa) (nI pe) pd (nI pb) pp pf pg pn rt rn (nI cd) sn (nI il) tk am at_ aa 0 0 (-1) wt wy 0 (nI rm) (nI ud) (nI nu) sd (nI qn) (nI qw) qo (nI qb) (nI qp) qa (nI qi) (nI oc)), ra_N (g 80) cI 1700 f_1]) hx hb hK hP hD hS 1 0 rfl rfl (by omega) (by omega) hqs (by omega) (fun _ => rfl) dX12_qCode_9 (fun f_1 H locs hf_2 ef_3 hP hD hS => ?_)
  refine lv_aload_n hx hb dX12_qCode_10 rfl (lv_at hl 0 rfl) ?_
  refine lv_dup hx hb dX12_qCode_11 rfl ?_
  refine sk_get (v := .int (nI qn)) (C := RX12) (T := TX12) (N := 92) hx hb hts inlX12 hown hK hP 0 rfl rfl 81 (Nat.le_of_ble_eq_true rfl) w_5_236 rfl dX12_qCode_12 ?_
  refine lv_iconst (v := 1) hx hb dX12_qCode_15 ic_1 ?_
  refine lv_iadd hx hb dX12_qCode_16 ?_
  refine sk_top (nI (qn + 1)) (nI_add qn 1) ?_
  refine sk_put (ws' := [ro_ mm 12 (mo g (nI ta) (nI pa) (nI pe) pd (nI pb) pp pf pg pn rt rn (nI cd) sn (nI il) tk am at_ aa 0 0 (-1) wt wy 0 (nI rm) (nI ud) (nI nu) sd (nI (qn + 1)) (nI qw) qo (nI qb) (nI qp) qa (nI qi) (nI oc)), ra_N (g 80) cI 1700 f_1]) (C := RX12) (T := TX12) (N := 92) (v := .int (nI (qn + 1))) hx hb hts inlX12 tyX12 tyX12_ok nmX12 hown hK hP hD hS 0 rfl rfl 81 (Nat.le_of_ble_eq_true rfl) w_5_236 rfl rfl rfl (Nat.le_of_ble_eq_true rfl) rfl dX12_qCode_17 (fun H locs hP hD hS => ?_)
  exact sk_vret hx hb hr hlocks hK hP hD hS (⟨f_1, ef_3, hf_2, rfl⟩) (Nat.le_of_ble_eq_true rfl) (Nat.le_of_ble_eq_true rfl) dX12_qCode_20
set_option maxHeartbeats 4000000 in
set_option maxRecDepth 100000 in
theorem c_em_qOpens (l : Launch) (D : va_G) (cI cJ cC cZ cS : ClassId) (mm : Nat) (g : Nat → Nat) (ta : Nat) (pa : Nat) (pe : Nat) (pd : Int32) (pb : Nat) (pp : Int32) (pf : Int32) (pg : Int32) (pn : Int32) (rt : Int32) (rn : Int32) (cd : Nat) (sn : Int32) (il : Nat) (tk : Int32) (am : Int32) (at_ : Int32) (aa : Int32) (wt : Int32) (wy : Int64) (rm : Nat) (ud : Nat) (nu : Nat) (sd : Int64) (qn : Nat) (qw : Nat) (qo : Int32) (qb : Nat) (qp : Nat) (qa : Int64) (qi : Nat) (oc : Nat) (w : Nat) (o : Int32) (qt : Nat → Nat) (hpb : pb ≤ 5) (hw : w ≤ 100) (hqw : qw < 1700) (hqt : ∀ j, qt j ≤ 100) : skM l yX12_qOpens cX12_qOpens 3 none 1 22 0 0 D (skT cI cJ cC cZ cS) [.ref mm, .int (nI w), .int o] [ro_ mm 12 (mo g (nI ta) (nI pa) (nI pe) pd (nI pb) pp pf pg pn rt rn (nI cd) sn (nI il) tk am at_ aa 0 0 (-1) wt wy 0 (nI rm) (nI ud) (nI nu) sd (nI qn) (nI qw) qo (nI qb) (nI qp) qa (nI qi) (nI oc)), ra_N (g 82) cI 1700 qt] (skV D (skT cI cJ cC cZ cS) (fun (u : va_W) => ∃ (pb2 : Nat), ∃ (pp2 : Int32), ∃ (qo2 : Int32), ∃ (qw2 : Nat), ∃ (qt2 : Nat → Nat), pb2 ≤ 5 ∧ ((pb2 = 0 ∧ pb = 0 ∧ qw2 = qw + 1) ∨ (¬ pb2 = 0 ∧ qw2 = qw)) ∧ (hide (pb2 = 0 → qt2 = updN qt qw w)) ∧ ((pb = 0 ∧ qo = 6 ∧ pb2 = 4 ∧ pp2 = o ∧ qo2 = qo ∧ qw2 = qw ∧ qt2 = qt) ∨ (pb = 0 ∧ ¬ qo = 6 ∧ pb2 = pb ∧ pp2 = pp ∧ qo2 = qo + 1 ∧ qw2 = qw + 1 ∧ qt2 = updN qt qw w) ∨ (¬ pb = 0 ∧ pb2 = pb ∧ pp2 = pp ∧ qo2 = qo ∧ qw2 = qw ∧ qt2 = qt)) ∧ (∀ j, qt2 j ≤ 100) ∧ u = [ro_ mm 12 (mo g (nI ta) (nI pa) (nI pe) pd (nI pb2) pp2 pf pg pn rt rn (nI cd) sn (nI il) tk am at_ aa 0 0 (-1) wt wy 0 (nI rm) (nI ud) (nI nu) sd (nI qn) (nI qw2) qo2 (nI qb) (nI qp) qa (nI qi) (nI oc)), ra_N (g 82) cI 1700 qt2])) := by
  refine skM_of pf_X12_qOpens (Nat.le_of_ble_eq_true rfl) ?_
  intro p e s m below meth c A ls E hP hD hl
  refine skE_el E (fun hx hb hr hml hlocks hin hown hts hK hA => ?_)
  have hown : s.vm.findClass RX12 = some m.cls := hown
  have hS : va_S A s.heap s.heap [] := va_S.rf
  have hl : lv_has ls 3 [(0, .ref mm), (1, .int (nI w)), (2, .int o)] := hl
  refine lv_aload_n hx hb dX12_qOpens_0 rfl (lv_at hl 0 rfl) ?_
  refine sk_get (v := .int (nI pb)) (C := RX12) (T := TX12) (N := 92) hx hb hts inlX12 hown hK hP 0 rfl rfl 5 (Nat.le_of_ble_eq_true rfl) w_5_160 rfl dX12_qOpens_1 ?_
  refine lv_if_eq (tgt := 8) hx hb dX12_qOpens_4 (by decide) (fun c_1 => ?_) (fun c_1 => ?_)
  · have c_1 : pb = 0 := (neq pb 0 (by omega) (Nat.le_of_ble_eq_true rfl)).mp c_1
    refine lv_aload_n hx hb dX12_qOpens_8 rfl (lv_at hl 0 rfl) ?_
    refine sk_get (v := .int qo) (C := RX12) (T := TX12) (N := 92) hx hb hts inlX12 hown hK hP 0 rfl rfl 84 (Nat.le_of_ble_eq_true rfl) w_5_239 rfl dX12_qOpens_9 ?_
    refine lv_bipush (v := 6) hx hb dX12_qOpens_12 (by decide) ?_
    refine lv_icmp_ne (tgt := 24) hx hb dX12_qOpens_14 (by decide) (fun c_2 => ?_) (fun c_2 => ?_)
    · skip
      refine lv_aload_n hx hb dX12_qOpens_24 rfl (lv_at hl 0 rfl) ?_
      refine lv_dup hx hb dX12_qOpens_25 rfl ?_
      refine sk_get (v := .int qo) (C := RX12) (T := TX12) (N := 92) hx hb hts inlX12 hown hK hP 0 rfl rfl 84 (Nat.le_of_ble_eq_true rfl) w_5_239 rfl dX12_qOpens_26 ?_
      refine lv_iconst (v := 1) hx hb dX12_qOpens_29 ic_1 ?_
      refine lv_iadd hx hb dX12_qOpens_30 ?_
      refine lv_topi (fun v_3 ev_3 => ?_)
      refine sk_put (ws' := [ro_ mm 12 (mo g (nI ta) (nI pa) (nI pe) pd (nI pb) pp pf pg pn rt rn (nI cd) sn (nI il) tk am at_ aa 0 0 (-1) wt wy 0 (nI rm) (nI ud) (nI nu) sd (nI qn) (nI qw) v_3 (nI qb) (nI qp) qa (nI qi) (nI oc)), ra_N (g 82) cI 1700 qt]) (C := RX12) (T := TX12) (N := 92) (v := .int v_3) hx hb hts inlX12 tyX12 tyX12_ok nmX12 hown hK hP hD hS 0 rfl rfl 84 (Nat.le_of_ble_eq_true rfl) w_5_239 rfl rfl rfl (Nat.le_of_ble_eq_true rfl) rfl dX12_qOpens_31 (fun H locs hP hD hS => ?_)
      refine lv_aload_n hx hb dX12_qOpens_34 rfl (lv_at hl 0 rfl) ?_
      refine sk_get (v := .ref (g 82)) (C := RX12) (T := TX12) (N := 92) hx hb hts inlX12 hown hK hP 0 rfl rfl 82 (Nat.le_of_ble_eq_true rfl) w_5_237 rfl dX12_qOpens_35 ?_
      refine lv_aload_n hx hb dX12_qOpens_38 rfl (lv_at hl 0 rfl) ?_
      refine sk_get (v := .int (nI qw)) (C := RX12) (T := TX12) (N := 92) hx hb hts inlX12 hown hK hP 0 rfl rfl 83 (Nat.le_of_ble_eq_true rfl) w_5_238 rfl dX12_qOpens_39 ?_
      refine lv_iload_n hx hb dX12_qOpens_42 rfl (lv_at hl 1 rfl) ?_
      refine sk_iastB (k := qw) (v := w) (B := 100) (ws' := fun f_4 => [ro_ mm 12 (mo g (nI ta) (nI pa) (nI pe) pd (nI pb) pp pf pg pn rt rn (nI cd) sn (nI il) tk am at_ aa 0 0 (-1) wt wy 0 (nI rm) (nI ud) (nI nu) sd (nI qn) (nI qw) v_3 (nI qb) (nI qp) qa (nI qi) (nI oc)), ra_N (g 82) cI 1700 f_4]) hx hb hK hP hD hS 1 0 rfl rfl (by omega) (by omega) hqt (by omega) (fun _ => rfl) dX12_qOpens_43 (fun f_4 H locs hf_5 ef_6 hP hD hS => ?_)
      refine lv_aload_n hx hb dX12_qOpens_44 rfl (lv_at hl 0 rfl) ?_
      refine lv_dup hx hb dX12_qOpens_45 rfl ?_
      refine sk_get (v := .int (nI qw)) (C := RX12) (T := TX12) (N := 92) hx hb hts inlX12 hown hK hP 0 rfl rfl 83 (Nat.le_of_ble_eq_true rfl) w_5_238 rfl dX12_qOpens_46 ?_
      refine lv_iconst (v := 1) hx hb dX12_qOpens_49 ic_1 ?_
      refine lv_iadd hx hb dX12_qOpens_50 ?_
      refine sk_top (nI (qw + 1)) (nI_add qw 1) ?_
      refine sk_put (ws' := [ro_ mm 12 (mo g (nI ta) (nI pa) (nI pe) pd (nI pb) pp pf pg pn rt rn (nI cd) sn (nI il) tk am at_ aa 0 0 (-1) wt wy 0 (nI rm) (nI ud) (nI nu) sd (nI qn) (nI (qw + 1)) v_3 (nI qb) (nI qp) qa (nI qi) (nI oc)), ra_N (g 82) cI 1700 f_4]) (C := RX12) (T := TX12) (N := 92) (v := .int (nI (qw + 1))) hx hb hts inlX12 tyX12 tyX12_ok nmX12 hown hK hP hD hS 0 rfl rfl 83 (Nat.le_of_ble_eq_true rfl) w_5_238 rfl rfl rfl (Nat.le_of_ble_eq_true rfl) rfl dX12_qOpens_51 (fun H locs hP hD hS => ?_)
      exact sk_vret hx hb hr hlocks hK hP hD hS (⟨pb, pp, v_3, qw + 1, f_4, hpb, by omega, (fun _ => ef_6), (Or.inr (Or.inl ⟨by omega, c_2, rfl, rfl, ev_3, rfl, ef_6⟩)), hf_5, rfl⟩) (Nat.le_of_ble_eq_true rfl) (Nat.le_of_ble_eq_true rfl) dX12_qOpens_54
    · skip
      refine lv_aload_n hx hb dX12_qOpens_17 rfl (lv_at hl 0 rfl) ?_
      refine lv_iconst (v := 4) hx hb dX12_qOpens_18 ic_4 ?_
      refine lv_iload_n hx hb dX12_qOpens_19 rfl (lv_at hl 2 rfl) ?_
      refine sk_Vv (q0 := 0) (n := 2) (rest := []) (wr := fmR om_2_2 _) ⟨hx, hb, hml, hown, hts⟩ hl.1 (c_em_fail l D cI cJ cC cZ cS mm g ta pa pe pd pb pp pf pg pn rt rn cd sn il tk am at_ aa wt wy rm ud nu sd qn qw qo qb qp qa qi oc 4 o hpb (by omega) (by omega)) w_6_229 w_6_231 w_0_46 w_1_14 w_6_232 hd_X12_fail_2 ⟨⟨(Nat.le_of_ble_eq_true rfl), (Nat.le_of_ble_eq_true rfl)⟩, (Nat.le_of_ble_eq_true rfl), (Nat.le_of_ble_eq_true rfl)⟩ hK hP hD hS hA (fmT om_2_2 0) (fmF om_2_2 0) (fm_C1 rfl rfl) (fm_R rfl rfl) (fm_nT om_2_2 0) (fm_nF om_2_2 0) (fm_di om_2_2 0) rfl rfl rfl rfl (Nat.le_of_ble_eq_true rfl) dX12_qOpens_20 (fun u H locs hw hP hD hS => ?_)
      refine exE hw (fun pb2_7 hw1 => exE hw1 (fun pp2_8 hw2 => anE hw2 (fun hpb2_9 hw3 => anE hw3 (fun hpb3_10 hw4 => anE hw4 (fun hfl_11 eu_12 => ?_)))))
      clear hw hw1 hw2 hw3 hw4
      refine o_mgE (ws' := [ro_ mm 12 (mo g (nI ta) (nI pa) (nI pe) pd (nI pb2_7) pp2_8 pf pg pn rt rn (nI cd) sn (nI il) tk am at_ aa 0 0 (-1) wt wy 0 (nI rm) (nI ud) (nI nu) sd (nI qn) (nI qw) qo (nI qb) (nI qp) qa (nI qi) (nI oc)), ra_N (g 82) cI 1700 qt]) eu_12 hP hD rfl (fun hP hD => ?_)
      exact sk_vret hx hb hr hlocks hK hP hD hS (⟨pb2_7, pp2_8, qo, qw, qt, hpb2_9, by omega, (fun h => absurd h (by omega)), (Or.inl ⟨by omega, c_2, (hfl_11.resolve_right (fun z => z.1 (by omega))).2.1, (hfl_11.resolve_right (fun z => z.1 (by omega))).2.2, rfl, rfl, rfl⟩), hqt, rfl⟩) (Nat.le_of_ble_eq_true rfl) (Nat.le_of_ble_eq_true rfl) dX12_qOpens_23
  · have c_1 : ¬ (pb = 0) := fun h => c_1 ((neq pb 0 (by omega) (Nat.le_of_ble_eq_true rfl)).mpr h)
    exact sk_vret hx hb hr hlocks hK hP hD hS (⟨pb, pp, qo, qw, qt, hpb, by omega, (fun h => absurd h (by omega)), (Or.inr (Or.inr ⟨c_1, rfl, rfl, rfl, rfl, rfl⟩)), hqt, rfl⟩) (Nat.le_of_ble_eq_true rfl) (Nat.le_of_ble_eq_true rfl) dX12_qOpens_7
set_option maxHeartbeats 4000000 in
set_option maxRecDepth 100000 in
theorem c_em_qIsOn (l : Launch) (D : va_G) (cI cJ cC cZ cS : ClassId) (mm : Nat) (g : Nat → Nat) (ta : Nat) (pa : Nat) (pe : Nat) (pd : Int32) (pb : Nat) (pp : Int32) (pf : Int32) (pg : Int32) (pn : Int32) (rt : Int32) (rn : Int32) (cd : Nat) (sn : Int32) (il : Nat) (tk : Int32) (am : Int32) (at_ : Int32) (aa : Int32) (wt : Int32) (wy : Int64) (rm : Nat) (ud : Nat) (nu : Nat) (sd : Int64) (qn : Nat) (qw : Nat) (qo : Int32) (qb : Nat) (qp : Nat) (qa : Int64) (qi : Nat) (oc : Nat) (w : Nat) (qt : Nat → Nat) (hw : w ≤ 100) (hqw : qw ≤ 1700) (hqt : ∀ j, qt j ≤ 100) : skM l yX12_qIsOn cX12_qIsOn 2 (some .boolean) 0 0 0 0 D (skT cI cJ cC cZ cS) [.ref mm, .int (nI w)] [ro_ mm 12 (mo g (nI ta) (nI pa) (nI pe) pd (nI pb) pp pf pg pn rt rn (nI cd) sn (nI il) tk am at_ aa 0 0 (-1) wt wy 0 (nI rm) (nI ud) (nI nu) sd (nI qn) (nI qw) qo (nI qb) (nI qp) qa (nI qi) (nI oc)), ra_N (g 82) cI 1700 qt] (skI D (skT cI cJ cC cZ cS) (fun (r : Int32) (u : va_W) => ∃ (b : Nat), ((b = 0 ∧ (qw = 0 ∨ ¬ qt (qw - 1) = w)) ∨ (b = 1 ∧ 1 ≤ qw ∧ qt (qw - 1) = w)) ∧ r = nI b ∧ u = [ro_ mm 12 (mo g (nI ta) (nI pa) (nI pe) pd (nI pb) pp pf pg pn rt rn (nI cd) sn (nI il) tk am at_ aa 0 0 (-1) wt wy 0 (nI rm) (nI ud) (nI nu) sd (nI qn) (nI qw) qo (nI qb) (nI qp) qa (nI qi) (nI oc)), ra_N (g 82) cI 1700 qt])) := by
  refine skM_of pf_X12_qIsOn (Nat.le_of_ble_eq_true rfl) ?_
  intro p e s m below meth c A ls E hP hD hl
  refine skE_el E (fun hx hb hr hml hlocks hin hown hts hK hA => ?_)
  have hown : s.vm.findClass RX12 = some m.cls := hown
  have hS : va_S A s.heap s.heap [] := va_S.rf
  have hl : lv_has ls 2 [(0, .ref mm), (1, .int (nI w))] := hl
  refine lv_aload_n hx hb dX12_qIsOn_0 rfl (lv_at hl 0 rfl) ?_
  refine sk_get (v := .int (nI qw)) (C := RX12) (T := TX12) (N := 92) hx hb hts inlX12 hown hK hP 0 rfl rfl 83 (Nat.le_of_ble_eq_true rfl) w_5_238 rfl dX12_qIsOn_1 ?_
  refine lv_if_le (tgt := 26) hx hb dX12_qIsOn_4 (by decide) (fun c_1 => ?_) (fun c_1 => ?_)
  · have c_1 : qw ≤ 0 := (nle qw 0 (by omega) (Nat.le_of_ble_eq_true rfl)).mp c_1
    refine lv_iconst (v := 0) hx hb dX12_qIsOn_26 ic_0 ?_
    exact sk_iret hx hb hr rfl hlocks hK hP hD hS (⟨0, by omega, rfl, rfl⟩) (Nat.le_of_ble_eq_true rfl) (Nat.le_of_ble_eq_true rfl) dX12_qIsOn_27
  · have c_1 : ¬ (qw ≤ 0) := fun h => c_1 ((nle qw 0 (by omega) (Nat.le_of_ble_eq_true rfl)).mpr h)
    refine lv_aload_n hx hb dX12_qIsOn_7 rfl (lv_at hl 0 rfl) ?_
    refine sk_get (v := .ref (g 82)) (C := RX12) (T := TX12) (N := 92) hx hb hts inlX12 hown hK hP 0 rfl rfl 82 (Nat.le_of_ble_eq_true rfl) w_5_237 rfl dX12_qIsOn_8 ?_
    refine lv_aload_n hx hb dX12_qIsOn_11 rfl (lv_at hl 0 rfl) ?_
    refine sk_get (v := .int (nI qw)) (C := RX12) (T := TX12) (N := 92) hx hb hts inlX12 hown hK hP 0 rfl rfl 83 (Nat.le_of_ble_eq_true rfl) w_5_238 rfl dX12_qIsOn_12 ?_
    refine lv_iconst (v := 1) hx hb dX12_qIsOn_15 ic_1 ?_
    refine lv_isub hx hb dX12_qIsOn_16 ?_
    refine sk_top (nI (qw - 1)) (nsub qw 1 (by omega)) ?_
    refine va_iald hx hb hK.1 hP 1 0 rfl rfl (vin (qw - 1) 1700 (by omega) (Nat.le_of_ble_eq_true rfl)) dX12_qIsOn_17 ?_
    refine sk_top (nI (qt (qw - 1))) (nrd qt (qw - 1) (by omega)) ?_
    have hb_2 := hqt (qw - 1)
    refine lv_iload_n hx hb dX12_qIsOn_18 rfl (lv_at hl 1 rfl) ?_
    refine lv_icmp_ne (tgt := 26) hx hb dX12_qIsOn_19 (by decide) (fun c_3 => ?_) (fun c_3 => ?_)
    · have c_3 : ¬ (qt (qw - 1) = w) := fun h => c_3 ((neq (qt (qw - 1)) w (by omega) (by omega)).mpr h)
      refine lv_iconst (v := 0) hx hb dX12_qIsOn_26 ic_0 ?_
      exact sk_iret hx hb hr rfl hlocks hK hP hD hS (⟨0, by omega, rfl, rfl⟩) (Nat.le_of_ble_eq_true rfl) (Nat.le_of_ble_eq_true rfl) dX12_qIsOn_27
    · have c_3 : qt (qw - 1) = w := (neq (qt (qw - 1)) w (by omega) (by omega)).mp c_3
      refine lv_iconst (v := 1) hx hb dX12_qIsOn_22 ic_1 ?_
      refine lv_goto (tgt := 27) hx hb dX12_qIsOn_23 (by decide) ?_
      exact sk_iret hx hb hr rfl hlocks hK hP hD hS (⟨1, by omega, rfl, rfl⟩) (Nat.le_of_ble_eq_true rfl) (Nat.le_of_ble_eq_true rfl) dX12_qIsOn_27
set_option maxHeartbeats 4000000 in
set_option maxRecDepth 100000 in
theorem c_em_qDrops (l : Launch) (D : va_G) (cI cJ cC cZ cS : ClassId) (mm : Nat) (g : Nat → Nat) (ta : Nat) (pa : Nat) (pe : Nat) (pd : Int32) (pb : Nat) (pp : Int32) (pf : Int32) (pg : Int32) (pn : Int32) (rt : Int32) (rn : Int32) (cd : Nat) (sn : Int32) (il : Nat) (tk : Int32) (am : Int32) (at_ : Int32) (aa : Int32) (wt : Int32) (wy : Int64) (rm : Nat) (ud : Nat) (nu : Nat) (sd : Int64) (qn : Nat) (qw : Nat) (qo : Int32) (qb : Nat) (qp : Nat) (qa : Int64) (qi : Nat) (oc : Nat) (qs : Nat → Nat) (qt : Nat → Nat) (hqn : qn < 1700) (hqw1 : 1 ≤ qw) (hqw : qw ≤ 1700) (hqs : ∀ j, qs j ≤ 20000) (hqt : ∀ j, qt j ≤ 100) : skM l yX12_qDrops cX12_qDrops 1 none 1 21 0 0 D (skT cI cJ cC cZ cS) [.ref mm] [ro_ mm 12 (mo g (nI ta) (nI pa) (nI pe) pd (nI pb) pp pf pg pn rt rn (nI cd) sn (nI il) tk am at_ aa 0 0 (-1) wt wy 0 (nI rm) (nI ud) (nI nu) sd (nI qn) (nI qw) qo (nI qb) (nI qp) qa (nI qi) (nI oc)), ra_N (g 80) cI 1700 qs, ra_N (g 82) cI 1700 qt] (skV D (skT cI cJ cC cZ cS) (fun (u : va_W) => ∃ (qs2 : Nat → Nat), qs2 = updN qs qn (qt (qw - 1)) ∧ (∀ j, qs2 j ≤ 20000) ∧ u = [ro_ mm 12 (mo g (nI ta) (nI pa) (nI pe) pd (nI pb) pp pf pg pn rt rn (nI cd) sn (nI il) tk am at_ aa 0 0 (-1) wt wy 0 (nI rm) (nI ud) (nI nu) sd (nI (qn + 1)) (nI (qw - 1)) qo (nI qb) (nI qp) qa (nI qi) (nI oc)), ra_N (g 80) cI 1700 qs2, ra_N (g 82) cI 1700 qt])) := by
  refine skM_of pf_X12_qDrops (Nat.le_of_ble_eq_true rfl) ?_
  intro p e s m below meth c A ls E hP hD hl
  refine skE_el E (fun hx hb hr hml hlocks hin hown hts hK hA => ?_)
  have hown : s.vm.findClass RX12 = some m.cls := hown
  have hS : va_S A s.heap s.heap [] := va_S.rf
  have hl : lv_has ls 1 [(0, .ref mm)] := hl
  refine lv_aload_n hx hb dX12_qDrops_0 rfl (lv_at hl 0 rfl) ?_
  refine lv_dup hx hb dX12_qDrops_1 rfl ?_
  refine sk_get (v := .int (nI qw)) (C := RX12) (T := TX12) (N := 92) hx hb hts inlX12 hown hK hP 0 rfl rfl 83 (Nat.le_of_ble_eq_true rfl) w_5_238 rfl dX12_qDrops_2 ?_
  refine lv_iconst (v := 1) hx hb dX12_qDrops_5 ic_1 ?_
  refine lv_isub hx hb dX12_qDrops_6 ?_
  refine sk_top (nI (qw - 1)) (nsub qw 1 (by omega)) ?_
  refine sk_put (ws' := [ro_ mm 12 (mo g (nI ta) (nI pa) (nI pe) pd (nI pb) pp pf pg pn rt rn (nI cd) sn (nI il) tk am at_ aa 0 0 (-1) wt wy 0 (nI rm) (nI ud) (nI nu) sd (nI qn) (nI (qw - 1)) qo (nI qb) (nI qp) qa (nI qi) (nI oc)), ra_N (g 80) cI 1700 qs, ra_N (g 82) cI 1700 qt]) (C := RX12) (T := TX12) (N := 92) (v := .int (nI (qw - 1))) hx hb hts inlX12 tyX12 tyX12_ok nmX12 hown hK hP hD hS 0 rfl rfl 83 (Nat.le_of_ble_eq_true rfl) w_5_238 rfl rfl rfl (Nat.le_of_ble_eq_true rfl) rfl dX12_qDrops_7 (fun H locs hP hD hS => ?_)
  refine lv_aload_n hx hb dX12_qDrops_10 rfl (lv_at hl 0 rfl) ?_
  refine lv_aload_n hx hb dX12_qDrops_11 rfl (lv_at hl 0 rfl) ?_
  refine sk_get (v := .ref (g 82)) (C := RX12) (T := TX12) (N := 92) hx hb hts inlX12 hown hK hP 0 rfl rfl 82 (Nat.le_of_ble_eq_true rfl) w_5_237 rfl dX12_qDrops_12 ?_
  refine lv_aload_n hx hb dX12_qDrops_15 rfl (lv_at hl 0 rfl) ?_
  refine sk_get (v := .int (nI (qw - 1))) (C := RX12) (T := TX12) (N := 92) hx hb hts inlX12 hown hK hP 0 rfl rfl 83 (Nat.le_of_ble_eq_true rfl) w_5_238 rfl dX12_qDrops_16 ?_
  refine va_iald hx hb hK.1 hP 2 0 rfl rfl (vin (qw - 1) 1700 (by omega) (Nat.le_of_ble_eq_true rfl)) dX12_qDrops_19 ?_
  refine sk_top (nI (qt (qw - 1))) (nrd qt (qw - 1) (by omega)) ?_
  have hb_1 := hqt (qw - 1)
  refine sk_Vv (q0 := 0) (n := 1) (rest := []) (wr := fmR om_3_6 _) ⟨hx, hb, hml, hown, hts⟩ hl.1 (c_em_qCode l D cI cJ cC cZ cS mm g ta pa pe pd pb pp pf pg pn rt rn cd sn il tk am at_ aa wt wy rm ud nu sd qn (qw - 1) qo qb qp qa qi oc (qt (qw - 1)) qs hqn (by omega) hqs) w_7_55 w_7_57 w_0_61 w_1_14 w_7_58 hd_X12_qCode_1 ⟨⟨(Nat.le_of_ble_eq_true rfl), (Nat.le_of_ble_eq_true rfl)⟩, (Nat.le_of_ble_eq_true rfl), (Nat.le_of_ble_eq_true rfl)⟩ hK hP hD hS hA (fmT om_3_6 0) (fmF om_3_6 0) (fm_C1 rfl rfl) (fm_R rfl rfl) (fm_nT om_3_6 0) (fm_nF om_3_6 0) (fm_di om_3_6 0) rfl rfl rfl rfl (Nat.le_of_ble_eq_true rfl) dX12_qDrops_20 (fun u H locs hw hP hD hS => ?_)
  refine exE hw (fun qs2_2 hw1 => anE hw1 (fun hqe_3 hw2 => anE hw2 (fun hqs2_4 eu_5 => ?_)))
  clear hw hw1 hw2
  refine o_mgE (ws' := [ro_ mm 12 (mo g (nI ta) (nI pa) (nI pe) pd (nI pb) pp pf pg pn rt rn (nI cd) sn (nI il) tk am at_ aa 0 0 (-1) wt wy 0 (nI rm) (nI ud) (nI nu) sd (nI (qn + 1)) (nI (qw - 1)) qo (nI qb) (nI qp) qa (nI qi) (nI oc)), ra_N (g 80) cI 1700 qs2_2, ra_N (g 82) cI 1700 qt]) eu_5 hP hD rfl (fun hP hD => ?_)
  exact sk_vret hx hb hr hlocks hK hP hD hS (⟨qs2_2, hqe_3, hqs2_4, rfl⟩) (Nat.le_of_ble_eq_true rfl) (Nat.le_of_ble_eq_true rfl) dX12_qDrops_23
set_option maxHeartbeats 4000000 in
set_option maxRecDepth 100000 in
theorem c_em_qIsBracket (l : Launch) (D : va_G) (cI cJ cC cZ cS : ClassId) (o : Nat) (ho : o ≤ 100) : skM l yX12_qIsBracket cX12_qIsBracket 1 (some .boolean) 0 0 0 0 D (skT cI cJ cC cZ cS) [.int (nI o)] [] (skI D (skT cI cJ cC cZ cS) (fun (r : Int32) (u : va_W) => ∃ (b : Nat), ((b = 0 ∧ ¬ (20 ≤ o ∧ o ≤ 24)) ∨ (b = 1 ∧ 20 ≤ o ∧ o ≤ 24)) ∧ r = nI b ∧ u = [])) := by
  refine skM_of pf_X12_qIsBracket (Nat.le_of_ble_eq_true rfl) ?_
  intro p e s m below meth c A ls E hP hD hl
  refine skE_el E (fun hx hb hr hml hlocks hin hown hts hK hA => ?_)
  have hown : s.vm.findClass RX12 = some m.cls := hown
  have hS : va_S A s.heap s.heap [] := va_S.rf
  have hl : lv_has ls 1 [(0, .int (nI o))] := hl
  refine lv_iload_n hx hb dX12_qIsBracket_0 rfl (lv_at hl 0 rfl) ?_
  refine lv_bipush (v := 20) hx hb dX12_qIsBracket_1 (by decide) ?_
  refine lv_icmp_lt (tgt := 16) hx hb dX12_qIsBracket_3 (by decide) (fun c_1 => ?_) (fun c_1 => ?_)
  · have c_1 : o < 20 := (nlt o 20 (by omega) (Nat.le_of_ble_eq_true rfl)).mp c_1
    refine lv_iconst (v := 0) hx hb dX12_qIsBracket_16 ic_0 ?_
    exact sk_iret hx hb hr rfl hlocks hK hP hD hS (⟨0, by omega, rfl, rfl⟩) (Nat.le_of_ble_eq_true rfl) (Nat.le_of_ble_eq_true rfl) dX12_qIsBracket_17
  · have c_1 : ¬ (o < 20) := fun h => c_1 ((nlt o 20 (by omega) (Nat.le_of_ble_eq_true rfl)).mpr h)
    refine lv_iload_n hx hb dX12_qIsBracket_6 rfl (lv_at hl 0 rfl) ?_
    refine lv_bipush (v := 24) hx hb dX12_qIsBracket_7 (by decide) ?_
    refine lv_icmp_gt (tgt := 16) hx hb dX12_qIsBracket_9 (by decide) (fun c_2 => ?_) (fun c_2 => ?_)
    · have c_2 : 24 < o := (nlt 24 o (Nat.le_of_ble_eq_true rfl) (by omega)).mp c_2
      refine lv_iconst (v := 0) hx hb dX12_qIsBracket_16 ic_0 ?_
      exact sk_iret hx hb hr rfl hlocks hK hP hD hS (⟨0, by omega, rfl, rfl⟩) (Nat.le_of_ble_eq_true rfl) (Nat.le_of_ble_eq_true rfl) dX12_qIsBracket_17
    · have c_2 : ¬ (24 < o) := fun h => c_2 ((nlt 24 o (Nat.le_of_ble_eq_true rfl) (by omega)).mpr h)
      refine lv_iconst (v := 1) hx hb dX12_qIsBracket_12 ic_1 ?_
      refine lv_goto (tgt := 17) hx hb dX12_qIsBracket_13 (by decide) ?_
      exact sk_iret hx hb hr rfl hlocks hK hP hD hS (⟨1, by omega, rfl, rfl⟩) (Nat.le_of_ble_eq_true rfl) (Nat.le_of_ble_eq_true rfl) dX12_qIsBracket_17
set_option maxHeartbeats 4000000 in
set_option maxRecDepth 100000 in
theorem c_em_qBracket (l : Launch) (D : va_G) (cI cJ cC cZ cS : ClassId) (mm : Nat) (g : Nat → Nat) (ta : Nat) (pa : Nat) (pe : Nat) (pd : Int32) (pb : Nat) (pp : Int32) (pf : Int32) (pg : Int32) (pn : Int32) (rt : Int32) (rn : Int32) (cd : Nat) (sn : Int32) (il : Nat) (tk : Int32) (am : Int32) (at_ : Int32) (aa : Int32) (wt : Int32) (wy : Int64) (rm : Nat) (ud : Nat) (nu : Nat) (sd : Int64) (qn : Nat) (qw : Nat) (qo : Int32) (qb : Nat) (qp : Nat) (qa : Int64) (qi : Nat) (oc : Nat) (qt : Nat → Nat) (hqw : qw ≤ 1700) (hqb : qb ≤ 1700) (hqt : ∀ j, qt j ≤ 100) : skM l yX12_qBracket cX12_qBracket 2 (some .int) 1 20 0 0 D (skT cI cJ cC cZ cS) [.ref mm] [ro_ mm 12 (mo g (nI ta) (nI pa) (nI pe) pd (nI pb) pp pf pg pn rt rn (nI cd) sn (nI il) tk am at_ aa 0 0 (-1) wt wy 0 (nI rm) (nI ud) (nI nu) sd (nI qn) (nI qw) qo (nI qb) (nI qp) qa (nI qi) (nI oc)), ra_N (g 82) cI 1700 qt] (skI D (skT cI cJ cC cZ cS) (fun (r : Int32) (u : va_W) => lbO qt qb qw r ∧ u = [ro_ mm 12 (mo g (nI ta) (nI pa) (nI pe) pd (nI pb) pp pf pg pn rt rn (nI cd) sn (nI il) tk am at_ aa 0 0 (-1) wt wy 0 (nI rm) (nI ud) (nI nu) sd (nI qn) (nI qw) qo (nI qb) (nI qp) qa (nI qi) (nI oc)), ra_N (g 82) cI 1700 qt])) := by
  refine skM_of pf_X12_qBracket (Nat.le_of_ble_eq_true rfl) ?_
  intro p e s m below meth c A ls E hP hD hl
  refine skE_el E (fun hx hb hr hml hlocks hin hown hts hK hA => ?_)
  have hown : s.vm.findClass RX12 = some m.cls := hown
  have hS : va_S A s.heap s.heap [] := va_S.rf
  have hl : lv_has ls 2 [(0, .ref mm)] := hl
  refine lv_aload_n hx hb dX12_qBracket_0 rfl (lv_at hl 0 rfl) ?_
  refine sk_get (v := .int (nI qw)) (C := RX12) (T := TX12) (N := 92) hx hb hts inlX12 hown hK hP 0 rfl rfl 83 (Nat.le_of_ble_eq_true rfl) w_5_238 rfl dX12_qBracket_1 ?_
  refine lv_iconst (v := 1) hx hb dX12_qBracket_4 ic_1 ?_
  refine lv_isub hx hb dX12_qBracket_5 ?_
  refine lv_istore_n (lv' := [(1, .int (nI qw - 1)), (0, .ref mm)]) hx hb dX12_qBracket_6 rfl hl (by decide) rfl (fun ls hl => ?_)
  have lp_1 : ∀ (n_2 : Nat) (zk : Nat) (H : Heap) (locs : List Loc) (ls : Array Slot), zk < n_2 → (zk ≤ qw) → (nbr qt zk qw) → va_P D vwCl [ro_ mm 12 (mo g (nI ta) (nI pa) (nI pe) pd (nI pb) pp pf pg pn rt rn (nI cd) sn (nI il) tk am at_ aa 0 0 (-1) wt wy 0 (nI rm) (nI ud) (nI nu) sd (nI qn) (nI qw) qo (nI qb) (nI qp) qa (nI qi) (nI oc)), ra_N (g 82) cI 1700 qt] H → va_D A [ro_ mm 12 (mo g (nI ta) (nI pa) (nI pe) pd (nI pb) pp pf pg pn rt rn (nI cd) sn (nI il) tk am at_ aa 0 0 (-1) wt wy 0 (nI rm) (nI ud) (nI nu) sd (nI qn) (nI qw) qo (nI qb) (nI qp) qa (nI qi) (nI oc)), ra_N (g 82) cI 1700 qt] → va_S A s.heap H locs → lv_has ls 2 [(1, .int (nI zk - 1)), (0, .ref mm)] → W p l e { frames := 1, cells := 0, slots := 0, locals := 20 } s m ([.ref mm] : List Value).toArray below meth c H locs 0 0 (MQ below (skI D (skT cI cJ cC cZ cS) (fun (r : Int32) (u : va_W) => lbO qt qb qw r ∧ u = [ro_ mm 12 (mo g (nI ta) (nI pa) (nI pe) pd (nI pb) pp pf pg pn rt rn (nI cd) sn (nI il) tk am at_ aa 0 0 (-1) wt wy 0 (nI rm) (nI ud) (nI nu) sd (nI qn) (nI qw) qo (nI qb) (nI qp) qa (nI qi) (nI oc)), ra_N (g 82) cI 1700 qt]) A) ([.ref mm] : List Value).toArray s 0 0 A) (F0 m 7 ls []) := by
    intro n_2
    induction n_2 with
    | zero => intro zk H locs ls hm; exact absurd hm (Nat.not_lt_zero _)
    | succ n_2 ih_lp_1 =>
      intro zk H locs ls hm hzk hnb hP hD hS hl
      refine lv_iload_n hx hb dX12_qBracket_7 rfl (lv_at hl 0 rfl) ?_
      refine lv_aload_n hx hb dX12_qBracket_8 rfl (lv_at hl 1 rfl) ?_
      refine sk_get (v := .int (nI qb)) (C := RX12) (T := TX12) (N := 92) hx hb hts inlX12 hown hK hP 0 rfl rfl 85 (Nat.le_of_ble_eq_true rfl) w_6_0 rfl dX12_qBracket_9 ?_
      refine lv_icmp_lt (tgt := 33) hx hb dX12_qBracket_12 (by decide) (fun c_3 => ?_) (fun c_3 => ?_)
      · have c_3 : ((zk : Nat) : Int) - 1 < ((qb : Nat) : Int) := (ilt (ivp zk (by omega)) (ivn qb (by omega))).mp c_3
        refine lv_iload_n hx hb dX12_qBracket_33 rfl (lv_at hl 0 rfl) ?_
        refine lv_aload_n hx hb dX12_qBracket_34 rfl (lv_at hl 1 rfl) ?_
        refine sk_get (v := .int (nI qb)) (C := RX12) (T := TX12) (N := 92) hx hb hts inlX12 hown hK hP 0 rfl rfl 85 (Nat.le_of_ble_eq_true rfl) w_6_0 rfl dX12_qBracket_35 ?_
        refine lv_icmp_lt (tgt := 50) hx hb dX12_qBracket_38 (by decide) (fun c_4 => ?_) (fun c => absurd ((ilt (ivp zk (by omega)) (ivn qb (by omega))).mpr (by omega)) c)
        refine lv_iconst (v := (-1)) hx hb dX12_qBracket_50 (by decide) ?_
        exact sk_iret hx hb hr rfl hlocks hK hP hD hS (⟨(lb_none hnb (by omega)), rfl⟩) (Nat.le_of_ble_eq_true rfl) (Nat.le_of_ble_eq_true rfl) dX12_qBracket_51
      · have c_3 : ¬ (((zk : Nat) : Int) - 1 < ((qb : Nat) : Int)) := fun h => c_3 ((ilt (ivp zk (by omega)) (ivn qb (by omega))).mpr h)
        rw [npred zk (by omega)] at hl
        refine lv_aload_n hx hb dX12_qBracket_15 rfl (lv_at hl 1 rfl) ?_
        refine sk_get (v := .ref (g 82)) (C := RX12) (T := TX12) (N := 92) hx hb hts inlX12 hown hK hP 0 rfl rfl 82 (Nat.le_of_ble_eq_true rfl) w_5_237 rfl dX12_qBracket_16 ?_
        refine lv_iload_n hx hb dX12_qBracket_19 rfl (lv_at hl 0 rfl) ?_
        refine va_iald hx hb hK.1 hP 1 0 rfl rfl (vin (zk - 1) 1700 (by omega) (Nat.le_of_ble_eq_true rfl)) dX12_qBracket_20 ?_
        refine sk_top (nI (qt (zk - 1))) (nrd qt (zk - 1) (by omega)) ?_
        have hb_5 := hqt (zk - 1)
        refine sk_Si (n := 1) (rest := []) (wr := [ro_ mm 12 (mo g (nI ta) (nI pa) (nI pe) pd (nI pb) pp pf pg pn rt rn (nI cd) sn (nI il) tk am at_ aa 0 0 (-1) wt wy 0 (nI rm) (nI ud) (nI nu) sd (nI qn) (nI qw) qo (nI qb) (nI qp) qa (nI qi) (nI oc)), ra_N (g 82) cI 1700 qt]) ⟨hx, hb, hml, hown, hts⟩ hl.1 (c_em_qIsBracket l D cI cJ cC cZ cS (qt (zk - 1)) (by omega)) w_7_75 w_7_76 w_1_14 w_7_77 hd_X12_qIsBracket_1 ⟨⟨(Nat.le_of_ble_eq_true rfl), (Nat.le_of_ble_eq_true rfl)⟩, (Nat.le_of_ble_eq_true rfl), (Nat.le_of_ble_eq_true rfl)⟩ hK hP hD hS hA [] [0, 1] rfl rfl (by decide +kernel) (by decide +kernel) (by decide +kernel) rfl rfl (Nat.le_of_ble_eq_true rfl) dX12_qBracket_21 (fun r_7 u H locs hw hP hD hS => ?_)
        obtain ⟨b_6, hb1_8, rfl, rfl⟩ := hw
        refine o_re (ws' := [ro_ mm 12 (mo g (nI ta) (nI pa) (nI pe) pd (nI pb) pp pf pg pn rt rn (nI cd) sn (nI il) tk am at_ aa 0 0 (-1) wt wy 0 (nI rm) (nI ud) (nI nu) sd (nI qn) (nI qw) qo (nI qb) (nI qp) qa (nI qi) (nI oc)), ra_N (g 82) cI 1700 qt]) hP hD rfl (fun hP hD => ?_)
        refine lv_if_ne (tgt := 33) hx hb dX12_qBracket_24 (by decide) (fun c_9 => ?_) (fun c_9 => ?_)
        · have c_9 : ¬ (b_6 = 0) := fun h => c_9 ((neq b_6 0 (by omega) (Nat.le_of_ble_eq_true rfl)).mpr h)
          refine lv_iload_n hx hb dX12_qBracket_33 rfl (lv_at hl 0 rfl) ?_
          refine lv_aload_n hx hb dX12_qBracket_34 rfl (lv_at hl 1 rfl) ?_
          refine sk_get (v := .int (nI qb)) (C := RX12) (T := TX12) (N := 92) hx hb hts inlX12 hown hK hP 0 rfl rfl 85 (Nat.le_of_ble_eq_true rfl) w_6_0 rfl dX12_qBracket_35 ?_
          refine lv_icmp_lt (tgt := 50) hx hb dX12_qBracket_38 (by decide) (fun c => absurd ((nlt (zk - 1) qb (by omega) (by omega)).mp c) (by omega)) (fun c_10 => ?_)
          refine lv_aload_n hx hb dX12_qBracket_41 rfl (lv_at hl 1 rfl) ?_
          refine sk_get (v := .ref (g 82)) (C := RX12) (T := TX12) (N := 92) hx hb hts inlX12 hown hK hP 0 rfl rfl 82 (Nat.le_of_ble_eq_true rfl) w_5_237 rfl dX12_qBracket_42 ?_
          refine lv_iload_n hx hb dX12_qBracket_45 rfl (lv_at hl 0 rfl) ?_
          refine va_iald hx hb hK.1 hP 1 0 rfl rfl (vin (zk - 1) 1700 (by omega) (Nat.le_of_ble_eq_true rfl)) dX12_qBracket_46 ?_
          refine sk_top (nI (qt (zk - 1))) (nrd qt (zk - 1) (by omega)) ?_
          have hb_11 := hqt (zk - 1)
          refine lv_goto (tgt := 51) hx hb dX12_qBracket_47 (by decide) ?_
          exact sk_iret hx hb hr rfl hlocks hK hP hD hS (⟨(lb_some hnb (by omega) (by omega) (by omega) (by omega) (by omega)), rfl⟩) (Nat.le_of_ble_eq_true rfl) (Nat.le_of_ble_eq_true rfl) dX12_qBracket_51
        · have c_9 : b_6 = 0 := (neq b_6 0 (by omega) (Nat.le_of_ble_eq_true rfl)).mp c_9
          refine lv_iinc (v := nI (zk - 1) - 1) (lv' := [(1, .int (nI (zk - 1) - 1)), (0, .ref mm)]) hx hb dX12_qBracket_27 hl (k := 0) rfl (ndn _) (by decide) rfl (fun ls hl => ?_)
          refine lv_goto (tgt := 7) hx hb dX12_qBracket_30 (by decide) ?_
          exact ih_lp_1 (zk - 1) _ _ _ (by omega) (by omega) (nbr_s hnb (by omega)) hP hD hS (lv_sub hl [0, 1] rfl)
  exact lp_1 (qw + 1) qw _ _ _ (Nat.lt_succ_self _) (by omega) nbr_0 hP hD hS (lv_sub hl [0, 1] rfl)
set_option maxHeartbeats 4000000 in
set_option maxRecDepth 100000 in
theorem c_em_qDropsToBracket (l : Launch) (D : va_G) (cI cJ cC cZ cS : ClassId) (mm : Nat) (g : Nat → Nat) (ta : Nat) (pa : Nat) (pe : Nat) (pd : Int32) (pb : Nat) (pp : Int32) (pf : Int32) (pg : Int32) (pn : Int32) (rt : Int32) (rn : Int32) (cd : Nat) (sn : Int32) (il : Nat) (tk : Int32) (am : Int32) (at_ : Int32) (aa : Int32) (wt : Int32) (wy : Int64) (rm : Nat) (ud : Nat) (nu : Nat) (sd : Int64) (qn : Nat) (qw : Nat) (qo : Int32) (qb : Nat) (qp : Nat) (qa : Int64) (qi : Nat) (oc : Nat) (qs : Nat → Nat) (qt : Nat → Nat) (K : Nat) (n0 : Nat) (tb : Nat → Nat) (kn : Nat) (d0 : Nat) (m0 : Nat) (T : Res) (cq : Cur) (hqs_ : qn + qw ≤ 1690) (hqb : qb ≤ 1700) (hsj : SJ (K + 1) n0 qs qn qt qb qw) (hyd : YD tb pe kn d0 m0 qb T cq qs qn qt qw qo) (hs42 : ¬ isS tb pe 42 cq = true) (hs47 : ¬ isS tb pe 47 cq = true) (hqs : ∀ j, qs j ≤ 20000) (hqt : ∀ j, qt j ≤ 100) : skM l yX12_qDropsToBracket cX12_qDropsToBracket 1 none 2 41 0 0 D (skT cI cJ cC cZ cS) [.ref mm] [ro_ mm 12 (mo g (nI ta) (nI pa) (nI pe) pd (nI pb) pp pf pg pn rt rn (nI cd) sn (nI il) tk am at_ aa 0 0 (-1) wt wy 0 (nI rm) (nI ud) (nI nu) sd (nI qn) (nI qw) qo (nI qb) (nI qp) qa (nI qi) (nI oc)), ra_N (g 80) cI 1700 qs, ra_N (g 82) cI 1700 qt] (skV D (skT cI cJ cC cZ cS) (fun (u : va_W) => ∃ (qw2 : Nat), ∃ (qn2 : Nat), ∃ (qs2 : Nat → Nat), SJ (K + 1) n0 qs2 qn2 qt qb qw2 ∧ qn2 + qw2 = qn + qw ∧ qw2 ≤ qw ∧ (qw2 ≤ qb ∨ (20 ≤ qt (qw2 - 1) ∧ qt (qw2 - 1) ≤ 24)) ∧ nbr qt qw2 qw ∧ YD tb pe kn d0 m0 qb T cq qs2 qn2 qt qw2 qo ∧ (∀ j, qs2 j ≤ 20000) ∧ u = [ro_ mm 12 (mo g (nI ta) (nI pa) (nI pe) pd (nI pb) pp pf pg pn rt rn (nI cd) sn (nI il) tk am at_ aa 0 0 (-1) wt wy 0 (nI rm) (nI ud) (nI nu) sd (nI qn2) (nI qw2) qo (nI qb) (nI qp) qa (nI qi) (nI oc)), ra_N (g 80) cI 1700 qs2, ra_N (g 82) cI 1700 qt])) := by
  refine skM_of pf_X12_qDropsToBracket (Nat.le_of_ble_eq_true rfl) ?_
  intro p e s m below meth c A ls E hP hD hl
  refine skE_el E (fun hx hb hr hml hlocks hin hown hts hK hA => ?_)
  have hown : s.vm.findClass RX12 = some m.cls := hown
  have hS : va_S A s.heap s.heap [] := va_S.rf
  have hl : lv_has ls 1 [(0, .ref mm)] := hl
  have lp_1 : ∀ (n_2 : Nat) (zn : Nat) (zw : Nat) (zs : Nat → Nat) (H : Heap) (locs : List Loc) (ls : Array Slot), zw < n_2 → (∀ j, zs j ≤ 20000) → (zn + zw = qn + qw) → (zw ≤ qw) → (SJ (K + 1) n0 zs zn qt qb zw) → (nbr qt zw qw) → (YD tb pe kn d0 m0 qb T cq zs zn qt zw qo) → va_P D vwCl [ro_ mm 12 (mo g (nI ta) (nI pa) (nI pe) pd (nI pb) pp pf pg pn rt rn (nI cd) sn (nI il) tk am at_ aa 0 0 (-1) wt wy 0 (nI rm) (nI ud) (nI nu) sd (nI zn) (nI zw) qo (nI qb) (nI qp) qa (nI qi) (nI oc)), ra_N (g 80) cI 1700 zs, ra_N (g 82) cI 1700 qt] H → va_D A [ro_ mm 12 (mo g (nI ta) (nI pa) (nI pe) pd (nI pb) pp pf pg pn rt rn (nI cd) sn (nI il) tk am at_ aa 0 0 (-1) wt wy 0 (nI rm) (nI ud) (nI nu) sd (nI zn) (nI zw) qo (nI qb) (nI qp) qa (nI qi) (nI oc)), ra_N (g 80) cI 1700 zs, ra_N (g 82) cI 1700 qt] → va_S A s.heap H locs → lv_has ls 1 [(0, .ref mm)] → W p l e { frames := 2, cells := 0, slots := 0, locals := 41 } s m ([.ref mm] : List Value).toArray below meth c H locs 0 0 (MQ below (skV D (skT cI cJ cC cZ cS) (fun (u : va_W) => ∃ (qw2 : Nat), ∃ (qn2 : Nat), ∃ (qs2 : Nat → Nat), SJ (K + 1) n0 qs2 qn2 qt qb qw2 ∧ qn2 + qw2 = qn + qw ∧ qw2 ≤ qw ∧ (qw2 ≤ qb ∨ (20 ≤ qt (qw2 - 1) ∧ qt (qw2 - 1) ≤ 24)) ∧ nbr qt qw2 qw ∧ YD tb pe kn d0 m0 qb T cq qs2 qn2 qt qw2 qo ∧ (∀ j, qs2 j ≤ 20000) ∧ u = [ro_ mm 12 (mo g (nI ta) (nI pa) (nI pe) pd (nI pb) pp pf pg pn rt rn (nI cd) sn (nI il) tk am at_ aa 0 0 (-1) wt wy 0 (nI rm) (nI ud) (nI nu) sd (nI qn2) (nI qw2) qo (nI qb) (nI qp) qa (nI qi) (nI oc)), ra_N (g 80) cI 1700 qs2, ra_N (g 82) cI 1700 qt]) A) ([.ref mm] : List Value).toArray s 0 0 A) (F0 m 0 ls []) := by
    intro n_2
    induction n_2 with
    | zero => intro zn zw zs H locs ls hm; exact absurd hm (Nat.not_lt_zero _)
    | succ n_2 ih_lp_1 =>
      intro zn zw zs H locs ls hm hzs hzs_ hzw hzj hzn hzy hP hD hS hl
      refine lv_aload_n hx hb dX12_qDropsToBracket_0 rfl (lv_at hl 0 rfl) ?_
      refine sk_get (v := .int (nI zw)) (C := RX12) (T := TX12) (N := 92) hx hb hts inlX12 hown hK hP 0 rfl rfl 83 (Nat.le_of_ble_eq_true rfl) w_5_238 rfl dX12_qDropsToBracket_1 ?_
      refine lv_aload_n hx hb dX12_qDropsToBracket_4 rfl (lv_at hl 0 rfl) ?_
      refine sk_get (v := .int (nI qb)) (C := RX12) (T := TX12) (N := 92) hx hb hts inlX12 hown hK hP 0 rfl rfl 85 (Nat.le_of_ble_eq_true rfl) w_6_0 rfl dX12_qDropsToBracket_5 ?_
      refine lv_icmp_le (tgt := 35) hx hb dX12_qDropsToBracket_8 (by decide) (fun c_3 => ?_) (fun c_3 => ?_)
      · have c_3 : zw ≤ qb := (nle zw qb (by omega) (by omega)).mp c_3
        exact sk_vret hx hb hr hlocks hK hP hD hS (⟨zw, zn, zs, hzj, hzs_, hzw, by omega, hzn, hzy, hzs, rfl⟩) (Nat.le_of_ble_eq_true rfl) (Nat.le_of_ble_eq_true rfl) dX12_qDropsToBracket_35
      · have c_3 : ¬ (zw ≤ qb) := fun h => c_3 ((nle zw qb (by omega) (by omega)).mpr h)
        refine lv_aload_n hx hb dX12_qDropsToBracket_11 rfl (lv_at hl 0 rfl) ?_
        refine sk_get (v := .ref (g 82)) (C := RX12) (T := TX12) (N := 92) hx hb hts inlX12 hown hK hP 0 rfl rfl 82 (Nat.le_of_ble_eq_true rfl) w_5_237 rfl dX12_qDropsToBracket_12 ?_
        refine lv_aload_n hx hb dX12_qDropsToBracket_15 rfl (lv_at hl 0 rfl) ?_
        refine sk_get (v := .int (nI zw)) (C := RX12) (T := TX12) (N := 92) hx hb hts inlX12 hown hK hP 0 rfl rfl 83 (Nat.le_of_ble_eq_true rfl) w_5_238 rfl dX12_qDropsToBracket_16 ?_
        refine lv_iconst (v := 1) hx hb dX12_qDropsToBracket_19 ic_1 ?_
        refine lv_isub hx hb dX12_qDropsToBracket_20 ?_
        refine sk_top (nI (zw - 1)) (nsub zw 1 (by omega)) ?_
        refine va_iald hx hb hK.1 hP 2 0 rfl rfl (vin (zw - 1) 1700 (by omega) (Nat.le_of_ble_eq_true rfl)) dX12_qDropsToBracket_21 ?_
        refine sk_top (nI (qt (zw - 1))) (nrd qt (zw - 1) (by omega)) ?_
        have hb_4 := hqt (zw - 1)
        refine sk_Si (n := 1) (rest := []) (wr := [ro_ mm 12 (mo g (nI ta) (nI pa) (nI pe) pd (nI pb) pp pf pg pn rt rn (nI cd) sn (nI il) tk am at_ aa 0 0 (-1) wt wy 0 (nI rm) (nI ud) (nI nu) sd (nI zn) (nI zw) qo (nI qb) (nI qp) qa (nI qi) (nI oc)), ra_N (g 80) cI 1700 zs, ra_N (g 82) cI 1700 qt]) ⟨hx, hb, hml, hown, hts⟩ hl.1 (c_em_qIsBracket l D cI cJ cC cZ cS (qt (zw - 1)) (by omega)) w_7_75 w_7_76 w_1_14 w_7_77 hd_X12_qIsBracket_1 ⟨⟨(Nat.le_of_ble_eq_true rfl), (Nat.le_of_ble_eq_true rfl)⟩, (Nat.le_of_ble_eq_true rfl), (Nat.le_of_ble_eq_true rfl)⟩ hK hP hD hS hA [] [0, 1, 2] rfl rfl (by decide +kernel) (by decide +kernel) (by decide +kernel) rfl rfl (Nat.le_of_ble_eq_true rfl) dX12_qDropsToBracket_22 (fun r_6 u H locs hw hP hD hS => ?_)
        obtain ⟨b_5, hb1_7, rfl, rfl⟩ := hw
        refine o_re (ws' := [ro_ mm 12 (mo g (nI ta) (nI pa) (nI pe) pd (nI pb) pp pf pg pn rt rn (nI cd) sn (nI il) tk am at_ aa 0 0 (-1) wt wy 0 (nI rm) (nI ud) (nI nu) sd (nI zn) (nI zw) qo (nI qb) (nI qp) qa (nI qi) (nI oc)), ra_N (g 80) cI 1700 zs, ra_N (g 82) cI 1700 qt]) hP hD rfl (fun hP hD => ?_)
        refine lv_if_ne (tgt := 35) hx hb dX12_qDropsToBracket_25 (by decide) (fun c_8 => ?_) (fun c_8 => ?_)
        · have c_8 : ¬ (b_5 = 0) := fun h => c_8 ((neq b_5 0 (by omega) (Nat.le_of_ble_eq_true rfl)).mpr h)
          exact sk_vret hx hb hr hlocks hK hP hD hS (⟨zw, zn, zs, hzj, hzs_, hzw, by omega, hzn, hzy, hzs, rfl⟩) (Nat.le_of_ble_eq_true rfl) (Nat.le_of_ble_eq_true rfl) dX12_qDropsToBracket_35
        · have c_8 : b_5 = 0 := (neq b_5 0 (by omega) (Nat.le_of_ble_eq_true rfl)).mp c_8
          refine lv_aload_n hx hb dX12_qDropsToBracket_28 rfl (lv_at hl 0 rfl) ?_
          refine sk_Vv (q0 := 0) (n := 0) (rest := []) (wr := fmR om_3_7 _) ⟨hx, hb, hml, hown, hts⟩ hl.1 (c_em_qDrops l D cI cJ cC cZ cS mm g ta pa pe pd pb pp pf pg pn rt rn cd sn il tk am at_ aa wt wy rm ud nu sd zn zw qo qb qp qa qi oc zs qt (by omega) (by omega) (by omega) hzs hqt) w_7_63 w_7_65 w_0_63 w_1_14 w_7_66 hd_X12_qDrops_0 ⟨⟨(Nat.le_of_ble_eq_true rfl), (Nat.le_of_ble_eq_true rfl)⟩, (Nat.le_of_ble_eq_true rfl), (Nat.le_of_ble_eq_true rfl)⟩ hK hP hD hS hA (fmT om_3_7 0) (fmF om_3_7 0) (fm_C1 rfl rfl) (fm_R rfl rfl) (fm_nT om_3_7 0) (fm_nF om_3_7 0) (fm_di om_3_7 0) rfl rfl rfl rfl (Nat.le_of_ble_eq_true rfl) dX12_qDropsToBracket_29 (fun u H locs hw hP hD hS => ?_)
          refine exE hw (fun qs2_9 hw1 => anE hw1 (fun hqe_10 hw2 => anE hw2 (fun hqs2_11 eu_12 => ?_)))
          clear hw hw1 hw2
          refine o_mgE (ws' := [ro_ mm 12 (mo g (nI ta) (nI pa) (nI pe) pd (nI pb) pp pf pg pn rt rn (nI cd) sn (nI il) tk am at_ aa 0 0 (-1) wt wy 0 (nI rm) (nI ud) (nI nu) sd (nI (zn + 1)) (nI (zw - 1)) qo (nI qb) (nI qp) qa (nI qi) (nI oc)), ra_N (g 80) cI 1700 qs2_9, ra_N (g 82) cI 1700 qt]) eu_12 hP hD rfl (fun hP hD => ?_)
          refine lv_goto (tgt := 0) hx hb dX12_qDropsToBracket_32 (by decide) ?_
          exact ih_lp_1 (zn + 1) (zw - 1) qs2_9 _ _ _ (by omega) hqs2_11 (by omega) (by omega) (SJ_drop hzj (by omega) (by omega) hqe_10) (nbr_s hzn (by omega)) (yd_drop hzy (by omega) (by omega) hs42 hs47 hqe_10) hP hD hS (lv_sub hl [0] rfl)
  exact lp_1 (qw + 1) qn qw qs _ _ _ (Nat.lt_succ_self _) hqs (by omega) (by omega) hsj nbr_0 hyd hP hD hS (lv_sub hl [0] rfl)
set_option maxHeartbeats 4000000 in
set_option maxRecDepth 100000 in
theorem c_em_qEndsPart (l : Launch) (D : va_G) (cI cJ cC cZ cS : ClassId) (mm : Nat) (g : Nat → Nat) (ta : Nat) (pa : Nat) (pe : Nat) (pd : Int32) (pb : Nat) (pp : Int32) (pf : Int32) (pg : Int32) (pn : Int32) (rt : Int32) (rn : Int32) (cd : Nat) (sn : Int32) (il : Nat) (tk : Int32) (am : Int32) (at_ : Int32) (aa : Int32) (wt : Int32) (wy : Int64) (rm : Nat) (ud : Nat) (nu : Nat) (sd : Int64) (qn : Nat) (qw : Nat) (qo : Int32) (qb : Nat) (qp : Nat) (qa : Int64) (qi : Nat) (oc : Nat) (qs : Nat → Nat) (qt : Nat → Nat) (K : Nat) (n0 : Nat) (tb : Nat → Nat) (kn : Nat) (d0 : Nat) (m0 : Nat) (T : Res) (cq : Cur) (hpb : pb ≤ 5) (hqs_ : qn + qw ≤ 1690) (hqb : qb ≤ 1700) (hsj : hide (pb = 0 → SJ (K + 1) n0 qs qn qt qb qw)) (hya : hide (pb = 0 → YY (Xa tb pe kn 0) d0 m0 qb T cq qs qn qt qw qo)) (hqs : ∀ j, qs j ≤ 20000) (hqt : ∀ j, qt j ≤ 100) : skM l yX12_qEndsPart cX12_qEndsPart 1 none 2 41 0 0 D (skT cI cJ cC cZ cS) [.ref mm] [ro_ mm 12 (mo g (nI ta) (nI pa) (nI pe) pd (nI pb) pp pf pg pn rt rn (nI cd) sn (nI il) tk am at_ aa 0 0 (-1) wt wy 0 (nI rm) (nI ud) (nI nu) sd (nI qn) (nI qw) qo (nI qb) (nI qp) qa (nI qi) (nI oc)), ra_N (g 80) cI 1700 qs, ra_N (g 82) cI 1700 qt] (skV D (skT cI cJ cC cZ cS) (fun (u : va_W) => ∃ (qw2 : Nat), ∃ (qn2 : Nat), ∃ (qo2 : Int32), ∃ (qs2 : Nat → Nat), (hide (pb = 0 → SJ (K + 1) n0 qs2 qn2 qt qb qw2)) ∧ qn2 + qw2 = qn + qw ∧ (hide (pb = 0 → (YY (Xa tb pe kn 0) d0 m0 qb T cq qs2 qn2 qt qw2 qo2 ∧ ¬ topO qt qb qw2 = 60))) ∧ (∀ j, qs2 j ≤ 20000) ∧ u = [ro_ mm 12 (mo g (nI ta) (nI pa) (nI pe) pd (nI pb) pp pf pg pn rt rn (nI cd) sn (nI il) tk am at_ aa 0 0 (-1) wt wy 0 (nI rm) (nI ud) (nI nu) sd (nI qn2) (nI qw2) qo2 (nI qb) (nI qp) qa (nI qi) (nI oc)), ra_N (g 80) cI 1700 qs2, ra_N (g 82) cI 1700 qt])) := by
  refine skM_of pf_X12_qEndsPart (Nat.le_of_ble_eq_true rfl) ?_
  intro p e s m below meth c A ls E hP hD hl
  refine skE_el E (fun hx hb hr hml hlocks hin hown hts hK hA => ?_)
  have hown : s.vm.findClass RX12 = some m.cls := hown
  have hS : va_S A s.heap s.heap [] := va_S.rf
  have hl : lv_has ls 1 [(0, .ref mm)] := hl
  have lp_1 : ∀ (n_2 : Nat) (zn : Nat) (zw : Nat) (zo : Int32) (zs : Nat → Nat) (H : Heap) (locs : List Loc) (ls : Array Slot), zw < n_2 → (∀ j, zs j ≤ 20000) → (zn + zw = qn + qw) → (hide (pb = 0 → SJ (K + 1) n0 zs zn qt qb zw)) → (hide (pb = 0 → YY (Xa tb pe kn 0) d0 m0 qb T cq zs zn qt zw zo)) → va_P D vwCl [ro_ mm 12 (mo g (nI ta) (nI pa) (nI pe) pd (nI pb) pp pf pg pn rt rn (nI cd) sn (nI il) tk am at_ aa 0 0 (-1) wt wy 0 (nI rm) (nI ud) (nI nu) sd (nI zn) (nI zw) zo (nI qb) (nI qp) qa (nI qi) (nI oc)), ra_N (g 80) cI 1700 zs, ra_N (g 82) cI 1700 qt] H → va_D A [ro_ mm 12 (mo g (nI ta) (nI pa) (nI pe) pd (nI pb) pp pf pg pn rt rn (nI cd) sn (nI il) tk am at_ aa 0 0 (-1) wt wy 0 (nI rm) (nI ud) (nI nu) sd (nI zn) (nI zw) zo (nI qb) (nI qp) qa (nI qi) (nI oc)), ra_N (g 80) cI 1700 zs, ra_N (g 82) cI 1700 qt] → va_S A s.heap H locs → lv_has ls 1 [(0, .ref mm)] → W p l e { frames := 2, cells := 0, slots := 0, locals := 41 } s m ([.ref mm] : List Value).toArray below meth c H locs 0 0 (MQ below (skV D (skT cI cJ cC cZ cS) (fun (u : va_W) => ∃ (qw2 : Nat), ∃ (qn2 : Nat), ∃ (qo2 : Int32), ∃ (qs2 : Nat → Nat), (hide (pb = 0 → SJ (K + 1) n0 qs2 qn2 qt qb qw2)) ∧ qn2 + qw2 = qn + qw ∧ (hide (pb = 0 → (YY (Xa tb pe kn 0) d0 m0 qb T cq qs2 qn2 qt qw2 qo2 ∧ ¬ topO qt qb qw2 = 60))) ∧ (∀ j, qs2 j ≤ 20000) ∧ u = [ro_ mm 12 (mo g (nI ta) (nI pa) (nI pe) pd (nI pb) pp pf pg pn rt rn (nI cd) sn (nI il) tk am at_ aa 0 0 (-1) wt wy 0 (nI rm) (nI ud) (nI nu) sd (nI qn2) (nI qw2) qo2 (nI qb) (nI qp) qa (nI qi) (nI oc)), ra_N (g 80) cI 1700 qs2, ra_N (g 82) cI 1700 qt]) A) ([.ref mm] : List Value).toArray s 0 0 A) (F0 m 0 ls []) := by
    intro n_2
    induction n_2 with
    | zero => intro zn zw zo zs H locs ls hm; exact absurd hm (Nat.not_lt_zero _)
    | succ n_2 ih_lp_1 =>
      intro zn zw zo zs H locs ls hm hzs hzs_ hzj hzy hP hD hS hl
      refine lv_aload_n hx hb dX12_qEndsPart_0 rfl (lv_at hl 0 rfl) ?_
      refine sk_get (v := .int (nI pb)) (C := RX12) (T := TX12) (N := 92) hx hb hts inlX12 hown hK hP 0 rfl rfl 5 (Nat.le_of_ble_eq_true rfl) w_5_160 rfl dX12_qEndsPart_1 ?_
      refine lv_if_ne (tgt := 51) hx hb dX12_qEndsPart_4 (by decide) (fun c_3 => ?_) (fun c_3 => ?_)
      · have c_3 : ¬ (pb = 0) := fun h => c_3 ((neq pb 0 (by omega) (Nat.le_of_ble_eq_true rfl)).mpr h)
        exact sk_vret hx hb hr hlocks hK hP hD hS (⟨zw, zn, zo, zs, hzj, hzs_, (fun h0 => ⟨hzy h0, by unfold topO; split <;> omega⟩), hzs, rfl⟩) (Nat.le_of_ble_eq_true rfl) (Nat.le_of_ble_eq_true rfl) dX12_qEndsPart_51
      · have c_3 : pb = 0 := (neq pb 0 (by omega) (Nat.le_of_ble_eq_true rfl)).mp c_3
        refine lv_aload_n hx hb dX12_qEndsPart_7 rfl (lv_at hl 0 rfl) ?_
        refine sk_get (v := .int (nI zw)) (C := RX12) (T := TX12) (N := 92) hx hb hts inlX12 hown hK hP 0 rfl rfl 83 (Nat.le_of_ble_eq_true rfl) w_5_238 rfl dX12_qEndsPart_8 ?_
        refine lv_aload_n hx hb dX12_qEndsPart_11 rfl (lv_at hl 0 rfl) ?_
        refine sk_get (v := .int (nI qb)) (C := RX12) (T := TX12) (N := 92) hx hb hts inlX12 hown hK hP 0 rfl rfl 85 (Nat.le_of_ble_eq_true rfl) w_6_0 rfl dX12_qEndsPart_12 ?_
        refine lv_icmp_le (tgt := 51) hx hb dX12_qEndsPart_15 (by decide) (fun c_4 => ?_) (fun c_4 => ?_)
        · have c_4 : zw ≤ qb := (nle zw qb (by omega) (by omega)).mp c_4
          exact sk_vret hx hb hr hlocks hK hP hD hS (⟨zw, zn, zo, zs, hzj, hzs_, (fun h0 => ⟨hzy h0, by unfold topO; split <;> omega⟩), hzs, rfl⟩) (Nat.le_of_ble_eq_true rfl) (Nat.le_of_ble_eq_true rfl) dX12_qEndsPart_51
        · have c_4 : ¬ (zw ≤ qb) := fun h => c_4 ((nle zw qb (by omega) (by omega)).mpr h)
          refine lv_aload_n hx hb dX12_qEndsPart_18 rfl (lv_at hl 0 rfl) ?_
          refine sk_get (v := .ref (g 82)) (C := RX12) (T := TX12) (N := 92) hx hb hts inlX12 hown hK hP 0 rfl rfl 82 (Nat.le_of_ble_eq_true rfl) w_5_237 rfl dX12_qEndsPart_19 ?_
          refine lv_aload_n hx hb dX12_qEndsPart_22 rfl (lv_at hl 0 rfl) ?_
          refine sk_get (v := .int (nI zw)) (C := RX12) (T := TX12) (N := 92) hx hb hts inlX12 hown hK hP 0 rfl rfl 83 (Nat.le_of_ble_eq_true rfl) w_5_238 rfl dX12_qEndsPart_23 ?_
          refine lv_iconst (v := 1) hx hb dX12_qEndsPart_26 ic_1 ?_
          refine lv_isub hx hb dX12_qEndsPart_27 ?_
          refine sk_top (nI (zw - 1)) (nsub zw 1 (by omega)) ?_
          refine va_iald hx hb hK.1 hP 2 0 rfl rfl (vin (zw - 1) 1700 (by omega) (Nat.le_of_ble_eq_true rfl)) dX12_qEndsPart_28 ?_
          refine sk_top (nI (qt (zw - 1))) (nrd qt (zw - 1) (by omega)) ?_
          have hb_5 := hqt (zw - 1)
          refine lv_bipush (v := 60) hx hb dX12_qEndsPart_29 (by decide) ?_
          refine lv_icmp_lt (tgt := 51) hx hb dX12_qEndsPart_31 (by decide) (fun c_6 => ?_) (fun c_6 => ?_)
          · have c_6 : qt (zw - 1) < 60 := (nlt (qt (zw - 1)) 60 (by omega) (Nat.le_of_ble_eq_true rfl)).mp c_6
            exact sk_vret hx hb hr hlocks hK hP hD hS (⟨zw, zn, zo, zs, hzj, hzs_, (fun h0 => ⟨hzy h0, by unfold topO; split <;> omega⟩), hzs, rfl⟩) (Nat.le_of_ble_eq_true rfl) (Nat.le_of_ble_eq_true rfl) dX12_qEndsPart_51
          · have c_6 : ¬ (qt (zw - 1) < 60) := fun h => c_6 ((nlt (qt (zw - 1)) 60 (by omega) (Nat.le_of_ble_eq_true rfl)).mpr h)
            refine lv_aload_n hx hb dX12_qEndsPart_34 rfl (lv_at hl 0 rfl) ?_
            refine lv_dup hx hb dX12_qEndsPart_35 rfl ?_
            refine sk_get (v := .int zo) (C := RX12) (T := TX12) (N := 92) hx hb hts inlX12 hown hK hP 0 rfl rfl 84 (Nat.le_of_ble_eq_true rfl) w_5_239 rfl dX12_qEndsPart_36 ?_
            refine lv_iconst (v := 1) hx hb dX12_qEndsPart_39 ic_1 ?_
            refine lv_isub hx hb dX12_qEndsPart_40 ?_
            refine lv_topi (fun v_7 ev_7 => ?_)
            refine sk_put (ws' := [ro_ mm 12 (mo g (nI ta) (nI pa) (nI pe) pd (nI pb) pp pf pg pn rt rn (nI cd) sn (nI il) tk am at_ aa 0 0 (-1) wt wy 0 (nI rm) (nI ud) (nI nu) sd (nI zn) (nI zw) v_7 (nI qb) (nI qp) qa (nI qi) (nI oc)), ra_N (g 80) cI 1700 zs, ra_N (g 82) cI 1700 qt]) (C := RX12) (T := TX12) (N := 92) (v := .int v_7) hx hb hts inlX12 tyX12 tyX12_ok nmX12 hown hK hP hD hS 0 rfl rfl 84 (Nat.le_of_ble_eq_true rfl) w_5_239 rfl rfl rfl (Nat.le_of_ble_eq_true rfl) rfl dX12_qEndsPart_41 (fun H locs hP hD hS => ?_)
            refine lv_aload_n hx hb dX12_qEndsPart_44 rfl (lv_at hl 0 rfl) ?_
            refine sk_Vv (q0 := 0) (n := 0) (rest := []) (wr := fmR om_3_7 _) ⟨hx, hb, hml, hown, hts⟩ hl.1 (c_em_qDrops l D cI cJ cC cZ cS mm g ta pa pe pd pb pp pf pg pn rt rn cd sn il tk am at_ aa wt wy rm ud nu sd zn zw v_7 qb qp qa qi oc zs qt (by omega) (by omega) (by omega) hzs hqt) w_7_63 w_7_65 w_0_63 w_1_14 w_7_66 hd_X12_qDrops_0 ⟨⟨(Nat.le_of_ble_eq_true rfl), (Nat.le_of_ble_eq_true rfl)⟩, (Nat.le_of_ble_eq_true rfl), (Nat.le_of_ble_eq_true rfl)⟩ hK hP hD hS hA (fmT om_3_7 0) (fmF om_3_7 0) (fm_C1 rfl rfl) (fm_R rfl rfl) (fm_nT om_3_7 0) (fm_nF om_3_7 0) (fm_di om_3_7 0) rfl rfl rfl rfl (Nat.le_of_ble_eq_true rfl) dX12_qEndsPart_45 (fun u H locs hw hP hD hS => ?_)
            refine exE hw (fun qs2_8 hw1 => anE hw1 (fun hqe_9 hw2 => anE hw2 (fun hqs2_10 eu_11 => ?_)))
            clear hw hw1 hw2
            refine o_mgE (ws' := [ro_ mm 12 (mo g (nI ta) (nI pa) (nI pe) pd (nI pb) pp pf pg pn rt rn (nI cd) sn (nI il) tk am at_ aa 0 0 (-1) wt wy 0 (nI rm) (nI ud) (nI nu) sd (nI (zn + 1)) (nI (zw - 1)) v_7 (nI qb) (nI qp) qa (nI qi) (nI oc)), ra_N (g 80) cI 1700 qs2_8, ra_N (g 82) cI 1700 qt]) eu_11 hP hD rfl (fun hP hD => ?_)
            refine lv_goto (tgt := 0) hx hb dX12_qEndsPart_48 (by decide) ?_
            exact ih_lp_1 (zn + 1) (zw - 1) v_7 qs2_8 _ _ _ (by omega) hqs2_10 (by omega) (fun h0 => SJ_drop (hzj h0) (by omega) (by omega) hqe_9) (fun h0 => by have h9 := y_weeks (hzy h0) (by omega) (by omega); rw [← hqe_9, ← ev_7] at h9; exact h9) hP hD hS (lv_sub hl [0] rfl)
  exact lp_1 (qw + 1) qn qw qo qs _ _ _ (Nat.lt_succ_self _) hqs (by omega) hsj hya hP hD hS (lv_sub hl [0] rfl)
def kpO (b : Nat) (qt qt2 : Nat → Nat) : Prop := ∀ j, j < b → qt2 j = qt j
theorem kp_0 {b : Nat} {qt : Nat → Nat} : kpO b qt qt := fun _ _ => rfl
theorem kp_up {b w v : Nat} {qt q1 q2 : Nat → Nat} (h : kpO b qt q1) (hw : b ≤ w) (e : q2 = updN q1 w v) : kpO b qt q2 := fun j hj => by
  rw [e, updN_ne q1 (by omega)]; exact h j hj
theorem kp_tr {b : Nat} {qt q1 q2 : Nat → Nat} (h1 : kpO b qt q1) (h2 : kpO b q1 q2) : kpO b qt q2 := fun j hj => (h2 j hj).trans (h1 j hj)
set_option maxHeartbeats 4000000 in
set_option maxRecDepth 100000 in
theorem c_em_qPartTold (l : Launch) (D : va_G) (cI cJ cC cZ cS : ClassId) (mm : Nat) (g : Nat → Nat) (ta : Nat) (pa : Nat) (pe : Nat) (pd : Int32) (pb : Nat) (pp : Int32) (pf : Int32) (pg : Int32) (pn : Int32) (rt : Int32) (rn : Int32) (cd : Nat) (sn : Int32) (il : Nat) (tk : Int32) (am : Int32) (at_ : Int32) (aa : Int32) (wt : Int32) (wy : Int64) (rm : Nat) (ud : Nat) (nu : Nat) (sd : Int64) (qn : Nat) (qw : Nat) (qo : Int32) (qb : Nat) (qp : Nat) (qa : Int64) (qi : Nat) (oc : Nat) (tb : Nat → Nat) (qs : Nat → Nat) (qt : Nat → Nat) (K : Nat) (n0 : Nat) (a0 : Nat) (d0 : Nat) (m0 : Nat) (T : Res) (kn : Nat) (og : Except Err Cur) (hpa : pa ≤ pe) (hpe : pe ≤ 1600) (hpb : pb ≤ 5) (hpb0 : pb = 0) (hqa : qn + qw + a0 ≤ pa) (hqb : qb ≤ 1700) (htk : tk = nI kn) (hkn : kn ≤ 2) (hsj : SJ K n0 qs qn qt qb qw) (hY : yO (Xp tb pe kn) d0 m0 qb T og qs qn qt qw qo) (hO : moO tb pe og pa pd pb pp) (htb : ∀ j, tb j ≤ 255) (hqs : ∀ j, qs j ≤ 20000) (hqt : ∀ j, qt j ≤ 100) : skM l yX12_qPartTold cX12_qPartTold 6 none 5 106 0 0 D (skT cI cJ cC cZ cS) [.ref mm] [ro_ mm 12 (mo g (nI ta) (nI pa) (nI pe) pd (nI pb) pp pf pg pn rt rn (nI cd) sn (nI il) tk am at_ aa 0 0 (-1) wt wy 0 (nI rm) (nI ud) (nI nu) sd (nI qn) (nI qw) qo (nI qb) (nI qp) qa (nI qi) (nI oc)), ra_N (g 0) cI 1600 tb, ra_N (g 80) cI 1700 qs, ra_N (g 82) cI 1700 qt, ra_I (g 68) cC 3 (cw [109, 105, 110]), ra_I (g 69) cC 3 (cw [109, 97, 120]), ra_I (g 70) cC 4 (cw [109, 111, 111, 100]), ra_I (g 71) cC 5 (cw [98, 97, 114, 103, 101]), ra_I (g 72) cC 3 (cw [119, 101, 116]), ra_I (g 73) cC 3 (cw [100, 97, 121]), ra_I (g 74) cC 4 (cw [119, 101, 101, 107]), ra_I (g 75) cC 4 (cw [116, 111, 108, 100]), ra_I (g 76) cC 5 (cw [97, 108, 111, 110, 101]), ra_I (g 77) cC 6 (cw [110, 117, 109, 98, 101, 114]), ra_I (g 78) cC 4 (cw [109, 117, 116, 101]), ra_I (g 58) cC 5 (cw [102, 105, 114, 115, 116]), ra_I (g 79) cC 5 (cw [119, 101, 101, 107, 115])] (skV D (skT cI cJ cC cZ cS) (fun (u : va_W) => ∃ (o2 : Except Err Cur), ∃ (pa2 : Nat), ∃ (pd2 : Int32), ∃ (pb2 : Nat), ∃ (pp2 : Int32), ∃ (pn2 : Int32), ∃ (qn2 : Nat), ∃ (qw2 : Nat), ∃ (qo2 : Int32), ∃ (qs2 : Nat → Nat), ∃ (qt2 : Nat → Nat), pa ≤ pa2 ∧ pa2 ≤ pe ∧ pb2 ≤ 5 ∧ (¬ pb2 = 0 ∨ (pa + 1 ≤ pa2 ∧ qn2 + qw2 + a0 ≤ pa2)) ∧ qn2 + qw2 + a0 ≤ pa2 + 1 ∧ (hide (pb2 = 0 → SJ (K + 1) n0 qs2 qn2 qt2 qb qw2)) ∧ moO tb pe o2 pa2 pd2 pb2 pp2 ∧ yA tb pe kn d0 m0 qb T o2 qs2 qn2 qt2 qw2 qo2 ∧ (hide (pb2 = 0 → kpO qb qt qt2)) ∧ (∀ j, qs2 j ≤ 20000) ∧ (∀ j, qt2 j ≤ 100) ∧ u = [ro_ mm 12 (mo g (nI ta) (nI pa2) (nI pe) pd2 (nI pb2) pp2 pf pg pn2 rt rn (nI cd) sn (nI il) tk am at_ aa 0 0 (-1) wt wy 0 (nI rm) (nI ud) (nI nu) sd (nI qn2) (nI qw2) qo2 (nI qb) (nI qp) qa (nI qi) (nI oc)), ra_N (g 0) cI 1600 tb, ra_N (g 80) cI 1700 qs2, ra_N (g 82) cI 1700 qt2, ra_I (g 68) cC 3 (cw [109, 105, 110]), ra_I (g 69) cC 3 (cw [109, 97, 120]), ra_I (g 70) cC 4 (cw [109, 111, 111, 100]), ra_I (g 71) cC 5 (cw [98, 97, 114, 103, 101]), ra_I (g 72) cC 3 (cw [119, 101, 116]), ra_I (g 73) cC 3 (cw [100, 97, 121]), ra_I (g 74) cC 4 (cw [119, 101, 101, 107]), ra_I (g 75) cC 4 (cw [116, 111, 108, 100]), ra_I (g 76) cC 5 (cw [97, 108, 111, 110, 101]), ra_I (g 77) cC 6 (cw [110, 117, 109, 98, 101, 114]), ra_I (g 78) cC 4 (cw [109, 117, 116, 101]), ra_I (g 58) cC 5 (cw [102, 105, 114, 115, 116]), ra_I (g 79) cC 5 (cw [119, 101, 101, 107, 115])])) := by
  refine skM_of pf_X12_qPartTold (Nat.le_of_ble_eq_true rfl) ?_
  intro p e s m below meth c A ls E hP hD hl
  refine skE_el E (fun hx hb hr hml hlocks hin hown hts hK hA => ?_)
  have hown : s.vm.findClass RX12 = some m.cls := hown
  have hS : va_S A s.heap s.heap [] := va_S.rf
  have hl : lv_has ls 6 [(0, .ref mm)] := hl
  refine lv_iconst (v := 1) hx hb dX12_qPartTold_0 ic_1 ?_
  refine lv_istore_n (lv' := [(1, .int 1), (0, .ref mm)]) hx hb dX12_qPartTold_1 rfl hl (by decide) rfl (fun ls hl => ?_)
  have lp_1 : ∀ (n_2 : Nat) (mo_ : Nat) (za : Nat) (zd : Int32) (zb : Nat) (zp : Int32) (zo : Int32) (zw : Nat) (zt : Nat → Nat) (zg : Except Err Cur) (H : Heap) (locs : List Loc) (ls : Array Slot), (pe - za) + (5 - zb) + mo_ < n_2 → (∀ j, zt j ≤ 100) → (moO tb pe zg za zd zb zp) → (pa ≤ za) → (za ≤ pe) → (zb ≤ 5) → (mo_ ≤ 1) → (¬ zb = 0 ∨ qn + zw + a0 ≤ za) → (qn + zw + a0 ≤ za + 1) → (hide (zb = 0 → SJ K n0 qs qn zt qb zw)) → (yO (Xp tb pe kn) d0 m0 qb T zg qs qn zt zw zo) → (hide (mo_ = 0 → zb = 0 → notO tb pe kn (cuO tb pe za zd))) → (hide (zb = 0 → kpO qb qt zt)) → va_P D vwCl [ro_ mm 12 (mo g (nI ta) (nI za) (nI pe) zd (nI zb) zp pf pg pn rt rn (nI cd) sn (nI il) tk am at_ aa 0 0 (-1) wt wy 0 (nI rm) (nI ud) (nI nu) sd (nI qn) (nI zw) zo (nI qb) (nI qp) qa (nI qi) (nI oc)), ra_N (g 0) cI 1600 tb, ra_N (g 80) cI 1700 qs, ra_N (g 82) cI 1700 zt, ra_I (g 68) cC 3 (cw [109, 105, 110]), ra_I (g 69) cC 3 (cw [109, 97, 120]), ra_I (g 70) cC 4 (cw [109, 111, 111, 100]), ra_I (g 71) cC 5 (cw [98, 97, 114, 103, 101]), ra_I (g 72) cC 3 (cw [119, 101, 116]), ra_I (g 73) cC 3 (cw [100, 97, 121]), ra_I (g 74) cC 4 (cw [119, 101, 101, 107]), ra_I (g 75) cC 4 (cw [116, 111, 108, 100]), ra_I (g 76) cC 5 (cw [97, 108, 111, 110, 101]), ra_I (g 77) cC 6 (cw [110, 117, 109, 98, 101, 114]), ra_I (g 78) cC 4 (cw [109, 117, 116, 101]), ra_I (g 58) cC 5 (cw [102, 105, 114, 115, 116]), ra_I (g 79) cC 5 (cw [119, 101, 101, 107, 115])] H → va_D A [ro_ mm 12 (mo g (nI ta) (nI za) (nI pe) zd (nI zb) zp pf pg pn rt rn (nI cd) sn (nI il) tk am at_ aa 0 0 (-1) wt wy 0 (nI rm) (nI ud) (nI nu) sd (nI qn) (nI zw) zo (nI qb) (nI qp) qa (nI qi) (nI oc)), ra_N (g 0) cI 1600 tb, ra_N (g 80) cI 1700 qs, ra_N (g 82) cI 1700 zt, ra_I (g 68) cC 3 (cw [109, 105, 110]), ra_I (g 69) cC 3 (cw [109, 97, 120]), ra_I (g 70) cC 4 (cw [109, 111, 111, 100]), ra_I (g 71) cC 5 (cw [98, 97, 114, 103, 101]), ra_I (g 72) cC 3 (cw [119, 101, 116]), ra_I (g 73) cC 3 (cw [100, 97, 121]), ra_I (g 74) cC 4 (cw [119, 101, 101, 107]), ra_I (g 75) cC 4 (cw [116, 111, 108, 100]), ra_I (g 76) cC 5 (cw [97, 108, 111, 110, 101]), ra_I (g 77) cC 6 (cw [110, 117, 109, 98, 101, 114]), ra_I (g 78) cC 4 (cw [109, 117, 116, 101]), ra_I (g 58) cC 5 (cw [102, 105, 114, 115, 116]), ra_I (g 79) cC 5 (cw [119, 101, 101, 107, 115])] → va_S A s.heap H locs → lv_has ls 6 [(1, .int (nI mo_)), (0, .ref mm)] → W p l e { frames := 5, cells := 0, slots := 0, locals := 106 } s m ([.ref mm] : List Value).toArray below meth c H locs 0 0 (MQ below (skV D (skT cI cJ cC cZ cS) (fun (u : va_W) => ∃ (o2 : Except Err Cur), ∃ (pa2 : Nat), ∃ (pd2 : Int32), ∃ (pb2 : Nat), ∃ (pp2 : Int32), ∃ (pn2 : Int32), ∃ (qn2 : Nat), ∃ (qw2 : Nat), ∃ (qo2 : Int32), ∃ (qs2 : Nat → Nat), ∃ (qt2 : Nat → Nat), pa ≤ pa2 ∧ pa2 ≤ pe ∧ pb2 ≤ 5 ∧ (¬ pb2 = 0 ∨ (pa + 1 ≤ pa2 ∧ qn2 + qw2 + a0 ≤ pa2)) ∧ qn2 + qw2 + a0 ≤ pa2 + 1 ∧ (hide (pb2 = 0 → SJ (K + 1) n0 qs2 qn2 qt2 qb qw2)) ∧ moO tb pe o2 pa2 pd2 pb2 pp2 ∧ yA tb pe kn d0 m0 qb T o2 qs2 qn2 qt2 qw2 qo2 ∧ (hide (pb2 = 0 → kpO qb qt qt2)) ∧ (∀ j, qs2 j ≤ 20000) ∧ (∀ j, qt2 j ≤ 100) ∧ u = [ro_ mm 12 (mo g (nI ta) (nI pa2) (nI pe) pd2 (nI pb2) pp2 pf pg pn2 rt rn (nI cd) sn (nI il) tk am at_ aa 0 0 (-1) wt wy 0 (nI rm) (nI ud) (nI nu) sd (nI qn2) (nI qw2) qo2 (nI qb) (nI qp) qa (nI qi) (nI oc)), ra_N (g 0) cI 1600 tb, ra_N (g 80) cI 1700 qs2, ra_N (g 82) cI 1700 qt2, ra_I (g 68) cC 3 (cw [109, 105, 110]), ra_I (g 69) cC 3 (cw [109, 97, 120]), ra_I (g 70) cC 4 (cw [109, 111, 111, 100]), ra_I (g 71) cC 5 (cw [98, 97, 114, 103, 101]), ra_I (g 72) cC 3 (cw [119, 101, 116]), ra_I (g 73) cC 3 (cw [100, 97, 121]), ra_I (g 74) cC 4 (cw [119, 101, 101, 107]), ra_I (g 75) cC 4 (cw [116, 111, 108, 100]), ra_I (g 76) cC 5 (cw [97, 108, 111, 110, 101]), ra_I (g 77) cC 6 (cw [110, 117, 109, 98, 101, 114]), ra_I (g 78) cC 4 (cw [109, 117, 116, 101]), ra_I (g 58) cC 5 (cw [102, 105, 114, 115, 116]), ra_I (g 79) cC 5 (cw [119, 101, 101, 107, 115])]) A) ([.ref mm] : List Value).toArray s 0 0 A) (F0 m 2 ls []) := by
    intro n_2
    induction n_2 with
    | zero => intro mo_ za zd zb zp zo zw zt zg H locs ls hm; exact absurd hm (Nat.not_lt_zero _)
    | succ n_2 ih_lp_1 =>
      intro mo_ za zd zb zp zo zw zt zg H locs ls hm hzt hzO hza hza2 hzb hmo hzq hzq2 hzj hzY hzm hzk hP hD hS hl
      refine lv_iload_n hx hb dX12_qPartTold_2 rfl (lv_at hl 0 rfl) ?_
      refine lv_if_eq (tgt := 186) hx hb dX12_qPartTold_3 (by decide) (fun c_3 => ?_) (fun c_3 => ?_)
      · have c_3 : mo_ = 0 := (neq mo_ 0 (by omega) (Nat.le_of_ble_eq_true rfl)).mp c_3
        refine lv_aload_n hx hb dX12_qPartTold_186 rfl (lv_at hl 1 rfl) ?_
        refine sk_get (v := .int (nI zb)) (C := RX12) (T := TX12) (N := 92) hx hb hts inlX12 hown hK hP 0 rfl rfl 5 (Nat.le_of_ble_eq_true rfl) w_5_160 rfl dX12_qPartTold_187 ?_
        refine lv_if_eq (tgt := 194) hx hb dX12_qPartTold_190 (by decide) (fun c_4 => ?_) (fun c_4 => ?_)
        · have c_4 : zb = 0 := (neq zb 0 (by omega) (Nat.le_of_ble_eq_true rfl)).mp c_4
          have hb0 : zb = 0 := by omega
          obtain ⟨hg, hzp0, hzle, hzpd⟩ := mo_ok hzO hb0
          have hYp := yo_at hzO hb0 hzY
          have hnt := hzm (by omega) hb0
          refine lv_aload_n hx hb dX12_qPartTold_194 rfl (lv_at hl 1 rfl) ?_
          refine lv_iconst (v := 0) hx hb dX12_qPartTold_195 ic_0 ?_
          refine lv_bipush (v := 10) hx hb dX12_qPartTold_196 (by decide) ?_
          refine sk_Vi (q0 := 0) (n := 2) (rest := []) (wr := fmR om_17_187ff _) ⟨hx, hb, hml, hown, hts⟩ hl.1 (c_em_qWordOf l D cI cJ cC cZ cS mm g ta za pe zd zb zp pf pg pn rt rn cd sn il tk am at_ aa wt wy rm ud nu sd qn zw zo qb qp qa qi oc 0 10 tb kn hza2 hpe hzb (by omega) (by omega) htk hkn htb) w_7_35 w_7_37 w_0_56 w_1_14 w_7_38 hd_X12_qWordOf_2 ⟨⟨(Nat.le_of_ble_eq_true rfl), (Nat.le_of_ble_eq_true rfl)⟩, (Nat.le_of_ble_eq_true rfl), (Nat.le_of_ble_eq_true rfl)⟩ hK hP hD hS hA (fmT om_17_187ff 0) (fmF om_17_187ff 0) (fm_C1 rfl rfl) (fm_R rfl rfl) (fm_nT om_17_187ff 0) (fm_nF om_17_187ff 0) (fm_di om_17_187ff 0) rfl rfl rfl rfl (Nat.le_of_ble_eq_true rfl) dX12_qPartTold_198 (fun r_6 u H locs hw hP hD hS => ?_)
          refine exE hw (fun pa2_5 hw1 => anE hw1 (fun hpa2_7 hw2 => anE hw2 (fun hpa3_8 hw3 => anE hw3 (fun hst_9 hw4 => anE hw4 (fun hr1_10 hw5 => anE hw5 (fun hsk_11 hw6 => anE hw6 (fun hwo_12 eu_13 => ?_)))))))
          clear hw hw1 hw2 hw3 hw4 hw5 hw6
          refine o_mgE (ws' := [ro_ mm 12 (mo g (nI ta) (nI pa2_5) (nI pe) zd (nI zb) zp pf pg pn rt rn (nI cd) sn (nI il) tk am at_ aa 0 0 (-1) wt wy 0 (nI rm) (nI ud) (nI nu) sd (nI qn) (nI zw) zo (nI qb) (nI qp) qa (nI qi) (nI oc)), ra_N (g 0) cI 1600 tb, ra_N (g 80) cI 1700 qs, ra_N (g 82) cI 1700 zt, ra_I (g 68) cC 3 (cw [109, 105, 110]), ra_I (g 69) cC 3 (cw [109, 97, 120]), ra_I (g 70) cC 4 (cw [109, 111, 111, 100]), ra_I (g 71) cC 5 (cw [98, 97, 114, 103, 101]), ra_I (g 72) cC 3 (cw [119, 101, 116]), ra_I (g 73) cC 3 (cw [100, 97, 121]), ra_I (g 74) cC 4 (cw [119, 101, 101, 107]), ra_I (g 75) cC 4 (cw [116, 111, 108, 100]), ra_I (g 76) cC 5 (cw [97, 108, 111, 110, 101]), ra_I (g 77) cC 6 (cw [110, 117, 109, 98, 101, 114]), ra_I (g 78) cC 4 (cw [109, 117, 116, 101]), ra_I (g 58) cC 5 (cw [102, 105, 114, 115, 116]), ra_I (g 79) cC 5 (cw [119, 101, 101, 107, 115])]) eu_13 hP hD rfl (fun hP hD => ?_)
          have hO_14 := mo_here hzO hsk_11
          have hcu_15 : pa2_5 = sk tb pe za := (hsk_11.resolve_right (fun z => z.1 hb0)).2
          have hcc_16 : cuO tb pe pa2_5 zd = cuO tb pe za zd := by rw [hcu_15, cuO_sk]
          refine lv_istore_n (lv' := [(2, .int r_6), (1, .int (nI mo_)), (0, .ref mm)]) hx hb dX12_qPartTold_201 rfl hl (by decide) rfl (fun ls hl => ?_)
          refine lv_iload_n hx hb dX12_qPartTold_202 rfl (lv_at hl 0 rfl) ?_
          refine lv_iconst (v := (-1)) hx hb dX12_qPartTold_203 (by decide) ?_
          refine lv_icmp_eq (tgt := 212) hx hb dX12_qPartTold_204 (by decide) (fun c_17 => ?_) (fun c_17 => ?_)
          · have hpi := wo_none (show woO tb pe kn 0 10 (cuO tb pe za zd) zb (-1) from c_17 ▸ hwo_12) hb0
            refine lv_aload_n hx hb dX12_qPartTold_212 rfl (lv_at hl 2 rfl) ?_
            refine lv_iload_n hx hb dX12_qPartTold_213 rfl (lv_at hl 0 rfl) ?_
            refine lv_iconst (v := (-1)) hx hb dX12_qPartTold_214 (by decide) ?_
            refine lv_icmp_eq (tgt := 225) hx hb dX12_qPartTold_215 (by decide) (fun c_18 => ?_) (fun c => absurd c_17 c)
            refine lv_sipush (v := 1000) hx hb dX12_qPartTold_225 (by decide) ?_
            refine lv_aload_n hx hb dX12_qPartTold_228 rfl (lv_at hl 2 rfl) ?_
            refine lv_iconst (v := 0) hx hb dX12_qPartTold_229 ic_0 ?_
            refine lv_sipush (v := 9999) hx hb dX12_qPartTold_230 (by decide) ?_
            refine sk_Vi (q0 := 0) (n := 2) (rest := [.int 1000, .ref mm]) (wr := fmR om_17_18000 _) ⟨hx, hb, hml, hown, hts⟩ hl.1 (c_em_number l D cI cJ cC cZ cS mm g ta pa2_5 pe zd zb zp pf pg pn rt rn cd sn il tk am at_ aa wt wy rm ud nu sd qn zw zo qb qp qa qi oc 0 9999 tb zg hpa3_8 hpe hzb (by omega) (by omega) hO_14 htb) w_6_233 w_6_235 w_0_47 w_1_14 w_6_236 hd_X12_number_2 ⟨⟨(Nat.le_of_ble_eq_true rfl), (Nat.le_of_ble_eq_true rfl)⟩, (Nat.le_of_ble_eq_true rfl), (Nat.le_of_ble_eq_true rfl)⟩ hK hP hD hS hA (fmT om_17_18000 0) (fmF om_17_18000 0) (fm_C1 rfl rfl) (fm_R rfl rfl) (fm_nT om_17_18000 0) (fm_nF om_17_18000 0) (fm_di om_17_18000 0) rfl rfl rfl rfl (Nat.le_of_ble_eq_true rfl) dX12_qPartTold_233 (fun r_25 u H locs hw hP hD hS => ?_)
            refine exE hw (fun nv_19 hw1 => exE hw1 (fun pa2_20 hw2 => exE hw2 (fun pd2_21 hw3 => exE hw3 (fun pb2_22 hw4 => exE hw4 (fun pp2_23 hw5 => exE hw5 (fun pn2_24 hw6 => anE hw6 (fun hpa2_26 hw7 => anE hw7 (fun hpa3_27 hw8 => anE hw8 (fun hpb2_28 hw9 => anE hw9 (fun hpb3_29 hw10 => anE hw10 (fun hnv_30 hw11 => anE hw11 (fun hO2_31 hw12 => anE hw12 (fun hnv2_32 hw13 => anE hw13 (fun hnp_33 hw14 => anE hw14 (fun er_35 eu_34 => ?_)))))))))))))))
            clear hw hw1 hw2 hw3 hw4 hw5 hw6 hw7 hw8 hw9 hw10 hw11 hw12 hw13 hw14
            subst er_35
            refine o_mgE (ws' := [ro_ mm 12 (mo g (nI ta) (nI pa2_20) (nI pe) pd2_21 (nI pb2_22) pp2_23 pf pg pn2_24 rt rn (nI cd) sn (nI il) tk am at_ aa 0 0 (-1) wt wy 0 (nI rm) (nI ud) (nI nu) sd (nI qn) (nI zw) zo (nI qb) (nI qp) qa (nI qi) (nI oc)), ra_N (g 0) cI 1600 tb, ra_N (g 80) cI 1700 qs, ra_N (g 82) cI 1700 zt, ra_I (g 68) cC 3 (cw [109, 105, 110]), ra_I (g 69) cC 3 (cw [109, 97, 120]), ra_I (g 70) cC 4 (cw [109, 111, 111, 100]), ra_I (g 71) cC 5 (cw [98, 97, 114, 103, 101]), ra_I (g 72) cC 3 (cw [119, 101, 116]), ra_I (g 73) cC 3 (cw [100, 97, 121]), ra_I (g 74) cC 4 (cw [119, 101, 101, 107]), ra_I (g 75) cC 4 (cw [116, 111, 108, 100]), ra_I (g 76) cC 5 (cw [97, 108, 111, 110, 101]), ra_I (g 77) cC 6 (cw [110, 117, 109, 98, 101, 114]), ra_I (g 78) cC 4 (cw [109, 117, 116, 101]), ra_I (g 58) cC 5 (cw [102, 105, 114, 115, 116]), ra_I (g 79) cC 5 (cw [119, 101, 101, 107, 115])]) eu_34 hP hD rfl (fun hP hD => ?_)
            refine lv_iadd hx hb dX12_qPartTold_236 ?_
            refine sk_top (nI (1000 + nv_19)) (nI_add 1000 nv_19) ?_
            refine sk_Vv (q0 := 0) (n := 1) (rest := []) (wr := fmR om_17_14000 _) ⟨hx, hb, hml, hown, hts⟩ hl.1 (c_em_qCode l D cI cJ cC cZ cS mm g ta pa2_20 pe pd2_21 pb2_22 pp2_23 pf pg pn2_24 rt rn cd sn il tk am at_ aa wt wy rm ud nu sd qn zw zo qb qp qa qi oc (1000 + nv_19) qs (by omega) (by omega) hqs) w_7_55 w_7_57 w_0_61 w_1_14 w_7_58 hd_X12_qCode_1 ⟨⟨(Nat.le_of_ble_eq_true rfl), (Nat.le_of_ble_eq_true rfl)⟩, (Nat.le_of_ble_eq_true rfl), (Nat.le_of_ble_eq_true rfl)⟩ hK hP hD hS hA (fmT om_17_14000 0) (fmF om_17_14000 0) (fm_C1 rfl rfl) (fm_R rfl rfl) (fm_nT om_17_14000 0) (fm_nF om_17_14000 0) (fm_di om_17_14000 0) rfl rfl rfl rfl (Nat.le_of_ble_eq_true rfl) dX12_qPartTold_237 (fun u H locs hw hP hD hS => ?_)
            refine exE hw (fun qs2_36 hw1 => anE hw1 (fun hqe_37 hw2 => anE hw2 (fun hqs2_38 eu_39 => ?_)))
            clear hw hw1 hw2
            refine o_mgE (ws' := [ro_ mm 12 (mo g (nI ta) (nI pa2_20) (nI pe) pd2_21 (nI pb2_22) pp2_23 pf pg pn2_24 rt rn (nI cd) sn (nI il) tk am at_ aa 0 0 (-1) wt wy 0 (nI rm) (nI ud) (nI nu) sd (nI (qn + 1)) (nI zw) zo (nI qb) (nI qp) qa (nI qi) (nI oc)), ra_N (g 0) cI 1600 tb, ra_N (g 80) cI 1700 qs2_36, ra_N (g 82) cI 1700 zt, ra_I (g 68) cC 3 (cw [109, 105, 110]), ra_I (g 69) cC 3 (cw [109, 97, 120]), ra_I (g 70) cC 4 (cw [109, 111, 111, 100]), ra_I (g 71) cC 5 (cw [98, 97, 114, 103, 101]), ra_I (g 72) cC 3 (cw [119, 101, 116]), ra_I (g 73) cC 3 (cw [100, 97, 121]), ra_I (g 74) cC 4 (cw [119, 101, 101, 107]), ra_I (g 75) cC 4 (cw [116, 111, 108, 100]), ra_I (g 76) cC 5 (cw [97, 108, 111, 110, 101]), ra_I (g 77) cC 6 (cw [110, 117, 109, 98, 101, 114]), ra_I (g 78) cC 4 (cw [109, 117, 116, 101]), ra_I (g 58) cC 5 (cw [102, 105, 114, 115, 116]), ra_I (g 79) cC 5 (cw [119, 101, 101, 107, 115])]) eu_39 hP hD rfl (fun hP hD => ?_)
            have hyA : yO (Xa tb pe kn 0) d0 m0 qb T (bindR zg (nmF tb pe 0 9999)) _ _ zt zw zo := (by rw [hg]; exact y_num hYp hnt hpi (by rw [← hg]; exact hnv2_32))
            rw [← hqe_37] at hyA
            refine lv_aload_n hx hb dX12_qPartTold_240 rfl (lv_at hl 2 rfl) ?_
            refine sk_Vv (q0 := 0) (n := 0) (rest := []) (wr := fmR om_17_16000 _) ⟨hx, hb, hml, hown, hts⟩ hl.1 (c_em_qEndsPart l D cI cJ cC cZ cS mm g ta pa2_20 pe pd2_21 pb2_22 pp2_23 pf pg pn2_24 rt rn cd sn il tk am at_ aa wt wy rm ud nu sd (qn + 1) zw zo qb qp qa qi oc qs2_36 zt K n0 tb kn d0 m0 T (cuO tb pe pa2_20 pd2_21) hpb2_28 (by omega) hqb (fun h0 => SJ_code (hzj (by omega)) (by omega) (by omega) hqe_37) (fun h0 => yo_at hO2_31 h0 hyA) hqs2_38 hzt) w_7_59 w_7_61 w_0_62 w_1_14 w_7_62 hd_X12_qEndsPart_0 ⟨⟨(Nat.le_of_ble_eq_true rfl), (Nat.le_of_ble_eq_true rfl)⟩, (Nat.le_of_ble_eq_true rfl), (Nat.le_of_ble_eq_true rfl)⟩ hK hP hD hS hA (fmT om_17_16000 0) (fmF om_17_16000 0) (fm_C1 rfl rfl) (fm_R rfl rfl) (fm_nT om_17_16000 0) (fm_nF om_17_16000 0) (fm_di om_17_16000 0) rfl rfl rfl rfl (Nat.le_of_ble_eq_true rfl) dX12_qPartTold_241 (fun u H locs hw hP hD hS => ?_)
            refine exE hw (fun qw2_40 hw1 => exE hw1 (fun qn2_41 hw2 => exE hw2 (fun qo2_42 hw3 => exE hw3 (fun qs2_43 hw4 => anE hw4 (fun hsj2_44 hw5 => anE hw5 (fun hsum_45 hw6 => anE hw6 (fun hya2_46 hw7 => anE hw7 (fun hqs2_47 eu_48 => ?_))))))))
            clear hw hw1 hw2 hw3 hw4 hw5 hw6 hw7
            refine o_mgE (ws' := [ro_ mm 12 (mo g (nI ta) (nI pa2_20) (nI pe) pd2_21 (nI pb2_22) pp2_23 pf pg pn2_24 rt rn (nI cd) sn (nI il) tk am at_ aa 0 0 (-1) wt wy 0 (nI rm) (nI ud) (nI nu) sd (nI qn2_41) (nI qw2_40) qo2_42 (nI qb) (nI qp) qa (nI qi) (nI oc)), ra_N (g 0) cI 1600 tb, ra_N (g 80) cI 1700 qs2_43, ra_N (g 82) cI 1700 zt, ra_I (g 68) cC 3 (cw [109, 105, 110]), ra_I (g 69) cC 3 (cw [109, 97, 120]), ra_I (g 70) cC 4 (cw [109, 111, 111, 100]), ra_I (g 71) cC 5 (cw [98, 97, 114, 103, 101]), ra_I (g 72) cC 3 (cw [119, 101, 116]), ra_I (g 73) cC 3 (cw [100, 97, 121]), ra_I (g 74) cC 4 (cw [119, 101, 101, 107]), ra_I (g 75) cC 4 (cw [116, 111, 108, 100]), ra_I (g 76) cC 5 (cw [97, 108, 111, 110, 101]), ra_I (g 77) cC 6 (cw [110, 117, 109, 98, 101, 114]), ra_I (g 78) cC 4 (cw [109, 117, 116, 101]), ra_I (g 58) cC 5 (cw [102, 105, 114, 115, 116]), ra_I (g 79) cC 5 (cw [119, 101, 101, 107, 115])]) eu_48 hP hD rfl (fun hP hD => ?_)
            exact sk_vret hx hb hr hlocks hK hP hD hS (⟨(bindR zg (nmF tb pe 0 9999)), pa2_20, pd2_21, pb2_22, pp2_23, pn2_24, qn2_41, qw2_40, qo2_42, qs2_43, zt, by omega, hpa3_27, hpb2_28, by omega, by omega, hsj2_44, hO2_31, (ya_of hO2_31 (yo_e hyA) hya2_46), (fun h0 => hzk (by omega)), hqs2_47, hzt, rfl⟩) (Nat.le_of_ble_eq_true rfl) (Nat.le_of_ble_eq_true rfl) dX12_qPartTold_244
          · obtain ⟨ko_49, hko_49, h1ko_49, rfl⟩ := hr1_10.resolve_left c_17
            obtain ⟨k9, hk91, hk92, hk93, hk94, hk95, hk96, hk97⟩ := hwo_12.resolve_left (fun hq => c_17 hq.1)
            obtain rfl : ko_49 = k9 := (neq _ _ (by omega) (by omega)).mp hk94
            have hpi := wo_some hk92 hk96 hk97
            refine lv_aload_n hx hb dX12_qPartTold_207 rfl (lv_at hl 2 rfl) ?_
            refine lv_iload_n hx hb dX12_qPartTold_208 rfl (lv_at hl 0 rfl) ?_
            refine sk_Vv (q0 := 0) (n := 1) (rest := []) (wr := fmR om_17_187ff _) ⟨hx, hb, hml, hown, hts⟩ hl.1 (c_em_qAsksWord l D cI cJ cC cZ cS mm g ta pa2_5 pe zd zb zp pf pg pn rt rn cd sn il tk am at_ aa wt wy rm ud nu sd qn zw zo qb qp qa qi oc ko_49 tb zg hpa3_8 hpe hzb (by omega) hO_14 htb) w_7_51 w_7_53 w_0_60 w_1_14 w_7_54 hd_X12_qAsksWord_1 ⟨⟨(Nat.le_of_ble_eq_true rfl), (Nat.le_of_ble_eq_true rfl)⟩, (Nat.le_of_ble_eq_true rfl), (Nat.le_of_ble_eq_true rfl)⟩ hK hP hD hS hA (fmT om_17_187ff 0) (fmF om_17_187ff 0) (fm_C1 rfl rfl) (fm_R rfl rfl) (fm_nT om_17_187ff 0) (fm_nF om_17_187ff 0) (fm_di om_17_187ff 0) rfl rfl rfl rfl (Nat.le_of_ble_eq_true rfl) dX12_qPartTold_209 (fun u H locs hw hP hD hS => ?_)
            refine exE hw (fun pa2_50 hw1 => exE hw1 (fun pd2_51 hw2 => exE hw2 (fun pb2_52 hw3 => exE hw3 (fun pp2_53 hw4 => anE hw4 (fun hpa2_54 hw5 => anE hw5 (fun hpa3_55 hw6 => anE hw6 (fun hpb2_56 hw7 => anE hw7 (fun hpb3_57 hw8 => anE hw8 (fun hO2_58 eu_59 => ?_)))))))))
            clear hw hw1 hw2 hw3 hw4 hw5 hw6 hw7 hw8
            refine o_mgE (ws' := [ro_ mm 12 (mo g (nI ta) (nI pa2_50) (nI pe) pd2_51 (nI pb2_52) pp2_53 pf pg pn rt rn (nI cd) sn (nI il) tk am at_ aa 0 0 (-1) wt wy 0 (nI rm) (nI ud) (nI nu) sd (nI qn) (nI zw) zo (nI qb) (nI qp) qa (nI qi) (nI oc)), ra_N (g 0) cI 1600 tb, ra_N (g 80) cI 1700 qs, ra_N (g 82) cI 1700 zt, ra_I (g 68) cC 3 (cw [109, 105, 110]), ra_I (g 69) cC 3 (cw [109, 97, 120]), ra_I (g 70) cC 4 (cw [109, 111, 111, 100]), ra_I (g 71) cC 5 (cw [98, 97, 114, 103, 101]), ra_I (g 72) cC 3 (cw [119, 101, 116]), ra_I (g 73) cC 3 (cw [100, 97, 121]), ra_I (g 74) cC 4 (cw [119, 101, 101, 107]), ra_I (g 75) cC 4 (cw [116, 111, 108, 100]), ra_I (g 76) cC 5 (cw [97, 108, 111, 110, 101]), ra_I (g 77) cC 6 (cw [110, 117, 109, 98, 101, 114]), ra_I (g 78) cC 4 (cw [109, 117, 116, 101]), ra_I (g 58) cC 5 (cw [102, 105, 114, 115, 116]), ra_I (g 79) cC 5 (cw [119, 101, 101, 107, 115])]) eu_59 hP hD rfl (fun hP hD => ?_)
            refine lv_aload_n hx hb dX12_qPartTold_212 rfl (lv_at hl 2 rfl) ?_
            refine lv_iload_n hx hb dX12_qPartTold_213 rfl (lv_at hl 0 rfl) ?_
            refine lv_iconst (v := (-1)) hx hb dX12_qPartTold_214 (by decide) ?_
            refine lv_icmp_eq (tgt := 225) hx hb dX12_qPartTold_215 (by decide) (fun c => absurd ((ieq (ivn ko_49 (by omega)) (show (-1 : Int32).toInt = -1 by decide)).mp c) (by omega)) (fun c_60 => ?_)
            refine lv_bipush (v := 40) hx hb dX12_qPartTold_218 (by decide) ?_
            refine lv_iload_n hx hb dX12_qPartTold_220 rfl (lv_at hl 0 rfl) ?_
            refine lv_iadd hx hb dX12_qPartTold_221 ?_
            refine sk_top (nI (40 + ko_49)) (nI_add 40 ko_49) ?_
            refine lv_goto (tgt := 237) hx hb dX12_qPartTold_222 (by decide) ?_
            refine sk_Vv (q0 := 0) (n := 1) (rest := []) (wr := fmR om_17_14000 _) ⟨hx, hb, hml, hown, hts⟩ hl.1 (c_em_qCode l D cI cJ cC cZ cS mm g ta pa2_50 pe pd2_51 pb2_52 pp2_53 pf pg pn rt rn cd sn il tk am at_ aa wt wy rm ud nu sd qn zw zo qb qp qa qi oc (40 + ko_49) qs (by omega) (by omega) hqs) w_7_55 w_7_57 w_0_61 w_1_14 w_7_58 hd_X12_qCode_1 ⟨⟨(Nat.le_of_ble_eq_true rfl), (Nat.le_of_ble_eq_true rfl)⟩, (Nat.le_of_ble_eq_true rfl), (Nat.le_of_ble_eq_true rfl)⟩ hK hP hD hS hA (fmT om_17_14000 0) (fmF om_17_14000 0) (fm_C1 rfl rfl) (fm_R rfl rfl) (fm_nT om_17_14000 0) (fm_nF om_17_14000 0) (fm_di om_17_14000 0) rfl rfl rfl rfl (Nat.le_of_ble_eq_true rfl) dX12_qPartTold_237 (fun u H locs hw hP hD hS => ?_)
            refine exE hw (fun qs2_61 hw1 => anE hw1 (fun hqe_62 hw2 => anE hw2 (fun hqs2_63 eu_64 => ?_)))
            clear hw hw1 hw2
            refine o_mgE (ws' := [ro_ mm 12 (mo g (nI ta) (nI pa2_50) (nI pe) pd2_51 (nI pb2_52) pp2_53 pf pg pn rt rn (nI cd) sn (nI il) tk am at_ aa 0 0 (-1) wt wy 0 (nI rm) (nI ud) (nI nu) sd (nI (qn + 1)) (nI zw) zo (nI qb) (nI qp) qa (nI qi) (nI oc)), ra_N (g 0) cI 1600 tb, ra_N (g 80) cI 1700 qs2_61, ra_N (g 82) cI 1700 zt, ra_I (g 68) cC 3 (cw [109, 105, 110]), ra_I (g 69) cC 3 (cw [109, 97, 120]), ra_I (g 70) cC 4 (cw [109, 111, 111, 100]), ra_I (g 71) cC 5 (cw [98, 97, 114, 103, 101]), ra_I (g 72) cC 3 (cw [119, 101, 116]), ra_I (g 73) cC 3 (cw [100, 97, 121]), ra_I (g 74) cC 4 (cw [119, 101, 101, 107]), ra_I (g 75) cC 4 (cw [116, 111, 108, 100]), ra_I (g 76) cC 5 (cw [97, 108, 111, 110, 101]), ra_I (g 77) cC 6 (cw [110, 117, 109, 98, 101, 114]), ra_I (g 78) cC 4 (cw [109, 117, 116, 101]), ra_I (g 58) cC 5 (cw [102, 105, 114, 115, 116]), ra_I (g 79) cC 5 (cw [119, 101, 101, 107, 115])]) eu_64 hP hD rfl (fun hP hD => ?_)
            have hyA : yO (Xa tb pe kn 0) d0 m0 qb T (bindR zg (wordP tb pe (pw11 ko_49))) _ _ zt zw zo := (by rw [hg]; show yO _ _ _ _ _ (wordP tb pe (pw11 ko_49) (cuO tb pe za zd)) _ _ _ _ _; rw [mo_asks2 hk96]; exact y_nameK hYp hnt hpi)
            rw [← hqe_62] at hyA
            refine lv_aload_n hx hb dX12_qPartTold_240 rfl (lv_at hl 2 rfl) ?_
            refine sk_Vv (q0 := 0) (n := 0) (rest := []) (wr := fmR om_17_16000 _) ⟨hx, hb, hml, hown, hts⟩ hl.1 (c_em_qEndsPart l D cI cJ cC cZ cS mm g ta pa2_50 pe pd2_51 pb2_52 pp2_53 pf pg pn rt rn cd sn il tk am at_ aa wt wy rm ud nu sd (qn + 1) zw zo qb qp qa qi oc qs2_61 zt K n0 tb kn d0 m0 T (cuO tb pe pa2_50 pd2_51) hpb2_56 (by omega) hqb (fun h0 => SJ_code (hzj (by omega)) (by omega) (by omega) hqe_62) (fun h0 => yo_at hO2_58 h0 hyA) hqs2_63 hzt) w_7_59 w_7_61 w_0_62 w_1_14 w_7_62 hd_X12_qEndsPart_0 ⟨⟨(Nat.le_of_ble_eq_true rfl), (Nat.le_of_ble_eq_true rfl)⟩, (Nat.le_of_ble_eq_true rfl), (Nat.le_of_ble_eq_true rfl)⟩ hK hP hD hS hA (fmT om_17_16000 0) (fmF om_17_16000 0) (fm_C1 rfl rfl) (fm_R rfl rfl) (fm_nT om_17_16000 0) (fm_nF om_17_16000 0) (fm_di om_17_16000 0) rfl rfl rfl rfl (Nat.le_of_ble_eq_true rfl) dX12_qPartTold_241 (fun u H locs hw hP hD hS => ?_)
            refine exE hw (fun qw2_65 hw1 => exE hw1 (fun qn2_66 hw2 => exE hw2 (fun qo2_67 hw3 => exE hw3 (fun qs2_68 hw4 => anE hw4 (fun hsj2_69 hw5 => anE hw5 (fun hsum_70 hw6 => anE hw6 (fun hya2_71 hw7 => anE hw7 (fun hqs2_72 eu_73 => ?_))))))))
            clear hw hw1 hw2 hw3 hw4 hw5 hw6 hw7
            refine o_mgE (ws' := [ro_ mm 12 (mo g (nI ta) (nI pa2_50) (nI pe) pd2_51 (nI pb2_52) pp2_53 pf pg pn rt rn (nI cd) sn (nI il) tk am at_ aa 0 0 (-1) wt wy 0 (nI rm) (nI ud) (nI nu) sd (nI qn2_66) (nI qw2_65) qo2_67 (nI qb) (nI qp) qa (nI qi) (nI oc)), ra_N (g 0) cI 1600 tb, ra_N (g 80) cI 1700 qs2_68, ra_N (g 82) cI 1700 zt, ra_I (g 68) cC 3 (cw [109, 105, 110]), ra_I (g 69) cC 3 (cw [109, 97, 120]), ra_I (g 70) cC 4 (cw [109, 111, 111, 100]), ra_I (g 71) cC 5 (cw [98, 97, 114, 103, 101]), ra_I (g 72) cC 3 (cw [119, 101, 116]), ra_I (g 73) cC 3 (cw [100, 97, 121]), ra_I (g 74) cC 4 (cw [119, 101, 101, 107]), ra_I (g 75) cC 4 (cw [116, 111, 108, 100]), ra_I (g 76) cC 5 (cw [97, 108, 111, 110, 101]), ra_I (g 77) cC 6 (cw [110, 117, 109, 98, 101, 114]), ra_I (g 78) cC 4 (cw [109, 117, 116, 101]), ra_I (g 58) cC 5 (cw [102, 105, 114, 115, 116]), ra_I (g 79) cC 5 (cw [119, 101, 101, 107, 115])]) eu_73 hP hD rfl (fun hP hD => ?_)
            exact sk_vret hx hb hr hlocks hK hP hD hS (⟨(bindR zg (wordP tb pe (pw11 ko_49))), pa2_50, pd2_51, pb2_52, pp2_53, pn, qn2_66, qw2_65, qo2_67, qs2_68, zt, by omega, hpa3_55, hpb2_56, by omega, by omega, hsj2_69, hO2_58, (ya_of hO2_58 (yo_e hyA) hya2_71), (fun h0 => hzk (by omega)), hqs2_72, hzt, rfl⟩) (Nat.le_of_ble_eq_true rfl) (Nat.le_of_ble_eq_true rfl) dX12_qPartTold_244
        · have c_4 : ¬ (zb = 0) := fun h => c_4 ((neq zb 0 (by omega) (Nat.le_of_ble_eq_true rfl)).mpr h)
          exact sk_vret hx hb hr hlocks hK hP hD hS (⟨zg, za, zd, zb, zp, pn, qn, zw, zo, qs, zt, hza, hza2, hzb, by omega, hzq2, (fun h0 => absurd h0 (by omega)), hzO, (ya_of hzO (yo_e hzY) (fun h0 => absurd h0 (by omega))), (fun h0 => hzk (by omega)), hqs, hzt, rfl⟩) (Nat.le_of_ble_eq_true rfl) (Nat.le_of_ble_eq_true rfl) dX12_qPartTold_193
      · have c_3 : ¬ (mo_ = 0) := fun h => c_3 ((neq mo_ 0 (by omega) (Nat.le_of_ble_eq_true rfl)).mpr h)
        refine lv_aload_n hx hb dX12_qPartTold_6 rfl (lv_at hl 1 rfl) ?_
        refine sk_get (v := .int (nI zb)) (C := RX12) (T := TX12) (N := 92) hx hb hts inlX12 hown hK hP 0 rfl rfl 5 (Nat.le_of_ble_eq_true rfl) w_5_160 rfl dX12_qPartTold_7 ?_
        refine lv_if_ne (tgt := 186) hx hb dX12_qPartTold_10 (by decide) (fun c_74 => ?_) (fun c_74 => ?_)
        · have c_74 : ¬ (zb = 0) := fun h => c_74 ((neq zb 0 (by omega) (Nat.le_of_ble_eq_true rfl)).mpr h)
          refine lv_aload_n hx hb dX12_qPartTold_186 rfl (lv_at hl 1 rfl) ?_
          refine sk_get (v := .int (nI zb)) (C := RX12) (T := TX12) (N := 92) hx hb hts inlX12 hown hK hP 0 rfl rfl 5 (Nat.le_of_ble_eq_true rfl) w_5_160 rfl dX12_qPartTold_187 ?_
          refine lv_if_eq (tgt := 194) hx hb dX12_qPartTold_190 (by decide) (fun c_75 => ?_) (fun c_75 => ?_)
          · have c_75 : zb = 0 := (neq zb 0 (by omega) (Nat.le_of_ble_eq_true rfl)).mp c_75
            have hb0 : zb = 0 := by omega
            obtain ⟨hg, hzp0, hzle, hzpd⟩ := mo_ok hzO hb0
            have hYp := yo_at hzO hb0 hzY
            have hnt := hzm (by omega) hb0
            refine lv_aload_n hx hb dX12_qPartTold_194 rfl (lv_at hl 1 rfl) ?_
            refine lv_iconst (v := 0) hx hb dX12_qPartTold_195 ic_0 ?_
            refine lv_bipush (v := 10) hx hb dX12_qPartTold_196 (by decide) ?_
            refine sk_Vi (q0 := 0) (n := 2) (rest := []) (wr := fmR om_17_187ff _) ⟨hx, hb, hml, hown, hts⟩ hl.1 (c_em_qWordOf l D cI cJ cC cZ cS mm g ta za pe zd zb zp pf pg pn rt rn cd sn il tk am at_ aa wt wy rm ud nu sd qn zw zo qb qp qa qi oc 0 10 tb kn hza2 hpe hzb (by omega) (by omega) htk hkn htb) w_7_35 w_7_37 w_0_56 w_1_14 w_7_38 hd_X12_qWordOf_2 ⟨⟨(Nat.le_of_ble_eq_true rfl), (Nat.le_of_ble_eq_true rfl)⟩, (Nat.le_of_ble_eq_true rfl), (Nat.le_of_ble_eq_true rfl)⟩ hK hP hD hS hA (fmT om_17_187ff 0) (fmF om_17_187ff 0) (fm_C1 rfl rfl) (fm_R rfl rfl) (fm_nT om_17_187ff 0) (fm_nF om_17_187ff 0) (fm_di om_17_187ff 0) rfl rfl rfl rfl (Nat.le_of_ble_eq_true rfl) dX12_qPartTold_198 (fun r_77 u H locs hw hP hD hS => ?_)
            refine exE hw (fun pa2_76 hw1 => anE hw1 (fun hpa2_78 hw2 => anE hw2 (fun hpa3_79 hw3 => anE hw3 (fun hst_80 hw4 => anE hw4 (fun hr1_81 hw5 => anE hw5 (fun hsk_82 hw6 => anE hw6 (fun hwo_83 eu_84 => ?_)))))))
            clear hw hw1 hw2 hw3 hw4 hw5 hw6
            refine o_mgE (ws' := [ro_ mm 12 (mo g (nI ta) (nI pa2_76) (nI pe) zd (nI zb) zp pf pg pn rt rn (nI cd) sn (nI il) tk am at_ aa 0 0 (-1) wt wy 0 (nI rm) (nI ud) (nI nu) sd (nI qn) (nI zw) zo (nI qb) (nI qp) qa (nI qi) (nI oc)), ra_N (g 0) cI 1600 tb, ra_N (g 80) cI 1700 qs, ra_N (g 82) cI 1700 zt, ra_I (g 68) cC 3 (cw [109, 105, 110]), ra_I (g 69) cC 3 (cw [109, 97, 120]), ra_I (g 70) cC 4 (cw [109, 111, 111, 100]), ra_I (g 71) cC 5 (cw [98, 97, 114, 103, 101]), ra_I (g 72) cC 3 (cw [119, 101, 116]), ra_I (g 73) cC 3 (cw [100, 97, 121]), ra_I (g 74) cC 4 (cw [119, 101, 101, 107]), ra_I (g 75) cC 4 (cw [116, 111, 108, 100]), ra_I (g 76) cC 5 (cw [97, 108, 111, 110, 101]), ra_I (g 77) cC 6 (cw [110, 117, 109, 98, 101, 114]), ra_I (g 78) cC 4 (cw [109, 117, 116, 101]), ra_I (g 58) cC 5 (cw [102, 105, 114, 115, 116]), ra_I (g 79) cC 5 (cw [119, 101, 101, 107, 115])]) eu_84 hP hD rfl (fun hP hD => ?_)
            have hO_85 := mo_here hzO hsk_82
            have hcu_86 : pa2_76 = sk tb pe za := (hsk_82.resolve_right (fun z => z.1 hb0)).2
            have hcc_87 : cuO tb pe pa2_76 zd = cuO tb pe za zd := by rw [hcu_86, cuO_sk]
            refine lv_istore_n (lv' := [(2, .int r_77), (1, .int (nI mo_)), (0, .ref mm)]) hx hb dX12_qPartTold_201 rfl hl (by decide) rfl (fun ls hl => ?_)
            refine lv_iload_n hx hb dX12_qPartTold_202 rfl (lv_at hl 0 rfl) ?_
            refine lv_iconst (v := (-1)) hx hb dX12_qPartTold_203 (by decide) ?_
            refine lv_icmp_eq (tgt := 212) hx hb dX12_qPartTold_204 (by decide) (fun c_88 => ?_) (fun c_88 => ?_)
            · have hpi := wo_none (show woO tb pe kn 0 10 (cuO tb pe za zd) zb (-1) from c_88 ▸ hwo_83) hb0
              refine lv_aload_n hx hb dX12_qPartTold_212 rfl (lv_at hl 2 rfl) ?_
              refine lv_iload_n hx hb dX12_qPartTold_213 rfl (lv_at hl 0 rfl) ?_
              refine lv_iconst (v := (-1)) hx hb dX12_qPartTold_214 (by decide) ?_
              refine lv_icmp_eq (tgt := 225) hx hb dX12_qPartTold_215 (by decide) (fun c_89 => ?_) (fun c => absurd c_88 c)
              refine lv_sipush (v := 1000) hx hb dX12_qPartTold_225 (by decide) ?_
              refine lv_aload_n hx hb dX12_qPartTold_228 rfl (lv_at hl 2 rfl) ?_
              refine lv_iconst (v := 0) hx hb dX12_qPartTold_229 ic_0 ?_
              refine lv_sipush (v := 9999) hx hb dX12_qPartTold_230 (by decide) ?_
              refine sk_Vi (q0 := 0) (n := 2) (rest := [.int 1000, .ref mm]) (wr := fmR om_17_18000 _) ⟨hx, hb, hml, hown, hts⟩ hl.1 (c_em_number l D cI cJ cC cZ cS mm g ta pa2_76 pe zd zb zp pf pg pn rt rn cd sn il tk am at_ aa wt wy rm ud nu sd qn zw zo qb qp qa qi oc 0 9999 tb zg hpa3_79 hpe hzb (by omega) (by omega) hO_85 htb) w_6_233 w_6_235 w_0_47 w_1_14 w_6_236 hd_X12_number_2 ⟨⟨(Nat.le_of_ble_eq_true rfl), (Nat.le_of_ble_eq_true rfl)⟩, (Nat.le_of_ble_eq_true rfl), (Nat.le_of_ble_eq_true rfl)⟩ hK hP hD hS hA (fmT om_17_18000 0) (fmF om_17_18000 0) (fm_C1 rfl rfl) (fm_R rfl rfl) (fm_nT om_17_18000 0) (fm_nF om_17_18000 0) (fm_di om_17_18000 0) rfl rfl rfl rfl (Nat.le_of_ble_eq_true rfl) dX12_qPartTold_233 (fun r_96 u H locs hw hP hD hS => ?_)
              refine exE hw (fun nv_90 hw1 => exE hw1 (fun pa2_91 hw2 => exE hw2 (fun pd2_92 hw3 => exE hw3 (fun pb2_93 hw4 => exE hw4 (fun pp2_94 hw5 => exE hw5 (fun pn2_95 hw6 => anE hw6 (fun hpa2_97 hw7 => anE hw7 (fun hpa3_98 hw8 => anE hw8 (fun hpb2_99 hw9 => anE hw9 (fun hpb3_100 hw10 => anE hw10 (fun hnv_101 hw11 => anE hw11 (fun hO2_102 hw12 => anE hw12 (fun hnv2_103 hw13 => anE hw13 (fun hnp_104 hw14 => anE hw14 (fun er_106 eu_105 => ?_)))))))))))))))
              clear hw hw1 hw2 hw3 hw4 hw5 hw6 hw7 hw8 hw9 hw10 hw11 hw12 hw13 hw14
              subst er_106
              refine o_mgE (ws' := [ro_ mm 12 (mo g (nI ta) (nI pa2_91) (nI pe) pd2_92 (nI pb2_93) pp2_94 pf pg pn2_95 rt rn (nI cd) sn (nI il) tk am at_ aa 0 0 (-1) wt wy 0 (nI rm) (nI ud) (nI nu) sd (nI qn) (nI zw) zo (nI qb) (nI qp) qa (nI qi) (nI oc)), ra_N (g 0) cI 1600 tb, ra_N (g 80) cI 1700 qs, ra_N (g 82) cI 1700 zt, ra_I (g 68) cC 3 (cw [109, 105, 110]), ra_I (g 69) cC 3 (cw [109, 97, 120]), ra_I (g 70) cC 4 (cw [109, 111, 111, 100]), ra_I (g 71) cC 5 (cw [98, 97, 114, 103, 101]), ra_I (g 72) cC 3 (cw [119, 101, 116]), ra_I (g 73) cC 3 (cw [100, 97, 121]), ra_I (g 74) cC 4 (cw [119, 101, 101, 107]), ra_I (g 75) cC 4 (cw [116, 111, 108, 100]), ra_I (g 76) cC 5 (cw [97, 108, 111, 110, 101]), ra_I (g 77) cC 6 (cw [110, 117, 109, 98, 101, 114]), ra_I (g 78) cC 4 (cw [109, 117, 116, 101]), ra_I (g 58) cC 5 (cw [102, 105, 114, 115, 116]), ra_I (g 79) cC 5 (cw [119, 101, 101, 107, 115])]) eu_105 hP hD rfl (fun hP hD => ?_)
              refine lv_iadd hx hb dX12_qPartTold_236 ?_
              refine sk_top (nI (1000 + nv_90)) (nI_add 1000 nv_90) ?_
              refine sk_Vv (q0 := 0) (n := 1) (rest := []) (wr := fmR om_17_14000 _) ⟨hx, hb, hml, hown, hts⟩ hl.1 (c_em_qCode l D cI cJ cC cZ cS mm g ta pa2_91 pe pd2_92 pb2_93 pp2_94 pf pg pn2_95 rt rn cd sn il tk am at_ aa wt wy rm ud nu sd qn zw zo qb qp qa qi oc (1000 + nv_90) qs (by omega) (by omega) hqs) w_7_55 w_7_57 w_0_61 w_1_14 w_7_58 hd_X12_qCode_1 ⟨⟨(Nat.le_of_ble_eq_true rfl), (Nat.le_of_ble_eq_true rfl)⟩, (Nat.le_of_ble_eq_true rfl), (Nat.le_of_ble_eq_true rfl)⟩ hK hP hD hS hA (fmT om_17_14000 0) (fmF om_17_14000 0) (fm_C1 rfl rfl) (fm_R rfl rfl) (fm_nT om_17_14000 0) (fm_nF om_17_14000 0) (fm_di om_17_14000 0) rfl rfl rfl rfl (Nat.le_of_ble_eq_true rfl) dX12_qPartTold_237 (fun u H locs hw hP hD hS => ?_)
              refine exE hw (fun qs2_107 hw1 => anE hw1 (fun hqe_108 hw2 => anE hw2 (fun hqs2_109 eu_110 => ?_)))
              clear hw hw1 hw2
              refine o_mgE (ws' := [ro_ mm 12 (mo g (nI ta) (nI pa2_91) (nI pe) pd2_92 (nI pb2_93) pp2_94 pf pg pn2_95 rt rn (nI cd) sn (nI il) tk am at_ aa 0 0 (-1) wt wy 0 (nI rm) (nI ud) (nI nu) sd (nI (qn + 1)) (nI zw) zo (nI qb) (nI qp) qa (nI qi) (nI oc)), ra_N (g 0) cI 1600 tb, ra_N (g 80) cI 1700 qs2_107, ra_N (g 82) cI 1700 zt, ra_I (g 68) cC 3 (cw [109, 105, 110]), ra_I (g 69) cC 3 (cw [109, 97, 120]), ra_I (g 70) cC 4 (cw [109, 111, 111, 100]), ra_I (g 71) cC 5 (cw [98, 97, 114, 103, 101]), ra_I (g 72) cC 3 (cw [119, 101, 116]), ra_I (g 73) cC 3 (cw [100, 97, 121]), ra_I (g 74) cC 4 (cw [119, 101, 101, 107]), ra_I (g 75) cC 4 (cw [116, 111, 108, 100]), ra_I (g 76) cC 5 (cw [97, 108, 111, 110, 101]), ra_I (g 77) cC 6 (cw [110, 117, 109, 98, 101, 114]), ra_I (g 78) cC 4 (cw [109, 117, 116, 101]), ra_I (g 58) cC 5 (cw [102, 105, 114, 115, 116]), ra_I (g 79) cC 5 (cw [119, 101, 101, 107, 115])]) eu_110 hP hD rfl (fun hP hD => ?_)
              have hyA : yO (Xa tb pe kn 0) d0 m0 qb T (bindR zg (nmF tb pe 0 9999)) _ _ zt zw zo := (by rw [hg]; exact y_num hYp hnt hpi (by rw [← hg]; exact hnv2_103))
              rw [← hqe_108] at hyA
              refine lv_aload_n hx hb dX12_qPartTold_240 rfl (lv_at hl 2 rfl) ?_
              refine sk_Vv (q0 := 0) (n := 0) (rest := []) (wr := fmR om_17_16000 _) ⟨hx, hb, hml, hown, hts⟩ hl.1 (c_em_qEndsPart l D cI cJ cC cZ cS mm g ta pa2_91 pe pd2_92 pb2_93 pp2_94 pf pg pn2_95 rt rn cd sn il tk am at_ aa wt wy rm ud nu sd (qn + 1) zw zo qb qp qa qi oc qs2_107 zt K n0 tb kn d0 m0 T (cuO tb pe pa2_91 pd2_92) hpb2_99 (by omega) hqb (fun h0 => SJ_code (hzj (by omega)) (by omega) (by omega) hqe_108) (fun h0 => yo_at hO2_102 h0 hyA) hqs2_109 hzt) w_7_59 w_7_61 w_0_62 w_1_14 w_7_62 hd_X12_qEndsPart_0 ⟨⟨(Nat.le_of_ble_eq_true rfl), (Nat.le_of_ble_eq_true rfl)⟩, (Nat.le_of_ble_eq_true rfl), (Nat.le_of_ble_eq_true rfl)⟩ hK hP hD hS hA (fmT om_17_16000 0) (fmF om_17_16000 0) (fm_C1 rfl rfl) (fm_R rfl rfl) (fm_nT om_17_16000 0) (fm_nF om_17_16000 0) (fm_di om_17_16000 0) rfl rfl rfl rfl (Nat.le_of_ble_eq_true rfl) dX12_qPartTold_241 (fun u H locs hw hP hD hS => ?_)
              refine exE hw (fun qw2_111 hw1 => exE hw1 (fun qn2_112 hw2 => exE hw2 (fun qo2_113 hw3 => exE hw3 (fun qs2_114 hw4 => anE hw4 (fun hsj2_115 hw5 => anE hw5 (fun hsum_116 hw6 => anE hw6 (fun hya2_117 hw7 => anE hw7 (fun hqs2_118 eu_119 => ?_))))))))
              clear hw hw1 hw2 hw3 hw4 hw5 hw6 hw7
              refine o_mgE (ws' := [ro_ mm 12 (mo g (nI ta) (nI pa2_91) (nI pe) pd2_92 (nI pb2_93) pp2_94 pf pg pn2_95 rt rn (nI cd) sn (nI il) tk am at_ aa 0 0 (-1) wt wy 0 (nI rm) (nI ud) (nI nu) sd (nI qn2_112) (nI qw2_111) qo2_113 (nI qb) (nI qp) qa (nI qi) (nI oc)), ra_N (g 0) cI 1600 tb, ra_N (g 80) cI 1700 qs2_114, ra_N (g 82) cI 1700 zt, ra_I (g 68) cC 3 (cw [109, 105, 110]), ra_I (g 69) cC 3 (cw [109, 97, 120]), ra_I (g 70) cC 4 (cw [109, 111, 111, 100]), ra_I (g 71) cC 5 (cw [98, 97, 114, 103, 101]), ra_I (g 72) cC 3 (cw [119, 101, 116]), ra_I (g 73) cC 3 (cw [100, 97, 121]), ra_I (g 74) cC 4 (cw [119, 101, 101, 107]), ra_I (g 75) cC 4 (cw [116, 111, 108, 100]), ra_I (g 76) cC 5 (cw [97, 108, 111, 110, 101]), ra_I (g 77) cC 6 (cw [110, 117, 109, 98, 101, 114]), ra_I (g 78) cC 4 (cw [109, 117, 116, 101]), ra_I (g 58) cC 5 (cw [102, 105, 114, 115, 116]), ra_I (g 79) cC 5 (cw [119, 101, 101, 107, 115])]) eu_119 hP hD rfl (fun hP hD => ?_)
              exact sk_vret hx hb hr hlocks hK hP hD hS (⟨(bindR zg (nmF tb pe 0 9999)), pa2_91, pd2_92, pb2_93, pp2_94, pn2_95, qn2_112, qw2_111, qo2_113, qs2_114, zt, by omega, hpa3_98, hpb2_99, by omega, by omega, hsj2_115, hO2_102, (ya_of hO2_102 (yo_e hyA) hya2_117), (fun h0 => hzk (by omega)), hqs2_118, hzt, rfl⟩) (Nat.le_of_ble_eq_true rfl) (Nat.le_of_ble_eq_true rfl) dX12_qPartTold_244
            · obtain ⟨ko_120, hko_120, h1ko_120, rfl⟩ := hr1_81.resolve_left c_88
              obtain ⟨k9, hk91, hk92, hk93, hk94, hk95, hk96, hk97⟩ := hwo_83.resolve_left (fun hq => c_88 hq.1)
              obtain rfl : ko_120 = k9 := (neq _ _ (by omega) (by omega)).mp hk94
              have hpi := wo_some hk92 hk96 hk97
              refine lv_aload_n hx hb dX12_qPartTold_207 rfl (lv_at hl 2 rfl) ?_
              refine lv_iload_n hx hb dX12_qPartTold_208 rfl (lv_at hl 0 rfl) ?_
              refine sk_Vv (q0 := 0) (n := 1) (rest := []) (wr := fmR om_17_187ff _) ⟨hx, hb, hml, hown, hts⟩ hl.1 (c_em_qAsksWord l D cI cJ cC cZ cS mm g ta pa2_76 pe zd zb zp pf pg pn rt rn cd sn il tk am at_ aa wt wy rm ud nu sd qn zw zo qb qp qa qi oc ko_120 tb zg hpa3_79 hpe hzb (by omega) hO_85 htb) w_7_51 w_7_53 w_0_60 w_1_14 w_7_54 hd_X12_qAsksWord_1 ⟨⟨(Nat.le_of_ble_eq_true rfl), (Nat.le_of_ble_eq_true rfl)⟩, (Nat.le_of_ble_eq_true rfl), (Nat.le_of_ble_eq_true rfl)⟩ hK hP hD hS hA (fmT om_17_187ff 0) (fmF om_17_187ff 0) (fm_C1 rfl rfl) (fm_R rfl rfl) (fm_nT om_17_187ff 0) (fm_nF om_17_187ff 0) (fm_di om_17_187ff 0) rfl rfl rfl rfl (Nat.le_of_ble_eq_true rfl) dX12_qPartTold_209 (fun u H locs hw hP hD hS => ?_)
              refine exE hw (fun pa2_121 hw1 => exE hw1 (fun pd2_122 hw2 => exE hw2 (fun pb2_123 hw3 => exE hw3 (fun pp2_124 hw4 => anE hw4 (fun hpa2_125 hw5 => anE hw5 (fun hpa3_126 hw6 => anE hw6 (fun hpb2_127 hw7 => anE hw7 (fun hpb3_128 hw8 => anE hw8 (fun hO2_129 eu_130 => ?_)))))))))
              clear hw hw1 hw2 hw3 hw4 hw5 hw6 hw7 hw8
              refine o_mgE (ws' := [ro_ mm 12 (mo g (nI ta) (nI pa2_121) (nI pe) pd2_122 (nI pb2_123) pp2_124 pf pg pn rt rn (nI cd) sn (nI il) tk am at_ aa 0 0 (-1) wt wy 0 (nI rm) (nI ud) (nI nu) sd (nI qn) (nI zw) zo (nI qb) (nI qp) qa (nI qi) (nI oc)), ra_N (g 0) cI 1600 tb, ra_N (g 80) cI 1700 qs, ra_N (g 82) cI 1700 zt, ra_I (g 68) cC 3 (cw [109, 105, 110]), ra_I (g 69) cC 3 (cw [109, 97, 120]), ra_I (g 70) cC 4 (cw [109, 111, 111, 100]), ra_I (g 71) cC 5 (cw [98, 97, 114, 103, 101]), ra_I (g 72) cC 3 (cw [119, 101, 116]), ra_I (g 73) cC 3 (cw [100, 97, 121]), ra_I (g 74) cC 4 (cw [119, 101, 101, 107]), ra_I (g 75) cC 4 (cw [116, 111, 108, 100]), ra_I (g 76) cC 5 (cw [97, 108, 111, 110, 101]), ra_I (g 77) cC 6 (cw [110, 117, 109, 98, 101, 114]), ra_I (g 78) cC 4 (cw [109, 117, 116, 101]), ra_I (g 58) cC 5 (cw [102, 105, 114, 115, 116]), ra_I (g 79) cC 5 (cw [119, 101, 101, 107, 115])]) eu_130 hP hD rfl (fun hP hD => ?_)
              refine lv_aload_n hx hb dX12_qPartTold_212 rfl (lv_at hl 2 rfl) ?_
              refine lv_iload_n hx hb dX12_qPartTold_213 rfl (lv_at hl 0 rfl) ?_
              refine lv_iconst (v := (-1)) hx hb dX12_qPartTold_214 (by decide) ?_
              refine lv_icmp_eq (tgt := 225) hx hb dX12_qPartTold_215 (by decide) (fun c => absurd ((ieq (ivn ko_120 (by omega)) (show (-1 : Int32).toInt = -1 by decide)).mp c) (by omega)) (fun c_131 => ?_)
              refine lv_bipush (v := 40) hx hb dX12_qPartTold_218 (by decide) ?_
              refine lv_iload_n hx hb dX12_qPartTold_220 rfl (lv_at hl 0 rfl) ?_
              refine lv_iadd hx hb dX12_qPartTold_221 ?_
              refine sk_top (nI (40 + ko_120)) (nI_add 40 ko_120) ?_
              refine lv_goto (tgt := 237) hx hb dX12_qPartTold_222 (by decide) ?_
              refine sk_Vv (q0 := 0) (n := 1) (rest := []) (wr := fmR om_17_14000 _) ⟨hx, hb, hml, hown, hts⟩ hl.1 (c_em_qCode l D cI cJ cC cZ cS mm g ta pa2_121 pe pd2_122 pb2_123 pp2_124 pf pg pn rt rn cd sn il tk am at_ aa wt wy rm ud nu sd qn zw zo qb qp qa qi oc (40 + ko_120) qs (by omega) (by omega) hqs) w_7_55 w_7_57 w_0_61 w_1_14 w_7_58 hd_X12_qCode_1 ⟨⟨(Nat.le_of_ble_eq_true rfl), (Nat.le_of_ble_eq_true rfl)⟩, (Nat.le_of_ble_eq_true rfl), (Nat.le_of_ble_eq_true rfl)⟩ hK hP hD hS hA (fmT om_17_14000 0) (fmF om_17_14000 0) (fm_C1 rfl rfl) (fm_R rfl rfl) (fm_nT om_17_14000 0) (fm_nF om_17_14000 0) (fm_di om_17_14000 0) rfl rfl rfl rfl (Nat.le_of_ble_eq_true rfl) dX12_qPartTold_237 (fun u H locs hw hP hD hS => ?_)
              refine exE hw (fun qs2_132 hw1 => anE hw1 (fun hqe_133 hw2 => anE hw2 (fun hqs2_134 eu_135 => ?_)))
              clear hw hw1 hw2
              refine o_mgE (ws' := [ro_ mm 12 (mo g (nI ta) (nI pa2_121) (nI pe) pd2_122 (nI pb2_123) pp2_124 pf pg pn rt rn (nI cd) sn (nI il) tk am at_ aa 0 0 (-1) wt wy 0 (nI rm) (nI ud) (nI nu) sd (nI (qn + 1)) (nI zw) zo (nI qb) (nI qp) qa (nI qi) (nI oc)), ra_N (g 0) cI 1600 tb, ra_N (g 80) cI 1700 qs2_132, ra_N (g 82) cI 1700 zt, ra_I (g 68) cC 3 (cw [109, 105, 110]), ra_I (g 69) cC 3 (cw [109, 97, 120]), ra_I (g 70) cC 4 (cw [109, 111, 111, 100]), ra_I (g 71) cC 5 (cw [98, 97, 114, 103, 101]), ra_I (g 72) cC 3 (cw [119, 101, 116]), ra_I (g 73) cC 3 (cw [100, 97, 121]), ra_I (g 74) cC 4 (cw [119, 101, 101, 107]), ra_I (g 75) cC 4 (cw [116, 111, 108, 100]), ra_I (g 76) cC 5 (cw [97, 108, 111, 110, 101]), ra_I (g 77) cC 6 (cw [110, 117, 109, 98, 101, 114]), ra_I (g 78) cC 4 (cw [109, 117, 116, 101]), ra_I (g 58) cC 5 (cw [102, 105, 114, 115, 116]), ra_I (g 79) cC 5 (cw [119, 101, 101, 107, 115])]) eu_135 hP hD rfl (fun hP hD => ?_)
              have hyA : yO (Xa tb pe kn 0) d0 m0 qb T (bindR zg (wordP tb pe (pw11 ko_120))) _ _ zt zw zo := (by rw [hg]; show yO _ _ _ _ _ (wordP tb pe (pw11 ko_120) (cuO tb pe za zd)) _ _ _ _ _; rw [mo_asks2 hk96]; exact y_nameK hYp hnt hpi)
              rw [← hqe_133] at hyA
              refine lv_aload_n hx hb dX12_qPartTold_240 rfl (lv_at hl 2 rfl) ?_
              refine sk_Vv (q0 := 0) (n := 0) (rest := []) (wr := fmR om_17_16000 _) ⟨hx, hb, hml, hown, hts⟩ hl.1 (c_em_qEndsPart l D cI cJ cC cZ cS mm g ta pa2_121 pe pd2_122 pb2_123 pp2_124 pf pg pn rt rn cd sn il tk am at_ aa wt wy rm ud nu sd (qn + 1) zw zo qb qp qa qi oc qs2_132 zt K n0 tb kn d0 m0 T (cuO tb pe pa2_121 pd2_122) hpb2_127 (by omega) hqb (fun h0 => SJ_code (hzj (by omega)) (by omega) (by omega) hqe_133) (fun h0 => yo_at hO2_129 h0 hyA) hqs2_134 hzt) w_7_59 w_7_61 w_0_62 w_1_14 w_7_62 hd_X12_qEndsPart_0 ⟨⟨(Nat.le_of_ble_eq_true rfl), (Nat.le_of_ble_eq_true rfl)⟩, (Nat.le_of_ble_eq_true rfl), (Nat.le_of_ble_eq_true rfl)⟩ hK hP hD hS hA (fmT om_17_16000 0) (fmF om_17_16000 0) (fm_C1 rfl rfl) (fm_R rfl rfl) (fm_nT om_17_16000 0) (fm_nF om_17_16000 0) (fm_di om_17_16000 0) rfl rfl rfl rfl (Nat.le_of_ble_eq_true rfl) dX12_qPartTold_241 (fun u H locs hw hP hD hS => ?_)
              refine exE hw (fun qw2_136 hw1 => exE hw1 (fun qn2_137 hw2 => exE hw2 (fun qo2_138 hw3 => exE hw3 (fun qs2_139 hw4 => anE hw4 (fun hsj2_140 hw5 => anE hw5 (fun hsum_141 hw6 => anE hw6 (fun hya2_142 hw7 => anE hw7 (fun hqs2_143 eu_144 => ?_))))))))
              clear hw hw1 hw2 hw3 hw4 hw5 hw6 hw7
              refine o_mgE (ws' := [ro_ mm 12 (mo g (nI ta) (nI pa2_121) (nI pe) pd2_122 (nI pb2_123) pp2_124 pf pg pn rt rn (nI cd) sn (nI il) tk am at_ aa 0 0 (-1) wt wy 0 (nI rm) (nI ud) (nI nu) sd (nI qn2_137) (nI qw2_136) qo2_138 (nI qb) (nI qp) qa (nI qi) (nI oc)), ra_N (g 0) cI 1600 tb, ra_N (g 80) cI 1700 qs2_139, ra_N (g 82) cI 1700 zt, ra_I (g 68) cC 3 (cw [109, 105, 110]), ra_I (g 69) cC 3 (cw [109, 97, 120]), ra_I (g 70) cC 4 (cw [109, 111, 111, 100]), ra_I (g 71) cC 5 (cw [98, 97, 114, 103, 101]), ra_I (g 72) cC 3 (cw [119, 101, 116]), ra_I (g 73) cC 3 (cw [100, 97, 121]), ra_I (g 74) cC 4 (cw [119, 101, 101, 107]), ra_I (g 75) cC 4 (cw [116, 111, 108, 100]), ra_I (g 76) cC 5 (cw [97, 108, 111, 110, 101]), ra_I (g 77) cC 6 (cw [110, 117, 109, 98, 101, 114]), ra_I (g 78) cC 4 (cw [109, 117, 116, 101]), ra_I (g 58) cC 5 (cw [102, 105, 114, 115, 116]), ra_I (g 79) cC 5 (cw [119, 101, 101, 107, 115])]) eu_144 hP hD rfl (fun hP hD => ?_)
              exact sk_vret hx hb hr hlocks hK hP hD hS (⟨(bindR zg (wordP tb pe (pw11 ko_120))), pa2_121, pd2_122, pb2_123, pp2_124, pn, qn2_137, qw2_136, qo2_138, qs2_139, zt, by omega, hpa3_126, hpb2_127, by omega, by omega, hsj2_140, hO2_129, (ya_of hO2_129 (yo_e hyA) hya2_142), (fun h0 => hzk (by omega)), hqs2_143, hzt, rfl⟩) (Nat.le_of_ble_eq_true rfl) (Nat.le_of_ble_eq_true rfl) dX12_qPartTold_244
          · have c_75 : ¬ (zb = 0) := fun h => c_75 ((neq zb 0 (by omega) (Nat.le_of_ble_eq_true rfl)).mpr h)
            exact sk_vret hx hb hr hlocks hK hP hD hS (⟨zg, za, zd, zb, zp, pn, qn, zw, zo, qs, zt, hza, hza2, hzb, by omega, hzq2, (fun h0 => absurd h0 (by omega)), hzO, (ya_of hzO (yo_e hzY) (fun h0 => absurd h0 (by omega))), (fun h0 => hzk (by omega)), hqs, hzt, rfl⟩) (Nat.le_of_ble_eq_true rfl) (Nat.le_of_ble_eq_true rfl) dX12_qPartTold_193
        · have c_74 : zb = 0 := (neq zb 0 (by omega) (Nat.le_of_ble_eq_true rfl)).mp c_74
          have hb0 : zb = 0 := by omega
          obtain ⟨hg, hzp0, hzle, hzpd⟩ := mo_ok hzO hb0
          have hYp := yo_at hzO hb0 hzY
          refine lv_aload_n hx hb dX12_qPartTold_13 rfl (lv_at hl 1 rfl) ?_
          refine sk_Vi (q0 := 0) (n := 0) (rest := []) (wr := fmR om_17_18000 _) ⟨hx, hb, hml, hown, hts⟩ hl.1 (c_em_look l D cI cJ cC cZ cS mm g ta za pe zd zb zp pf pg pn rt rn cd sn il tk am at_ aa wt wy rm ud nu sd qn zw zo qb qp qa qi oc tb hza2 hpe htb) w_6_222 w_6_224 w_0_45 w_1_14 w_6_225 hd_X12_look_0 ⟨⟨(Nat.le_of_ble_eq_true rfl), (Nat.le_of_ble_eq_true rfl)⟩, (Nat.le_of_ble_eq_true rfl), (Nat.le_of_ble_eq_true rfl)⟩ hK hP hD hS hA (fmT om_17_18000 0) (fmF om_17_18000 0) (fm_C1 rfl rfl) (fm_R rfl rfl) (fm_nT om_17_18000 0) (fm_nF om_17_18000 0) (fm_di om_17_18000 0) rfl rfl rfl rfl (Nat.le_of_ble_eq_true rfl) dX12_qPartTold_14 (fun r_146 u H locs hw hP hD hS => ?_)
          refine exE hw (fun pa2_145 hw1 => anE hw1 (fun hpa2_147 hw2 => anE hw2 (fun hpa3_148 hw3 => anE hw3 (fun hlk_149 hw4 => anE hw4 (fun hst_150 hw5 => anE hw5 (fun hsk_151 eu_152 => ?_))))))
          clear hw hw1 hw2 hw3 hw4 hw5
          refine o_mgE (ws' := [ro_ mm 12 (mo g (nI ta) (nI pa2_145) (nI pe) zd (nI zb) zp pf pg pn rt rn (nI cd) sn (nI il) tk am at_ aa 0 0 (-1) wt wy 0 (nI rm) (nI ud) (nI nu) sd (nI qn) (nI zw) zo (nI qb) (nI qp) qa (nI qi) (nI oc)), ra_N (g 0) cI 1600 tb, ra_N (g 80) cI 1700 qs, ra_N (g 82) cI 1700 zt, ra_I (g 68) cC 3 (cw [109, 105, 110]), ra_I (g 69) cC 3 (cw [109, 97, 120]), ra_I (g 70) cC 4 (cw [109, 111, 111, 100]), ra_I (g 71) cC 5 (cw [98, 97, 114, 103, 101]), ra_I (g 72) cC 3 (cw [119, 101, 116]), ra_I (g 73) cC 3 (cw [100, 97, 121]), ra_I (g 74) cC 4 (cw [119, 101, 101, 107]), ra_I (g 75) cC 4 (cw [116, 111, 108, 100]), ra_I (g 76) cC 5 (cw [97, 108, 111, 110, 101]), ra_I (g 77) cC 6 (cw [110, 117, 109, 98, 101, 114]), ra_I (g 78) cC 4 (cw [109, 117, 116, 101]), ra_I (g 58) cC 5 (cw [102, 105, 114, 115, 116]), ra_I (g 79) cC 5 (cw [119, 101, 101, 107, 115])]) eu_152 hP hD rfl (fun hP hD => ?_)
          have hO_153 : moO tb pe zg pa2_145 zd zb zp := by rw [hsk_151]; exact mo_look hzO
          have hcu_154 : pa2_145 = sk tb pe za := hsk_151
          have hcc_155 : cuO tb pe pa2_145 zd = cuO tb pe za zd := by rw [hcu_154, cuO_sk]
          refine lv_istore_n (lv' := [(2, .int r_146), (1, .int (nI mo_)), (0, .ref mm)]) hx hb dX12_qPartTold_17 rfl hl (by decide) rfl (fun ls hl => ?_)
          refine lv_aload_n hx hb dX12_qPartTold_18 rfl (lv_at hl 2 rfl) ?_
          refine lv_bipush (v := 10) hx hb dX12_qPartTold_19 (by decide) ?_
          refine lv_bipush (v := 11) hx hb dX12_qPartTold_21 (by decide) ?_
          refine sk_Vi (q0 := 0) (n := 2) (rest := []) (wr := fmR om_17_187ff _) ⟨hx, hb, hml, hown, hts⟩ hl.1 (c_em_qWordOf l D cI cJ cC cZ cS mm g ta pa2_145 pe zd zb zp pf pg pn rt rn cd sn il tk am at_ aa wt wy rm ud nu sd qn zw zo qb qp qa qi oc 10 11 tb kn hpa3_148 hpe hzb (by omega) (by omega) htk hkn htb) w_7_35 w_7_37 w_0_56 w_1_14 w_7_38 hd_X12_qWordOf_2 ⟨⟨(Nat.le_of_ble_eq_true rfl), (Nat.le_of_ble_eq_true rfl)⟩, (Nat.le_of_ble_eq_true rfl), (Nat.le_of_ble_eq_true rfl)⟩ hK hP hD hS hA (fmT om_17_187ff 0) (fmF om_17_187ff 0) (fm_C1 rfl rfl) (fm_R rfl rfl) (fm_nT om_17_187ff 0) (fm_nF om_17_187ff 0) (fm_di om_17_187ff 0) rfl rfl rfl rfl (Nat.le_of_ble_eq_true rfl) dX12_qPartTold_23 (fun r_157 u H locs hw hP hD hS => ?_)
          refine exE hw (fun pa2_156 hw1 => anE hw1 (fun hpa2_158 hw2 => anE hw2 (fun hpa3_159 hw3 => anE hw3 (fun hst_160 hw4 => anE hw4 (fun hr1_161 hw5 => anE hw5 (fun hsk_162 hw6 => anE hw6 (fun hwo_163 eu_164 => ?_)))))))
          clear hw hw1 hw2 hw3 hw4 hw5 hw6
          refine o_mgE (ws' := [ro_ mm 12 (mo g (nI ta) (nI pa2_156) (nI pe) zd (nI zb) zp pf pg pn rt rn (nI cd) sn (nI il) tk am at_ aa 0 0 (-1) wt wy 0 (nI rm) (nI ud) (nI nu) sd (nI qn) (nI zw) zo (nI qb) (nI qp) qa (nI qi) (nI oc)), ra_N (g 0) cI 1600 tb, ra_N (g 80) cI 1700 qs, ra_N (g 82) cI 1700 zt, ra_I (g 68) cC 3 (cw [109, 105, 110]), ra_I (g 69) cC 3 (cw [109, 97, 120]), ra_I (g 70) cC 4 (cw [109, 111, 111, 100]), ra_I (g 71) cC 5 (cw [98, 97, 114, 103, 101]), ra_I (g 72) cC 3 (cw [119, 101, 116]), ra_I (g 73) cC 3 (cw [100, 97, 121]), ra_I (g 74) cC 4 (cw [119, 101, 101, 107]), ra_I (g 75) cC 4 (cw [116, 111, 108, 100]), ra_I (g 76) cC 5 (cw [97, 108, 111, 110, 101]), ra_I (g 77) cC 6 (cw [110, 117, 109, 98, 101, 114]), ra_I (g 78) cC 4 (cw [109, 117, 116, 101]), ra_I (g 58) cC 5 (cw [102, 105, 114, 115, 116]), ra_I (g 79) cC 5 (cw [119, 101, 101, 107, 115])]) eu_164 hP hD rfl (fun hP hD => ?_)
          have hwo_165 : woO tb pe kn 10 11 (cuO tb pe za zd) zb r_157 := by rw [← hcc_155]; exact hwo_163
          have hO_166 := mo_here hO_153 hsk_162
          have hcu_167 : pa2_156 = sk tb pe za := by rw [(hsk_162.resolve_right (fun z => z.1 hb0)).2, hcu_154, sk_sk]
          have hcc_168 : cuO tb pe pa2_156 zd = cuO tb pe za zd := by rw [hcu_167, cuO_sk]
          refine lv_istore_n (lv' := [(3, .int r_157), (2, .int r_146), (1, .int (nI mo_)), (0, .ref mm)]) hx hb dX12_qPartTold_26 rfl hl (by decide) rfl (fun ls hl => ?_)
          refine lv_iload_n hx hb dX12_qPartTold_27 rfl (lv_at hl 1 rfl) ?_
          refine lv_bipush (v := 40) hx hb dX12_qPartTold_28 (by decide) ?_
          refine lv_icmp_ne (tgt := 56) hx hb dX12_qPartTold_30 (by decide) (fun c_169 => ?_) (fun c_169 => ?_)
          · have hn40 : ¬ isS tb pe 40 (cuO tb pe za zd) = true := fun hq => c_169 ((lk_S htb (by decide) hlk_149).mpr (by rw [hcu_154]; exact isS_cu.mp hq))
            refine lv_aload_n hx hb dX12_qPartTold_56 rfl (lv_at hl 3 rfl) ?_
            refine lv_aload_n hx hb dX12_qPartTold_57 rfl (lv_at hl 3 rfl) ?_
            refine sk_get (v := .ref (g 68)) (C := RX12) (T := TX12) (N := 92) hx hb hts inlX12 hown hK hP 0 rfl rfl 68 (Nat.le_of_ble_eq_true rfl) w_5_223 rfl dX12_qPartTold_58 ?_
            refine sk_Vi (q0 := 0) (n := 1) (rest := []) (wr := fmR om_17_19000 _) ⟨hx, hb, hml, hown, hts⟩ hl.1 (c_em_isHere l D cI cJ cC cZ cS mm g ta pa2_156 pe zd zb zp pf pg pn rt rn cd sn il tk am at_ aa wt wy rm ud nu sd qn zw zo qb qp qa qi oc tb (g 68) 3 ([109, 105, 110]) hpa3_159 hpe hzb (by omega) (by omega) rfl (wb_of (by decide)) htb) w_6_218 w_6_220 w_0_44 w_1_14 w_6_221 hd_X12_isHere_1 ⟨⟨(Nat.le_of_ble_eq_true rfl), (Nat.le_of_ble_eq_true rfl)⟩, (Nat.le_of_ble_eq_true rfl), (Nat.le_of_ble_eq_true rfl)⟩ hK hP hD hS hA (fmT om_17_19000 0) (fmF om_17_19000 0) (fm_C1 rfl rfl) (fm_R rfl rfl) (fm_nT om_17_19000 0) (fm_nF om_17_19000 0) (fm_di om_17_19000 0) rfl rfl rfl rfl (Nat.le_of_ble_eq_true rfl) dX12_qPartTold_61 (fun r_172 u H locs hw hP hD hS => ?_)
            refine exE hw (fun b_170 hw1 => exE hw1 (fun pa2_171 hw2 => anE hw2 (fun hpa2_173 hw3 => anE hw3 (fun hpa3_174 hw4 => anE hw4 (fun hst_175 hw5 => anE hw5 (fun hb1_176 hw6 => anE hw6 (fun hsk_177 hw7 => anE hw7 (fun hW_178 hw8 => anE hw8 (fun er_180 eu_179 => ?_)))))))))
            clear hw hw1 hw2 hw3 hw4 hw5 hw6 hw7 hw8
            subst er_180
            refine o_mgE (ws' := [ro_ mm 12 (mo g (nI ta) (nI pa2_171) (nI pe) zd (nI zb) zp pf pg pn rt rn (nI cd) sn (nI il) tk am at_ aa 0 0 (-1) wt wy 0 (nI rm) (nI ud) (nI nu) sd (nI qn) (nI zw) zo (nI qb) (nI qp) qa (nI qi) (nI oc)), ra_N (g 0) cI 1600 tb, ra_N (g 80) cI 1700 qs, ra_N (g 82) cI 1700 zt, ra_I (g 68) cC 3 (cw ([109, 105, 110])), ra_I (g 69) cC 3 (cw [109, 97, 120]), ra_I (g 70) cC 4 (cw [109, 111, 111, 100]), ra_I (g 71) cC 5 (cw [98, 97, 114, 103, 101]), ra_I (g 72) cC 3 (cw [119, 101, 116]), ra_I (g 73) cC 3 (cw [100, 97, 121]), ra_I (g 74) cC 4 (cw [119, 101, 101, 107]), ra_I (g 75) cC 4 (cw [116, 111, 108, 100]), ra_I (g 76) cC 5 (cw [97, 108, 111, 110, 101]), ra_I (g 77) cC 6 (cw [110, 117, 109, 98, 101, 114]), ra_I (g 78) cC 4 (cw [109, 117, 116, 101]), ra_I (g 58) cC 5 (cw [102, 105, 114, 115, 116]), ra_I (g 79) cC 5 (cw [119, 101, 101, 107, 115])]) eu_179 hP hD rfl (fun hP hD => ?_)
            have hW_181 := hW_178
            rw [hcc_168] at hW_181
            have hO_182 := mo_here hO_166 hsk_177
            have hcu_183 : pa2_171 = sk tb pe za := by rw [(hsk_177.resolve_right (fun z => z.1 hb0)).2, hcu_167, sk_sk]
            have hcc_184 : cuO tb pe pa2_171 zd = cuO tb pe za zd := by rw [hcu_183, cuO_sk]
            refine lv_if_ne (tgt := 78) hx hb dX12_qPartTold_64 (by decide) (fun c_185 => ?_) (fun c_185 => ?_)
            · have c_185 : ¬ (b_170 = 0) := fun h => c_185 ((neq b_170 0 (by omega) (Nat.le_of_ble_eq_true rfl)).mpr h)
              have hmin : isW tb pe wMin (cuO tb pe za zd) = true := (rr_1 hW_181 (by omega)).2
              have hmm : isW tb pe wMin (cuO tb pe za zd) = true ∨ isW tb pe wMax (cuO tb pe za zd) = true := Or.inl hmin
              refine lv_aload_n hx hb dX12_qPartTold_78 rfl (lv_at hl 3 rfl) ?_
              refine lv_aload_n hx hb dX12_qPartTold_79 rfl (lv_at hl 3 rfl) ?_
              refine sk_get (v := .ref (g 68)) (C := RX12) (T := TX12) (N := 92) hx hb hts inlX12 hown hK hP 0 rfl rfl 68 (Nat.le_of_ble_eq_true rfl) w_5_223 rfl dX12_qPartTold_80 ?_
              refine sk_Vi (q0 := 0) (n := 1) (rest := []) (wr := fmR om_17_19000 _) ⟨hx, hb, hml, hown, hts⟩ hl.1 (c_em_takes l D cI cJ cC cZ cS mm g ta pa2_171 pe zd zb zp pf pg pn rt rn cd sn il tk am at_ aa wt wy rm ud nu sd qn zw zo qb qp qa qi oc tb (g 68) 3 ([109, 105, 110]) zg hpa3_174 hpe hzb (by omega) (by omega) rfl (wb_of (by decide)) hO_182 htb) w_6_214 w_6_216 w_0_43 w_1_14 w_6_217 hd_X12_takes_1 ⟨⟨(Nat.le_of_ble_eq_true rfl), (Nat.le_of_ble_eq_true rfl)⟩, (Nat.le_of_ble_eq_true rfl), (Nat.le_of_ble_eq_true rfl)⟩ hK hP hD hS hA (fmT om_17_19000 0) (fmF om_17_19000 0) (fm_C1 rfl rfl) (fm_R rfl rfl) (fm_nT om_17_19000 0) (fm_nF om_17_19000 0) (fm_di om_17_19000 0) rfl rfl rfl rfl (Nat.le_of_ble_eq_true rfl) dX12_qPartTold_83 (fun r_189 u H locs hw hP hD hS => ?_)
              refine exE hw (fun b_186 hw1 => exE hw1 (fun pa2_187 hw2 => exE hw2 (fun pd2_188 hw3 => anE hw3 (fun hpa2_190 hw4 => anE hw4 (fun hpa3_191 hw5 => anE hw5 (fun hb1_192 hw6 => anE hw6 (fun hT_193 hw7 => anE hw7 (fun er_195 eu_194 => ?_))))))))
              clear hw hw1 hw2 hw3 hw4 hw5 hw6 hw7
              subst er_195
              refine o_mgE (ws' := [ro_ mm 12 (mo g (nI ta) (nI pa2_187) (nI pe) pd2_188 (nI zb) zp pf pg pn rt rn (nI cd) sn (nI il) tk am at_ aa 0 0 (-1) wt wy 0 (nI rm) (nI ud) (nI nu) sd (nI qn) (nI zw) zo (nI qb) (nI qp) qa (nI qi) (nI oc)), ra_N (g 0) cI 1600 tb, ra_N (g 80) cI 1700 qs, ra_N (g 82) cI 1700 zt, ra_I (g 68) cC 3 (cw ([109, 105, 110])), ra_I (g 69) cC 3 (cw [109, 97, 120]), ra_I (g 70) cC 4 (cw [109, 111, 111, 100]), ra_I (g 71) cC 5 (cw [98, 97, 114, 103, 101]), ra_I (g 72) cC 3 (cw [119, 101, 116]), ra_I (g 73) cC 3 (cw [100, 97, 121]), ra_I (g 74) cC 4 (cw [119, 101, 101, 107]), ra_I (g 75) cC 4 (cw [116, 111, 108, 100]), ra_I (g 76) cC 5 (cw [97, 108, 111, 110, 101]), ra_I (g 77) cC 6 (cw [110, 117, 109, 98, 101, 114]), ra_I (g 78) cC 4 (cw [109, 117, 116, 101]), ra_I (g 58) cC 5 (cw [102, 105, 114, 115, 116]), ra_I (g 79) cC 5 (cw [119, 101, 101, 107, 115])]) eu_194 hP hD rfl (fun hP hD => ?_)
              have hT_196 := hT_193
              rw [hcc_184] at hT_196
              refine lv_istore (lv' := [(4, .int (nI b_186)), (3, .int r_157), (2, .int r_146), (1, .int (nI mo_)), (0, .ref mm)]) hx hb dX12_qPartTold_86 hl (by decide) rfl (fun ls hl => ?_)
              refine lv_iload hx hb dX12_qPartTold_88 (lv_at hl 0 rfl) ?_
              have hbt : ¬ b_186 = 0 := fun hq => by have h9 : isW tb pe wMin (cuO tb pe za zd) = false := ((rr_0 hT_196 hq).1 hb0).2; rw [hmin] at h9; cases h9
              refine lv_if_ne (tgt := 101) hx hb dX12_qPartTold_90 (by decide) (fun c_197 => ?_) (fun c => absurd ((neq b_186 0 (by omega) (Nat.le_of_ble_eq_true rfl)).mp c) hbt)
              have hOm := (rr_1 hT_196 hbt).2.2
              refine lv_aload_n hx hb dX12_qPartTold_101 rfl (lv_at hl 4 rfl) ?_
              refine sk_Vi (q0 := 0) (n := 0) (rest := []) (wr := fmR om_17_18000 _) ⟨hx, hb, hml, hown, hts⟩ hl.1 (c_em_look l D cI cJ cC cZ cS mm g ta pa2_187 pe pd2_188 zb zp pf pg pn rt rn cd sn il tk am at_ aa wt wy rm ud nu sd qn zw zo qb qp qa qi oc tb hpa3_191 hpe htb) w_6_222 w_6_224 w_0_45 w_1_14 w_6_225 hd_X12_look_0 ⟨⟨(Nat.le_of_ble_eq_true rfl), (Nat.le_of_ble_eq_true rfl)⟩, (Nat.le_of_ble_eq_true rfl), (Nat.le_of_ble_eq_true rfl)⟩ hK hP hD hS hA (fmT om_17_18000 0) (fmF om_17_18000 0) (fm_C1 rfl rfl) (fm_R rfl rfl) (fm_nT om_17_18000 0) (fm_nF om_17_18000 0) (fm_di om_17_18000 0) rfl rfl rfl rfl (Nat.le_of_ble_eq_true rfl) dX12_qPartTold_102 (fun r_199 u H locs hw hP hD hS => ?_)
              refine exE hw (fun pa2_198 hw1 => anE hw1 (fun hpa2_200 hw2 => anE hw2 (fun hpa3_201 hw3 => anE hw3 (fun hlk_202 hw4 => anE hw4 (fun hst_203 hw5 => anE hw5 (fun hsk_204 eu_205 => ?_))))))
              clear hw hw1 hw2 hw3 hw4 hw5
              refine o_mgE (ws' := [ro_ mm 12 (mo g (nI ta) (nI pa2_198) (nI pe) pd2_188 (nI zb) zp pf pg pn rt rn (nI cd) sn (nI il) tk am at_ aa 0 0 (-1) wt wy 0 (nI rm) (nI ud) (nI nu) sd (nI qn) (nI zw) zo (nI qb) (nI qp) qa (nI qi) (nI oc)), ra_N (g 0) cI 1600 tb, ra_N (g 80) cI 1700 qs, ra_N (g 82) cI 1700 zt, ra_I (g 68) cC 3 (cw ([109, 105, 110])), ra_I (g 69) cC 3 (cw [109, 97, 120]), ra_I (g 70) cC 4 (cw [109, 111, 111, 100]), ra_I (g 71) cC 5 (cw [98, 97, 114, 103, 101]), ra_I (g 72) cC 3 (cw [119, 101, 116]), ra_I (g 73) cC 3 (cw [100, 97, 121]), ra_I (g 74) cC 4 (cw [119, 101, 101, 107]), ra_I (g 75) cC 4 (cw [116, 111, 108, 100]), ra_I (g 76) cC 5 (cw [97, 108, 111, 110, 101]), ra_I (g 77) cC 6 (cw [110, 117, 109, 98, 101, 114]), ra_I (g 78) cC 4 (cw [109, 117, 116, 101]), ra_I (g 58) cC 5 (cw [102, 105, 114, 115, 116]), ra_I (g 79) cC 5 (cw [119, 101, 101, 107, 115])]) eu_205 hP hD rfl (fun hP hD => ?_)
              have hOm2 : moO tb pe (bindR zg (nxF tb pe)) pa2_198 pd2_188 zb zp := by rw [hsk_204]; exact mo_look hOm
              have hOm3 : moO tb pe (.ok (nx tb pe (sk tb pe za))) pa2_198 pd2_188 zb zp := by rw [hg] at hOm2; exact hOm2
              have hc1 : nx tb pe (sk tb pe za) = cuO tb pe pa2_198 pd2_188 := (mo_cu hOm3 rfl).2
              have hbq : zb = 0 := hOm3.1
              have hat1 : pa2_198 = (nx tb pe (sk tb pe za)).1 := by rw [hc1]; show pa2_198 = sk tb pe pa2_198; rw [hsk_204, sk_sk]
              have hskk : pa2_198 = sk tb pe pa2_198 := by rw [hsk_204, sk_sk]
              refine lv_bipush (v := 40) hx hb dX12_qPartTold_105 (by decide) ?_
              refine lv_icmp_ne (tgt := 117) hx hb dX12_qPartTold_107 (by decide) (fun c_206 => ?_) (fun c_206 => ?_)
              · have hsm : ¬ isS tb pe 40 (nx tb pe (sk tb pe za)) = true := by rw [hc1]; exact fun hq => c_206 ((lk_S htb (by decide) hlk_202).mpr (by rw [hskk]; exact isS_cu.mp hq))
                refine lv_iconst (v := (-1)) hx hb dX12_qPartTold_117 (by decide) ?_
                refine lv_istore (lv' := [(5, .int (-1)), (4, .int (nI b_186)), (3, .int r_157), (2, .int r_146), (1, .int (nI mo_)), (0, .ref mm)]) hx hb dX12_qPartTold_118 hl (by decide) rfl (fun ls hl => ?_)
                refine lv_iload hx hb dX12_qPartTold_120 (lv_at hl 0 rfl) ?_
                refine lv_iconst (v := (-1)) hx hb dX12_qPartTold_122 (by decide) ?_
                refine lv_icmp_eq (tgt := 144) hx hb dX12_qPartTold_123 (by decide) (fun c_207 => ?_) (fun c => absurd c (by decide))
                refine lv_aload_n hx hb dX12_qPartTold_144 rfl (lv_at hl 5 rfl) ?_
                refine lv_bipush (v := 40) hx hb dX12_qPartTold_145 (by decide) ?_
                refine sk_Vv (q0 := 0) (n := 1) (rest := []) (wr := fmR om_17_18000 _) ⟨hx, hb, hml, hown, hts⟩ hl.1 (c_em_asksSign l D cI cJ cC cZ cS mm g ta pa2_198 pe pd2_188 zb zp pf pg pn rt rn cd sn il tk am at_ aa wt wy rm ud nu sd qn zw zo qb qp qa qi oc 40 tb (bindR zg (nxF tb pe)) hpa3_201 hpe hzb (by omega) (by decide) hOm2 htb) w_7_3 w_7_5 w_0_48 w_1_14 w_7_6 hd_X12_asksSign_1 ⟨⟨(Nat.le_of_ble_eq_true rfl), (Nat.le_of_ble_eq_true rfl)⟩, (Nat.le_of_ble_eq_true rfl), (Nat.le_of_ble_eq_true rfl)⟩ hK hP hD hS hA (fmT om_17_18000 0) (fmF om_17_18000 0) (fm_C1 rfl rfl) (fm_R rfl rfl) (fm_nT om_17_18000 0) (fm_nF om_17_18000 0) (fm_di om_17_18000 0) rfl rfl rfl rfl (Nat.le_of_ble_eq_true rfl) dX12_qPartTold_147 (fun u H locs hw hP hD hS => ?_)
                refine exE hw (fun pa2_208 hw1 => exE hw1 (fun pb2_209 hw2 => exE hw2 (fun pp2_210 hw3 => anE hw3 (fun hpa2_211 hw4 => anE hw4 (fun hpa3_212 hw5 => anE hw5 (fun hpb2_213 hw6 => anE hw6 (fun hpb3_214 hw7 => anE hw7 (fun hO2_215 eu_216 => ?_))))))))
                clear hw hw1 hw2 hw3 hw4 hw5 hw6 hw7
                refine o_mgE (ws' := [ro_ mm 12 (mo g (nI ta) (nI pa2_208) (nI pe) pd2_188 (nI pb2_209) pp2_210 pf pg pn rt rn (nI cd) sn (nI il) tk am at_ aa 0 0 (-1) wt wy 0 (nI rm) (nI ud) (nI nu) sd (nI qn) (nI zw) zo (nI qb) (nI qp) qa (nI qi) (nI oc)), ra_N (g 0) cI 1600 tb, ra_N (g 80) cI 1700 qs, ra_N (g 82) cI 1700 zt, ra_I (g 68) cC 3 (cw ([109, 105, 110])), ra_I (g 69) cC 3 (cw [109, 97, 120]), ra_I (g 70) cC 4 (cw [109, 111, 111, 100]), ra_I (g 71) cC 5 (cw [98, 97, 114, 103, 101]), ra_I (g 72) cC 3 (cw [119, 101, 116]), ra_I (g 73) cC 3 (cw [100, 97, 121]), ra_I (g 74) cC 4 (cw [119, 101, 101, 107]), ra_I (g 75) cC 4 (cw [116, 111, 108, 100]), ra_I (g 76) cC 5 (cw [97, 108, 111, 110, 101]), ra_I (g 77) cC 6 (cw [110, 117, 109, 98, 101, 114]), ra_I (g 78) cC 4 (cw [109, 117, 116, 101]), ra_I (g 58) cC 5 (cw [102, 105, 114, 115, 116]), ra_I (g 79) cC 5 (cw [119, 101, 101, 107, 115])]) eu_216 hP hD rfl (fun hP hD => ?_)
                refine lv_goto (tgt := 183) hx hb dX12_qPartTold_150 (by decide) ?_
                refine lv_goto (tgt := 2) hx hb dX12_qPartTold_183 (by decide) ?_
                exact ih_lp_1 mo_ pa2_208 pd2_188 pb2_209 pp2_210 zo zw zt (bindR (bindR zg (nxF tb pe)) (signP tb pe 40)) _ _ _ (by omega) hzt hO2_215 (by omega) hpa3_212 hpb2_213 hmo (by omega) (by omega) (fun h0 => hzj (by omega)) (by rw [hg]; show yO _ _ _ _ _ (signP tb pe 40 (nx tb pe (sk tb pe za))) _ _ _ _ _; rw [signP_f hsm]; exact y_err hYp (fun L d k _ => prt_pairx hmm hsm)) (fun h => absurd h (by omega)) (fun h0 => hzk (by omega)) hP hD hS (lv_sub hl [4, 5] rfl)
              · have hq_217 := lk_at hlk_202 htb (w := 40) (by omega) c_206
                have hsm : isS tb pe 40 (nx tb pe (sk tb pe za)) = true := by rw [hc1]; exact isS_cu.mpr (by rw [← hskk]; exact (lk_S htb (by decide) hlk_202).mp c_206)
                refine lv_aload_n hx hb dX12_qPartTold_110 rfl (lv_at hl 4 rfl) ?_
                refine sk_get (v := .int (nI pa2_198)) (C := RX12) (T := TX12) (N := 92) hx hb hts inlX12 hown hK hP 0 rfl rfl 2 (Nat.le_of_ble_eq_true rfl) w_5_157 rfl dX12_qPartTold_111 ?_
                refine lv_goto (tgt := 118) hx hb dX12_qPartTold_114 (by decide) ?_
                refine lv_istore (lv' := [(5, .int (nI pa2_198)), (4, .int (nI b_186)), (3, .int r_157), (2, .int r_146), (1, .int (nI mo_)), (0, .ref mm)]) hx hb dX12_qPartTold_118 hl (by decide) rfl (fun ls hl => ?_)
                refine lv_iload hx hb dX12_qPartTold_120 (lv_at hl 0 rfl) ?_
                refine lv_iconst (v := (-1)) hx hb dX12_qPartTold_122 (by decide) ?_
                refine lv_icmp_eq (tgt := 144) hx hb dX12_qPartTold_123 (by decide) (fun c => absurd ((ieq (ivn pa2_198 (by omega)) (show (-1 : Int32).toInt = -1 by decide)).mp c) (by omega)) (fun c_218 => ?_)
                refine lv_aload_n hx hb dX12_qPartTold_126 rfl (lv_at hl 5 rfl) ?_
                refine lv_iload hx hb dX12_qPartTold_127 (lv_at hl 1 rfl) ?_
                refine lv_if_eq (tgt := 137) hx hb dX12_qPartTold_129 (by decide) (fun c => absurd ((neq b_186 0 (by omega) (Nat.le_of_ble_eq_true rfl)).mp c) hbt) (fun c_219 => ?_)
                refine lv_bipush (v := 21) hx hb dX12_qPartTold_132 (by decide) ?_
                refine lv_goto (tgt := 139) hx hb dX12_qPartTold_134 (by decide) ?_
                refine lv_iload hx hb dX12_qPartTold_139 (lv_at hl 0 rfl) ?_
                refine sk_Vv (q0 := 0) (n := 2) (rest := []) (wr := fmR om_17_12000 _) ⟨hx, hb, hml, hown, hts⟩ hl.1 (c_em_qOpens l D cI cJ cC cZ cS mm g ta pa2_198 pe pd2_188 zb zp pf pg pn rt rn cd sn il tk am at_ aa wt wy rm ud nu sd qn zw zo qb qp qa qi oc 21 (nI pa2_198) zt hzb (by omega) (by omega) hzt) w_7_47 w_7_49 w_0_59 w_1_14 w_7_50 hd_X12_qOpens_2 ⟨⟨(Nat.le_of_ble_eq_true rfl), (Nat.le_of_ble_eq_true rfl)⟩, (Nat.le_of_ble_eq_true rfl), (Nat.le_of_ble_eq_true rfl)⟩ hK hP hD hS hA (fmT om_17_12000 0) (fmF om_17_12000 0) (fm_C1 rfl rfl) (fm_R rfl rfl) (fm_nT om_17_12000 0) (fm_nF om_17_12000 0) (fm_di om_17_12000 0) rfl rfl rfl rfl (Nat.le_of_ble_eq_true rfl) dX12_qPartTold_141 (fun u H locs hw hP hD hS => ?_)
                refine exE hw (fun pb2_220 hw1 => exE hw1 (fun pp2_221 hw2 => exE hw2 (fun qo2_222 hw3 => exE hw3 (fun qw2_223 hw4 => exE hw4 (fun qt2_224 hw5 => anE hw5 (fun hpb2_225 hw6 => anE hw6 (fun hop_226 hw7 => anE hw7 (fun hqe_227 hw8 => anE hw8 (fun hox_228 hw9 => anE hw9 (fun hqt2_229 eu_230 => ?_))))))))))
                clear hw hw1 hw2 hw3 hw4 hw5 hw6 hw7 hw8 hw9
                refine o_mgE (ws' := [ro_ mm 12 (mo g (nI ta) (nI pa2_198) (nI pe) pd2_188 (nI pb2_220) pp2_221 pf pg pn rt rn (nI cd) sn (nI il) tk am at_ aa 0 0 (-1) wt wy 0 (nI rm) (nI ud) (nI nu) sd (nI qn) (nI qw2_223) qo2_222 (nI qb) (nI qp) qa (nI qi) (nI oc)), ra_N (g 0) cI 1600 tb, ra_N (g 80) cI 1700 qs, ra_N (g 82) cI 1700 qt2_224, ra_I (g 68) cC 3 (cw ([109, 105, 110])), ra_I (g 69) cC 3 (cw [109, 97, 120]), ra_I (g 70) cC 4 (cw [109, 111, 111, 100]), ra_I (g 71) cC 5 (cw [98, 97, 114, 103, 101]), ra_I (g 72) cC 3 (cw [119, 101, 116]), ra_I (g 73) cC 3 (cw [100, 97, 121]), ra_I (g 74) cC 4 (cw [119, 101, 101, 107]), ra_I (g 75) cC 4 (cw [116, 111, 108, 100]), ra_I (g 76) cC 5 (cw [97, 108, 111, 110, 101]), ra_I (g 77) cC 6 (cw [110, 117, 109, 98, 101, 114]), ra_I (g 78) cC 4 (cw [109, 117, 116, 101]), ra_I (g 58) cC 5 (cw [102, 105, 114, 115, 116]), ra_I (g 79) cC 5 (cw [119, 101, 101, 107, 115])]) eu_230 hP hD rfl (fun hP hD => ?_)
                rcases hox_228 with ⟨hx1, hx2, hx3, hx4, hx5, hx6, hx7⟩ | ⟨hx1, hx2, hx3, hx4, hx5, hx6, hx7⟩ | ⟨hx1, -⟩
                · have hT : T = .error (4, (nx tb pe (sk tb pe za)).1) := y_full hYp hx2 (fun L k => prt_pair0 hmm hsm)
                  have hO_231 : ∀ (a : Nat) (d : Int32), moO tb pe (.error (4, (nx tb pe (sk tb pe za)).1)) a d pb2_220 pp2_221 := fun _ _ => ⟨hx3, by rw [hx4, hat1], show 1 ≤ 4 by decide, show 4 ≤ 5 by decide⟩
                  refine lv_aload_n hx hb dX12_qPartTold_144 rfl (lv_at hl 5 rfl) ?_
                  refine lv_bipush (v := 40) hx hb dX12_qPartTold_145 (by decide) ?_
                  refine sk_Vv (q0 := 0) (n := 1) (rest := []) (wr := fmR om_17_18000 _) ⟨hx, hb, hml, hown, hts⟩ hl.1 (c_em_asksSign l D cI cJ cC cZ cS mm g ta pa2_198 pe pd2_188 pb2_220 pp2_221 pf pg pn rt rn cd sn il tk am at_ aa wt wy rm ud nu sd qn qw2_223 qo2_222 qb qp qa qi oc 40 tb (.error (4, (nx tb pe (sk tb pe za)).1)) hpa3_201 hpe hpb2_225 (by omega) (by decide) (hO_231 _ _) htb) w_7_3 w_7_5 w_0_48 w_1_14 w_7_6 hd_X12_asksSign_1 ⟨⟨(Nat.le_of_ble_eq_true rfl), (Nat.le_of_ble_eq_true rfl)⟩, (Nat.le_of_ble_eq_true rfl), (Nat.le_of_ble_eq_true rfl)⟩ hK hP hD hS hA (fmT om_17_18000 0) (fmF om_17_18000 0) (fm_C1 rfl rfl) (fm_R rfl rfl) (fm_nT om_17_18000 0) (fm_nF om_17_18000 0) (fm_di om_17_18000 0) rfl rfl rfl rfl (Nat.le_of_ble_eq_true rfl) dX12_qPartTold_147 (fun u H locs hw hP hD hS => ?_)
                  refine exE hw (fun pa2_232 hw1 => exE hw1 (fun pb2_233 hw2 => exE hw2 (fun pp2_234 hw3 => anE hw3 (fun hpa2_235 hw4 => anE hw4 (fun hpa3_236 hw5 => anE hw5 (fun hpb2_237 hw6 => anE hw6 (fun hpb3_238 hw7 => anE hw7 (fun hO2_239 eu_240 => ?_))))))))
                  clear hw hw1 hw2 hw3 hw4 hw5 hw6 hw7
                  refine o_mgE (ws' := [ro_ mm 12 (mo g (nI ta) (nI pa2_232) (nI pe) pd2_188 (nI pb2_233) pp2_234 pf pg pn rt rn (nI cd) sn (nI il) tk am at_ aa 0 0 (-1) wt wy 0 (nI rm) (nI ud) (nI nu) sd (nI qn) (nI qw2_223) qo2_222 (nI qb) (nI qp) qa (nI qi) (nI oc)), ra_N (g 0) cI 1600 tb, ra_N (g 80) cI 1700 qs, ra_N (g 82) cI 1700 qt2_224, ra_I (g 68) cC 3 (cw ([109, 105, 110])), ra_I (g 69) cC 3 (cw [109, 97, 120]), ra_I (g 70) cC 4 (cw [109, 111, 111, 100]), ra_I (g 71) cC 5 (cw [98, 97, 114, 103, 101]), ra_I (g 72) cC 3 (cw [119, 101, 116]), ra_I (g 73) cC 3 (cw [100, 97, 121]), ra_I (g 74) cC 4 (cw [119, 101, 101, 107]), ra_I (g 75) cC 4 (cw [116, 111, 108, 100]), ra_I (g 76) cC 5 (cw [97, 108, 111, 110, 101]), ra_I (g 77) cC 6 (cw [110, 117, 109, 98, 101, 114]), ra_I (g 78) cC 4 (cw [109, 117, 116, 101]), ra_I (g 58) cC 5 (cw [102, 105, 114, 115, 116]), ra_I (g 79) cC 5 (cw [119, 101, 101, 107, 115])]) eu_240 hP hD rfl (fun hP hD => ?_)
                  refine lv_goto (tgt := 183) hx hb dX12_qPartTold_150 (by decide) ?_
                  refine lv_goto (tgt := 2) hx hb dX12_qPartTold_183 (by decide) ?_
                  exact ih_lp_1 mo_ pa2_232 pd2_188 pb2_233 pp2_234 qo2_222 qw2_223 qt2_224 (bindR (.error (4, (nx tb pe (sk tb pe za)).1)) (signP tb pe 40)) _ _ _ (by omega) hqt2_229 hO2_239 (by omega) hpa3_236 hpb2_237 hmo (by omega) (by omega) (fun h0 => (show SJ K n0 qs qn _ qb qw2_223 by rw [show qw2_223 = zw + 1 by omega]; exact SJ_push0 (hzj (by omega)) (by omega) (hqe_227 (by omega)))) hT (fun h => absurd h (by omega)) (fun h0 => kp_up (hzk (by omega)) (SJ_le (hzj (by omega))) (hqe_227 (by omega))) hP hD hS (lv_sub hl [4, 5] rfl)
                · have hY_241 := y_open (v := 21) hYp hx2 (by decide) (fun L d k => prt_pair (Or.inl ⟨hmin, rfl⟩) hsm)
                  rw [← hx5, ← hx6, ← hx7] at hY_241
                  have hOm4 : moO tb pe (bindR zg (nxF tb pe)) pa2_198 pd2_188 pb2_220 pp2_221 := by rw [hx3, hx4]; exact hOm2
                  refine lv_aload_n hx hb dX12_qPartTold_144 rfl (lv_at hl 5 rfl) ?_
                  refine lv_bipush (v := 40) hx hb dX12_qPartTold_145 (by decide) ?_
                  refine sk_Vv (q0 := 0) (n := 1) (rest := []) (wr := fmR om_17_18000 _) ⟨hx, hb, hml, hown, hts⟩ hl.1 (c_em_asksSign l D cI cJ cC cZ cS mm g ta pa2_198 pe pd2_188 pb2_220 pp2_221 pf pg pn rt rn cd sn il tk am at_ aa wt wy rm ud nu sd qn qw2_223 qo2_222 qb qp qa qi oc 40 tb (bindR zg (nxF tb pe)) hpa3_201 hpe hpb2_225 (by omega) (by decide) hOm4 htb) w_7_3 w_7_5 w_0_48 w_1_14 w_7_6 hd_X12_asksSign_1 ⟨⟨(Nat.le_of_ble_eq_true rfl), (Nat.le_of_ble_eq_true rfl)⟩, (Nat.le_of_ble_eq_true rfl), (Nat.le_of_ble_eq_true rfl)⟩ hK hP hD hS hA (fmT om_17_18000 0) (fmF om_17_18000 0) (fm_C1 rfl rfl) (fm_R rfl rfl) (fm_nT om_17_18000 0) (fm_nF om_17_18000 0) (fm_di om_17_18000 0) rfl rfl rfl rfl (Nat.le_of_ble_eq_true rfl) dX12_qPartTold_147 (fun u H locs hw hP hD hS => ?_)
                  refine exE hw (fun pa2_242 hw1 => exE hw1 (fun pb2_243 hw2 => exE hw2 (fun pp2_244 hw3 => anE hw3 (fun hpa2_245 hw4 => anE hw4 (fun hpa3_246 hw5 => anE hw5 (fun hpb2_247 hw6 => anE hw6 (fun hpb3_248 hw7 => anE hw7 (fun hO2_249 eu_250 => ?_))))))))
                  clear hw hw1 hw2 hw3 hw4 hw5 hw6 hw7
                  refine o_mgE (ws' := [ro_ mm 12 (mo g (nI ta) (nI pa2_242) (nI pe) pd2_188 (nI pb2_243) pp2_244 pf pg pn rt rn (nI cd) sn (nI il) tk am at_ aa 0 0 (-1) wt wy 0 (nI rm) (nI ud) (nI nu) sd (nI qn) (nI qw2_223) qo2_222 (nI qb) (nI qp) qa (nI qi) (nI oc)), ra_N (g 0) cI 1600 tb, ra_N (g 80) cI 1700 qs, ra_N (g 82) cI 1700 qt2_224, ra_I (g 68) cC 3 (cw ([109, 105, 110])), ra_I (g 69) cC 3 (cw [109, 97, 120]), ra_I (g 70) cC 4 (cw [109, 111, 111, 100]), ra_I (g 71) cC 5 (cw [98, 97, 114, 103, 101]), ra_I (g 72) cC 3 (cw [119, 101, 116]), ra_I (g 73) cC 3 (cw [100, 97, 121]), ra_I (g 74) cC 4 (cw [119, 101, 101, 107]), ra_I (g 75) cC 4 (cw [116, 111, 108, 100]), ra_I (g 76) cC 5 (cw [97, 108, 111, 110, 101]), ra_I (g 77) cC 6 (cw [110, 117, 109, 98, 101, 114]), ra_I (g 78) cC 4 (cw [109, 117, 116, 101]), ra_I (g 58) cC 5 (cw [102, 105, 114, 115, 116]), ra_I (g 79) cC 5 (cw [119, 101, 101, 107, 115])]) eu_250 hP hD rfl (fun hP hD => ?_)
                  refine lv_goto (tgt := 183) hx hb dX12_qPartTold_150 (by decide) ?_
                  refine lv_goto (tgt := 2) hx hb dX12_qPartTold_183 (by decide) ?_
                  exact ih_lp_1 mo_ pa2_242 pd2_188 pb2_243 pp2_244 qo2_222 qw2_223 qt2_224 (bindR (bindR zg (nxF tb pe)) (signP tb pe 40)) _ _ _ (by omega) hqt2_229 hO2_249 (by omega) hpa3_246 hpb2_247 hmo (by omega) (by omega) (fun h0 => (show SJ K n0 qs qn _ qb qw2_223 by rw [show qw2_223 = zw + 1 by omega]; exact SJ_push0 (hzj (by omega)) (by omega) (hqe_227 (by omega)))) (by rw [hg]; show yO _ _ _ _ _ (signP tb pe 40 (nx tb pe (sk tb pe za))) _ _ _ _ _; rw [signP_t hsm]; exact hY_241) (fun h => absurd h (by omega)) (fun h0 => kp_up (hzk (by omega)) (SJ_le (hzj (by omega))) (hqe_227 (by omega))) hP hD hS (lv_sub hl [4, 5] rfl)
                · exact absurd hbq hx1
            · have c_185 : b_170 = 0 := (neq b_170 0 (by omega) (Nat.le_of_ble_eq_true rfl)).mp c_185
              have hmin : isW tb pe wMin (cuO tb pe za zd) = false := rr_0 hW_181 (by omega) hb0
              refine lv_aload_n hx hb dX12_qPartTold_67 rfl (lv_at hl 3 rfl) ?_
              refine lv_aload_n hx hb dX12_qPartTold_68 rfl (lv_at hl 3 rfl) ?_
              refine sk_get (v := .ref (g 69)) (C := RX12) (T := TX12) (N := 92) hx hb hts inlX12 hown hK hP 0 rfl rfl 69 (Nat.le_of_ble_eq_true rfl) w_5_224 rfl dX12_qPartTold_69 ?_
              refine sk_Vi (q0 := 0) (n := 1) (rest := []) (wr := fmR om_17_18800 _) ⟨hx, hb, hml, hown, hts⟩ hl.1 (c_em_isHere l D cI cJ cC cZ cS mm g ta pa2_171 pe zd zb zp pf pg pn rt rn cd sn il tk am at_ aa wt wy rm ud nu sd qn zw zo qb qp qa qi oc tb (g 69) 3 ([109, 97, 120]) hpa3_174 hpe hzb (by omega) (by omega) rfl (wb_of (by decide)) htb) w_6_218 w_6_220 w_0_44 w_1_14 w_6_221 hd_X12_isHere_1 ⟨⟨(Nat.le_of_ble_eq_true rfl), (Nat.le_of_ble_eq_true rfl)⟩, (Nat.le_of_ble_eq_true rfl), (Nat.le_of_ble_eq_true rfl)⟩ hK hP hD hS hA (fmT om_17_18800 0) (fmF om_17_18800 0) (fm_C1 rfl rfl) (fm_R rfl rfl) (fm_nT om_17_18800 0) (fm_nF om_17_18800 0) (fm_di om_17_18800 0) rfl rfl rfl rfl (Nat.le_of_ble_eq_true rfl) dX12_qPartTold_72 (fun r_253 u H locs hw hP hD hS => ?_)
              refine exE hw (fun b_251 hw1 => exE hw1 (fun pa2_252 hw2 => anE hw2 (fun hpa2_254 hw3 => anE hw3 (fun hpa3_255 hw4 => anE hw4 (fun hst_256 hw5 => anE hw5 (fun hb1_257 hw6 => anE hw6 (fun hsk_258 hw7 => anE hw7 (fun hW_259 hw8 => anE hw8 (fun er_261 eu_260 => ?_)))))))))
              clear hw hw1 hw2 hw3 hw4 hw5 hw6 hw7 hw8
              subst er_261
              refine o_mgE (ws' := [ro_ mm 12 (mo g (nI ta) (nI pa2_252) (nI pe) zd (nI zb) zp pf pg pn rt rn (nI cd) sn (nI il) tk am at_ aa 0 0 (-1) wt wy 0 (nI rm) (nI ud) (nI nu) sd (nI qn) (nI zw) zo (nI qb) (nI qp) qa (nI qi) (nI oc)), ra_N (g 0) cI 1600 tb, ra_N (g 80) cI 1700 qs, ra_N (g 82) cI 1700 zt, ra_I (g 68) cC 3 (cw ([109, 105, 110])), ra_I (g 69) cC 3 (cw ([109, 97, 120])), ra_I (g 70) cC 4 (cw [109, 111, 111, 100]), ra_I (g 71) cC 5 (cw [98, 97, 114, 103, 101]), ra_I (g 72) cC 3 (cw [119, 101, 116]), ra_I (g 73) cC 3 (cw [100, 97, 121]), ra_I (g 74) cC 4 (cw [119, 101, 101, 107]), ra_I (g 75) cC 4 (cw [116, 111, 108, 100]), ra_I (g 76) cC 5 (cw [97, 108, 111, 110, 101]), ra_I (g 77) cC 6 (cw [110, 117, 109, 98, 101, 114]), ra_I (g 78) cC 4 (cw [109, 117, 116, 101]), ra_I (g 58) cC 5 (cw [102, 105, 114, 115, 116]), ra_I (g 79) cC 5 (cw [119, 101, 101, 107, 115])]) eu_260 hP hD rfl (fun hP hD => ?_)
              have hW_262 := hW_259
              rw [hcc_184] at hW_262
              have hO_263 := mo_here hO_182 hsk_258
              have hcu_264 : pa2_252 = sk tb pe za := by rw [(hsk_258.resolve_right (fun z => z.1 hb0)).2, hcu_183, sk_sk]
              have hcc_265 : cuO tb pe pa2_252 zd = cuO tb pe za zd := by rw [hcu_264, cuO_sk]
              refine lv_if_eq (tgt := 153) hx hb dX12_qPartTold_75 (by decide) (fun c_266 => ?_) (fun c_266 => ?_)
              · have c_266 : b_251 = 0 := (neq b_251 0 (by omega) (Nat.le_of_ble_eq_true rfl)).mp c_266
                have hmax : isW tb pe wMax (cuO tb pe za zd) = false := rr_0 hW_262 (by omega) hb0
                refine lv_iload_n hx hb dX12_qPartTold_153 rfl (lv_at hl 0 rfl) ?_
                refine lv_iconst (v := (-1)) hx hb dX12_qPartTold_154 (by decide) ?_
                refine lv_icmp_eq (tgt := 181) hx hb dX12_qPartTold_155 (by decide) (fun c_267 => ?_) (fun c_267 => ?_)
                · have hnw := wo_nw (kn := kn) (show woO tb pe kn 10 11 (cuO tb pe za zd) zb (-1) from c_267 ▸ hwo_165) hb0
                  refine lv_iconst (v := 0) hx hb dX12_qPartTold_181 ic_0 ?_
                  refine lv_istore_n (lv' := [(1, .int 0), (3, .int r_157), (2, .int r_146), (0, .ref mm)]) hx hb dX12_qPartTold_182 rfl hl (by decide) rfl (fun ls hl => ?_)
                  refine lv_goto (tgt := 2) hx hb dX12_qPartTold_183 (by decide) ?_
                  exact ih_lp_1 0 pa2_252 zd zb zp zo zw zt zg _ _ _ (by omega) hzt hO_263 (by omega) hpa3_255 hzb (by omega) (by omega) (by omega) (fun h0 => hzj (by omega)) hzY (fun _ _ => by rw [hcc_265]; exact ⟨hn40, (fun hq => hq.elim (fun hq => by rw [hmin] at hq; cases hq) (fun hq => by rw [hmax] at hq; cases hq)), hnw⟩) (fun h0 => hzk (by omega)) hP hD hS (lv_sub hl [0, 3] rfl)
                · obtain ⟨ko_268, hko_268, h1ko_268, rfl⟩ := hr1_161.resolve_left c_267
                  obtain ⟨k9, hk91, hk92, hk93, hk94, hk95, hk96, hk97⟩ := hwo_165.resolve_left (fun hq => c_267 hq.1)
                  obtain rfl : k9 = 10 := by omega
                  have hk2 := wo_w hkn hk97
                  have hww : isW tb pe wWeeks (cuO tb pe za zd) = true := hk96
                  have hko : ko_268 = 10 := by omega
                  refine lv_aload_n hx hb dX12_qPartTold_158 rfl (lv_at hl 3 rfl) ?_
                  refine lv_bipush (v := 60) hx hb dX12_qPartTold_159 (by decide) ?_
                  refine lv_iload_n hx hb dX12_qPartTold_161 rfl (lv_at hl 0 rfl) ?_
                  refine lv_iadd hx hb dX12_qPartTold_162 ?_
                  refine sk_top (nI (60 + ko_268)) (nI_add 60 ko_268) ?_
                  refine lv_bipush (v := 10) hx hb dX12_qPartTold_163 (by decide) ?_
                  refine lv_isub hx hb dX12_qPartTold_165 ?_
                  refine sk_top (nI (60 + ko_268 - 10)) (nsub (60 + ko_268) 10 (by omega)) ?_
                  refine lv_aload_n hx hb dX12_qPartTold_166 rfl (lv_at hl 3 rfl) ?_
                  refine sk_get (v := .int (nI pa2_252)) (C := RX12) (T := TX12) (N := 92) hx hb hts inlX12 hown hK hP 0 rfl rfl 2 (Nat.le_of_ble_eq_true rfl) w_5_157 rfl dX12_qPartTold_167 ?_
                  refine sk_Vv (q0 := 0) (n := 2) (rest := []) (wr := fmR om_17_12000 _) ⟨hx, hb, hml, hown, hts⟩ hl.1 (c_em_qOpens l D cI cJ cC cZ cS mm g ta pa2_252 pe zd zb zp pf pg pn rt rn cd sn il tk am at_ aa wt wy rm ud nu sd qn zw zo qb qp qa qi oc (60 + ko_268 - 10) (nI pa2_252) zt hzb (by omega) (by omega) hzt) w_7_47 w_7_49 w_0_59 w_1_14 w_7_50 hd_X12_qOpens_2 ⟨⟨(Nat.le_of_ble_eq_true rfl), (Nat.le_of_ble_eq_true rfl)⟩, (Nat.le_of_ble_eq_true rfl), (Nat.le_of_ble_eq_true rfl)⟩ hK hP hD hS hA (fmT om_17_12000 0) (fmF om_17_12000 0) (fm_C1 rfl rfl) (fm_R rfl rfl) (fm_nT om_17_12000 0) (fm_nF om_17_12000 0) (fm_di om_17_12000 0) rfl rfl rfl rfl (Nat.le_of_ble_eq_true rfl) dX12_qPartTold_170 (fun u H locs hw hP hD hS => ?_)
                  refine exE hw (fun pb2_269 hw1 => exE hw1 (fun pp2_270 hw2 => exE hw2 (fun qo2_271 hw3 => exE hw3 (fun qw2_272 hw4 => exE hw4 (fun qt2_273 hw5 => anE hw5 (fun hpb2_274 hw6 => anE hw6 (fun hop_275 hw7 => anE hw7 (fun hqe_276 hw8 => anE hw8 (fun hox_277 hw9 => anE hw9 (fun hqt2_278 eu_279 => ?_))))))))))
                  clear hw hw1 hw2 hw3 hw4 hw5 hw6 hw7 hw8 hw9
                  refine o_mgE (ws' := [ro_ mm 12 (mo g (nI ta) (nI pa2_252) (nI pe) zd (nI pb2_269) pp2_270 pf pg pn rt rn (nI cd) sn (nI il) tk am at_ aa 0 0 (-1) wt wy 0 (nI rm) (nI ud) (nI nu) sd (nI qn) (nI qw2_272) qo2_271 (nI qb) (nI qp) qa (nI qi) (nI oc)), ra_N (g 0) cI 1600 tb, ra_N (g 80) cI 1700 qs, ra_N (g 82) cI 1700 qt2_273, ra_I (g 68) cC 3 (cw ([109, 105, 110])), ra_I (g 69) cC 3 (cw ([109, 97, 120])), ra_I (g 70) cC 4 (cw [109, 111, 111, 100]), ra_I (g 71) cC 5 (cw [98, 97, 114, 103, 101]), ra_I (g 72) cC 3 (cw [119, 101, 116]), ra_I (g 73) cC 3 (cw [100, 97, 121]), ra_I (g 74) cC 4 (cw [119, 101, 101, 107]), ra_I (g 75) cC 4 (cw [116, 111, 108, 100]), ra_I (g 76) cC 5 (cw [97, 108, 111, 110, 101]), ra_I (g 77) cC 6 (cw [110, 117, 109, 98, 101, 114]), ra_I (g 78) cC 4 (cw [109, 117, 116, 101]), ra_I (g 58) cC 5 (cw [102, 105, 114, 115, 116]), ra_I (g 79) cC 5 (cw [119, 101, 101, 107, 115])]) eu_279 hP hD rfl (fun hP hD => ?_)
                  rcases hox_277 with ⟨hx1, hx2, hx3, hx4, hx5, hx6, hx7⟩ | ⟨hx1, hx2, hx3, hx4, hx5, hx6, hx7⟩ | ⟨hx1, -⟩
                  · have hT : T = .error (4, (sk tb pe za)) := y_full hYp hx2 (fun L k => by rw [hk2]; exact prt_weeks0 hww)
                    have hO_280 : ∀ (a : Nat) (d : Int32), moO tb pe (.error (4, (sk tb pe za))) a d pb2_269 pp2_270 := fun _ _ => ⟨hx3, by rw [hx4, hcu_264], show 1 ≤ 4 by decide, show 4 ≤ 5 by decide⟩
                    refine lv_aload_n hx hb dX12_qPartTold_173 rfl (lv_at hl 3 rfl) ?_
                    refine lv_iload_n hx hb dX12_qPartTold_174 rfl (lv_at hl 0 rfl) ?_
                    refine sk_Vv (q0 := 0) (n := 1) (rest := []) (wr := fmR om_17_187ff _) ⟨hx, hb, hml, hown, hts⟩ hl.1 (c_em_qAsksWord l D cI cJ cC cZ cS mm g ta pa2_252 pe zd pb2_269 pp2_270 pf pg pn rt rn cd sn il tk am at_ aa wt wy rm ud nu sd qn qw2_272 qo2_271 qb qp qa qi oc ko_268 tb (.error (4, (sk tb pe za))) hpa3_255 hpe hpb2_274 (by omega) (hO_280 _ _) htb) w_7_51 w_7_53 w_0_60 w_1_14 w_7_54 hd_X12_qAsksWord_1 ⟨⟨(Nat.le_of_ble_eq_true rfl), (Nat.le_of_ble_eq_true rfl)⟩, (Nat.le_of_ble_eq_true rfl), (Nat.le_of_ble_eq_true rfl)⟩ hK hP hD hS hA (fmT om_17_187ff 0) (fmF om_17_187ff 0) (fm_C1 rfl rfl) (fm_R rfl rfl) (fm_nT om_17_187ff 0) (fm_nF om_17_187ff 0) (fm_di om_17_187ff 0) rfl rfl rfl rfl (Nat.le_of_ble_eq_true rfl) dX12_qPartTold_175 (fun u H locs hw hP hD hS => ?_)
                    refine exE hw (fun pa2_281 hw1 => exE hw1 (fun pd2_282 hw2 => exE hw2 (fun pb2_283 hw3 => exE hw3 (fun pp2_284 hw4 => anE hw4 (fun hpa2_285 hw5 => anE hw5 (fun hpa3_286 hw6 => anE hw6 (fun hpb2_287 hw7 => anE hw7 (fun hpb3_288 hw8 => anE hw8 (fun hO2_289 eu_290 => ?_)))))))))
                    clear hw hw1 hw2 hw3 hw4 hw5 hw6 hw7 hw8
                    refine o_mgE (ws' := [ro_ mm 12 (mo g (nI ta) (nI pa2_281) (nI pe) pd2_282 (nI pb2_283) pp2_284 pf pg pn rt rn (nI cd) sn (nI il) tk am at_ aa 0 0 (-1) wt wy 0 (nI rm) (nI ud) (nI nu) sd (nI qn) (nI qw2_272) qo2_271 (nI qb) (nI qp) qa (nI qi) (nI oc)), ra_N (g 0) cI 1600 tb, ra_N (g 80) cI 1700 qs, ra_N (g 82) cI 1700 qt2_273, ra_I (g 68) cC 3 (cw ([109, 105, 110])), ra_I (g 69) cC 3 (cw ([109, 97, 120])), ra_I (g 70) cC 4 (cw [109, 111, 111, 100]), ra_I (g 71) cC 5 (cw [98, 97, 114, 103, 101]), ra_I (g 72) cC 3 (cw [119, 101, 116]), ra_I (g 73) cC 3 (cw [100, 97, 121]), ra_I (g 74) cC 4 (cw [119, 101, 101, 107]), ra_I (g 75) cC 4 (cw [116, 111, 108, 100]), ra_I (g 76) cC 5 (cw [97, 108, 111, 110, 101]), ra_I (g 77) cC 6 (cw [110, 117, 109, 98, 101, 114]), ra_I (g 78) cC 4 (cw [109, 117, 116, 101]), ra_I (g 58) cC 5 (cw [102, 105, 114, 115, 116]), ra_I (g 79) cC 5 (cw [119, 101, 101, 107, 115])]) eu_290 hP hD rfl (fun hP hD => ?_)
                    refine lv_goto (tgt := 183) hx hb dX12_qPartTold_178 (by decide) ?_
                    refine lv_goto (tgt := 2) hx hb dX12_qPartTold_183 (by decide) ?_
                    exact ih_lp_1 mo_ pa2_281 pd2_282 pb2_283 pp2_284 qo2_271 qw2_272 qt2_273 (bindR (.error (4, (sk tb pe za))) (wordP tb pe (pw11 ko_268))) _ _ _ (by omega) hqt2_278 hO2_289 (by omega) hpa3_286 hpb2_287 hmo (by omega) (by omega) (fun h0 => (show SJ K n0 qs qn _ qb qw2_272 by rw [show qw2_272 = zw + 1 by omega]; exact SJ_push0 (hzj (by omega)) (by omega) (hqe_276 (by omega)))) hT (fun h => absurd h (by omega)) (fun h0 => kp_up (hzk (by omega)) (SJ_le (hzj (by omega))) (hqe_276 (by omega))) hP hD hS (lv_sub hl [2, 3] rfl)
                  · have hY_291 := y_open (v := 60) hYp hx2 (by decide) (fun L d k => by rw [hk2]; exact prt_weeks hww)
                    rw [show 60 + ko_268 - 10 = 60 by omega] at hx7
                    rw [← hx5, ← hx6, ← hx7] at hY_291
                    have hOw : moO tb pe zg pa2_252 zd pb2_269 pp2_270 := by rw [hx3, hx4]; exact hO_263
                    refine lv_aload_n hx hb dX12_qPartTold_173 rfl (lv_at hl 3 rfl) ?_
                    refine lv_iload_n hx hb dX12_qPartTold_174 rfl (lv_at hl 0 rfl) ?_
                    refine sk_Vv (q0 := 0) (n := 1) (rest := []) (wr := fmR om_17_187ff _) ⟨hx, hb, hml, hown, hts⟩ hl.1 (c_em_qAsksWord l D cI cJ cC cZ cS mm g ta pa2_252 pe zd pb2_269 pp2_270 pf pg pn rt rn cd sn il tk am at_ aa wt wy rm ud nu sd qn qw2_272 qo2_271 qb qp qa qi oc ko_268 tb zg hpa3_255 hpe hpb2_274 (by omega) hOw htb) w_7_51 w_7_53 w_0_60 w_1_14 w_7_54 hd_X12_qAsksWord_1 ⟨⟨(Nat.le_of_ble_eq_true rfl), (Nat.le_of_ble_eq_true rfl)⟩, (Nat.le_of_ble_eq_true rfl), (Nat.le_of_ble_eq_true rfl)⟩ hK hP hD hS hA (fmT om_17_187ff 0) (fmF om_17_187ff 0) (fm_C1 rfl rfl) (fm_R rfl rfl) (fm_nT om_17_187ff 0) (fm_nF om_17_187ff 0) (fm_di om_17_187ff 0) rfl rfl rfl rfl (Nat.le_of_ble_eq_true rfl) dX12_qPartTold_175 (fun u H locs hw hP hD hS => ?_)
                    refine exE hw (fun pa2_292 hw1 => exE hw1 (fun pd2_293 hw2 => exE hw2 (fun pb2_294 hw3 => exE hw3 (fun pp2_295 hw4 => anE hw4 (fun hpa2_296 hw5 => anE hw5 (fun hpa3_297 hw6 => anE hw6 (fun hpb2_298 hw7 => anE hw7 (fun hpb3_299 hw8 => anE hw8 (fun hO2_300 eu_301 => ?_)))))))))
                    clear hw hw1 hw2 hw3 hw4 hw5 hw6 hw7 hw8
                    refine o_mgE (ws' := [ro_ mm 12 (mo g (nI ta) (nI pa2_292) (nI pe) pd2_293 (nI pb2_294) pp2_295 pf pg pn rt rn (nI cd) sn (nI il) tk am at_ aa 0 0 (-1) wt wy 0 (nI rm) (nI ud) (nI nu) sd (nI qn) (nI qw2_272) qo2_271 (nI qb) (nI qp) qa (nI qi) (nI oc)), ra_N (g 0) cI 1600 tb, ra_N (g 80) cI 1700 qs, ra_N (g 82) cI 1700 qt2_273, ra_I (g 68) cC 3 (cw ([109, 105, 110])), ra_I (g 69) cC 3 (cw ([109, 97, 120])), ra_I (g 70) cC 4 (cw [109, 111, 111, 100]), ra_I (g 71) cC 5 (cw [98, 97, 114, 103, 101]), ra_I (g 72) cC 3 (cw [119, 101, 116]), ra_I (g 73) cC 3 (cw [100, 97, 121]), ra_I (g 74) cC 4 (cw [119, 101, 101, 107]), ra_I (g 75) cC 4 (cw [116, 111, 108, 100]), ra_I (g 76) cC 5 (cw [97, 108, 111, 110, 101]), ra_I (g 77) cC 6 (cw [110, 117, 109, 98, 101, 114]), ra_I (g 78) cC 4 (cw [109, 117, 116, 101]), ra_I (g 58) cC 5 (cw [102, 105, 114, 115, 116]), ra_I (g 79) cC 5 (cw [119, 101, 101, 107, 115])]) eu_301 hP hD rfl (fun hP hD => ?_)
                    refine lv_goto (tgt := 183) hx hb dX12_qPartTold_178 (by decide) ?_
                    refine lv_goto (tgt := 2) hx hb dX12_qPartTold_183 (by decide) ?_
                    exact ih_lp_1 mo_ pa2_292 pd2_293 pb2_294 pp2_295 qo2_271 qw2_272 qt2_273 (bindR zg (wordP tb pe (pw11 ko_268))) _ _ _ (by omega) hqt2_278 hO2_300 (by omega) hpa3_297 hpb2_298 hmo (by omega) (by omega) (fun h0 => (show SJ K n0 qs qn _ qb qw2_272 by rw [show qw2_272 = zw + 1 by omega]; exact SJ_push0 (hzj (by omega)) (by omega) (hqe_276 (by omega)))) (by rw [hg, hko]; show yO _ _ _ _ _ (wordP tb pe (pw11 10) (cuO tb pe za zd)) _ _ _ _ _; rw [mo_asks2 hk96]; exact hY_291) (fun h => absurd h (by omega)) (fun h0 => kp_up (hzk (by omega)) (SJ_le (hzj (by omega))) (hqe_276 (by omega))) hP hD hS (lv_sub hl [2, 3] rfl)
                  · exact absurd hb0 hx1
              · have c_266 : ¬ (b_251 = 0) := fun h => c_266 ((neq b_251 0 (by omega) (Nat.le_of_ble_eq_true rfl)).mpr h)
                have hmax : isW tb pe wMax (cuO tb pe za zd) = true := (rr_1 hW_262 (by omega)).2
                have hmm : isW tb pe wMin (cuO tb pe za zd) = true ∨ isW tb pe wMax (cuO tb pe za zd) = true := Or.inr hmax
                refine lv_aload_n hx hb dX12_qPartTold_78 rfl (lv_at hl 3 rfl) ?_
                refine lv_aload_n hx hb dX12_qPartTold_79 rfl (lv_at hl 3 rfl) ?_
                refine sk_get (v := .ref (g 68)) (C := RX12) (T := TX12) (N := 92) hx hb hts inlX12 hown hK hP 0 rfl rfl 68 (Nat.le_of_ble_eq_true rfl) w_5_223 rfl dX12_qPartTold_80 ?_
                refine sk_Vi (q0 := 0) (n := 1) (rest := []) (wr := fmR om_17_19000 _) ⟨hx, hb, hml, hown, hts⟩ hl.1 (c_em_takes l D cI cJ cC cZ cS mm g ta pa2_252 pe zd zb zp pf pg pn rt rn cd sn il tk am at_ aa wt wy rm ud nu sd qn zw zo qb qp qa qi oc tb (g 68) 3 ([109, 105, 110]) zg hpa3_255 hpe hzb (by omega) (by omega) rfl (wb_of (by decide)) hO_263 htb) w_6_214 w_6_216 w_0_43 w_1_14 w_6_217 hd_X12_takes_1 ⟨⟨(Nat.le_of_ble_eq_true rfl), (Nat.le_of_ble_eq_true rfl)⟩, (Nat.le_of_ble_eq_true rfl), (Nat.le_of_ble_eq_true rfl)⟩ hK hP hD hS hA (fmT om_17_19000 0) (fmF om_17_19000 0) (fm_C1 rfl rfl) (fm_R rfl rfl) (fm_nT om_17_19000 0) (fm_nF om_17_19000 0) (fm_di om_17_19000 0) rfl rfl rfl rfl (Nat.le_of_ble_eq_true rfl) dX12_qPartTold_83 (fun r_305 u H locs hw hP hD hS => ?_)
                refine exE hw (fun b_302 hw1 => exE hw1 (fun pa2_303 hw2 => exE hw2 (fun pd2_304 hw3 => anE hw3 (fun hpa2_306 hw4 => anE hw4 (fun hpa3_307 hw5 => anE hw5 (fun hb1_308 hw6 => anE hw6 (fun hT_309 hw7 => anE hw7 (fun er_311 eu_310 => ?_))))))))
                clear hw hw1 hw2 hw3 hw4 hw5 hw6 hw7
                subst er_311
                refine o_mgE (ws' := [ro_ mm 12 (mo g (nI ta) (nI pa2_303) (nI pe) pd2_304 (nI zb) zp pf pg pn rt rn (nI cd) sn (nI il) tk am at_ aa 0 0 (-1) wt wy 0 (nI rm) (nI ud) (nI nu) sd (nI qn) (nI zw) zo (nI qb) (nI qp) qa (nI qi) (nI oc)), ra_N (g 0) cI 1600 tb, ra_N (g 80) cI 1700 qs, ra_N (g 82) cI 1700 zt, ra_I (g 68) cC 3 (cw ([109, 105, 110])), ra_I (g 69) cC 3 (cw ([109, 97, 120])), ra_I (g 70) cC 4 (cw [109, 111, 111, 100]), ra_I (g 71) cC 5 (cw [98, 97, 114, 103, 101]), ra_I (g 72) cC 3 (cw [119, 101, 116]), ra_I (g 73) cC 3 (cw [100, 97, 121]), ra_I (g 74) cC 4 (cw [119, 101, 101, 107]), ra_I (g 75) cC 4 (cw [116, 111, 108, 100]), ra_I (g 76) cC 5 (cw [97, 108, 111, 110, 101]), ra_I (g 77) cC 6 (cw [110, 117, 109, 98, 101, 114]), ra_I (g 78) cC 4 (cw [109, 117, 116, 101]), ra_I (g 58) cC 5 (cw [102, 105, 114, 115, 116]), ra_I (g 79) cC 5 (cw [119, 101, 101, 107, 115])]) eu_310 hP hD rfl (fun hP hD => ?_)
                have hT_312 := hT_309
                rw [hcc_265] at hT_312
                refine lv_istore (lv' := [(4, .int (nI b_302)), (3, .int r_157), (2, .int r_146), (1, .int (nI mo_)), (0, .ref mm)]) hx hb dX12_qPartTold_86 hl (by decide) rfl (fun ls hl => ?_)
                refine lv_iload hx hb dX12_qPartTold_88 (lv_at hl 0 rfl) ?_
                have hbt : b_302 = 0 := by rcases hT_312 with ⟨h9, -⟩ | ⟨-, -, h9, -⟩; exact h9; exact absurd (show isW tb pe wMin (cuO tb pe za zd) = true from h9) (by rw [hmin]; decide)
                refine lv_if_ne (tgt := 101) hx hb dX12_qPartTold_90 (by decide) (fun c => absurd ((neq b_302 0 (by omega) (Nat.le_of_ble_eq_true rfl)).mpr hbt) c) (fun c_313 => ?_)
                have hOb := (rr_0 hT_312 hbt).2
                refine lv_aload_n hx hb dX12_qPartTold_93 rfl (lv_at hl 4 rfl) ?_
                refine lv_aload_n hx hb dX12_qPartTold_94 rfl (lv_at hl 4 rfl) ?_
                refine sk_get (v := .ref (g 69)) (C := RX12) (T := TX12) (N := 92) hx hb hts inlX12 hown hK hP 0 rfl rfl 69 (Nat.le_of_ble_eq_true rfl) w_5_224 rfl dX12_qPartTold_95 ?_
                refine sk_Vv (q0 := 0) (n := 1) (rest := []) (wr := fmR om_17_18800 _) ⟨hx, hb, hml, hown, hts⟩ hl.1 (c_em_asks l D cI cJ cC cZ cS mm g ta pa2_303 pe pd2_304 zb zp pf pg pn rt rn cd sn il tk am at_ aa wt wy rm ud nu sd qn zw zo qb qp qa qi oc tb (g 69) 3 ([109, 97, 120]) zg hpa3_307 hpe hzb (by omega) (by omega) rfl (wb_of (by decide)) hOb htb) w_6_210 w_6_212 w_0_42 w_1_14 w_6_213 hd_X12_asks_1 ⟨⟨(Nat.le_of_ble_eq_true rfl), (Nat.le_of_ble_eq_true rfl)⟩, (Nat.le_of_ble_eq_true rfl), (Nat.le_of_ble_eq_true rfl)⟩ hK hP hD hS hA (fmT om_17_18800 0) (fmF om_17_18800 0) (fm_C1 rfl rfl) (fm_R rfl rfl) (fm_nT om_17_18800 0) (fm_nF om_17_18800 0) (fm_di om_17_18800 0) rfl rfl rfl rfl (Nat.le_of_ble_eq_true rfl) dX12_qPartTold_98 (fun u H locs hw hP hD hS => ?_)
                refine exE hw (fun pa2_314 hw1 => exE hw1 (fun pd2_315 hw2 => exE hw2 (fun pb2_316 hw3 => exE hw3 (fun pp2_317 hw4 => anE hw4 (fun hpa2_318 hw5 => anE hw5 (fun hpa3_319 hw6 => anE hw6 (fun hpb2_320 hw7 => anE hw7 (fun hpb3_321 hw8 => anE hw8 (fun hO2_322 eu_323 => ?_)))))))))
                clear hw hw1 hw2 hw3 hw4 hw5 hw6 hw7 hw8
                refine o_mgE (ws' := [ro_ mm 12 (mo g (nI ta) (nI pa2_314) (nI pe) pd2_315 (nI pb2_316) pp2_317 pf pg pn rt rn (nI cd) sn (nI il) tk am at_ aa 0 0 (-1) wt wy 0 (nI rm) (nI ud) (nI nu) sd (nI qn) (nI zw) zo (nI qb) (nI qp) qa (nI qi) (nI oc)), ra_N (g 0) cI 1600 tb, ra_N (g 80) cI 1700 qs, ra_N (g 82) cI 1700 zt, ra_I (g 68) cC 3 (cw ([109, 105, 110])), ra_I (g 69) cC 3 (cw ([109, 97, 120])), ra_I (g 70) cC 4 (cw [109, 111, 111, 100]), ra_I (g 71) cC 5 (cw [98, 97, 114, 103, 101]), ra_I (g 72) cC 3 (cw [119, 101, 116]), ra_I (g 73) cC 3 (cw [100, 97, 121]), ra_I (g 74) cC 4 (cw [119, 101, 101, 107]), ra_I (g 75) cC 4 (cw [116, 111, 108, 100]), ra_I (g 76) cC 5 (cw [97, 108, 111, 110, 101]), ra_I (g 77) cC 6 (cw [110, 117, 109, 98, 101, 114]), ra_I (g 78) cC 4 (cw [109, 117, 116, 101]), ra_I (g 58) cC 5 (cw [102, 105, 114, 115, 116]), ra_I (g 79) cC 5 (cw [119, 101, 101, 107, 115])]) eu_323 hP hD rfl (fun hP hD => ?_)
                have hOm := mo_swap (G := nxF tb pe) hOb (fun _ => by rw [mo_two hOb hzO hb0 hb0]; exact mo_asks2 hmax) hO2_322
                refine lv_aload_n hx hb dX12_qPartTold_101 rfl (lv_at hl 4 rfl) ?_
                refine sk_Vi (q0 := 0) (n := 0) (rest := []) (wr := fmR om_17_18000 _) ⟨hx, hb, hml, hown, hts⟩ hl.1 (c_em_look l D cI cJ cC cZ cS mm g ta pa2_314 pe pd2_315 pb2_316 pp2_317 pf pg pn rt rn cd sn il tk am at_ aa wt wy rm ud nu sd qn zw zo qb qp qa qi oc tb hpa3_319 hpe htb) w_6_222 w_6_224 w_0_45 w_1_14 w_6_225 hd_X12_look_0 ⟨⟨(Nat.le_of_ble_eq_true rfl), (Nat.le_of_ble_eq_true rfl)⟩, (Nat.le_of_ble_eq_true rfl), (Nat.le_of_ble_eq_true rfl)⟩ hK hP hD hS hA (fmT om_17_18000 0) (fmF om_17_18000 0) (fm_C1 rfl rfl) (fm_R rfl rfl) (fm_nT om_17_18000 0) (fm_nF om_17_18000 0) (fm_di om_17_18000 0) rfl rfl rfl rfl (Nat.le_of_ble_eq_true rfl) dX12_qPartTold_102 (fun r_325 u H locs hw hP hD hS => ?_)
                refine exE hw (fun pa2_324 hw1 => anE hw1 (fun hpa2_326 hw2 => anE hw2 (fun hpa3_327 hw3 => anE hw3 (fun hlk_328 hw4 => anE hw4 (fun hst_329 hw5 => anE hw5 (fun hsk_330 eu_331 => ?_))))))
                clear hw hw1 hw2 hw3 hw4 hw5
                refine o_mgE (ws' := [ro_ mm 12 (mo g (nI ta) (nI pa2_324) (nI pe) pd2_315 (nI pb2_316) pp2_317 pf pg pn rt rn (nI cd) sn (nI il) tk am at_ aa 0 0 (-1) wt wy 0 (nI rm) (nI ud) (nI nu) sd (nI qn) (nI zw) zo (nI qb) (nI qp) qa (nI qi) (nI oc)), ra_N (g 0) cI 1600 tb, ra_N (g 80) cI 1700 qs, ra_N (g 82) cI 1700 zt, ra_I (g 68) cC 3 (cw ([109, 105, 110])), ra_I (g 69) cC 3 (cw ([109, 97, 120])), ra_I (g 70) cC 4 (cw [109, 111, 111, 100]), ra_I (g 71) cC 5 (cw [98, 97, 114, 103, 101]), ra_I (g 72) cC 3 (cw [119, 101, 116]), ra_I (g 73) cC 3 (cw [100, 97, 121]), ra_I (g 74) cC 4 (cw [119, 101, 101, 107]), ra_I (g 75) cC 4 (cw [116, 111, 108, 100]), ra_I (g 76) cC 5 (cw [97, 108, 111, 110, 101]), ra_I (g 77) cC 6 (cw [110, 117, 109, 98, 101, 114]), ra_I (g 78) cC 4 (cw [109, 117, 116, 101]), ra_I (g 58) cC 5 (cw [102, 105, 114, 115, 116]), ra_I (g 79) cC 5 (cw [119, 101, 101, 107, 115])]) eu_331 hP hD rfl (fun hP hD => ?_)
                have hOm2 : moO tb pe (bindR zg (nxF tb pe)) pa2_324 pd2_315 pb2_316 pp2_317 := by rw [hsk_330]; exact mo_look hOm
                have hOm3 : moO tb pe (.ok (nx tb pe (sk tb pe za))) pa2_324 pd2_315 pb2_316 pp2_317 := by rw [hg] at hOm2; exact hOm2
                have hc1 : nx tb pe (sk tb pe za) = cuO tb pe pa2_324 pd2_315 := (mo_cu hOm3 rfl).2
                have hbq : pb2_316 = 0 := hOm3.1
                have hat1 : pa2_324 = (nx tb pe (sk tb pe za)).1 := by rw [hc1]; show pa2_324 = sk tb pe pa2_324; rw [hsk_330, sk_sk]
                have hskk : pa2_324 = sk tb pe pa2_324 := by rw [hsk_330, sk_sk]
                refine lv_bipush (v := 40) hx hb dX12_qPartTold_105 (by decide) ?_
                refine lv_icmp_ne (tgt := 117) hx hb dX12_qPartTold_107 (by decide) (fun c_332 => ?_) (fun c_332 => ?_)
                · have hsm : ¬ isS tb pe 40 (nx tb pe (sk tb pe za)) = true := by rw [hc1]; exact fun hq => c_332 ((lk_S htb (by decide) hlk_328).mpr (by rw [hskk]; exact isS_cu.mp hq))
                  refine lv_iconst (v := (-1)) hx hb dX12_qPartTold_117 (by decide) ?_
                  refine lv_istore (lv' := [(5, .int (-1)), (4, .int (nI b_302)), (3, .int r_157), (2, .int r_146), (1, .int (nI mo_)), (0, .ref mm)]) hx hb dX12_qPartTold_118 hl (by decide) rfl (fun ls hl => ?_)
                  refine lv_iload hx hb dX12_qPartTold_120 (lv_at hl 0 rfl) ?_
                  refine lv_iconst (v := (-1)) hx hb dX12_qPartTold_122 (by decide) ?_
                  refine lv_icmp_eq (tgt := 144) hx hb dX12_qPartTold_123 (by decide) (fun c_333 => ?_) (fun c => absurd c (by decide))
                  refine lv_aload_n hx hb dX12_qPartTold_144 rfl (lv_at hl 5 rfl) ?_
                  refine lv_bipush (v := 40) hx hb dX12_qPartTold_145 (by decide) ?_
                  refine sk_Vv (q0 := 0) (n := 1) (rest := []) (wr := fmR om_17_18000 _) ⟨hx, hb, hml, hown, hts⟩ hl.1 (c_em_asksSign l D cI cJ cC cZ cS mm g ta pa2_324 pe pd2_315 pb2_316 pp2_317 pf pg pn rt rn cd sn il tk am at_ aa wt wy rm ud nu sd qn zw zo qb qp qa qi oc 40 tb (bindR zg (nxF tb pe)) hpa3_327 hpe hpb2_320 (by omega) (by decide) hOm2 htb) w_7_3 w_7_5 w_0_48 w_1_14 w_7_6 hd_X12_asksSign_1 ⟨⟨(Nat.le_of_ble_eq_true rfl), (Nat.le_of_ble_eq_true rfl)⟩, (Nat.le_of_ble_eq_true rfl), (Nat.le_of_ble_eq_true rfl)⟩ hK hP hD hS hA (fmT om_17_18000 0) (fmF om_17_18000 0) (fm_C1 rfl rfl) (fm_R rfl rfl) (fm_nT om_17_18000 0) (fm_nF om_17_18000 0) (fm_di om_17_18000 0) rfl rfl rfl rfl (Nat.le_of_ble_eq_true rfl) dX12_qPartTold_147 (fun u H locs hw hP hD hS => ?_)
                  refine exE hw (fun pa2_334 hw1 => exE hw1 (fun pb2_335 hw2 => exE hw2 (fun pp2_336 hw3 => anE hw3 (fun hpa2_337 hw4 => anE hw4 (fun hpa3_338 hw5 => anE hw5 (fun hpb2_339 hw6 => anE hw6 (fun hpb3_340 hw7 => anE hw7 (fun hO2_341 eu_342 => ?_))))))))
                  clear hw hw1 hw2 hw3 hw4 hw5 hw6 hw7
                  refine o_mgE (ws' := [ro_ mm 12 (mo g (nI ta) (nI pa2_334) (nI pe) pd2_315 (nI pb2_335) pp2_336 pf pg pn rt rn (nI cd) sn (nI il) tk am at_ aa 0 0 (-1) wt wy 0 (nI rm) (nI ud) (nI nu) sd (nI qn) (nI zw) zo (nI qb) (nI qp) qa (nI qi) (nI oc)), ra_N (g 0) cI 1600 tb, ra_N (g 80) cI 1700 qs, ra_N (g 82) cI 1700 zt, ra_I (g 68) cC 3 (cw ([109, 105, 110])), ra_I (g 69) cC 3 (cw ([109, 97, 120])), ra_I (g 70) cC 4 (cw [109, 111, 111, 100]), ra_I (g 71) cC 5 (cw [98, 97, 114, 103, 101]), ra_I (g 72) cC 3 (cw [119, 101, 116]), ra_I (g 73) cC 3 (cw [100, 97, 121]), ra_I (g 74) cC 4 (cw [119, 101, 101, 107]), ra_I (g 75) cC 4 (cw [116, 111, 108, 100]), ra_I (g 76) cC 5 (cw [97, 108, 111, 110, 101]), ra_I (g 77) cC 6 (cw [110, 117, 109, 98, 101, 114]), ra_I (g 78) cC 4 (cw [109, 117, 116, 101]), ra_I (g 58) cC 5 (cw [102, 105, 114, 115, 116]), ra_I (g 79) cC 5 (cw [119, 101, 101, 107, 115])]) eu_342 hP hD rfl (fun hP hD => ?_)
                  refine lv_goto (tgt := 183) hx hb dX12_qPartTold_150 (by decide) ?_
                  refine lv_goto (tgt := 2) hx hb dX12_qPartTold_183 (by decide) ?_
                  exact ih_lp_1 mo_ pa2_334 pd2_315 pb2_335 pp2_336 zo zw zt (bindR (bindR zg (nxF tb pe)) (signP tb pe 40)) _ _ _ (by omega) hzt hO2_341 (by omega) hpa3_338 hpb2_339 hmo (by omega) (by omega) (fun h0 => hzj (by omega)) (by rw [hg]; show yO _ _ _ _ _ (signP tb pe 40 (nx tb pe (sk tb pe za))) _ _ _ _ _; rw [signP_f hsm]; exact y_err hYp (fun L d k _ => prt_pairx hmm hsm)) (fun h => absurd h (by omega)) (fun h0 => hzk (by omega)) hP hD hS (lv_sub hl [4, 5] rfl)
                · have hq_343 := lk_at hlk_328 htb (w := 40) (by omega) c_332
                  have hsm : isS tb pe 40 (nx tb pe (sk tb pe za)) = true := by rw [hc1]; exact isS_cu.mpr (by rw [← hskk]; exact (lk_S htb (by decide) hlk_328).mp c_332)
                  refine lv_aload_n hx hb dX12_qPartTold_110 rfl (lv_at hl 4 rfl) ?_
                  refine sk_get (v := .int (nI pa2_324)) (C := RX12) (T := TX12) (N := 92) hx hb hts inlX12 hown hK hP 0 rfl rfl 2 (Nat.le_of_ble_eq_true rfl) w_5_157 rfl dX12_qPartTold_111 ?_
                  refine lv_goto (tgt := 118) hx hb dX12_qPartTold_114 (by decide) ?_
                  refine lv_istore (lv' := [(5, .int (nI pa2_324)), (4, .int (nI b_302)), (3, .int r_157), (2, .int r_146), (1, .int (nI mo_)), (0, .ref mm)]) hx hb dX12_qPartTold_118 hl (by decide) rfl (fun ls hl => ?_)
                  refine lv_iload hx hb dX12_qPartTold_120 (lv_at hl 0 rfl) ?_
                  refine lv_iconst (v := (-1)) hx hb dX12_qPartTold_122 (by decide) ?_
                  refine lv_icmp_eq (tgt := 144) hx hb dX12_qPartTold_123 (by decide) (fun c => absurd ((ieq (ivn pa2_324 (by omega)) (show (-1 : Int32).toInt = -1 by decide)).mp c) (by omega)) (fun c_344 => ?_)
                  refine lv_aload_n hx hb dX12_qPartTold_126 rfl (lv_at hl 5 rfl) ?_
                  refine lv_iload hx hb dX12_qPartTold_127 (lv_at hl 1 rfl) ?_
                  refine lv_if_eq (tgt := 137) hx hb dX12_qPartTold_129 (by decide) (fun c_345 => ?_) (fun c => absurd ((neq b_302 0 (by omega) (Nat.le_of_ble_eq_true rfl)).mpr hbt) c)
                  refine lv_bipush (v := 22) hx hb dX12_qPartTold_137 (by decide) ?_
                  refine lv_iload hx hb dX12_qPartTold_139 (lv_at hl 0 rfl) ?_
                  refine sk_Vv (q0 := 0) (n := 2) (rest := []) (wr := fmR om_17_12000 _) ⟨hx, hb, hml, hown, hts⟩ hl.1 (c_em_qOpens l D cI cJ cC cZ cS mm g ta pa2_324 pe pd2_315 pb2_316 pp2_317 pf pg pn rt rn cd sn il tk am at_ aa wt wy rm ud nu sd qn zw zo qb qp qa qi oc 22 (nI pa2_324) zt hpb2_320 (by omega) (by omega) hzt) w_7_47 w_7_49 w_0_59 w_1_14 w_7_50 hd_X12_qOpens_2 ⟨⟨(Nat.le_of_ble_eq_true rfl), (Nat.le_of_ble_eq_true rfl)⟩, (Nat.le_of_ble_eq_true rfl), (Nat.le_of_ble_eq_true rfl)⟩ hK hP hD hS hA (fmT om_17_12000 0) (fmF om_17_12000 0) (fm_C1 rfl rfl) (fm_R rfl rfl) (fm_nT om_17_12000 0) (fm_nF om_17_12000 0) (fm_di om_17_12000 0) rfl rfl rfl rfl (Nat.le_of_ble_eq_true rfl) dX12_qPartTold_141 (fun u H locs hw hP hD hS => ?_)
                  refine exE hw (fun pb2_346 hw1 => exE hw1 (fun pp2_347 hw2 => exE hw2 (fun qo2_348 hw3 => exE hw3 (fun qw2_349 hw4 => exE hw4 (fun qt2_350 hw5 => anE hw5 (fun hpb2_351 hw6 => anE hw6 (fun hop_352 hw7 => anE hw7 (fun hqe_353 hw8 => anE hw8 (fun hox_354 hw9 => anE hw9 (fun hqt2_355 eu_356 => ?_))))))))))
                  clear hw hw1 hw2 hw3 hw4 hw5 hw6 hw7 hw8 hw9
                  refine o_mgE (ws' := [ro_ mm 12 (mo g (nI ta) (nI pa2_324) (nI pe) pd2_315 (nI pb2_346) pp2_347 pf pg pn rt rn (nI cd) sn (nI il) tk am at_ aa 0 0 (-1) wt wy 0 (nI rm) (nI ud) (nI nu) sd (nI qn) (nI qw2_349) qo2_348 (nI qb) (nI qp) qa (nI qi) (nI oc)), ra_N (g 0) cI 1600 tb, ra_N (g 80) cI 1700 qs, ra_N (g 82) cI 1700 qt2_350, ra_I (g 68) cC 3 (cw ([109, 105, 110])), ra_I (g 69) cC 3 (cw ([109, 97, 120])), ra_I (g 70) cC 4 (cw [109, 111, 111, 100]), ra_I (g 71) cC 5 (cw [98, 97, 114, 103, 101]), ra_I (g 72) cC 3 (cw [119, 101, 116]), ra_I (g 73) cC 3 (cw [100, 97, 121]), ra_I (g 74) cC 4 (cw [119, 101, 101, 107]), ra_I (g 75) cC 4 (cw [116, 111, 108, 100]), ra_I (g 76) cC 5 (cw [97, 108, 111, 110, 101]), ra_I (g 77) cC 6 (cw [110, 117, 109, 98, 101, 114]), ra_I (g 78) cC 4 (cw [109, 117, 116, 101]), ra_I (g 58) cC 5 (cw [102, 105, 114, 115, 116]), ra_I (g 79) cC 5 (cw [119, 101, 101, 107, 115])]) eu_356 hP hD rfl (fun hP hD => ?_)
                  rcases hox_354 with ⟨hx1, hx2, hx3, hx4, hx5, hx6, hx7⟩ | ⟨hx1, hx2, hx3, hx4, hx5, hx6, hx7⟩ | ⟨hx1, -⟩
                  · have hT : T = .error (4, (nx tb pe (sk tb pe za)).1) := y_full hYp hx2 (fun L k => prt_pair0 hmm hsm)
                    have hO_357 : ∀ (a : Nat) (d : Int32), moO tb pe (.error (4, (nx tb pe (sk tb pe za)).1)) a d pb2_346 pp2_347 := fun _ _ => ⟨hx3, by rw [hx4, hat1], show 1 ≤ 4 by decide, show 4 ≤ 5 by decide⟩
                    refine lv_aload_n hx hb dX12_qPartTold_144 rfl (lv_at hl 5 rfl) ?_
                    refine lv_bipush (v := 40) hx hb dX12_qPartTold_145 (by decide) ?_
                    refine sk_Vv (q0 := 0) (n := 1) (rest := []) (wr := fmR om_17_18000 _) ⟨hx, hb, hml, hown, hts⟩ hl.1 (c_em_asksSign l D cI cJ cC cZ cS mm g ta pa2_324 pe pd2_315 pb2_346 pp2_347 pf pg pn rt rn cd sn il tk am at_ aa wt wy rm ud nu sd qn qw2_349 qo2_348 qb qp qa qi oc 40 tb (.error (4, (nx tb pe (sk tb pe za)).1)) hpa3_327 hpe hpb2_351 (by omega) (by decide) (hO_357 _ _) htb) w_7_3 w_7_5 w_0_48 w_1_14 w_7_6 hd_X12_asksSign_1 ⟨⟨(Nat.le_of_ble_eq_true rfl), (Nat.le_of_ble_eq_true rfl)⟩, (Nat.le_of_ble_eq_true rfl), (Nat.le_of_ble_eq_true rfl)⟩ hK hP hD hS hA (fmT om_17_18000 0) (fmF om_17_18000 0) (fm_C1 rfl rfl) (fm_R rfl rfl) (fm_nT om_17_18000 0) (fm_nF om_17_18000 0) (fm_di om_17_18000 0) rfl rfl rfl rfl (Nat.le_of_ble_eq_true rfl) dX12_qPartTold_147 (fun u H locs hw hP hD hS => ?_)
                    refine exE hw (fun pa2_358 hw1 => exE hw1 (fun pb2_359 hw2 => exE hw2 (fun pp2_360 hw3 => anE hw3 (fun hpa2_361 hw4 => anE hw4 (fun hpa3_362 hw5 => anE hw5 (fun hpb2_363 hw6 => anE hw6 (fun hpb3_364 hw7 => anE hw7 (fun hO2_365 eu_366 => ?_))))))))
                    clear hw hw1 hw2 hw3 hw4 hw5 hw6 hw7
                    refine o_mgE (ws' := [ro_ mm 12 (mo g (nI ta) (nI pa2_358) (nI pe) pd2_315 (nI pb2_359) pp2_360 pf pg pn rt rn (nI cd) sn (nI il) tk am at_ aa 0 0 (-1) wt wy 0 (nI rm) (nI ud) (nI nu) sd (nI qn) (nI qw2_349) qo2_348 (nI qb) (nI qp) qa (nI qi) (nI oc)), ra_N (g 0) cI 1600 tb, ra_N (g 80) cI 1700 qs, ra_N (g 82) cI 1700 qt2_350, ra_I (g 68) cC 3 (cw ([109, 105, 110])), ra_I (g 69) cC 3 (cw ([109, 97, 120])), ra_I (g 70) cC 4 (cw [109, 111, 111, 100]), ra_I (g 71) cC 5 (cw [98, 97, 114, 103, 101]), ra_I (g 72) cC 3 (cw [119, 101, 116]), ra_I (g 73) cC 3 (cw [100, 97, 121]), ra_I (g 74) cC 4 (cw [119, 101, 101, 107]), ra_I (g 75) cC 4 (cw [116, 111, 108, 100]), ra_I (g 76) cC 5 (cw [97, 108, 111, 110, 101]), ra_I (g 77) cC 6 (cw [110, 117, 109, 98, 101, 114]), ra_I (g 78) cC 4 (cw [109, 117, 116, 101]), ra_I (g 58) cC 5 (cw [102, 105, 114, 115, 116]), ra_I (g 79) cC 5 (cw [119, 101, 101, 107, 115])]) eu_366 hP hD rfl (fun hP hD => ?_)
                    refine lv_goto (tgt := 183) hx hb dX12_qPartTold_150 (by decide) ?_
                    refine lv_goto (tgt := 2) hx hb dX12_qPartTold_183 (by decide) ?_
                    exact ih_lp_1 mo_ pa2_358 pd2_315 pb2_359 pp2_360 qo2_348 qw2_349 qt2_350 (bindR (.error (4, (nx tb pe (sk tb pe za)).1)) (signP tb pe 40)) _ _ _ (by omega) hqt2_355 hO2_365 (by omega) hpa3_362 hpb2_363 hmo (by omega) (by omega) (fun h0 => (show SJ K n0 qs qn _ qb qw2_349 by rw [show qw2_349 = zw + 1 by omega]; exact SJ_push0 (hzj (by omega)) (by omega) (hqe_353 (by omega)))) hT (fun h => absurd h (by omega)) (fun h0 => kp_up (hzk (by omega)) (SJ_le (hzj (by omega))) (hqe_353 (by omega))) hP hD hS (lv_sub hl [4, 5] rfl)
                  · have hY_367 := y_open (v := 22) hYp hx2 (by decide) (fun L d k => prt_pair (Or.inr ⟨hmax, rfl⟩) hsm)
                    rw [← hx5, ← hx6, ← hx7] at hY_367
                    have hOm4 : moO tb pe (bindR zg (nxF tb pe)) pa2_324 pd2_315 pb2_346 pp2_347 := by rw [hx3, hx4]; exact hOm2
                    refine lv_aload_n hx hb dX12_qPartTold_144 rfl (lv_at hl 5 rfl) ?_
                    refine lv_bipush (v := 40) hx hb dX12_qPartTold_145 (by decide) ?_
                    refine sk_Vv (q0 := 0) (n := 1) (rest := []) (wr := fmR om_17_18000 _) ⟨hx, hb, hml, hown, hts⟩ hl.1 (c_em_asksSign l D cI cJ cC cZ cS mm g ta pa2_324 pe pd2_315 pb2_346 pp2_347 pf pg pn rt rn cd sn il tk am at_ aa wt wy rm ud nu sd qn qw2_349 qo2_348 qb qp qa qi oc 40 tb (bindR zg (nxF tb pe)) hpa3_327 hpe hpb2_351 (by omega) (by decide) hOm4 htb) w_7_3 w_7_5 w_0_48 w_1_14 w_7_6 hd_X12_asksSign_1 ⟨⟨(Nat.le_of_ble_eq_true rfl), (Nat.le_of_ble_eq_true rfl)⟩, (Nat.le_of_ble_eq_true rfl), (Nat.le_of_ble_eq_true rfl)⟩ hK hP hD hS hA (fmT om_17_18000 0) (fmF om_17_18000 0) (fm_C1 rfl rfl) (fm_R rfl rfl) (fm_nT om_17_18000 0) (fm_nF om_17_18000 0) (fm_di om_17_18000 0) rfl rfl rfl rfl (Nat.le_of_ble_eq_true rfl) dX12_qPartTold_147 (fun u H locs hw hP hD hS => ?_)
                    refine exE hw (fun pa2_368 hw1 => exE hw1 (fun pb2_369 hw2 => exE hw2 (fun pp2_370 hw3 => anE hw3 (fun hpa2_371 hw4 => anE hw4 (fun hpa3_372 hw5 => anE hw5 (fun hpb2_373 hw6 => anE hw6 (fun hpb3_374 hw7 => anE hw7 (fun hO2_375 eu_376 => ?_))))))))
                    clear hw hw1 hw2 hw3 hw4 hw5 hw6 hw7
                    refine o_mgE (ws' := [ro_ mm 12 (mo g (nI ta) (nI pa2_368) (nI pe) pd2_315 (nI pb2_369) pp2_370 pf pg pn rt rn (nI cd) sn (nI il) tk am at_ aa 0 0 (-1) wt wy 0 (nI rm) (nI ud) (nI nu) sd (nI qn) (nI qw2_349) qo2_348 (nI qb) (nI qp) qa (nI qi) (nI oc)), ra_N (g 0) cI 1600 tb, ra_N (g 80) cI 1700 qs, ra_N (g 82) cI 1700 qt2_350, ra_I (g 68) cC 3 (cw ([109, 105, 110])), ra_I (g 69) cC 3 (cw ([109, 97, 120])), ra_I (g 70) cC 4 (cw [109, 111, 111, 100]), ra_I (g 71) cC 5 (cw [98, 97, 114, 103, 101]), ra_I (g 72) cC 3 (cw [119, 101, 116]), ra_I (g 73) cC 3 (cw [100, 97, 121]), ra_I (g 74) cC 4 (cw [119, 101, 101, 107]), ra_I (g 75) cC 4 (cw [116, 111, 108, 100]), ra_I (g 76) cC 5 (cw [97, 108, 111, 110, 101]), ra_I (g 77) cC 6 (cw [110, 117, 109, 98, 101, 114]), ra_I (g 78) cC 4 (cw [109, 117, 116, 101]), ra_I (g 58) cC 5 (cw [102, 105, 114, 115, 116]), ra_I (g 79) cC 5 (cw [119, 101, 101, 107, 115])]) eu_376 hP hD rfl (fun hP hD => ?_)
                    refine lv_goto (tgt := 183) hx hb dX12_qPartTold_150 (by decide) ?_
                    refine lv_goto (tgt := 2) hx hb dX12_qPartTold_183 (by decide) ?_
                    exact ih_lp_1 mo_ pa2_368 pd2_315 pb2_369 pp2_370 qo2_348 qw2_349 qt2_350 (bindR (bindR zg (nxF tb pe)) (signP tb pe 40)) _ _ _ (by omega) hqt2_355 hO2_375 (by omega) hpa3_372 hpb2_373 hmo (by omega) (by omega) (fun h0 => (show SJ K n0 qs qn _ qb qw2_349 by rw [show qw2_349 = zw + 1 by omega]; exact SJ_push0 (hzj (by omega)) (by omega) (hqe_353 (by omega)))) (by rw [hg]; show yO _ _ _ _ _ (signP tb pe 40 (nx tb pe (sk tb pe za))) _ _ _ _ _; rw [signP_t hsm]; exact hY_367) (fun h => absurd h (by omega)) (fun h0 => kp_up (hzk (by omega)) (SJ_le (hzj (by omega))) (hqe_353 (by omega))) hP hD hS (lv_sub hl [4, 5] rfl)
                  · exact absurd hbq hx1
          · have hq_377 := lk_at hlk_149 htb (w := 40) (by omega) c_169
            have hq_378 := hst_160 hq_377.1 hq_377.2.2.1 hq_377.2.2.2
            have hs40 : isS tb pe 40 (cuO tb pe za zd) = true := isS_cu.mpr (by have h9 := (lk_S htb (by decide) hlk_149).mp c_169; rw [hcu_154] at h9; exact h9)
            refine lv_aload_n hx hb dX12_qPartTold_33 rfl (lv_at hl 3 rfl) ?_
            refine lv_bipush (v := 20) hx hb dX12_qPartTold_34 (by decide) ?_
            refine lv_aload_n hx hb dX12_qPartTold_36 rfl (lv_at hl 3 rfl) ?_
            refine sk_get (v := .int (nI pa2_156)) (C := RX12) (T := TX12) (N := 92) hx hb hts inlX12 hown hK hP 0 rfl rfl 2 (Nat.le_of_ble_eq_true rfl) w_5_157 rfl dX12_qPartTold_37 ?_
            refine sk_Vv (q0 := 0) (n := 2) (rest := []) (wr := fmR om_17_12000 _) ⟨hx, hb, hml, hown, hts⟩ hl.1 (c_em_qOpens l D cI cJ cC cZ cS mm g ta pa2_156 pe zd zb zp pf pg pn rt rn cd sn il tk am at_ aa wt wy rm ud nu sd qn zw zo qb qp qa qi oc 20 (nI pa2_156) zt hzb (by omega) (by omega) hzt) w_7_47 w_7_49 w_0_59 w_1_14 w_7_50 hd_X12_qOpens_2 ⟨⟨(Nat.le_of_ble_eq_true rfl), (Nat.le_of_ble_eq_true rfl)⟩, (Nat.le_of_ble_eq_true rfl), (Nat.le_of_ble_eq_true rfl)⟩ hK hP hD hS hA (fmT om_17_12000 0) (fmF om_17_12000 0) (fm_C1 rfl rfl) (fm_R rfl rfl) (fm_nT om_17_12000 0) (fm_nF om_17_12000 0) (fm_di om_17_12000 0) rfl rfl rfl rfl (Nat.le_of_ble_eq_true rfl) dX12_qPartTold_40 (fun u H locs hw hP hD hS => ?_)
            refine exE hw (fun pb2_379 hw1 => exE hw1 (fun pp2_380 hw2 => exE hw2 (fun qo2_381 hw3 => exE hw3 (fun qw2_382 hw4 => exE hw4 (fun qt2_383 hw5 => anE hw5 (fun hpb2_384 hw6 => anE hw6 (fun hop_385 hw7 => anE hw7 (fun hqe_386 hw8 => anE hw8 (fun hox_387 hw9 => anE hw9 (fun hqt2_388 eu_389 => ?_))))))))))
            clear hw hw1 hw2 hw3 hw4 hw5 hw6 hw7 hw8 hw9
            refine o_mgE (ws' := [ro_ mm 12 (mo g (nI ta) (nI pa2_156) (nI pe) zd (nI pb2_379) pp2_380 pf pg pn rt rn (nI cd) sn (nI il) tk am at_ aa 0 0 (-1) wt wy 0 (nI rm) (nI ud) (nI nu) sd (nI qn) (nI qw2_382) qo2_381 (nI qb) (nI qp) qa (nI qi) (nI oc)), ra_N (g 0) cI 1600 tb, ra_N (g 80) cI 1700 qs, ra_N (g 82) cI 1700 qt2_383, ra_I (g 68) cC 3 (cw [109, 105, 110]), ra_I (g 69) cC 3 (cw [109, 97, 120]), ra_I (g 70) cC 4 (cw [109, 111, 111, 100]), ra_I (g 71) cC 5 (cw [98, 97, 114, 103, 101]), ra_I (g 72) cC 3 (cw [119, 101, 116]), ra_I (g 73) cC 3 (cw [100, 97, 121]), ra_I (g 74) cC 4 (cw [119, 101, 101, 107]), ra_I (g 75) cC 4 (cw [116, 111, 108, 100]), ra_I (g 76) cC 5 (cw [97, 108, 111, 110, 101]), ra_I (g 77) cC 6 (cw [110, 117, 109, 98, 101, 114]), ra_I (g 78) cC 4 (cw [109, 117, 116, 101]), ra_I (g 58) cC 5 (cw [102, 105, 114, 115, 116]), ra_I (g 79) cC 5 (cw [119, 101, 101, 107, 115])]) eu_389 hP hD rfl (fun hP hD => ?_)
            rcases hox_387 with ⟨hx1, hx2, hx3, hx4, hx5, hx6, hx7⟩ | ⟨hx1, hx2, hx3, hx4, hx5, hx6, hx7⟩ | ⟨hx1, -⟩
            · have hT : T = .error (4, (sk tb pe za)) := y_full hYp hx2 (fun L k => prt_round0 hs40)
              have hO_390 : ∀ (a : Nat) (d : Int32), moO tb pe (.error (4, (sk tb pe za))) a d pb2_379 pp2_380 := fun _ _ => ⟨hx3, by rw [hx4, hcu_167], show 1 ≤ 4 by decide, show 4 ≤ 5 by decide⟩
              refine lv_aload_n hx hb dX12_qPartTold_43 rfl (lv_at hl 3 rfl) ?_
              refine lv_dup hx hb dX12_qPartTold_44 rfl ?_
              refine sk_get (v := .int (nI pa2_156)) (C := RX12) (T := TX12) (N := 92) hx hb hts inlX12 hown hK hP 0 rfl rfl 2 (Nat.le_of_ble_eq_true rfl) w_5_157 rfl dX12_qPartTold_45 ?_
              refine lv_iconst (v := 1) hx hb dX12_qPartTold_48 ic_1 ?_
              refine lv_iadd hx hb dX12_qPartTold_49 ?_
              refine sk_top (nI (pa2_156 + 1)) (nI_add pa2_156 1) ?_
              refine sk_put (ws' := [ro_ mm 12 (mo g (nI ta) (nI (pa2_156 + 1)) (nI pe) zd (nI pb2_379) pp2_380 pf pg pn rt rn (nI cd) sn (nI il) tk am at_ aa 0 0 (-1) wt wy 0 (nI rm) (nI ud) (nI nu) sd (nI qn) (nI qw2_382) qo2_381 (nI qb) (nI qp) qa (nI qi) (nI oc)), ra_N (g 0) cI 1600 tb, ra_N (g 80) cI 1700 qs, ra_N (g 82) cI 1700 qt2_383, ra_I (g 68) cC 3 (cw [109, 105, 110]), ra_I (g 69) cC 3 (cw [109, 97, 120]), ra_I (g 70) cC 4 (cw [109, 111, 111, 100]), ra_I (g 71) cC 5 (cw [98, 97, 114, 103, 101]), ra_I (g 72) cC 3 (cw [119, 101, 116]), ra_I (g 73) cC 3 (cw [100, 97, 121]), ra_I (g 74) cC 4 (cw [119, 101, 101, 107]), ra_I (g 75) cC 4 (cw [116, 111, 108, 100]), ra_I (g 76) cC 5 (cw [97, 108, 111, 110, 101]), ra_I (g 77) cC 6 (cw [110, 117, 109, 98, 101, 114]), ra_I (g 78) cC 4 (cw [109, 117, 116, 101]), ra_I (g 58) cC 5 (cw [102, 105, 114, 115, 116]), ra_I (g 79) cC 5 (cw [119, 101, 101, 107, 115])]) (C := RX12) (T := TX12) (N := 92) (v := .int (nI (pa2_156 + 1))) hx hb hts inlX12 tyX12 tyX12_ok nmX12 hown hK hP hD hS 0 rfl rfl 2 (Nat.le_of_ble_eq_true rfl) w_5_157 rfl rfl rfl (Nat.le_of_ble_eq_true rfl) rfl dX12_qPartTold_50 (fun H locs hP hD hS => ?_)
              refine lv_goto (tgt := 183) hx hb dX12_qPartTold_53 (by decide) ?_
              refine lv_goto (tgt := 2) hx hb dX12_qPartTold_183 (by decide) ?_
              exact ih_lp_1 mo_ (pa2_156 + 1) zd pb2_379 pp2_380 qo2_381 qw2_382 qt2_383 (.error (4, (sk tb pe za))) _ _ _ (by omega) hqt2_388 (hO_390 _ _) (by omega) (by omega) hpb2_384 hmo (by omega) (by omega) (fun h0 => (show SJ K n0 qs qn _ qb qw2_382 by rw [show qw2_382 = zw + 1 by omega]; exact SJ_push0 (hzj (by omega)) (by omega) (hqe_386 (by omega)))) hT (fun h => absurd h (by omega)) (fun h0 => kp_up (hzk (by omega)) (SJ_le (hzj (by omega))) (hqe_386 (by omega))) hP hD hS (lv_sub hl [2, 3] rfl)
            · have hY_391 := y_open (v := 20) hYp hx2 (by decide) (fun L d k => prt_round hs40)
              rw [← hx5, ← hx6, ← hx7] at hY_391
              refine lv_aload_n hx hb dX12_qPartTold_43 rfl (lv_at hl 3 rfl) ?_
              refine lv_dup hx hb dX12_qPartTold_44 rfl ?_
              refine sk_get (v := .int (nI pa2_156)) (C := RX12) (T := TX12) (N := 92) hx hb hts inlX12 hown hK hP 0 rfl rfl 2 (Nat.le_of_ble_eq_true rfl) w_5_157 rfl dX12_qPartTold_45 ?_
              refine lv_iconst (v := 1) hx hb dX12_qPartTold_48 ic_1 ?_
              refine lv_iadd hx hb dX12_qPartTold_49 ?_
              refine sk_top (nI (pa2_156 + 1)) (nI_add pa2_156 1) ?_
              refine sk_put (ws' := [ro_ mm 12 (mo g (nI ta) (nI (pa2_156 + 1)) (nI pe) zd (nI pb2_379) pp2_380 pf pg pn rt rn (nI cd) sn (nI il) tk am at_ aa 0 0 (-1) wt wy 0 (nI rm) (nI ud) (nI nu) sd (nI qn) (nI qw2_382) qo2_381 (nI qb) (nI qp) qa (nI qi) (nI oc)), ra_N (g 0) cI 1600 tb, ra_N (g 80) cI 1700 qs, ra_N (g 82) cI 1700 qt2_383, ra_I (g 68) cC 3 (cw [109, 105, 110]), ra_I (g 69) cC 3 (cw [109, 97, 120]), ra_I (g 70) cC 4 (cw [109, 111, 111, 100]), ra_I (g 71) cC 5 (cw [98, 97, 114, 103, 101]), ra_I (g 72) cC 3 (cw [119, 101, 116]), ra_I (g 73) cC 3 (cw [100, 97, 121]), ra_I (g 74) cC 4 (cw [119, 101, 101, 107]), ra_I (g 75) cC 4 (cw [116, 111, 108, 100]), ra_I (g 76) cC 5 (cw [97, 108, 111, 110, 101]), ra_I (g 77) cC 6 (cw [110, 117, 109, 98, 101, 114]), ra_I (g 78) cC 4 (cw [109, 117, 116, 101]), ra_I (g 58) cC 5 (cw [102, 105, 114, 115, 116]), ra_I (g 79) cC 5 (cw [119, 101, 101, 107, 115])]) (C := RX12) (T := TX12) (N := 92) (v := .int (nI (pa2_156 + 1))) hx hb hts inlX12 tyX12 tyX12_ok nmX12 hown hK hP hD hS 0 rfl rfl 2 (Nat.le_of_ble_eq_true rfl) w_5_157 rfl rfl rfl (Nat.le_of_ble_eq_true rfl) rfl dX12_qPartTold_50 (fun H locs hP hD hS => ?_)
              refine lv_goto (tgt := 183) hx hb dX12_qPartTold_53 (by decide) ?_
              refine lv_goto (tgt := 2) hx hb dX12_qPartTold_183 (by decide) ?_
              exact ih_lp_1 mo_ (pa2_156 + 1) zd pb2_379 pp2_380 qo2_381 qw2_382 qt2_383 (bindR zg (fun _ => .ok (nx tb pe (sk tb pe za)))) _ _ _ (by omega) hqt2_388 (by rw [hx3, hx4]; exact mo_takeS hzO hb0 hpe (isS_cu.mp hs40) (by decide) (by rw [hcu_167]) rfl) (by omega) (by omega) hpb2_384 hmo (by omega) (by omega) (fun h0 => (show SJ K n0 qs qn _ qb qw2_382 by rw [show qw2_382 = zw + 1 by omega]; exact SJ_push0 (hzj (by omega)) (by omega) (hqe_386 (by omega)))) (by rw [hg]; exact hY_391) (fun h => absurd h (by omega)) (fun h0 => kp_up (hzk (by omega)) (SJ_le (hzj (by omega))) (hqe_386 (by omega))) hP hD hS (lv_sub hl [2, 3] rfl)
            · exact absurd hb0 hx1
  exact lp_1 ((pe - pa) + (5 - pb) + 1 + 1) 1 pa pd pb pp qo qw qt og _ _ _ (Nat.lt_succ_self _) hqt hO (by omega) hpa hpb (by omega) (by omega) (by omega) (fun _ => hsj) hY (fun h => absurd h (by omega)) (fun _ => kp_0) hP hD hS (lv_sub hl [0, 1] rfl)
theorem lb_uniq {qt : Nat → Nat} {b w : Nat} {r r2 : Int32} (h : lbO qt b w r) (h2 : lbO qt b w r2) : r = r2 := by
  rcases h with ⟨e, h⟩ | ⟨k, k1, k2, k3, k4, k5, k6⟩
  · rcases h2 with ⟨e2, -⟩ | ⟨j, j1, j2, j3, j4, -, -⟩
    · rw [e, e2]
    · exact absurd ⟨j3, j4⟩ (h j j1 j2)
  · rcases h2 with ⟨-, h⟩ | ⟨j, j1, j2, j3, j4, j5, j6⟩
    · exact absurd ⟨k3, k4⟩ (h k k1 k2)
    · have e : k = j := by
        rcases Nat.lt_trichotomy k j with q | q | q
        · exact absurd ⟨j3, j4⟩ (k6 j q j2)
        · exact q
        · exact absurd ⟨k3, k4⟩ (j6 k q k2)
      subst e
      rw [k5, j5]
def brno (qt : Nat → Nat) (b w : Nat) : Prop := ∀ r, lbO qt b w r → ¬ r = 20 ∧ ¬ r = 23 ∧ ¬ r = 24
theorem brno_of {qt : Nat → Nat} {b w : Nat} {r1 r2 r3 : Int32} (h1 : lbO qt b w r1) (h2 : lbO qt b w r2) (h3 : lbO qt b w r3) (c1 : ¬ r1 = 20) (c2 : ¬ r2 = 23) (c3 : ¬ r3 = 24) : brno qt b w := fun r h => by
  rw [lb_uniq h h1]
  exact ⟨c1, by rw [lb_uniq h1 h2]; exact c2, by rw [lb_uniq h1 h3]; exact c3⟩
def YM (tb : Nat → Nat) (n kind d0 m0 b : Nat) (T : Res) (c : Cur) (qs : Nat → Nat) (qn : Nat) (qt : Nat → Nat) (w : Nat) (qo : Int32) : Prop := ∃ ph, ph ≤ 1 ∧ phO ph (topO qt b w) ∧ YY (Xa tb n kind ph) d0 m0 b T c qs qn qt w qo
theorem ym_0 {tb : Nat → Nat} {n kind d0 m0 b : Nat} {T : Res} {c : Cur} {qs : Nat → Nat} {qn : Nat} {qt : Nat → Nat} {w : Nat} {qo : Int32} (h : YY (Xa tb n kind 0) d0 m0 b T c qs qn qt w qo) (ht : ¬ topO qt b w = 60) : YM tb n kind d0 m0 b T c qs qn qt w qo := ⟨0, by omega, Or.inl ⟨rfl, ht⟩, h⟩
theorem ym_drop {tb : Nat → Nat} {n kind d0 m0 b : Nat} {T : Res} {c : Cur} {qs : Nat → Nat} {qn : Nat} {qt : Nat → Nat} {w : Nat} {qo : Int32} {qs2 : Nat → Nat} (h : YM tb n kind d0 m0 b T c qs qn qt w qo) (hw : b + 1 ≤ w) (hv : qt (w - 1) = 3 ∨ qt (w - 1) = 4) (e : qs2 = updN qs qn (qt (w - 1))) : YM tb n kind d0 m0 b T c qs2 (qn + 1) qt (w - 1) qo := by
  subst e
  obtain ⟨ph, h1, hp, h⟩ := h
  have ht : topO qt b w = qt (w - 1) := by unfold topO; rw [if_pos (by omega)]
  rw [ht] at hp
  unfold phO at hp
  obtain rfl : ph = 0 := by omega
  have hs := y_shp h hw
  exact ⟨1, by omega, by unfold phO; omega, y_d3 h hw hv⟩
theorem ym_1 {tb : Nat → Nat} {n kind d0 m0 b : Nat} {T : Res} {c : Cur} {qs : Nat → Nat} {qn : Nat} {qt : Nat → Nat} {w : Nat} {qo : Int32} (h : YM tb n kind d0 m0 b T c qs qn qt w qo) (h3 : ¬ topO qt b w = 3) (h4 : ¬ topO qt b w = 4) : YY (Xa tb n kind 1) d0 m0 b T c qs qn qt w qo ∧ phO 1 (topO qt b w) := by
  obtain ⟨ph, h1, hp, h⟩ := h
  unfold phO at hp ⊢
  refine ⟨?_, by omega⟩
  rcases hp with ⟨rfl, q⟩ | ⟨rfl, q⟩ | ⟨rfl, q⟩
  · exact y_01 h q h3 h4
  · exact h
  · omega
theorem yd_ph {tb : Nat → Nat} {n kind d0 m0 b : Nat} {T : Res} {c : Cur} {qs : Nat → Nat} {qn : Nat} {qt : Nat → Nat} {w : Nat} {qo : Int32} (h : YD tb n kind d0 m0 b T c qs qn qt w qo) : ¬ topO qt b w = 60 := by
  obtain ⟨ph, hp, h⟩ := h
  unfold phO at hp
  omega
theorem yd_bad {tb : Nat → Nat} {n kind d0 m0 b k : Nat} {T : Res} {c : Cur} {qt : Nat → Nat} {qo : Int32} (hk : b ≤ k) (hb : 20 ≤ qt k ∧ qt k ≤ 24) (s1 : ¬ isS tb n 42 c = true) (s2 : ¬ isS tb n 47 c = true) (s3 : ¬ isS tb n 43 c = true) (s4 : ¬ isS tb n 45 c = true) (h3 : qt k = 20 ∨ qt k = 23 ∨ qt k = 24 → ¬ isS tb n 41 c = true) (h4 : qt k = 21 ∨ qt k = 22 → ¬ isS tb n 44 c = true) : ∀ m qs qn, (∀ j, k < j → j < k + 1 + m → ¬ (20 ≤ qt j ∧ qt j ≤ 24)) → YD tb n kind d0 m0 b T c qs qn qt (k + 1 + m) qo → T = .error (1, c.1)
  | 0, qs, qn, _, h => by
    have ht : topO qt b (k + 1 + 0) = qt k := by unfold topO; rw [if_pos (by omega)]; rfl
    exact y_bad (yd_2 h (by rw [ht]; omega) s1 s2) (by omega) hb s3 s4 h3 h4
  | m + 1, qs, qn, hn, h => by
    have h1 := yd_drop h (by omega) (hn (k + 1 + m) (by omega) (by omega)) s1 s2 rfl
    exact yd_bad hk hb s1 s2 s3 s4 h3 h4 m _ _ (fun j a b => hn j a (by omega)) h1
theorem yd_badL {tb : Nat → Nat} {n kind d0 m0 b : Nat} {T : Res} {c : Cur} {qs : Nat → Nat} {qn : Nat} {qt : Nat → Nat} {w : Nat} {qo : Int32} {r : Int32} {v : Nat} (h : YD tb n kind d0 m0 b T c qs qn qt w qo) (hl : lbO qt b w r) (hr : ¬ r = -1) (s1 : ¬ isS tb n 42 c = true) (s2 : ¬ isS tb n 47 c = true) (s3 : ¬ isS tb n 43 c = true) (s4 : ¬ isS tb n 45 c = true) (h3 : isS tb n 41 c = true → brno qt b w) (h4 : r = 21 ∨ r = 22 → ¬ isS tb n 44 c = true) : T = .error (1, c.1) := by
  have hl0 := hl
  rcases hl with ⟨e, -⟩ | ⟨k, k1, k2, k3, k4, k5, k6⟩
  · exact absurd e hr
  · obtain ⟨m, rfl⟩ : ∃ m, w = k + 1 + m := ⟨w - (k + 1), by omega⟩
    refine yd_bad k1 ⟨k3, k4⟩ s1 s2 s3 s4 (fun q hs => ?_) (fun q => h4 ?_) m _ _ (fun j a d => k6 j a d) h
    · have := h3 hs r hl0
      rw [k5] at this
      rcases q with q | q | q
      · exact this.1 (by rw [q]; rfl)
      · exact this.2.1 (by rw [q]; rfl)
      · exact this.2.2 (by rw [q]; rfl)
    · rw [k5]
      rcases q with q | q
      · exact Or.inl (by rw [q]; rfl)
      · exact Or.inr (by rw [q]; rfl)
def gE (tb : Nat → Nat) (n kn d0 m0 b : Nat) (T : Res) (o : Except Err Cur) (qs : Nat → Nat) (qn : Nat) (qt : Nat → Nat) (w : Nat) (qo : Int32) : Prop := match o with
  | .error e => T = .error e
  | .ok c => YD tb n kn d0 m0 b T c qs qn qt w qo ∧ ¬ isS tb n 42 c = true ∧ ¬ isS tb n 47 c = true ∧ ¬ isS tb n 43 c = true ∧ ¬ isS tb n 45 c = true
def sE (d0 m0 : Nat) (T : Res) (o : Except Err Cur) (qs : Nat → Nat) (qn : Nat) (qo : Int32) : Prop := match o with
  | .error e => T = .error e
  | .ok c => ∃ k, T = .ok (c, k) ∧ ccO qs m0 qn k ∧ qo = nI (6 - d0)
theorem ya_at {tb : Nat → Nat} {n kn : Nat} {o : Except Err Cur} {pa : Nat} {pd : Int32} {pb : Nat} {pp : Int32} {d0 m0 b : Nat} {T : Res} {qs : Nat → Nat} {qn : Nat} {qt : Nat → Nat} {w : Nat} {qo : Int32} (h : moO tb n o pa pd pb pp) (hb : pb = 0) (hy : yA tb n kn d0 m0 b T o qs qn qt w qo) : YY (Xa tb n kn 0) d0 m0 b T (cuO tb n pa pd) qs qn qt w qo ∧ ¬ topO qt b w = 60 := by
  rw [(mo_ok h hb).1] at hy
  exact hy
theorem ya_e {tb : Nat → Nat} {n kn d0 m0 b : Nat} {T : Res} {o : Except Err Cur} {qs : Nat → Nat} {qn : Nat} {qt : Nat → Nat} {w : Nat} {qo : Int32} (hy : yA tb n kn d0 m0 b T o qs qn qt w qo) : ∀ e, o = .error e → T = .error e := by
  intro e he
  subst he
  exact hy
theorem ge_at {tb : Nat → Nat} {n kn : Nat} {o : Except Err Cur} {pa : Nat} {pd : Int32} {pb : Nat} {pp : Int32} {d0 m0 b : Nat} {T : Res} {qs : Nat → Nat} {qn : Nat} {qt : Nat → Nat} {w : Nat} {qo : Int32} (h : moO tb n o pa pd pb pp) (hb : pb = 0) (hy : gE tb n kn d0 m0 b T o qs qn qt w qo) : YD tb n kn d0 m0 b T (cuO tb n pa pd) qs qn qt w qo ∧ ¬ isS tb n 42 (cuO tb n pa pd) = true ∧ ¬ isS tb n 47 (cuO tb n pa pd) = true ∧ ¬ isS tb n 43 (cuO tb n pa pd) = true ∧ ¬ isS tb n 45 (cuO tb n pa pd) = true := by
  rw [(mo_ok h hb).1] at hy
  exact hy
theorem ge_e {tb : Nat → Nat} {n kn d0 m0 b : Nat} {T : Res} {o : Except Err Cur} {qs : Nat → Nat} {qn : Nat} {qt : Nat → Nat} {w : Nat} {qo : Int32} (hy : gE tb n kn d0 m0 b T o qs qn qt w qo) : ∀ e, o = .error e → T = .error e := by
  intro e he
  subst he
  exact hy
theorem se_of {tb : Nat → Nat} {n kn : Nat} {o : Except Err Cur} {pa : Nat} {pd : Int32} {pb : Nat} {pp : Int32} {d0 m0 b : Nat} {T : Res} {qs : Nat → Nat} {qn : Nat} {qt : Nat → Nat} {w : Nat} {qo : Int32} (h : moO tb n o pa pd pb pp) (he : ∀ e, o = .error e → T = .error e) (hy : pb = 0 → (YD tb n kn d0 m0 b T (cuO tb n pa pd) qs qn qt w qo ∧ w ≤ b ∧ ¬ isS tb n 42 (cuO tb n pa pd) = true ∧ ¬ isS tb n 47 (cuO tb n pa pd) = true ∧ ¬ isS tb n 43 (cuO tb n pa pd) = true ∧ ¬ isS tb n 45 (cuO tb n pa pd) = true)) : sE d0 m0 T o qs qn qo := by
  cases o with
  | error e => exact he e rfl
  | ok c =>
    have hc := mo_cu h rfl
    obtain ⟨h1, h2, h3, h4, h5, h6⟩ := hy hc.1
    have ht : topO qt b w = 0 := by unfold topO; rw [if_neg (by omega)]
    obtain ⟨k, k1, k2, k3⟩ := y_end (yd_2 h1 (by rw [ht]; omega) h3 h4) h2 h5 h6
    exact ⟨k, by rw [hc.2]; exact k1, k2, k3⟩
