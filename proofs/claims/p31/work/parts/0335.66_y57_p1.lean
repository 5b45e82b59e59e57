theorem al_k2 {kn : Nat} {tk : Int32} (h : kn ≤ 2) (e : tk = nI kn) (h0 : ¬ tk = 0) (h1 : ¬ tk = 1) : kn = 2 := by
  match kn, h with
  | 0, _ => exact absurd e h0
  | 1, _ => exact absurd e h1
  | 2, _ => rfl
  | n + 3, h => exact absurd h (by omega)
set_option maxHeartbeats 4000000 in
set_option maxRecDepth 100000 in
theorem c_em_isAllowed (l : Launch) (D : va_G) (cI cJ cC cZ cS : ClassId) (mm : Nat) (g : Nat → Nat) (ta : Nat) (pa : Nat) (pe : Nat) (pd : Int32) (pb : Nat) (pp : Int32) (pf : Int32) (pg : Int32) (pn : Int32) (rt : Int32) (rn : Int32) (cd : Nat) (sn : Int32) (il : Nat) (tk : Int32) (am : Int32) (at_ : Int32) (aa : Int32) (wt : Int32) (wy : Int64) (rm : Nat) (ud : Nat) (nu : Nat) (sd : Int64) (qn : Nat) (qw : Nat) (qo : Int32) (qb : Nat) (qp : Nat) (qa : Int64) (qi : Nat) (oc : Nat) (o : Nat) (kn : Nat) (htk : tk = nI kn) (hkn : kn ≤ 2) (ho : o ≤ 20) : skM l yX12_isAllowed cX12_isAllowed 2 (some .boolean) 0 0 0 0 D (skT cI cJ cC cZ cS) [.ref mm, .int (nI o)] [(mm, .inr (12, mo g (nI ta) (nI pa) (nI pe) pd (nI pb) pp pf pg pn rt rn (nI cd) sn (nI il) tk am at_ aa 0 0 (-1) wt wy 0 (nI rm) (nI ud) (nI nu) sd (nI qn) (nI qw) qo (nI qb) (nI qp) qa (nI qi) (nI oc)))] (skI D (skT cI cJ cC cZ cS) (fun (r : Int32) (u : va_W) => ∃ (b : Nat), b ≤ 1 ∧ ((b = 0 ∧ allow kn o = false) ∨ (b = 1 ∧ allow kn o = true)) ∧ r = nI b ∧ u = [(mm, .inr (12, mo g (nI ta) (nI pa) (nI pe) pd (nI pb) pp pf pg pn rt rn (nI cd) sn (nI il) tk am at_ aa 0 0 (-1) wt wy 0 (nI rm) (nI ud) (nI nu) sd (nI qn) (nI qw) qo (nI qb) (nI qp) qa (nI qi) (nI oc)))])) := by
  refine skM_of pf_X12_isAllowed (Nat.le_of_ble_eq_true rfl) ?_
  intro p e s m below meth c A ls E hP hD hl
  refine skE_el E (fun hx hb hr hml hlocks hin hown hts hK hA => ?_)
  have hown : s.vm.findClass RX12 = some m.cls := hown
  have hS : va_S A s.heap s.heap [] := va_S.rf
  have hl : lv_has ls 2 [(0, .ref mm), (1, .int (nI o))] := hl
  refine lv_aload_n hx hb dX12_isAllowed_0 rfl (lv_at hl 0 rfl) ?_
  refine sk_get (v := .int tk) (C := RX12) (T := TX12) (N := 92) hx hb hts inlX12 hown hK hP 0 rfl rfl 30 (by decide) w_5_185 rfl dX12_isAllowed_1 ?_
  refine lv_if_ne (tgt := 20) hx hb dX12_isAllowed_4 (by decide) (fun c_1 => ?_) (fun c_1 => ?_)
  · skip
    refine lv_aload_n hx hb dX12_isAllowed_20 rfl (lv_at hl 0 rfl) ?_
    refine sk_get (v := .int tk) (C := RX12) (T := TX12) (N := 92) hx hb hts inlX12 hown hK hP 0 rfl rfl 30 (by decide) w_5_185 rfl dX12_isAllowed_21 ?_
    refine lv_iconst (v := 1) hx hb dX12_isAllowed_24 (by decide) ?_
    refine lv_icmp_ne (tgt := 42) hx hb dX12_isAllowed_25 (by decide) (fun c_2 => ?_) (fun c_2 => ?_)
    · skip
      refine lv_iload_n hx hb dX12_isAllowed_42 rfl (lv_at hl 1 rfl) ?_
      refine lv_iconst (v := 1) hx hb dX12_isAllowed_43 (by decide) ?_
      refine lv_icmp_eq (tgt := 63) hx hb dX12_isAllowed_44 (by decide) (fun c_3 => ?_) (fun c_3 => ?_)
      · have c_3 : o = 1 := (neq o 1 (by omega) (by omega)).mp c_3
        refine lv_iconst (v := 1) hx hb dX12_isAllowed_63 (by decide) ?_
        refine lv_goto (tgt := 68) hx hb dX12_isAllowed_64 (by decide) ?_
        exact sk_iret hx hb hr rfl hlocks hK hP hD hS (⟨1, by omega, (by (obtain rfl : kn = 2 := al_k2 hkn htk c_1 c_2); exact Or.inr ⟨rfl, decide_eq_true_iff.mpr (by omega)⟩), rfl, rfl⟩) (Nat.le_of_ble_eq_true rfl) (Nat.le_of_ble_eq_true rfl) dX12_isAllowed_68
      · have c_3 : ¬ (o = 1) := fun h => c_3 ((neq o 1 (by omega) (by omega)).mpr h)
        refine lv_iload_n hx hb dX12_isAllowed_47 rfl (lv_at hl 1 rfl) ?_
        refine lv_iconst (v := 2) hx hb dX12_isAllowed_48 (by decide) ?_
        refine lv_icmp_eq (tgt := 63) hx hb dX12_isAllowed_49 (by decide) (fun c_4 => ?_) (fun c_4 => ?_)
        · have c_4 : o = 2 := (neq o 2 (by omega) (by omega)).mp c_4
          refine lv_iconst (v := 1) hx hb dX12_isAllowed_63 (by decide) ?_
          refine lv_goto (tgt := 68) hx hb dX12_isAllowed_64 (by decide) ?_
          exact sk_iret hx hb hr rfl hlocks hK hP hD hS (⟨1, by omega, (by (obtain rfl : kn = 2 := al_k2 hkn htk c_1 c_2); exact Or.inr ⟨rfl, decide_eq_true_iff.mpr (by omega)⟩), rfl, rfl⟩) (Nat.le_of_ble_eq_true rfl) (Nat.le_of_ble_eq_true rfl) dX12_isAllowed_68
        · have c_4 : ¬ (o = 2) := fun h => c_4 ((neq o 2 (by omega) (by omega)).mpr h)
          refine lv_iload_n hx hb dX12_isAllowed_52 rfl (lv_at hl 1 rfl) ?_
          refine lv_iconst (v := 4) hx hb dX12_isAllowed_53 (by decide) ?_
          refine lv_icmp_eq (tgt := 63) hx hb dX12_isAllowed_54 (by decide) (fun c_5 => ?_) (fun c_5 => ?_)
          · have c_5 : o = 4 := (neq o 4 (by omega) (by omega)).mp c_5
            refine lv_iconst (v := 1) hx hb dX12_isAllowed_63 (by decide) ?_
            refine lv_goto (tgt := 68) hx hb dX12_isAllowed_64 (by decide) ?_
            exact sk_iret hx hb hr rfl hlocks hK hP hD hS (⟨1, by omega, (by (obtain rfl : kn = 2 := al_k2 hkn htk c_1 c_2); exact Or.inr ⟨rfl, decide_eq_true_iff.mpr (by omega)⟩), rfl, rfl⟩) (Nat.le_of_ble_eq_true rfl) (Nat.le_of_ble_eq_true rfl) dX12_isAllowed_68
          · have c_5 : ¬ (o = 4) := fun h => c_5 ((neq o 4 (by omega) (by omega)).mpr h)
            refine lv_iload_n hx hb dX12_isAllowed_57 rfl (lv_at hl 1 rfl) ?_
            refine lv_bipush (v := 6) hx hb dX12_isAllowed_58 (by decide) ?_
            refine lv_icmp_le (tgt := 67) hx hb dX12_isAllowed_60 (by decide) (fun c_6 => ?_) (fun c_6 => ?_)
            · have c_6 : o ≤ 6 := (nle o 6 (by omega) (by omega)).mp c_6
              refine lv_iconst (v := 0) hx hb dX12_isAllowed_67 (by decide) ?_
              exact sk_iret hx hb hr rfl hlocks hK hP hD hS (⟨0, by omega, (by (obtain rfl : kn = 2 := al_k2 hkn htk c_1 c_2); exact Or.inl ⟨rfl, decide_eq_false_iff_not.mpr (by omega)⟩), rfl, rfl⟩) (Nat.le_of_ble_eq_true rfl) (Nat.le_of_ble_eq_true rfl) dX12_isAllowed_68
            · have c_6 : ¬ (o ≤ 6) := fun h => c_6 ((nle o 6 (by omega) (by omega)).mpr h)
              refine lv_iconst (v := 1) hx hb dX12_isAllowed_63 (by decide) ?_
              refine lv_goto (tgt := 68) hx hb dX12_isAllowed_64 (by decide) ?_
              exact sk_iret hx hb hr rfl hlocks hK hP hD hS (⟨1, by omega, (by (obtain rfl : kn = 2 := al_k2 hkn htk c_1 c_2); exact Or.inr ⟨rfl, decide_eq_true_iff.mpr (by omega)⟩), rfl, rfl⟩) (Nat.le_of_ble_eq_true rfl) (Nat.le_of_ble_eq_true rfl) dX12_isAllowed_68
    · skip
      refine lv_iload_n hx hb dX12_isAllowed_28 rfl (lv_at hl 1 rfl) ?_
      refine lv_bipush (v := 7) hx hb dX12_isAllowed_29 (by decide) ?_
      refine lv_icmp_ge (tgt := 38) hx hb dX12_isAllowed_31 (by decide) (fun c_7 => ?_) (fun c_7 => ?_)
      · have c_7 : 7 ≤ o := (nle 7 o (by omega) (by omega)).mp c_7
        refine lv_iconst (v := 0) hx hb dX12_isAllowed_38 (by decide) ?_
        refine lv_goto (tgt := 68) hx hb dX12_isAllowed_39 (by decide) ?_
        exact sk_iret hx hb hr rfl hlocks hK hP hD hS (⟨0, by omega, (by (obtain rfl : kn = 1 := (neq kn 1 (by omega) (by omega)).mp (htk.symm.trans c_2)); exact Or.inl ⟨rfl, decide_eq_false_iff_not.mpr (by omega)⟩), rfl, rfl⟩) (Nat.le_of_ble_eq_true rfl) (Nat.le_of_ble_eq_true rfl) dX12_isAllowed_68
      · have c_7 : ¬ (7 ≤ o) := fun h => c_7 ((nle 7 o (by omega) (by omega)).mpr h)
        refine lv_iconst (v := 1) hx hb dX12_isAllowed_34 (by decide) ?_
        refine lv_goto (tgt := 68) hx hb dX12_isAllowed_35 (by decide) ?_
        exact sk_iret hx hb hr rfl hlocks hK hP hD hS (⟨1, by omega, (by (obtain rfl : kn = 1 := (neq kn 1 (by omega) (by omega)).mp (htk.symm.trans c_2)); exact Or.inr ⟨rfl, decide_eq_true_iff.mpr (by omega)⟩), rfl, rfl⟩) (Nat.le_of_ble_eq_true rfl) (Nat.le_of_ble_eq_true rfl) dX12_isAllowed_68
  · skip
    refine lv_iload_n hx hb dX12_isAllowed_7 rfl (lv_at hl 1 rfl) ?_
    refine lv_iconst (v := 5) hx hb dX12_isAllowed_8 (by decide) ?_
    refine lv_icmp_ge (tgt := 16) hx hb dX12_isAllowed_9 (by decide) (fun c_8 => ?_) (fun c_8 => ?_)
    · have c_8 : 5 ≤ o := (nle 5 o (by omega) (by omega)).mp c_8
      refine lv_iconst (v := 0) hx hb dX12_isAllowed_16 (by decide) ?_
      refine lv_goto (tgt := 68) hx hb dX12_isAllowed_17 (by decide) ?_
      exact sk_iret hx hb hr rfl hlocks hK hP hD hS (⟨0, by omega, (by (obtain rfl : kn = 0 := (neq kn 0 (by omega) (by omega)).mp (htk.symm.trans c_1)); exact Or.inl ⟨rfl, decide_eq_false_iff_not.mpr (by omega)⟩), rfl, rfl⟩) (Nat.le_of_ble_eq_true rfl) (Nat.le_of_ble_eq_true rfl) dX12_isAllowed_68
    · have c_8 : ¬ (5 ≤ o) := fun h => c_8 ((nle 5 o (by omega) (by omega)).mpr h)
      refine lv_iconst (v := 1) hx hb dX12_isAllowed_12 (by decide) ?_
      refine lv_goto (tgt := 68) hx hb dX12_isAllowed_13 (by decide) ?_
      exact sk_iret hx hb hr rfl hlocks hK hP hD hS (⟨1, by omega, (by (obtain rfl : kn = 0 := (neq kn 0 (by omega) (by omega)).mp (htk.symm.trans c_1)); exact Or.inr ⟨rfl, decide_eq_true_iff.mpr (by omega)⟩), rfl, rfl⟩) (Nat.le_of_ble_eq_true rfl) (Nat.le_of_ble_eq_true rfl) dX12_isAllowed_68
theorem sk_ch {tb : Nat → Nat} {n a b c pb : Nat} (h1 : (pb = 0 ∧ b = sk tb n a) ∨ (¬ pb = 0 ∧ b = a)) (h2 : (pb = 0 ∧ c = sk tb n b) ∨ (¬ pb = 0 ∧ c = b)) : (pb = 0 ∧ c = sk tb n a) ∨ (¬ pb = 0 ∧ c = a) := by
  rcases h1 with ⟨q, rfl⟩ | ⟨q, rfl⟩
  · rcases h2 with ⟨_, rfl⟩ | ⟨q2, _⟩
    · exact Or.inl ⟨q, sk_sk tb n a⟩
    · exact absurd q q2
  · rcases h2 with ⟨q2, _⟩ | ⟨_, rfl⟩
    · exact absurd q2 q
    · exact Or.inr ⟨q, rfl⟩
set_option maxHeartbeats 4000000 in
set_option maxRecDepth 100000 in
theorem c_em_qWordHere (l : Launch) (D : va_G) (cI cJ cC cZ cS : ClassId) (mm : Nat) (g : Nat → Nat) (ta : Nat) (pa : Nat) (pe : Nat) (pd : Int32) (pb : Nat) (pp : Int32) (pf : Int32) (pg : Int32) (pn : Int32) (rt : Int32) (rn : Int32) (cd : Nat) (sn : Int32) (il : Nat) (tk : Int32) (am : Int32) (at_ : Int32) (aa : Int32) (wt : Int32) (wy : Int64) (rm : Nat) (ud : Nat) (nu : Nat) (sd : Int64) (qn : Nat) (qw : Nat) (qo : Int32) (qb : Nat) (qp : Nat) (qa : Int64) (qi : Nat) (oc : Nat) (tb : Nat → Nat) (hpa : pa ≤ pe) (hpe : pe ≤ 1600) (hpb : pb ≤ 5) (htb : ∀ j, tb j ≤ 255) : skM l yX12_qWordHere cX12_qWordHere 1 (some .int) 2 43 0 0 D (skT cI cJ cC cZ cS) [.ref mm] [(mm, .inr (12, mo g (nI ta) (nI pa) (nI pe) pd (nI pb) pp pf pg pn rt rn (nI cd) sn (nI il) tk am at_ aa 0 0 (-1) wt wy 0 (nI rm) (nI ud) (nI nu) sd (nI qn) (nI qw) qo (nI qb) (nI qp) qa (nI qi) (nI oc))), (g 0, .inl (cI, 1600, .inl (fun j => nI (tb j)))), (g 70, .inl (cC, 4, .inl (cw [109, 111, 111, 100]))), (g 71, .inl (cC, 5, .inl (cw [98, 97, 114, 103, 101]))), (g 72, .inl (cC, 3, .inl (cw [119, 101, 116]))), (g 73, .inl (cC, 3, .inl (cw [100, 97, 121]))), (g 74, .inl (cC, 4, .inl (cw [119, 101, 101, 107]))), (g 75, .inl (cC, 4, .inl (cw [116, 111, 108, 100]))), (g 76, .inl (cC, 5, .inl (cw [97, 108, 111, 110, 101]))), (g 77, .inl (cC, 6, .inl (cw [110, 117, 109, 98, 101, 114]))), (g 78, .inl (cC, 4, .inl (cw [109, 117, 116, 101]))), (g 58, .inl (cC, 5, .inl (cw [102, 105, 114, 115, 116]))), (g 79, .inl (cC, 5, .inl (cw [119, 101, 101, 107, 115])))] (skI D (skT cI cJ cC cZ cS) (fun (r : Int32) (u : va_W) => ∃ (pa2 : Nat), pa ≤ pa2 ∧ pa2 ≤ pe ∧ stay tb pe pa pa2 ∧ (r = -1 ∨ ∃ kq : Nat, kq ≤ 10 ∧ r = nI kq) ∧ ((pb = 0 ∧ pa2 = sk tb pe pa) ∨ (¬ pb = 0 ∧ pa2 = pa)) ∧ whO tb pe (cuO tb pe pa pd) pb r ∧ u = [(mm, .inr (12, mo g (nI ta) (nI pa2) (nI pe) pd (nI pb) pp pf pg pn rt rn (nI cd) sn (nI il) tk am at_ aa 0 0 (-1) wt wy 0 (nI rm) (nI ud) (nI nu) sd (nI qn) (nI qw) qo (nI qb) (nI qp) qa (nI qi) (nI oc))), (g 0, .inl (cI, 1600, .inl (fun j => nI (tb j)))), (g 70, .inl (cC, 4, .inl (cw [109, 111, 111, 100]))), (g 71, .inl (cC, 5, .inl (cw [98, 97, 114, 103, 101]))), (g 72, .inl (cC, 3, .inl (cw [119, 101, 116]))), (g 73, .inl (cC, 3, .inl (cw [100, 97, 121]))), (g 74, .inl (cC, 4, .inl (cw [119, 101, 101, 107]))), (g 75, .inl (cC, 4, .inl (cw [116, 111, 108, 100]))), (g 76, .inl (cC, 5, .inl (cw [97, 108, 111, 110, 101]))), (g 77, .inl (cC, 6, .inl (cw [110, 117, 109, 98, 101, 114]))), (g 78, .inl (cC, 4, .inl (cw [109, 117, 116, 101]))), (g 58, .inl (cC, 5, .inl (cw [102, 105, 114, 115, 116]))), (g 79, .inl (cC, 5, .inl (cw [119, 101, 101, 107, 115])))])) := by
  refine skM_of pf_X12_qWordHere (Nat.le_of_ble_eq_true rfl) ?_
  intro p e s m below meth c A ls E hP hD hl
  refine skE_el E (fun hx hb hr hml hlocks hin hown hts hK hA => ?_)
  have hown : s.vm.findClass RX12 = some m.cls := hown
  have hS : va_S A s.heap s.heap [] := va_S.rf
  have hl : lv_has ls 1 [(0, .ref mm)] := hl
  refine lv_aload_n hx hb dX12_qWordHere_0 rfl (lv_at hl 0 rfl) ?_
  refine lv_aload_n hx hb dX12_qWordHere_1 rfl (lv_at hl 0 rfl) ?_
  refine sk_get (v := .ref (g 70)) (C := RX12) (T := TX12) (N := 92) hx hb hts inlX12 hown hK hP 0 rfl rfl 70 (by decide) w_5_225 rfl dX12_qWordHere_2 ?_
  refine sk_Vi (q0 := 0) (n := 1) (rest := []) (wr := fmR om_13_1c00 _) ⟨hx, hb, hml, hown, hts⟩ hl.1 (c_em_isHere l D cI cJ cC cZ cS mm g ta pa pe pd pb pp pf pg pn rt rn cd sn il tk am at_ aa wt wy rm ud nu sd qn qw qo qb qp qa qi oc tb (g 70) 4 ([109, 111, 111, 100]) (by omega) (by omega) (by omega) (by omega) (by omega) rfl (wb_of (by decide)) htb) w_6_218 w_6_220 w_0_44 w_1_14 w_6_221 hd_X12_isHere_1 ⟨⟨(Nat.le_of_ble_eq_true rfl), (Nat.le_of_ble_eq_true rfl)⟩, (Nat.le_of_ble_eq_true rfl), (Nat.le_of_ble_eq_true rfl)⟩ hK hP hD hS hA (fmT om_13_1c00 0) (fmF om_13_1c00 0) (fm_C1 rfl rfl) (fm_R rfl rfl) (fm_nT om_13_1c00 0) (fm_nF om_13_1c00 0) (fm_di om_13_1c00 0) rfl rfl rfl rfl (Nat.le_of_ble_eq_true rfl) dX12_qWordHere_5 (fun r_3 u H locs hw hP hD hS => ?_)
  refine exE hw (fun b_1 hw1 => exE hw1 (fun pa2_2 hw2 => anE hw2 (fun hpa2_4 hw3 => anE hw3 (fun hpa3_5 hw4 => anE hw4 (fun hst_6 hw5 => anE hw5 (fun hb1_7 hw6 => anE hw6 (fun hsk_8 hw7 => anE hw7 (fun hW_9 hw8 => anE hw8 (fun er_11 eu_10 => ?_)))))))))
  clear hw hw1 hw2 hw3 hw4 hw5 hw6 hw7 hw8
  subst er_11
  refine o_mgE (ws' := [(mm, .inr (12, mo g (nI ta) (nI pa2_2) (nI pe) pd (nI pb) pp pf pg pn rt rn (nI cd) sn (nI il) tk am at_ aa 0 0 (-1) wt wy 0 (nI rm) (nI ud) (nI nu) sd (nI qn) (nI qw) qo (nI qb) (nI qp) qa (nI qi) (nI oc))), (g 0, .inl (cI, 1600, .inl (fun j => nI (tb j)))), (g 70, .inl (cC, 4, .inl (cw ([109, 111, 111, 100])))), (g 71, .inl (cC, 5, .inl (cw [98, 97, 114, 103, 101]))), (g 72, .inl (cC, 3, .inl (cw [119, 101, 116]))), (g 73, .inl (cC, 3, .inl (cw [100, 97, 121]))), (g 74, .inl (cC, 4, .inl (cw [119, 101, 101, 107]))), (g 75, .inl (cC, 4, .inl (cw [116, 111, 108, 100]))), (g 76, .inl (cC, 5, .inl (cw [97, 108, 111, 110, 101]))), (g 77, .inl (cC, 6, .inl (cw [110, 117, 109, 98, 101, 114]))), (g 78, .inl (cC, 4, .inl (cw [109, 117, 116, 101]))), (g 58, .inl (cC, 5, .inl (cw [102, 105, 114, 115, 116]))), (g 79, .inl (cC, 5, .inl (cw [119, 101, 101, 107, 115])))]) eu_10 hP hD rfl (fun hP hD => ?_)
  have hc_13 := cu_step (X := (cuO tb pe pa pd)) (fun _ => rfl) hsk_8
  refine lv_if_eq (tgt := 13) hx hb dX12_qWordHere_8 (by decide) (fun c_15 => ?_) (fun c_15 => ?_)
  · have c_15 : b_1 = 0 := (neq b_1 0 (by omega) (by omega)).mp c_15
    refine lv_aload_n hx hb dX12_qWordHere_13 rfl (lv_at hl 0 rfl) ?_
    refine lv_aload_n hx hb dX12_qWordHere_14 rfl (lv_at hl 0 rfl) ?_
    refine sk_get (v := .ref (g 71)) (C := RX12) (T := TX12) (N := 92) hx hb hts inlX12 hown hK hP 0 rfl rfl 71 (by decide) w_5_226 rfl dX12_qWordHere_15 ?_
    refine sk_Vi (q0 := 0) (n := 1) (rest := []) (wr := fmR om_13_1a00 _) ⟨hx, hb, hml, hown, hts⟩ hl.1 (c_em_isHere l D cI cJ cC cZ cS mm g ta pa2_2 pe pd pb pp pf pg pn rt rn cd sn il tk am at_ aa wt wy rm ud nu sd qn qw qo qb qp qa qi oc tb (g 71) 5 ([98, 97, 114, 103, 101]) (by omega) (by omega) (by omega) (by omega) (by omega) rfl (wb_of (by decide)) htb) w_6_218 w_6_220 w_0_44 w_1_14 w_6_221 hd_X12_isHere_1 ⟨⟨(Nat.le_of_ble_eq_true rfl), (Nat.le_of_ble_eq_true rfl)⟩, (Nat.le_of_ble_eq_true rfl), (Nat.le_of_ble_eq_true rfl)⟩ hK hP hD hS hA (fmT om_13_1a00 0) (fmF om_13_1a00 0) (fm_C1 rfl rfl) (fm_R rfl rfl) (fm_nT om_13_1a00 0) (fm_nF om_13_1a00 0) (fm_di om_13_1a00 0) rfl rfl rfl rfl (Nat.le_of_ble_eq_true rfl) dX12_qWordHere_18 (fun r_18 u H locs hw hP hD hS => ?_)
    refine exE hw (fun b_16 hw1 => exE hw1 (fun pa2_17 hw2 => anE hw2 (fun hpa2_19 hw3 => anE hw3 (fun hpa3_20 hw4 => anE hw4 (fun hst_21 hw5 => anE hw5 (fun hb1_22 hw6 => anE hw6 (fun hsk_23 hw7 => anE hw7 (fun hW_24 hw8 => anE hw8 (fun er_26 eu_25 => ?_)))))))))
    clear hw hw1 hw2 hw3 hw4 hw5 hw6 hw7 hw8
    subst er_26
    refine o_mgE (ws' := [(mm, .inr (12, mo g (nI ta) (nI pa2_17) (nI pe) pd (nI pb) pp pf pg pn rt rn (nI cd) sn (nI il) tk am at_ aa 0 0 (-1) wt wy 0 (nI rm) (nI ud) (nI nu) sd (nI qn) (nI qw) qo (nI qb) (nI qp) qa (nI qi) (nI oc))), (g 0, .inl (cI, 1600, .inl (fun j => nI (tb j)))), (g 70, .inl (cC, 4, .inl (cw ([109, 111, 111, 100])))), (g 71, .inl (cC, 5, .inl (cw ([98, 97, 114, 103, 101])))), (g 72, .inl (cC, 3, .inl (cw [119, 101, 116]))), (g 73, .inl (cC, 3, .inl (cw [100, 97, 121]))), (g 74, .inl (cC, 4, .inl (cw [119, 101, 101, 107]))), (g 75, .inl (cC, 4, .inl (cw [116, 111, 108, 100]))), (g 76, .inl (cC, 5, .inl (cw [97, 108, 111, 110, 101]))), (g 77, .inl (cC, 6, .inl (cw [110, 117, 109, 98, 101, 114]))), (g 78, .inl (cC, 4, .inl (cw [109, 117, 116, 101]))), (g 58, .inl (cC, 5, .inl (cw [102, 105, 114, 115, 116]))), (g 79, .inl (cC, 5, .inl (cw [119, 101, 101, 107, 115])))]) eu_25 hP hD rfl (fun hP hD => ?_)
    have hc_28 := cu_step (X := (cuO tb pe pa pd)) hc_13 hsk_23
    have hk_29 := sk_ch hsk_8 hsk_23
    refine lv_if_eq (tgt := 26) hx hb dX12_qWordHere_21 (by decide) (fun c_30 => ?_) (fun c_30 => ?_)
    · have c_30 : b_16 = 0 := (neq b_16 0 (by omega) (by omega)).mp c_30
      refine lv_aload_n hx hb dX12_qWordHere_26 rfl (lv_at hl 0 rfl) ?_
      refine lv_aload_n hx hb dX12_qWordHere_27 rfl (lv_at hl 0 rfl) ?_
      refine sk_get (v := .ref (g 72)) (C := RX12) (T := TX12) (N := 92) hx hb hts inlX12 hown hK hP 0 rfl rfl 72 (by decide) w_5_227 rfl dX12_qWordHere_28 ?_
      refine sk_Vi (q0 := 0) (n := 1) (rest := []) (wr := fmR om_13_1900 _) ⟨hx, hb, hml, hown, hts⟩ hl.1 (c_em_isHere l D cI cJ cC cZ cS mm g ta pa2_17 pe pd pb pp pf pg pn rt rn cd sn il tk am at_ aa wt wy rm ud nu sd qn qw qo qb qp qa qi oc tb (g 72) 3 ([119, 101, 116]) (by omega) (by omega) (by omega) (by omega) (by omega) rfl (wb_of (by decide)) htb) w_6_218 w_6_220 w_0_44 w_1_14 w_6_221 hd_X12_isHere_1 ⟨⟨(Nat.le_of_ble_eq_true rfl), (Nat.le_of_ble_eq_true rfl)⟩, (Nat.le_of_ble_eq_true rfl), (Nat.le_of_ble_eq_true rfl)⟩ hK hP hD hS hA (fmT om_13_1900 0) (fmF om_13_1900 0) (fm_C1 rfl rfl) (fm_R rfl rfl) (fm_nT om_13_1900 0) (fm_nF om_13_1900 0) (fm_di om_13_1900 0) rfl rfl rfl rfl (Nat.le_of_ble_eq_true rfl) dX12_qWordHere_31 (fun r_33 u H locs hw hP hD hS => ?_)
      refine exE hw (fun b_31 hw1 => exE hw1 (fun pa2_32 hw2 => anE hw2 (fun hpa2_34 hw3 => anE hw3 (fun hpa3_35 hw4 => anE hw4 (fun hst_36 hw5 => anE hw5 (fun hb1_37 hw6 => anE hw6 (fun hsk_38 hw7 => anE hw7 (fun hW_39 hw8 => anE hw8 (fun er_41 eu_40 => ?_)))))))))
      clear hw hw1 hw2 hw3 hw4 hw5 hw6 hw7 hw8
      subst er_41
      refine o_mgE (ws' := [(mm, .inr (12, mo g (nI ta) (nI pa2_32) (nI pe) pd (nI pb) pp pf pg pn rt rn (nI cd) sn (nI il) tk am at_ aa 0 0 (-1) wt wy 0 (nI rm) (nI ud) (nI nu) sd (nI qn) (nI qw) qo (nI qb) (nI qp) qa (nI qi) (nI oc))), (g 0, .inl (cI, 1600, .inl (fun j => nI (tb j)))), (g 70, .inl (cC, 4, .inl (cw ([109, 111, 111, 100])))), (g 71, .inl (cC, 5, .inl (cw ([98, 97, 114, 103, 101])))), (g 72, .inl (cC, 3, .inl (cw ([119, 101, 116])))), (g 73, .inl (cC, 3, .inl (cw [100, 97, 121]))), (g 74, .inl (cC, 4, .inl (cw [119, 101, 101, 107]))), (g 75, .inl (cC, 4, .inl (cw [116, 111, 108, 100]))), (g 76, .inl (cC, 5, .inl (cw [97, 108, 111, 110, 101]))), (g 77, .inl (cC, 6, .inl (cw [110, 117, 109, 98, 101, 114]))), (g 78, .inl (cC, 4, .inl (cw [109, 117, 116, 101]))), (g 58, .inl (cC, 5, .inl (cw [102, 105, 114, 115, 116]))), (g 79, .inl (cC, 5, .inl (cw [119, 101, 101, 107, 115])))]) eu_40 hP hD rfl (fun hP hD => ?_)
      have hc_43 := cu_step (X := (cuO tb pe pa pd)) hc_28 hsk_38
      have hk_44 := sk_ch hk_29 hsk_38
      refine lv_if_eq (tgt := 39) hx hb dX12_qWordHere_34 (by decide) (fun c_45 => ?_) (fun c_45 => ?_)
      · have c_45 : b_31 = 0 := (neq b_31 0 (by omega) (by omega)).mp c_45
        refine lv_aload_n hx hb dX12_qWordHere_39 rfl (lv_at hl 0 rfl) ?_
        refine lv_aload_n hx hb dX12_qWordHere_40 rfl (lv_at hl 0 rfl) ?_
        refine sk_get (v := .ref (g 73)) (C := RX12) (T := TX12) (N := 92) hx hb hts inlX12 hown hK hP 0 rfl rfl 73 (by decide) w_5_228 rfl dX12_qWordHere_41 ?_
        refine sk_Vi (q0 := 0) (n := 1) (rest := []) (wr := fmR om_13_1880 _) ⟨hx, hb, hml, hown, hts⟩ hl.1 (c_em_isHere l D cI cJ cC cZ cS mm g ta pa2_32 pe pd pb pp pf pg pn rt rn cd sn il tk am at_ aa wt wy rm ud nu sd qn qw qo qb qp qa qi oc tb (g 73) 3 ([100, 97, 121]) (by omega) (by omega) (by omega) (by omega) (by omega) rfl (wb_of (by decide)) htb) w_6_218 w_6_220 w_0_44 w_1_14 w_6_221 hd_X12_isHere_1 ⟨⟨(Nat.le_of_ble_eq_true rfl), (Nat.le_of_ble_eq_true rfl)⟩, (Nat.le_of_ble_eq_true rfl), (Nat.le_of_ble_eq_true rfl)⟩ hK hP hD hS hA (fmT om_13_1880 0) (fmF om_13_1880 0) (fm_C1 rfl rfl) (fm_R rfl rfl) (fm_nT om_13_1880 0) (fm_nF om_13_1880 0) (fm_di om_13_1880 0) rfl rfl rfl rfl (Nat.le_of_ble_eq_true rfl) dX12_qWordHere_44 (fun r_48 u H locs hw hP hD hS => ?_)
        refine exE hw (fun b_46 hw1 => exE hw1 (fun pa2_47 hw2 => anE hw2 (fun hpa2_49 hw3 => anE hw3 (fun hpa3_50 hw4 => anE hw4 (fun hst_51 hw5 => anE hw5 (fun hb1_52 hw6 => anE hw6 (fun hsk_53 hw7 => anE hw7 (fun hW_54 hw8 => anE hw8 (fun er_56 eu_55 => ?_)))))))))
        clear hw hw1 hw2 hw3 hw4 hw5 hw6 hw7 hw8
        subst er_56
        refine o_mgE (ws' := [(mm, .inr (12, mo g (nI ta) (nI pa2_47) (nI pe) pd (nI pb) pp pf pg pn rt rn (nI cd) sn (nI il) tk am at_ aa 0 0 (-1) wt wy 0 (nI rm) (nI ud) (nI nu) sd (nI qn) (nI qw) qo (nI qb) (nI qp) qa (nI qi) (nI oc))), (g 0, .inl (cI, 1600, .inl (fun j => nI (tb j)))), (g 70, .inl (cC, 4, .inl (cw ([109, 111, 111, 100])))), (g 71, .inl (cC, 5, .inl (cw ([98, 97, 114, 103, 101])))), (g 72, .inl (cC, 3, .inl (cw ([119, 101, 116])))), (g 73, .inl (cC, 3, .inl (cw ([100, 97, 121])))), (g 74, .inl (cC, 4, .inl (cw [119, 101, 101, 107]))), (g 75, .inl (cC, 4, .inl (cw [116, 111, 108, 100]))), (g 76, .inl (cC, 5, .inl (cw [97, 108, 111, 110, 101]))), (g 77, .inl (cC, 6, .inl (cw [110, 117, 109, 98, 101, 114]))), (g 78, .inl (cC, 4, .inl (cw [109, 117, 116, 101]))), (g 58, .inl (cC, 5, .inl (cw [102, 105, 114, 115, 116]))), (g 79, .inl (cC, 5, .inl (cw [119, 101, 101, 107, 115])))]) eu_55 hP hD rfl (fun hP hD => ?_)
        have hc_58 := cu_step (X := (cuO tb pe pa pd)) hc_43 hsk_53
        have hk_59 := sk_ch hk_44 hsk_53
        refine lv_if_eq (tgt := 52) hx hb dX12_qWordHere_47 (by decide) (fun c_60 => ?_) (fun c_60 => ?_)
        · have c_60 : b_46 = 0 := (neq b_46 0 (by omega) (by omega)).mp c_60
          refine lv_aload_n hx hb dX12_qWordHere_52 rfl (lv_at hl 0 rfl) ?_
          refine lv_aload_n hx hb dX12_qWordHere_53 rfl (lv_at hl 0 rfl) ?_
          refine sk_get (v := .ref (g 74)) (C := RX12) (T := TX12) (N := 92) hx hb hts inlX12 hown hK hP 0 rfl rfl 74 (by decide) w_5_229 rfl dX12_qWordHere_54 ?_
          refine sk_Vi (q0 := 0) (n := 1) (rest := []) (wr := fmR om_13_1840 _) ⟨hx, hb, hml, hown, hts⟩ hl.1 (c_em_isHere l D cI cJ cC cZ cS mm g ta pa2_47 pe pd pb pp pf pg pn rt rn cd sn il tk am at_ aa wt wy rm ud nu sd qn qw qo qb qp qa qi oc tb (g 74) 4 ([119, 101, 101, 107]) (by omega) (by omega) (by omega) (by omega) (by omega) rfl (wb_of (by decide)) htb) w_6_218 w_6_220 w_0_44 w_1_14 w_6_221 hd_X12_isHere_1 ⟨⟨(Nat.le_of_ble_eq_true rfl), (Nat.le_of_ble_eq_true rfl)⟩, (Nat.le_of_ble_eq_true rfl), (Nat.le_of_ble_eq_true rfl)⟩ hK hP hD hS hA (fmT om_13_1840 0) (fmF om_13_1840 0) (fm_C1 rfl rfl) (fm_R rfl rfl) (fm_nT om_13_1840 0) (fm_nF om_13_1840 0) (fm_di om_13_1840 0) rfl rfl rfl rfl (Nat.le_of_ble_eq_true rfl) dX12_qWordHere_57 (fun r_63 u H locs hw hP hD hS => ?_)
          refine exE hw (fun b_61 hw1 => exE hw1 (fun pa2_62 hw2 => anE hw2 (fun hpa2_64 hw3 => anE hw3 (fun hpa3_65 hw4 => anE hw4 (fun hst_66 hw5 => anE hw5 (fun hb1_67 hw6 => anE hw6 (fun hsk_68 hw7 => anE hw7 (fun hW_69 hw8 => anE hw8 (fun er_71 eu_70 => ?_)))))))))
          clear hw hw1 hw2 hw3 hw4 hw5 hw6 hw7 hw8
          subst er_71
          refine o_mgE (ws' := [(mm, .inr (12, mo g (nI ta) (nI pa2_62) (nI pe) pd (nI pb) pp pf pg pn rt rn (nI cd) sn (nI il) tk am at_ aa 0 0 (-1) wt wy 0 (nI rm) (nI ud) (nI nu) sd (nI qn) (nI qw) qo (nI qb) (nI qp) qa (nI qi) (nI oc))), (g 0, .inl (cI, 1600, .inl (fun j => nI (tb j)))), (g 70, .inl (cC, 4, .inl (cw ([109, 111, 111, 100])))), (g 71, .inl (cC, 5, .inl (cw ([98, 97, 114, 103, 101])))), (g 72, .inl (cC, 3, .inl (cw ([119, 101, 116])))), (g 73, .inl (cC, 3, .inl (cw ([100, 97, 121])))), (g 74, .inl (cC, 4, .inl (cw ([119, 101, 101, 107])))), (g 75, .inl (cC, 4, .inl (cw [116, 111, 108, 100]))), (g 76, .inl (cC, 5, .inl (cw [97, 108, 111, 110, 101]))), (g 77, .inl (cC, 6, .inl (cw [110, 117, 109, 98, 101, 114]))), (g 78, .inl (cC, 4, .inl (cw [109, 117, 116, 101]))), (g 58, .inl (cC, 5, .inl (cw [102, 105, 114, 115, 116]))), (g 79, .inl (cC, 5, .inl (cw [119, 101, 101, 107, 115])))]) eu_70 hP hD rfl (fun hP hD => ?_)
          have hc_73 := cu_step (X := (cuO tb pe pa pd)) hc_58 hsk_68
          have hk_74 := sk_ch hk_59 hsk_68
          refine lv_if_eq (tgt := 65) hx hb dX12_qWordHere_60 (by decide) (fun c_75 => ?_) (fun c_75 => ?_)
          · have c_75 : b_61 = 0 := (neq b_61 0 (by omega) (by omega)).mp c_75
            refine lv_aload_n hx hb dX12_qWordHere_65 rfl (lv_at hl 0 rfl) ?_
            refine lv_aload_n hx hb dX12_qWordHere_66 rfl (lv_at hl 0 rfl) ?_
            refine sk_get (v := .ref (g 75)) (C := RX12) (T := TX12) (N := 92) hx hb hts inlX12 hown hK hP 0 rfl rfl 75 (by decide) w_5_230 rfl dX12_qWordHere_67 ?_
            refine sk_Vi (q0 := 0) (n := 1) (rest := []) (wr := fmR om_13_1820 _) ⟨hx, hb, hml, hown, hts⟩ hl.1 (c_em_isHere l D cI cJ cC cZ cS mm g ta pa2_62 pe pd pb pp pf pg pn rt rn cd sn il tk am at_ aa wt wy rm ud nu sd qn qw qo qb qp qa qi oc tb (g 75) 4 ([116, 111, 108, 100]) (by omega) (by omega) (by omega) (by omega) (by omega) rfl (wb_of (by decide)) htb) w_6_218 w_6_220 w_0_44 w_1_14 w_6_221 hd_X12_isHere_1 ⟨⟨(Nat.le_of_ble_eq_true rfl), (Nat.le_of_ble_eq_true rfl)⟩, (Nat.le_of_ble_eq_true rfl), (Nat.le_of_ble_eq_true rfl)⟩ hK hP hD hS hA (fmT om_13_1820 0) (fmF om_13_1820 0) (fm_C1 rfl rfl) (fm_R rfl rfl) (fm_nT om_13_1820 0) (fm_nF om_13_1820 0) (fm_di om_13_1820 0) rfl rfl rfl rfl (Nat.le_of_ble_eq_true rfl) dX12_qWordHere_70 (fun r_78 u H locs hw hP hD hS => ?_)
            refine exE hw (fun b_76 hw1 => exE hw1 (fun pa2_77 hw2 => anE hw2 (fun hpa2_79 hw3 => anE hw3 (fun hpa3_80 hw4 => anE hw4 (fun hst_81 hw5 => anE hw5 (fun hb1_82 hw6 => anE hw6 (fun hsk_83 hw7 => anE hw7 (fun hW_84 hw8 => anE hw8 (fun er_86 eu_85 => ?_)))))))))
            clear hw hw1 hw2 hw3 hw4 hw5 hw6 hw7 hw8
            subst er_86
            refine o_mgE (ws' := [(mm, .inr (12, mo g (nI ta) (nI pa2_77) (nI pe) pd (nI pb) pp pf pg pn rt rn (nI cd) sn (nI il) tk am at_ aa 0 0 (-1) wt wy 0 (nI rm) (nI ud) (nI nu) sd (nI qn) (nI qw) qo (nI qb) (nI qp) qa (nI qi) (nI oc))), (g 0, .inl (cI, 1600, .inl (fun j => nI (tb j)))), (g 70, .inl (cC, 4, .inl (cw ([109, 111, 111, 100])))), (g 71, .inl (cC, 5, .inl (cw ([98, 97, 114, 103, 101])))), (g 72, .inl (cC, 3, .inl (cw ([119, 101, 116])))), (g 73, .inl (cC, 3, .inl (cw ([100, 97, 121])))), (g 74, .inl (cC, 4, .inl (cw ([119, 101, 101, 107])))), (g 75, .inl (cC, 4, .inl (cw ([116, 111, 108, 100])))), (g 76, .inl (cC, 5, .inl (cw [97, 108, 111, 110, 101]))), (g 77, .inl (cC, 6, .inl (cw [110, 117, 109, 98, 101, 114]))), (g 78, .inl (cC, 4, .inl (cw [109, 117, 116, 101]))), (g 58, .inl (cC, 5, .inl (cw [102, 105, 114, 115, 116]))), (g 79, .inl (cC, 5, .inl (cw [119, 101, 101, 107, 115])))]) eu_85 hP hD rfl (fun hP hD => ?_)
            have hc_88 := cu_step (X := (cuO tb pe pa pd)) hc_73 hsk_83
            have hk_89 := sk_ch hk_74 hsk_83
            refine lv_if_eq (tgt := 78) hx hb dX12_qWordHere_73 (by decide) (fun c_90 => ?_) (fun c_90 => ?_)
            · have c_90 : b_76 = 0 := (neq b_76 0 (by omega) (by omega)).mp c_90
              refine lv_aload_n hx hb dX12_qWordHere_78 rfl (lv_at hl 0 rfl) ?_
              refine lv_aload_n hx hb dX12_qWordHere_79 rfl (lv_at hl 0 rfl) ?_
              refine sk_get (v := .ref (g 76)) (C := RX12) (T := TX12) (N := 92) hx hb hts inlX12 hown hK hP 0 rfl rfl 76 (by decide) w_5_231 rfl dX12_qWordHere_80 ?_
              refine sk_Vi (q0 := 0) (n := 1) (rest := []) (wr := fmR om_13_1810 _) ⟨hx, hb, hml, hown, hts⟩ hl.1 (c_em_isHere l D cI cJ cC cZ cS mm g ta pa2_77 pe pd pb pp pf pg pn rt rn cd sn il tk am at_ aa wt wy rm ud nu sd qn qw qo qb qp qa qi oc tb (g 76) 5 ([97, 108, 111, 110, 101]) (by omega) (by omega) (by omega) (by omega) (by omega) rfl (wb_of (by decide)) htb) w_6_218 w_6_220 w_0_44 w_1_14 w_6_221 hd_X12_isHere_1 ⟨⟨(Nat.le_of_ble_eq_true rfl), (Nat.le_of_ble_eq_true rfl)⟩, (Nat.le_of_ble_eq_true rfl), (Nat.le_of_ble_eq_true rfl)⟩ hK hP hD hS hA (fmT om_13_1810 0) (fmF om_13_1810 0) (fm_C1 rfl rfl) (fm_R rfl rfl) (fm_nT om_13_1810 0) (fm_nF om_13_1810 0) (fm_di om_13_1810 0) rfl rfl rfl rfl (Nat.le_of_ble_eq_true rfl) dX12_qWordHere_83 (fun r_93 u H locs hw hP hD hS => ?_)
              refine exE hw (fun b_91 hw1 => exE hw1 (fun pa2_92 hw2 => anE hw2 (fun hpa2_94 hw3 => anE hw3 (fun hpa3_95 hw4 => anE hw4 (fun hst_96 hw5 => anE hw5 (fun hb1_97 hw6 => anE hw6 (fun hsk_98 hw7 => anE hw7 (fun hW_99 hw8 => anE hw8 (fun er_101 eu_100 => ?_)))))))))
              clear hw hw1 hw2 hw3 hw4 hw5 hw6 hw7 hw8
              subst er_101
              refine o_mgE (ws' := [(mm, .inr (12, mo g (nI ta) (nI pa2_92) (nI pe) pd (nI pb) pp pf pg pn rt rn (nI cd) sn (nI il) tk am at_ aa 0 0 (-1) wt wy 0 (nI rm) (nI ud) (nI nu) sd (nI qn) (nI qw) qo (nI qb) (nI qp) qa (nI qi) (nI oc))), (g 0, .inl (cI, 1600, .inl (fun j => nI (tb j)))), (g 70, .inl (cC, 4, .inl (cw ([109, 111, 111, 100])))), (g 71, .inl (cC, 5, .inl (cw ([98, 97, 114, 103, 101])))), (g 72, .inl (cC, 3, .inl (cw ([119, 101, 116])))), (g 73, .inl (cC, 3, .inl (cw ([100, 97, 121])))), (g 74, .inl (cC, 4, .inl (cw ([119, 101, 101, 107])))), (g 75, .inl (cC, 4, .inl (cw ([116, 111, 108, 100])))), (g 76, .inl (cC, 5, .inl (cw ([97, 108, 111, 110, 101])))), (g 77, .inl (cC, 6, .inl (cw [110, 117, 109, 98, 101, 114]))), (g 78, .inl (cC, 4, .inl (cw [109, 117, 116, 101]))), (g 58, .inl (cC, 5, .inl (cw [102, 105, 114, 115, 116]))), (g 79, .inl (cC, 5, .inl (cw [119, 101, 101, 107, 115])))]) eu_100 hP hD rfl (fun hP hD => ?_)
              have hc_103 := cu_step (X := (cuO tb pe pa pd)) hc_88 hsk_98
              have hk_104 := sk_ch hk_89 hsk_98
              refine lv_if_eq (tgt := 92) hx hb dX12_qWordHere_86 (by decide) (fun c_105 => ?_) (fun c_105 => ?_)
              · have c_105 : b_91 = 0 := (neq b_91 0 (by omega) (by omega)).mp c_105
                refine lv_aload_n hx hb dX12_qWordHere_92 rfl (lv_at hl 0 rfl) ?_
                refine lv_aload_n hx hb dX12_qWordHere_93 rfl (lv_at hl 0 rfl) ?_
                refine sk_get (v := .ref (g 77)) (C := RX12) (T := TX12) (N := 92) hx hb hts inlX12 hown hK hP 0 rfl rfl 77 (by decide) w_5_232 rfl dX12_qWordHere_94 ?_
                refine sk_Vi (q0 := 0) (n := 1) (rest := []) (wr := fmR om_13_1808 _) ⟨hx, hb, hml, hown, hts⟩ hl.1 (c_em_isHere l D cI cJ cC cZ cS mm g ta pa2_92 pe pd pb pp pf pg pn rt rn cd sn il tk am at_ aa wt wy rm ud nu sd qn qw qo qb qp qa qi oc tb (g 77) 6 ([110, 117, 109, 98, 101, 114]) (by omega) (by omega) (by omega) (by omega) (by omega) rfl (wb_of (by decide)) htb) w_6_218 w_6_220 w_0_44 w_1_14 w_6_221 hd_X12_isHere_1 ⟨⟨(Nat.le_of_ble_eq_true rfl), (Nat.le_of_ble_eq_true rfl)⟩, (Nat.le_of_ble_eq_true rfl), (Nat.le_of_ble_eq_true rfl)⟩ hK hP hD hS hA (fmT om_13_1808 0) (fmF om_13_1808 0) (fm_C1 rfl rfl) (fm_R rfl rfl) (fm_nT om_13_1808 0) (fm_nF om_13_1808 0) (fm_di om_13_1808 0) rfl rfl rfl rfl (Nat.le_of_ble_eq_true rfl) dX12_qWordHere_97 (fun r_108 u H locs hw hP hD hS => ?_)
                refine exE hw (fun b_106 hw1 => exE hw1 (fun pa2_107 hw2 => anE hw2 (fun hpa2_109 hw3 => anE hw3 (fun hpa3_110 hw4 => anE hw4 (fun hst_111 hw5 => anE hw5 (fun hb1_112 hw6 => anE hw6 (fun hsk_113 hw7 => anE hw7 (fun hW_114 hw8 => anE hw8 (fun er_116 eu_115 => ?_)))))))))
                clear hw hw1 hw2 hw3 hw4 hw5 hw6 hw7 hw8
                subst er_116
                refine o_mgE (ws' := [(mm, .inr (12, mo g (nI ta) (nI pa2_107) (nI pe) pd (nI pb) pp pf pg pn rt rn (nI cd) sn (nI il) tk am at_ aa 0 0 (-1) wt wy 0 (nI rm) (nI ud) (nI nu) sd (nI qn) (nI qw) qo (nI qb) (nI qp) qa (nI qi) (nI oc))), (g 0, .inl (cI, 1600, .inl (fun j => nI (tb j)))), (g 70, .inl (cC, 4, .inl (cw ([109, 111, 111, 100])))), (g 71, .inl (cC, 5, .inl (cw ([98, 97, 114, 103, 101])))), (g 72, .inl (cC, 3, .inl (cw ([119, 101, 116])))), (g 73, .inl (cC, 3, .inl (cw ([100, 97, 121])))), (g 74, .inl (cC, 4, .inl (cw ([119, 101, 101, 107])))), (g 75, .inl (cC, 4, .inl (cw ([116, 111, 108, 100])))), (g 76, .inl (cC, 5, .inl (cw ([97, 108, 111, 110, 101])))), (g 77, .inl (cC, 6, .inl (cw ([110, 117, 109, 98, 101, 114])))), (g 78, .inl (cC, 4, .inl (cw [109, 117, 116, 101]))), (g 58, .inl (cC, 5, .inl (cw [102, 105, 114, 115, 116]))), (g 79, .inl (cC, 5, .inl (cw [119, 101, 101, 107, 115])))]) eu_115 hP hD rfl (fun hP hD => ?_)
                have hc_118 := cu_step (X := (cuO tb pe pa pd)) hc_103 hsk_113
                have hk_119 := sk_ch hk_104 hsk_113
                refine lv_if_eq (tgt := 106) hx hb dX12_qWordHere_100 (by decide) (fun c_120 => ?_) (fun c_120 => ?_)
                · have c_120 : b_106 = 0 := (neq b_106 0 (by omega) (by omega)).mp c_120
                  refine lv_aload_n hx hb dX12_qWordHere_106 rfl (lv_at hl 0 rfl) ?_
                  refine lv_aload_n hx hb dX12_qWordHere_107 rfl (lv_at hl 0 rfl) ?_
                  refine sk_get (v := .ref (g 78)) (C := RX12) (T := TX12) (N := 92) hx hb hts inlX12 hown hK hP 0 rfl rfl 78 (by decide) w_5_233 rfl dX12_qWordHere_108 ?_
                  refine sk_Vi (q0 := 0) (n := 1) (rest := []) (wr := fmR om_13_1804 _) ⟨hx, hb, hml, hown, hts⟩ hl.1 (c_em_isHere l D cI cJ cC cZ cS mm g ta pa2_107 pe pd pb pp pf pg pn rt rn cd sn il tk am at_ aa wt wy rm ud nu sd qn qw qo qb qp qa qi oc tb (g 78) 4 ([109, 117, 116, 101]) (by omega) (by omega) (by omega) (by omega) (by omega) rfl (wb_of (by decide)) htb) w_6_218 w_6_220 w_0_44 w_1_14 w_6_221 hd_X12_isHere_1 ⟨⟨(Nat.le_of_ble_eq_true rfl), (Nat.le_of_ble_eq_true rfl)⟩, (Nat.le_of_ble_eq_true rfl), (Nat.le_of_ble_eq_true rfl)⟩ hK hP hD hS hA (fmT om_13_1804 0) (fmF om_13_1804 0) (fm_C1 rfl rfl) (fm_R rfl rfl) (fm_nT om_13_1804 0) (fm_nF om_13_1804 0) (fm_di om_13_1804 0) rfl rfl rfl rfl (Nat.le_of_ble_eq_true rfl) dX12_qWordHere_111 (fun r_123 u H locs hw hP hD hS => ?_)
                  refine exE hw (fun b_121 hw1 => exE hw1 (fun pa2_122 hw2 => anE hw2 (fun hpa2_124 hw3 => anE hw3 (fun hpa3_125 hw4 => anE hw4 (fun hst_126 hw5 => anE hw5 (fun hb1_127 hw6 => anE hw6 (fun hsk_128 hw7 => anE hw7 (fun hW_129 hw8 => anE hw8 (fun er_131 eu_130 => ?_)))))))))
                  clear hw hw1 hw2 hw3 hw4 hw5 hw6 hw7 hw8
                  subst er_131
                  refine o_mgE (ws' := [(mm, .inr (12, mo g (nI ta) (nI pa2_122) (nI pe) pd (nI pb) pp pf pg pn rt rn (nI cd) sn (nI il) tk am at_ aa 0 0 (-1) wt wy 0 (nI rm) (nI ud) (nI nu) sd (nI qn) (nI qw) qo (nI qb) (nI qp) qa (nI qi) (nI oc))), (g 0, .inl (cI, 1600, .inl (fun j => nI (tb j)))), (g 70, .inl (cC, 4, .inl (cw ([109, 111, 111, 100])))), (g 71, .inl (cC, 5, .inl (cw ([98, 97, 114, 103, 101])))), (g 72, .inl (cC, 3, .inl (cw ([119, 101, 116])))), (g 73, .inl (cC, 3, .inl (cw ([100, 97, 121])))), (g 74, .inl (cC, 4, .inl (cw ([119, 101, 101, 107])))), (g 75, .inl (cC, 4, .inl (cw ([116, 111, 108, 100])))), (g 76, .inl (cC, 5, .inl (cw ([97, 108, 111, 110, 101])))), (g 77, .inl (cC, 6, .inl (cw ([110, 117, 109, 98, 101, 114])))), (g 78, .inl (cC, 4, .inl (cw ([109, 117, 116, 101])))), (g 58, .inl (cC, 5, .inl (cw [102, 105, 114, 115, 116]))), (g 79, .inl (cC, 5, .inl (cw [119, 101, 101, 107, 115])))]) eu_130 hP hD rfl (fun hP hD => ?_)
                  have hc_133 := cu_step (X := (cuO tb pe pa pd)) hc_118 hsk_128
                  have hk_134 := sk_ch hk_119 hsk_128
                  refine lv_if_eq (tgt := 120) hx hb dX12_qWordHere_114 (by decide) (fun c_135 => ?_) (fun c_135 => ?_)
                  · have c_135 : b_121 = 0 := (neq b_121 0 (by omega) (by omega)).mp c_135
                    refine lv_aload_n hx hb dX12_qWordHere_120 rfl (lv_at hl 0 rfl) ?_
                    refine lv_aload_n hx hb dX12_qWordHere_121 rfl (lv_at hl 0 rfl) ?_
                    refine sk_get (v := .ref (g 58)) (C := RX12) (T := TX12) (N := 92) hx hb hts inlX12 hown hK hP 0 rfl rfl 58 (by decide) w_5_213 rfl dX12_qWordHere_122 ?_
                    refine sk_Vi (q0 := 0) (n := 1) (rest := []) (wr := fmR om_13_1802 _) ⟨hx, hb, hml, hown, hts⟩ hl.1 (c_em_isHere l D cI cJ cC cZ cS mm g ta pa2_122 pe pd pb pp pf pg pn rt rn cd sn il tk am at_ aa wt wy rm ud nu sd qn qw qo qb qp qa qi oc tb (g 58) 5 ([102, 105, 114, 115, 116]) (by omega) (by omega) (by omega) (by omega) (by omega) rfl (wb_of (by decide)) htb) w_6_218 w_6_220 w_0_44 w_1_14 w_6_221 hd_X12_isHere_1 ⟨⟨(Nat.le_of_ble_eq_true rfl), (Nat.le_of_ble_eq_true rfl)⟩, (Nat.le_of_ble_eq_true rfl), (Nat.le_of_ble_eq_true rfl)⟩ hK hP hD hS hA (fmT om_13_1802 0) (fmF om_13_1802 0) (fm_C1 rfl rfl) (fm_R rfl rfl) (fm_nT om_13_1802 0) (fm_nF om_13_1802 0) (fm_di om_13_1802 0) rfl rfl rfl rfl (Nat.le_of_ble_eq_true rfl) dX12_qWordHere_125 (fun r_138 u H locs hw hP hD hS => ?_)
                    refine exE hw (fun b_136 hw1 => exE hw1 (fun pa2_137 hw2 => anE hw2 (fun hpa2_139 hw3 => anE hw3 (fun hpa3_140 hw4 => anE hw4 (fun hst_141 hw5 => anE hw5 (fun hb1_142 hw6 => anE hw6 (fun hsk_143 hw7 => anE hw7 (fun hW_144 hw8 => anE hw8 (fun er_146 eu_145 => ?_)))))))))
                    clear hw hw1 hw2 hw3 hw4 hw5 hw6 hw7 hw8
                    subst er_146
                    refine o_mgE (ws' := [(mm, .inr (12, mo g (nI ta) (nI pa2_137) (nI pe) pd (nI pb) pp pf pg pn rt rn (nI cd) sn (nI il) tk am at_ aa 0 0 (-1) wt wy 0 (nI rm) (nI ud) (nI nu) sd (nI qn) (nI qw) qo (nI qb) (nI qp) qa (nI qi) (nI oc))), (g 0, .inl (cI, 1600, .inl (fun j => nI (tb j)))), (g 70, .inl (cC, 4, .inl (cw ([109, 111, 111, 100])))), (g 71, .inl (cC, 5, .inl (cw ([98, 97, 114, 103, 101])))), (g 72, .inl (cC, 3, .inl (cw ([119, 101, 116])))), (g 73, .inl (cC, 3, .inl (cw ([100, 97, 121])))), (g 74, .inl (cC, 4, .inl (cw ([119, 101, 101, 107])))), (g 75, .inl (cC, 4, .inl (cw ([116, 111, 108, 100])))), (g 76, .inl (cC, 5, .inl (cw ([97, 108, 111, 110, 101])))), (g 77, .inl (cC, 6, .inl (cw ([110, 117, 109, 98, 101, 114])))), (g 78, .inl (cC, 4, .inl (cw ([109, 117, 116, 101])))), (g 58, .inl (cC, 5, .inl (cw ([102, 105, 114, 115, 116])))), (g 79, .inl (cC, 5, .inl (cw [119, 101, 101, 107, 115])))]) eu_145 hP hD rfl (fun hP hD => ?_)
                    have hc_148 := cu_step (X := (cuO tb pe pa pd)) hc_133 hsk_143
                    have hk_149 := sk_ch hk_134 hsk_143
                    refine lv_if_eq (tgt := 134) hx hb dX12_qWordHere_128 (by decide) (fun c_150 => ?_) (fun c_150 => ?_)
                    · have c_150 : b_136 = 0 := (neq b_136 0 (by omega) (by omega)).mp c_150
                      refine lv_aload_n hx hb dX12_qWordHere_134 rfl (lv_at hl 0 rfl) ?_
                      refine lv_aload_n hx hb dX12_qWordHere_135 rfl (lv_at hl 0 rfl) ?_
                      refine sk_get (v := .ref (g 79)) (C := RX12) (T := TX12) (N := 92) hx hb hts inlX12 hown hK hP 0 rfl rfl 79 (by decide) w_5_234 rfl dX12_qWordHere_136 ?_
                      refine sk_Vi (q0 := 0) (n := 1) (rest := []) (wr := fmR om_13_1801 _) ⟨hx, hb, hml, hown, hts⟩ hl.1 (c_em_isHere l D cI cJ cC cZ cS mm g ta pa2_137 pe pd pb pp pf pg pn rt rn cd sn il tk am at_ aa wt wy rm ud nu sd qn qw qo qb qp qa qi oc tb (g 79) 5 ([119, 101, 101, 107, 115]) (by omega) (by omega) (by omega) (by omega) (by omega) rfl (wb_of (by decide)) htb) w_6_218 w_6_220 w_0_44 w_1_14 w_6_221 hd_X12_isHere_1 ⟨⟨(Nat.le_of_ble_eq_true rfl), (Nat.le_of_ble_eq_true rfl)⟩, (Nat.le_of_ble_eq_true rfl), (Nat.le_of_ble_eq_true rfl)⟩ hK hP hD hS hA (fmT om_13_1801 0) (fmF om_13_1801 0) (fm_C1 rfl rfl) (fm_R rfl rfl) (fm_nT om_13_1801 0) (fm_nF om_13_1801 0) (fm_di om_13_1801 0) rfl rfl rfl rfl (Nat.le_of_ble_eq_true rfl) dX12_qWordHere_139 (fun r_153 u H locs hw hP hD hS => ?_)
                      refine exE hw (fun b_151 hw1 => exE hw1 (fun pa2_152 hw2 => anE hw2 (fun hpa2_154 hw3 => anE hw3 (fun hpa3_155 hw4 => anE hw4 (fun hst_156 hw5 => anE hw5 (fun hb1_157 hw6 => anE hw6 (fun hsk_158 hw7 => anE hw7 (fun hW_159 hw8 => anE hw8 (fun er_161 eu_160 => ?_)))))))))
                      clear hw hw1 hw2 hw3 hw4 hw5 hw6 hw7 hw8
                      subst er_161
                      refine o_mgE (ws' := [(mm, .inr (12, mo g (nI ta) (nI pa2_152) (nI pe) pd (nI pb) pp pf pg pn rt rn (nI cd) sn (nI il) tk am at_ aa 0 0 (-1) wt wy 0 (nI rm) (nI ud) (nI nu) sd (nI qn) (nI qw) qo (nI qb) (nI qp) qa (nI qi) (nI oc))), (g 0, .inl (cI, 1600, .inl (fun j => nI (tb j)))), (g 70, .inl (cC, 4, .inl (cw ([109, 111, 111, 100])))), (g 71, .inl (cC, 5, .inl (cw ([98, 97, 114, 103, 101])))), (g 72, .inl (cC, 3, .inl (cw ([119, 101, 116])))), (g 73, .inl (cC, 3, .inl (cw ([100, 97, 121])))), (g 74, .inl (cC, 4, .inl (cw ([119, 101, 101, 107])))), (g 75, .inl (cC, 4, .inl (cw ([116, 111, 108, 100])))), (g 76, .inl (cC, 5, .inl (cw ([97, 108, 111, 110, 101])))), (g 77, .inl (cC, 6, .inl (cw ([110, 117, 109, 98, 101, 114])))), (g 78, .inl (cC, 4, .inl (cw ([109, 117, 116, 101])))), (g 58, .inl (cC, 5, .inl (cw ([102, 105, 114, 115, 116])))), (g 79, .inl (cC, 5, .inl (cw ([119, 101, 101, 107, 115]))))]) eu_160 hP hD rfl (fun hP hD => ?_)
                      have hc_163 := cu_step (X := (cuO tb pe pa pd)) hc_148 hsk_158
                      have hk_164 := sk_ch hk_149 hsk_158
                      refine lv_if_eq (tgt := 148) hx hb dX12_qWordHere_142 (by decide) (fun c_165 => ?_) (fun c_165 => ?_)
                      · have c_165 : b_151 = 0 := (neq b_151 0 (by omega) (by omega)).mp c_165
                        refine lv_iconst (v := (-1)) hx hb dX12_qWordHere_148 (by decide) ?_
                        exact sk_iret hx hb hr rfl hlocks hK hP hD hS (⟨pa2_152, by omega, by omega, (stay_tr (stay_tr (stay_tr (stay_tr (stay_tr (stay_tr (stay_tr (stay_tr (stay_tr (stay_tr hst_6 hst_21) hst_36) hst_51) hst_66) hst_81) hst_96) hst_111) hst_126) hst_141) hst_156), (Or.inl rfl), hk_164, (Or.inl ⟨rfl, wh_all (wh_n (w := pw11 0) (fun _ => rfl) hW_9 (by omega)) (wh_n (w := pw11 1) hc_13 hW_24 (by omega)) (wh_n (w := pw11 2) hc_28 hW_39 (by omega)) (wh_n (w := pw11 3) hc_43 hW_54 (by omega)) (wh_n (w := pw11 4) hc_58 hW_69 (by omega)) (wh_n (w := pw11 5) hc_73 hW_84 (by omega)) (wh_n (w := pw11 6) hc_88 hW_99 (by omega)) (wh_n (w := pw11 7) hc_103 hW_114 (by omega)) (wh_n (w := pw11 8) hc_118 hW_129 (by omega)) (wh_n (w := pw11 9) hc_133 hW_144 (by omega)) (wh_n (w := pw11 10) hc_148 hW_159 (by omega))⟩), rfl⟩) (Nat.le_of_ble_eq_true rfl) (Nat.le_of_ble_eq_true rfl) dX12_qWordHere_149
                      · have c_165 : ¬ (b_151 = 0) := fun h => c_165 ((neq b_151 0 (by omega) (by omega)).mpr h)
                        refine lv_bipush (v := 10) hx hb dX12_qWordHere_145 (by decide) ?_
                        exact sk_iret hx hb hr rfl hlocks hK hP hD hS (⟨pa2_152, by omega, by omega, (stay_tr (stay_tr (stay_tr (stay_tr (stay_tr (stay_tr (stay_tr (stay_tr (stay_tr (stay_tr hst_6 hst_21) hst_36) hst_51) hst_66) hst_81) hst_96) hst_111) hst_126) hst_141) hst_156), (Or.inr ⟨10, by omega, rfl⟩), hk_164, (Or.inr ⟨10, by decide, rfl, wh_y (w := pw11 10) hc_148 hW_159 (by omega)⟩), rfl⟩) (Nat.le_of_ble_eq_true rfl) (Nat.le_of_ble_eq_true rfl) dX12_qWordHere_147
                    · have c_150 : ¬ (b_136 = 0) := fun h => c_150 ((neq b_136 0 (by omega) (by omega)).mpr h)
                      refine lv_bipush (v := 9) hx hb dX12_qWordHere_131 (by decide) ?_
                      exact sk_iret hx hb hr rfl hlocks hK hP hD hS (⟨pa2_137, by omega, by omega, (stay_tr (stay_tr (stay_tr (stay_tr (stay_tr (stay_tr (stay_tr (stay_tr (stay_tr hst_6 hst_21) hst_36) hst_51) hst_66) hst_81) hst_96) hst_111) hst_126) hst_141), (Or.inr ⟨9, by omega, rfl⟩), hk_149, (Or.inr ⟨9, by decide, rfl, wh_y (w := pw11 9) hc_133 hW_144 (by omega)⟩), rfl⟩) (Nat.le_of_ble_eq_true rfl) (Nat.le_of_ble_eq_true rfl) dX12_qWordHere_133
                  · have c_135 : ¬ (b_121 = 0) := fun h => c_135 ((neq b_121 0 (by omega) (by omega)).mpr h)
                    refine lv_bipush (v := 8) hx hb dX12_qWordHere_117 (by decide) ?_
                    exact sk_iret hx hb hr rfl hlocks hK hP hD hS (⟨pa2_122, by omega, by omega, (stay_tr (stay_tr (stay_tr (stay_tr (stay_tr (stay_tr (stay_tr (stay_tr hst_6 hst_21) hst_36) hst_51) hst_66) hst_81) hst_96) hst_111) hst_126), (Or.inr ⟨8, by omega, rfl⟩), hk_134, (Or.inr ⟨8, by decide, rfl, wh_y (w := pw11 8) hc_118 hW_129 (by omega)⟩), rfl⟩) (Nat.le_of_ble_eq_true rfl) (Nat.le_of_ble_eq_true rfl) dX12_qWordHere_119
                · have c_120 : ¬ (b_106 = 0) := fun h => c_120 ((neq b_106 0 (by omega) (by omega)).mpr h)
                  refine lv_bipush (v := 7) hx hb dX12_qWordHere_103 (by decide) ?_
                  exact sk_iret hx hb hr rfl hlocks hK hP hD hS (⟨pa2_107, by omega, by omega, (stay_tr (stay_tr (stay_tr (stay_tr (stay_tr (stay_tr (stay_tr hst_6 hst_21) hst_36) hst_51) hst_66) hst_81) hst_96) hst_111), (Or.inr ⟨7, by omega, rfl⟩), hk_119, (Or.inr ⟨7, by decide, rfl, wh_y (w := pw11 7) hc_103 hW_114 (by omega)⟩), rfl⟩) (Nat.le_of_ble_eq_true rfl) (Nat.le_of_ble_eq_true rfl) dX12_qWordHere_105
              · have c_105 : ¬ (b_91 = 0) := fun h => c_105 ((neq b_91 0 (by omega) (by omega)).mpr h)
                refine lv_bipush (v := 6) hx hb dX12_qWordHere_89 (by decide) ?_
                exact sk_iret hx hb hr rfl hlocks hK hP hD hS (⟨pa2_92, by omega, by omega, (stay_tr (stay_tr (stay_tr (stay_tr (stay_tr (stay_tr hst_6 hst_21) hst_36) hst_51) hst_66) hst_81) hst_96), (Or.inr ⟨6, by omega, rfl⟩), hk_104, (Or.inr ⟨6, by decide, rfl, wh_y (w := pw11 6) hc_88 hW_99 (by omega)⟩), rfl⟩) (Nat.le_of_ble_eq_true rfl) (Nat.le_of_ble_eq_true rfl) dX12_qWordHere_91
            · have c_90 : ¬ (b_76 = 0) := fun h => c_90 ((neq b_76 0 (by omega) (by omega)).mpr h)
              refine lv_iconst (v := 5) hx hb dX12_qWordHere_76 (by decide) ?_
              exact sk_iret hx hb hr rfl hlocks hK hP hD hS (⟨pa2_77, by omega, by omega, (stay_tr (stay_tr (stay_tr (stay_tr (stay_tr hst_6 hst_21) hst_36) hst_51) hst_66) hst_81), (Or.inr ⟨5, by omega, rfl⟩), hk_89, (Or.inr ⟨5, by decide, rfl, wh_y (w := pw11 5) hc_73 hW_84 (by omega)⟩), rfl⟩) (Nat.le_of_ble_eq_true rfl) (Nat.le_of_ble_eq_true rfl) dX12_qWordHere_77
          · have c_75 : ¬ (b_61 = 0) := fun h => c_75 ((neq b_61 0 (by omega) (by omega)).mpr h)
            refine lv_iconst (v := 4) hx hb dX12_qWordHere_63 (by decide) ?_
            exact sk_iret hx hb hr rfl hlocks hK hP hD hS (⟨pa2_62, by omega, by omega, (stay_tr (stay_tr (stay_tr (stay_tr hst_6 hst_21) hst_36) hst_51) hst_66), (Or.inr ⟨4, by omega, rfl⟩), hk_74, (Or.inr ⟨4, by decide, rfl, wh_y (w := pw11 4) hc_58 hW_69 (by omega)⟩), rfl⟩) (Nat.le_of_ble_eq_true rfl) (Nat.le_of_ble_eq_true rfl) dX12_qWordHere_64
        · have c_60 : ¬ (b_46 = 0) := fun h => c_60 ((neq b_46 0 (by omega) (by omega)).mpr h)
          refine lv_iconst (v := 3) hx hb dX12_qWordHere_50 (by decide) ?_
          exact sk_iret hx hb hr rfl hlocks hK hP hD hS (⟨pa2_47, by omega, by omega, (stay_tr (stay_tr (stay_tr hst_6 hst_21) hst_36) hst_51), (Or.inr ⟨3, by omega, rfl⟩), hk_59, (Or.inr ⟨3, by decide, rfl, wh_y (w := pw11 3) hc_43 hW_54 (by omega)⟩), rfl⟩) (Nat.le_of_ble_eq_true rfl) (Nat.le_of_ble_eq_true rfl) dX12_qWordHere_51
      · have c_45 : ¬ (b_31 = 0) := fun h => c_45 ((neq b_31 0 (by omega) (by omega)).mpr h)
        refine lv_iconst (v := 2) hx hb dX12_qWordHere_37 (by decide) ?_
        exact sk_iret hx hb hr rfl hlocks hK hP hD hS (⟨pa2_32, by omega, by omega, (stay_tr (stay_tr hst_6 hst_21) hst_36), (Or.inr ⟨2, by omega, rfl⟩), hk_44, (Or.inr ⟨2, by decide, rfl, wh_y (w := pw11 2) hc_28 hW_39 (by omega)⟩), rfl⟩) (Nat.le_of_ble_eq_true rfl) (Nat.le_of_ble_eq_true rfl) dX12_qWordHere_38
    · have c_30 : ¬ (b_16 = 0) := fun h => c_30 ((neq b_16 0 (by omega) (by omega)).mpr h)
      refine lv_iconst (v := 1) hx hb dX12_qWordHere_24 (by decide) ?_
      exact sk_iret hx hb hr rfl hlocks hK hP hD hS (⟨pa2_17, by omega, by omega, (stay_tr hst_6 hst_21), (Or.inr ⟨1, by omega, rfl⟩), hk_29, (Or.inr ⟨1, by decide, rfl, wh_y (w := pw11 1) hc_13 hW_24 (by omega)⟩), rfl⟩) (Nat.le_of_ble_eq_true rfl) (Nat.le_of_ble_eq_true rfl) dX12_qWordHere_25
  · have c_15 : ¬ (b_1 = 0) := fun h => c_15 ((neq b_1 0 (by omega) (by omega)).mpr h)
    refine lv_iconst (v := 0) hx hb dX12_qWordHere_11 (by decide) ?_
    exact sk_iret hx hb hr rfl hlocks hK hP hD hS (⟨pa2_2, by omega, by omega, hst_6, (Or.inr ⟨0, by omega, rfl⟩), hsk_8, (Or.inr ⟨0, by decide, rfl, wh_y (w := pw11 0) (fun _ => rfl) hW_9 (by omega)⟩), rfl⟩) (Nat.le_of_ble_eq_true rfl) (Nat.le_of_ble_eq_true rfl) dX12_qWordHere_12
