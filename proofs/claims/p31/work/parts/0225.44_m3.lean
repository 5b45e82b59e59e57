set_option maxHeartbeats 4000000 in
set_option maxRecDepth 100000 in
theorem c_m_isLeft0 (l : Launch) (D : va_G) (cI cJ cC cZ cS : ClassId) (mm : Nat) (g : Nat → Nat) (ta : Nat) (pa : Nat) (pe : Nat) (pd : Int32) (pb : Nat) (pp : Int32) (pf : Int32) (pg : Int32) (pn : Int32) (rt : Int32) (rn : Int32) (cd : Nat) (sn : Int32) (il : Nat) (tk : Int32) (am : Int32) (at_ : Int32) (aa : Int32) (mt_ : Int32) (wt : Int32) (wy : Int64) (it_ : Nat) (rm : Nat) (ud : Nat) (nu : Nat) (sd : Int64) (qn : Nat) (qw : Nat) (qo : Int32) (qb : Nat) (qp : Nat) (qa : Int64) (qi : Nat) (oc : Nat) (d : Nat) (o : Nat) (hd : d < 9) (ho : o < 10) : skM l yX12_isLeft cX12_isLeft 4 (some .boolean) 0 0 0 0 D (skT cI cJ cC cZ cS) [.ref mm, .int (nI d), .int (nI o)] [(mm, .inr (12, mo g (nI ta) (nI pa) (nI pe) pd (nI pb) pp pf pg pn rt rn (nI cd) sn (nI il) tk am at_ aa mt_ 0 (-1) wt wy (nI it_) (nI rm) (nI ud) (nI nu) sd (nI qn) (nI qw) qo (nI qb) (nI qp) qa (nI qi) (nI oc)))] (skI D (skT cI cJ cC cZ cS) (fun (r : Int32) (u : va_W) => r = 1 ∧ u = [(mm, .inr (12, mo g (nI ta) (nI pa) (nI pe) pd (nI pb) pp pf pg pn rt rn (nI cd) sn (nI il) tk am at_ aa mt_ 0 (-1) wt wy (nI it_) (nI rm) (nI ud) (nI nu) sd (nI qn) (nI qw) qo (nI qb) (nI qp) qa (nI qi) (nI oc)))])) := by
  refine skM_of pf_X12_isLeft (Nat.le_of_ble_eq_true rfl) ?_
  intro p e s m below meth c A ls E hP hD hl
  refine skE_el E (fun hx hb hr hml hlocks hin hown hts hK hA => ?_)
  have hown : s.vm.findClass RX12 = some m.cls := hown
  have hS : va_S A s.heap s.heap [] := va_S.rf
  have hl : lv_has ls 4 [(0, .ref mm), (1, .int (nI d)), (2, .int (nI o))] := hl
  refine lv_aload_n hx hb dX12_isLeft_0 rfl (lv_at hl 0 rfl) ?_
  refine sk_get (v := .int (-1)) (C := RX12) (T := TX12) (N := 92) hx hb hts inlX12 hown hK hP 0 rfl rfl 41 (by decide) w_5_196 rfl dX12_isLeft_1 ?_
  refine lv_iload_n hx hb dX12_isLeft_4 rfl (lv_at hl 1 rfl) ?_
  refine lv_icmp_ne (tgt := 28) hx hb dX12_isLeft_5 (by decide) (fun c_1 => ?_) (fun c => absurd ((ieq (show (-1 : Int32).toInt = -1 by decide) (ivn d (by omega))).mp c) (by omega))
  refine lv_aload_n hx hb dX12_isLeft_28 rfl (lv_at hl 0 rfl) ?_
  refine sk_get (v := .int 0) (C := RX12) (T := TX12) (N := 92) hx hb hts inlX12 hown hK hP 0 rfl rfl 40 (by decide) w_5_195 rfl dX12_isLeft_29 ?_
  refine lv_if_ne (tgt := 37) hx hb dX12_isLeft_32 (by decide) (fun c => absurd c (by decide)) (fun c_2 => ?_)
  refine lv_iconst (v := 1) hx hb dX12_isLeft_35 (by decide) ?_
  exact sk_iret hx hb hr rfl hlocks hK hP hD hS (⟨rfl, rfl⟩) (Nat.le_of_ble_eq_true rfl) (Nat.le_of_ble_eq_true rfl) dX12_isLeft_36
def om_4_8 : List Bool := true :: false :: false :: false :: []
set_option maxHeartbeats 4000000 in
set_option maxRecDepth 100000 in
theorem c_m_canFollow0 (l : Launch) (D : va_G) (cI cJ cC cZ cS : ClassId) (mm : Nat) (g : Nat → Nat) (ta : Nat) (pa : Nat) (pe : Nat) (pd : Int32) (pb : Nat) (pp : Int32) (pf : Int32) (pg : Int32) (pn : Int32) (rt : Int32) (rn : Int32) (cd : Nat) (sn : Int32) (il : Nat) (tk : Int32) (am : Int32) (at_ : Int32) (aa : Int32) (mt_ : Int32) (wt : Int32) (wy : Int64) (it_ : Nat) (rm : Nat) (ud : Nat) (nu : Nat) (sd : Int64) (qn : Nat) (qw : Nat) (qo : Int32) (qb : Nat) (qp : Nat) (qa : Int64) (qi : Nat) (oc : Nat) (d : Nat) (aa_ : Nat) (o : Nat) (nw : Nat → Int32) (yo : Nat → Int32) (yw : Nat → Int32) (hd : d < 9) (ho : o < 10) (ha_ : aa_ < 10) (hnw : nowOk nw) : skM l yX12_canFollow cX12_canFollow 5 (some .boolean) 2 42 0 0 D (skT cI cJ cC cZ cS) [.ref mm, .int (nI d), .int (nI aa_), .int (nI o)] [(mm, .inr (12, mo g (nI ta) (nI pa) (nI pe) pd (nI pb) pp pf pg pn rt rn (nI cd) sn (nI il) tk am at_ aa mt_ 0 (-1) wt wy (nI it_) (nI rm) (nI ud) (nI nu) sd (nI qn) (nI qw) qo (nI qb) (nI qp) qa (nI qi) (nI oc))), (g 31, .inl (cI, 120, .inl nw)), (g 37, .inl (cZ, 900, .inl yo)), (g 36, .inl (cZ, 900, .inl yw))] (skI D (skT cI cJ cC cZ cS) (fun (r : Int32) (u : va_W) => ∃ (b : Nat), ((b = 0 ∧ cfN nw yw yo mt_ d aa_ o = false) ∨ (b = 1 ∧ cfN nw yw yo mt_ d aa_ o = true)) ∧ b ≤ 1 ∧ r = nI b ∧ u = [(mm, .inr (12, mo g (nI ta) (nI pa) (nI pe) pd (nI pb) pp pf pg pn rt rn (nI cd) sn (nI il) tk am at_ aa mt_ 0 (-1) wt wy (nI it_) (nI rm) (nI ud) (nI nu) sd (nI qn) (nI qw) qo (nI qb) (nI qp) qa (nI qi) (nI oc))), (g 31, .inl (cI, 120, .inl nw)), (g 37, .inl (cZ, 900, .inl yo)), (g 36, .inl (cZ, 900, .inl yw))])) := by
  refine skM_of pf_X12_canFollow (Nat.le_of_ble_eq_true rfl) ?_
  intro p e s m below meth c A ls E hP hD hl
  refine skE_el E (fun hx hb hr hml hlocks hin hown hts hK hA => ?_)
  have hown : s.vm.findClass RX12 = some m.cls := hown
  have hS : va_S A s.heap s.heap [] := va_S.rf
  have hl : lv_has ls 5 [(0, .ref mm), (1, .int (nI d)), (2, .int (nI aa_)), (3, .int (nI o))] := hl
  refine lv_bipush (v := 100) hx hb dX12_canFollow_0 (by decide) ?_
  refine lv_iload_n hx hb dX12_canFollow_2 rfl (lv_at hl 1 rfl) ?_
  refine lv_imul hx hb dX12_canFollow_3 ?_
  refine sk_top (nI (100 * d)) (nmul 100 d) ?_
  refine lv_bipush (v := 10) hx hb dX12_canFollow_4 (by decide) ?_
  refine lv_iload_n hx hb dX12_canFollow_6 rfl (lv_at hl 2 rfl) ?_
  refine lv_imul hx hb dX12_canFollow_7 ?_
  refine sk_top (nI (10 * aa_)) (nmul 10 aa_) ?_
  refine lv_iadd hx hb dX12_canFollow_8 ?_
  refine sk_top (nI (100 * d + (10 * aa_))) (nI_add (100 * d) (10 * aa_)) ?_
  refine lv_iload_n hx hb dX12_canFollow_9 rfl (lv_at hl 3 rfl) ?_
  refine lv_iadd hx hb dX12_canFollow_10 ?_
  refine sk_top (nI (100 * d + (10 * aa_) + o)) (nI_add (100 * d + (10 * aa_)) o) ?_
  refine lv_istore (lv' := [(4, .int (nI (100 * d + (10 * aa_) + o))), (0, .ref mm), (1, .int (nI d)), (2, .int (nI aa_)), (3, .int (nI o))]) hx hb dX12_canFollow_11 hl (by decide) rfl (fun ls hl => ?_)
  refine lv_aload_n hx hb dX12_canFollow_13 rfl (lv_at hl 1 rfl) ?_
  refine lv_iload_n hx hb dX12_canFollow_14 rfl (lv_at hl 2 rfl) ?_
  refine sk_Vi (q0 := 0) (n := 1) (rest := []) (wr := fmR om_4_c _) ⟨hx, hb, hml, hown, hts⟩ hl.1 (c_m_isMuteNow l D cI cJ cC cZ cS mm g ta pa pe pd pb pp pf pg pn rt rn cd sn il tk am at_ aa mt_ 0 (-1) wt wy it_ rm ud nu sd qn qw qo qb qp qa qi oc d nw (by omega) hnw) w_7_205 w_7_207 w_0_86 w_1_14 w_7_208 hd_X12_isMuteNow_1 ⟨⟨(Nat.le_of_ble_eq_true rfl), (Nat.le_of_ble_eq_true rfl)⟩, (Nat.le_of_ble_eq_true rfl), (Nat.le_of_ble_eq_true rfl)⟩ hK hP hD hS hA (fmT om_4_c 0) (fmF om_4_c 0) (fm_C1 rfl rfl) (fm_R rfl rfl) (fm_nT om_4_c 0) (fm_nF om_4_c 0) (fm_di om_4_c 0) rfl rfl rfl rfl (Nat.le_of_ble_eq_true rfl) dX12_canFollow_15 (fun r_2 u H locs hw hP hD hS => ?_)
  refine exE hw (fun b_1 hw1 => anE hw1 (fun hb1_3 hw2 => anE hw2 (fun hb2_4 hw3 => anE hw3 (fun er_6 eu_5 => ?_))))
  clear hw hw1 hw2 hw3
  subst er_6
  refine o_mgE (ws' := [(mm, .inr (12, mo g (nI ta) (nI pa) (nI pe) pd (nI pb) pp pf pg pn rt rn (nI cd) sn (nI il) tk am at_ aa mt_ 0 (-1) wt wy (nI it_) (nI rm) (nI ud) (nI nu) sd (nI qn) (nI qw) qo (nI qb) (nI qp) qa (nI qi) (nI oc))), (g 31, .inl (cI, 120, .inl nw)), (g 37, .inl (cZ, 900, .inl yo)), (g 36, .inl (cZ, 900, .inl yw))]) eu_5 hP hD rfl (fun hP hD => ?_)
  refine lv_if_eq (tgt := 34) hx hb dX12_canFollow_18 (by decide) (fun c_7 => ?_) (fun c_7 => ?_)
  · have c_7 : b_1 = 0 := (neq b_1 0 (by omega) (by omega)).mp c_7
    refine lv_aload_n hx hb dX12_canFollow_34 rfl (lv_at hl 1 rfl) ?_
    refine sk_get (v := .ref (g 36)) (C := RX12) (T := TX12) (N := 92) hx hb hts inlX12 hown hK hP 0 rfl rfl 36 (by decide) w_5_191 rfl dX12_canFollow_35 ?_
    refine lv_iload hx hb dX12_canFollow_38 (lv_at hl 0 rfl) ?_
    refine va_zald hx hb hK.1 hP 3 3 rfl rfl (vin (100 * d + (10 * aa_) + o) 900 (by omega) (by omega)) dX12_canFollow_40 ?_
    refine lv_topi (fun v_8 ev_8 => ?_)
    refine lv_if_eq (tgt := 57) hx hb dX12_canFollow_41 (by decide) (fun c_9 => ?_) (fun c_9 => ?_)
    · skip
      refine lv_iconst (v := 0) hx hb dX12_canFollow_57 (by decide) ?_
      exact sk_iret hx hb hr rfl hlocks hK hP hD hS (⟨0, Or.inl ⟨rfl, cf_wf (or_0 hb1_3 (by omega)) ev_8 c_9⟩, by omega, rfl, rfl⟩) (Nat.le_of_ble_eq_true rfl) (Nat.le_of_ble_eq_true rfl) dX12_canFollow_58
    · skip
      refine lv_aload_n hx hb dX12_canFollow_44 rfl (lv_at hl 1 rfl) ?_
      refine lv_iload_n hx hb dX12_canFollow_45 rfl (lv_at hl 2 rfl) ?_
      refine lv_iload_n hx hb dX12_canFollow_46 rfl (lv_at hl 4 rfl) ?_
      refine sk_Vi (q0 := 0) (n := 2) (rest := []) (wr := fmR om_4_8 _) ⟨hx, hb, hml, hown, hts⟩ hl.1 (c_m_isLeft0 l D cI cJ cC cZ cS mm g ta pa pe pd pb pp pf pg pn rt rn cd sn il tk am at_ aa mt_ wt wy it_ rm ud nu sd qn qw qo qb qp qa qi oc d o (by omega) (by omega)) w_7_209 w_7_211 w_0_87 w_1_14 w_7_212 hd_X12_isLeft_2 ⟨⟨(Nat.le_of_ble_eq_true rfl), (Nat.le_of_ble_eq_true rfl)⟩, (Nat.le_of_ble_eq_true rfl), (Nat.le_of_ble_eq_true rfl)⟩ hK hP hD hS hA (fmT om_4_8 0) (fmF om_4_8 0) (fm_C1 rfl rfl) (fm_R rfl rfl) (fm_nT om_4_8 0) (fm_nF om_4_8 0) (fm_di om_4_8 0) rfl rfl rfl rfl (Nat.le_of_ble_eq_true rfl) dX12_canFollow_47 (fun r_10 u H locs hw hP hD hS => ?_)
      refine anE hw (fun er_12 eu_11 => ?_)
      clear hw
      subst er_12
      refine o_mgE (ws' := [(mm, .inr (12, mo g (nI ta) (nI pa) (nI pe) pd (nI pb) pp pf pg pn rt rn (nI cd) sn (nI il) tk am at_ aa mt_ 0 (-1) wt wy (nI it_) (nI rm) (nI ud) (nI nu) sd (nI qn) (nI qw) qo (nI qb) (nI qp) qa (nI qi) (nI oc))), (g 31, .inl (cI, 120, .inl nw)), (g 37, .inl (cZ, 900, .inl yo)), (g 36, .inl (cZ, 900, .inl yw))]) eu_11 hP hD rfl (fun hP hD => ?_)
      refine lv_if_eq (tgt := 57) hx hb dX12_canFollow_50 (by decide) (fun c => absurd c (by decide)) (fun c_13 => ?_)
      refine lv_iconst (v := 1) hx hb dX12_canFollow_53 (by decide) ?_
      refine lv_goto (tgt := 58) hx hb dX12_canFollow_54 (by decide) ?_
      exact sk_iret hx hb hr rfl hlocks hK hP hD hS (⟨1, Or.inr ⟨rfl, cf_wt (or_0 hb1_3 (by omega)) ev_8 c_9⟩, by omega, rfl, rfl⟩) (Nat.le_of_ble_eq_true rfl) (Nat.le_of_ble_eq_true rfl) dX12_canFollow_58
  · have c_7 : ¬ (b_1 = 0) := fun h => c_7 ((neq b_1 0 (by omega) (by omega)).mpr h)
    refine lv_aload_n hx hb dX12_canFollow_21 rfl (lv_at hl 1 rfl) ?_
    refine sk_get (v := .ref (g 37)) (C := RX12) (T := TX12) (N := 92) hx hb hts inlX12 hown hK hP 0 rfl rfl 37 (by decide) w_5_192 rfl dX12_canFollow_22 ?_
    refine lv_iload hx hb dX12_canFollow_25 (lv_at hl 0 rfl) ?_
    refine va_zald hx hb hK.1 hP 2 3 rfl rfl (vin (100 * d + (10 * aa_) + o) 900 (by omega) (by omega)) dX12_canFollow_27 ?_
    refine lv_topi (fun v_14 ev_14 => ?_)
    refine lv_if_eq (tgt := 57) hx hb dX12_canFollow_28 (by decide) (fun c_15 => ?_) (fun c_15 => ?_)
    · skip
      refine lv_iconst (v := 0) hx hb dX12_canFollow_57 (by decide) ?_
      exact sk_iret hx hb hr rfl hlocks hK hP hD hS (⟨0, Or.inl ⟨rfl, cf_mf (or_1 hb1_3 (by omega)) ev_14 c_15⟩, by omega, rfl, rfl⟩) (Nat.le_of_ble_eq_true rfl) (Nat.le_of_ble_eq_true rfl) dX12_canFollow_58
    · skip
      refine lv_goto (tgt := 44) hx hb dX12_canFollow_31 (by decide) ?_
      refine lv_aload_n hx hb dX12_canFollow_44 rfl (lv_at hl 1 rfl) ?_
      refine lv_iload_n hx hb dX12_canFollow_45 rfl (lv_at hl 2 rfl) ?_
      refine lv_iload_n hx hb dX12_canFollow_46 rfl (lv_at hl 4 rfl) ?_
      refine sk_Vi (q0 := 0) (n := 2) (rest := []) (wr := fmR om_4_8 _) ⟨hx, hb, hml, hown, hts⟩ hl.1 (c_m_isLeft0 l D cI cJ cC cZ cS mm g ta pa pe pd pb pp pf pg pn rt rn cd sn il tk am at_ aa mt_ wt wy it_ rm ud nu sd qn qw qo qb qp qa qi oc d o (by omega) (by omega)) w_7_209 w_7_211 w_0_87 w_1_14 w_7_212 hd_X12_isLeft_2 ⟨⟨(Nat.le_of_ble_eq_true rfl), (Nat.le_of_ble_eq_true rfl)⟩, (Nat.le_of_ble_eq_true rfl), (Nat.le_of_ble_eq_true rfl)⟩ hK hP hD hS hA (fmT om_4_8 0) (fmF om_4_8 0) (fm_C1 rfl rfl) (fm_R rfl rfl) (fm_nT om_4_8 0) (fm_nF om_4_8 0) (fm_di om_4_8 0) rfl rfl rfl rfl (Nat.le_of_ble_eq_true rfl) dX12_canFollow_47 (fun r_16 u H locs hw hP hD hS => ?_)
      refine anE hw (fun er_18 eu_17 => ?_)
      clear hw
      subst er_18
      refine o_mgE (ws' := [(mm, .inr (12, mo g (nI ta) (nI pa) (nI pe) pd (nI pb) pp pf pg pn rt rn (nI cd) sn (nI il) tk am at_ aa mt_ 0 (-1) wt wy (nI it_) (nI rm) (nI ud) (nI nu) sd (nI qn) (nI qw) qo (nI qb) (nI qp) qa (nI qi) (nI oc))), (g 31, .inl (cI, 120, .inl nw)), (g 37, .inl (cZ, 900, .inl yo)), (g 36, .inl (cZ, 900, .inl yw))]) eu_17 hP hD rfl (fun hP hD => ?_)
      refine lv_if_eq (tgt := 57) hx hb dX12_canFollow_50 (by decide) (fun c => absurd c (by decide)) (fun c_19 => ?_)
      refine lv_iconst (v := 1) hx hb dX12_canFollow_53 (by decide) ?_
      refine lv_goto (tgt := 58) hx hb dX12_canFollow_54 (by decide) ?_
      exact sk_iret hx hb hr rfl hlocks hK hP hD hS (⟨1, Or.inr ⟨rfl, cf_mt (or_1 hb1_3 (by omega)) ev_14 c_15⟩, by omega, rfl, rfl⟩) (Nat.le_of_ble_eq_true rfl) (Nat.le_of_ble_eq_true rfl) dX12_canFollow_58

