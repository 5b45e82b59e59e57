def mdOk (x : Int32) : Prop := (∃ k : Nat, k ≤ 9 ∧ x = nI k) ∨ x = -1
def mdAt (x : Int32) (d : Nat) : Prop := (∃ k : Nat, k ≤ 9 ∧ x = nI k) ∨ (1 ≤ d ∧ x = -1)
theorem mdOk_k {x : Int32} (h : mdOk x) (hc : ¬ x = -1) : ∃ k : Nat, k ≤ 9 ∧ x = nI k := Or.resolve_right h hc
theorem mdOk_n {k : Nat} (h : k ≤ 9) : mdOk (nI k) := Or.inl ⟨k, h, rfl⟩
theorem mdAt_n {k d : Nat} (h : k ≤ 9) : mdAt (nI k) d := Or.inl ⟨k, h, rfl⟩
theorem mdOk_at {x : Int32} {d : Nat} (h : mdOk x) (hd : 1 ≤ d) : mdAt x d := Or.elim h Or.inl (fun q => Or.inr ⟨hd, q⟩)
theorem idxI {d : Nat} {a : Int32} (hd : d < 9) (h : mdAt a d) : ∃ k : Nat, k ≤ 890 ∧ nI (100 * d) + 10 * a = nI k := by
  rcases h with ⟨k, hk, rfl⟩ | ⟨h1, rfl⟩
  · exact ⟨100 * d + 10 * k, by omega, by rw [show (10 : Int32) = nI 10 from rfl, nmul, nI_add]⟩
  · have h2 := nP10 d 0 (by omega)
    rw [show nI 0 - 1 = -1 by decide] at h2
    exact ⟨_, by omega, h2⟩
theorem add_k {a k : Nat} {x : Int32} (h : x = nI k) : nI a + x = nI (a + k) := by rw [h, nI_add]
set_option maxHeartbeats 4000000 in
set_option maxRecDepth 100000 in
theorem c_m_canFollowI (l : Launch) (D : va_G) (cI cJ cC cZ cS : ClassId) (mm : Nat) (g : Nat → Nat) (ta : Nat) (pa : Nat) (pe : Nat) (pd : Int32) (pb : Nat) (pp : Int32) (pf : Int32) (pg : Int32) (pn : Int32) (rt : Int32) (rn : Int32) (cd : Nat) (sn : Int32) (il : Nat) (tk : Int32) (am : Int32) (at_ : Int32) (aa : Int32) (wt : Int32) (wy : Int64) (rm : Nat) (ud : Nat) (nu : Nat) (sd : Int64) (qn : Nat) (qw : Nat) (qo : Int32) (qb : Nat) (qp : Nat) (qa : Int64) (qi : Nat) (oc : Nat) (d : Nat) (aa_ : Int32) (o : Nat) (nw : Nat → Int32) (yo : Nat → Int32) (yw : Nat → Int32) (hd : d < 9) (ho : o < 10) (hav : mdAt aa_ d) (hnw : nowOk nw) : skM l yX12_canFollow cX12_canFollow 5 (some .boolean) 2 42 0 0 D (skT cI cJ cC cZ cS) [.ref mm, .int (nI d), .int aa_, .int (nI o)] [(mm, .inr (12, mo g (nI ta) (nI pa) (nI pe) pd (nI pb) pp pf pg pn rt rn (nI cd) sn (nI il) tk am at_ aa 0 0 (-1) wt wy 0 (nI rm) (nI ud) (nI nu) sd (nI qn) (nI qw) qo (nI qb) (nI qp) qa (nI qi) (nI oc))), (g 31, .inl (cI, 120, .inl nw)), (g 37, .inl (cZ, 900, .inl yo)), (g 36, .inl (cZ, 900, .inl yw))] (skI D (skT cI cJ cC cZ cS) (fun (r : Int32) (u : va_W) => ∃ (b : Nat), b ≤ 1 ∧ r = nI b ∧ u = [(mm, .inr (12, mo g (nI ta) (nI pa) (nI pe) pd (nI pb) pp pf pg pn rt rn (nI cd) sn (nI il) tk am at_ aa 0 0 (-1) wt wy 0 (nI rm) (nI ud) (nI nu) sd (nI qn) (nI qw) qo (nI qb) (nI qp) qa (nI qi) (nI oc))), (g 31, .inl (cI, 120, .inl nw)), (g 37, .inl (cZ, 900, .inl yo)), (g 36, .inl (cZ, 900, .inl yw))])) := by
  refine skM_of pf_X12_canFollow (Nat.le_of_ble_eq_true rfl) ?_
  intro p e s m below meth c A ls E hP hD hl
  refine skE_el E (fun hx hb hr hml hlocks hin hown hts hK hA => ?_)
  have hown : s.vm.findClass RX12 = some m.cls := hown
  have hS : va_S A s.heap s.heap [] := va_S.rf
  have hl : lv_has ls 5 [(0, .ref mm), (1, .int (nI d)), (2, .int aa_), (3, .int (nI o))] := hl
  refine lv_bipush (v := 100) hx hb dX12_canFollow_0 (by decide) ?_
  refine lv_iload_n hx hb dX12_canFollow_2 rfl (lv_at hl 1 rfl) ?_
  refine lv_imul hx hb dX12_canFollow_3 ?_
  refine sk_top (nI (100 * d)) (nmul 100 d) ?_
  refine lv_bipush (v := 10) hx hb dX12_canFollow_4 (by decide) ?_
  refine lv_iload_n hx hb dX12_canFollow_6 rfl (lv_at hl 2 rfl) ?_
  refine lv_imul hx hb dX12_canFollow_7 ?_
  refine lv_iadd hx hb dX12_canFollow_8 ?_
  obtain ⟨kx, hkx, ekx⟩ := idxI hd hav
  refine sk_top (nI kx) ekx ?_
  refine lv_iload_n hx hb dX12_canFollow_9 rfl (lv_at hl 3 rfl) ?_
  refine lv_iadd hx hb dX12_canFollow_10 ?_
  refine sk_top (nI (kx + o)) (nI_add kx o) ?_
  refine lv_istore (lv' := [(4, .int (nI (kx + o))), (0, .ref mm), (1, .int (nI d)), (2, .int aa_), (3, .int (nI o))]) hx hb dX12_canFollow_11 hl (by decide) rfl (fun ls hl => ?_)
  refine lv_aload_n hx hb dX12_canFollow_13 rfl (lv_at hl 1 rfl) ?_
  refine lv_iload_n hx hb dX12_canFollow_14 rfl (lv_at hl 2 rfl) ?_
  refine sk_Vi (q0 := 0) (n := 1) (rest := []) (wr := fmR om_4_c _) ⟨hx, hb, hml, hown, hts⟩ hl.1 (c_m_isMuteNow l D cI cJ cC cZ cS mm g ta pa pe pd pb pp pf pg pn rt rn cd sn il tk am at_ aa 0 0 (-1) wt wy 0 rm ud nu sd qn qw qo qb qp qa qi oc d nw (by omega) hnw) w_7_205 w_7_207 w_0_86 w_1_14 w_7_208 hd_X12_isMuteNow_1 ⟨⟨(Nat.le_of_ble_eq_true rfl), (Nat.le_of_ble_eq_true rfl)⟩, (Nat.le_of_ble_eq_true rfl), (Nat.le_of_ble_eq_true rfl)⟩ hK hP hD hS hA (fmT om_4_c 0) (fmF om_4_c 0) (fm_C1 rfl rfl) (fm_R rfl rfl) (fm_nT om_4_c 0) (fm_nF om_4_c 0) (fm_di om_4_c 0) rfl rfl rfl rfl (Nat.le_of_ble_eq_true rfl) dX12_canFollow_15 (fun r_2 u H locs hw hP hD hS => ?_)
  refine exE hw (fun b_1 hw1 => anE hw1 (fun hb1_3 hw2 => anE hw2 (fun hb2_4 hw3 => anE hw3 (fun er_6 eu_5 => ?_))))
  clear hw hw1 hw2 hw3
  subst er_6
  refine o_mgE (ws' := [(mm, .inr (12, mo g (nI ta) (nI pa) (nI pe) pd (nI pb) pp pf pg pn rt rn (nI cd) sn (nI il) tk am at_ aa 0 0 (-1) wt wy 0 (nI rm) (nI ud) (nI nu) sd (nI qn) (nI qw) qo (nI qb) (nI qp) qa (nI qi) (nI oc))), (g 31, .inl (cI, 120, .inl nw)), (g 37, .inl (cZ, 900, .inl yo)), (g 36, .inl (cZ, 900, .inl yw))]) eu_5 hP hD rfl (fun hP hD => ?_)
  refine lv_if_eq (tgt := 34) hx hb dX12_canFollow_18 (by decide) (fun c_7 => ?_) (fun c_7 => ?_)
  · have c_7 : b_1 = 0 := (neq b_1 0 (by omega) (by omega)).mp c_7
    refine lv_aload_n hx hb dX12_canFollow_34 rfl (lv_at hl 1 rfl) ?_
    refine sk_get (v := .ref (g 36)) (C := RX12) (T := TX12) (N := 92) hx hb hts inlX12 hown hK hP 0 rfl rfl 36 (by decide) w_5_191 rfl dX12_canFollow_35 ?_
    refine lv_iload hx hb dX12_canFollow_38 (lv_at hl 0 rfl) ?_
    refine va_zald hx hb hK.1 hP 3 3 rfl rfl (vin (kx + o) 900 (by omega) (by omega)) dX12_canFollow_40 ?_
    refine lv_topi (fun v_8 ev_8 => ?_)
    refine lv_if_eq (tgt := 57) hx hb dX12_canFollow_41 (by decide) (fun c_9 => ?_) (fun c_9 => ?_)
    · skip
      refine lv_iconst (v := 0) hx hb dX12_canFollow_57 (by decide) ?_
      exact sk_iret hx hb hr rfl hlocks hK hP hD hS (⟨0, by omega, rfl, rfl⟩) (Nat.le_of_ble_eq_true rfl) (Nat.le_of_ble_eq_true rfl) dX12_canFollow_58
    · skip
      refine lv_aload_n hx hb dX12_canFollow_44 rfl (lv_at hl 1 rfl) ?_
      refine lv_iload_n hx hb dX12_canFollow_45 rfl (lv_at hl 2 rfl) ?_
      refine lv_iload_n hx hb dX12_canFollow_46 rfl (lv_at hl 4 rfl) ?_
      refine sk_Vi (q0 := 0) (n := 2) (rest := []) (wr := fmR om_4_8 _) ⟨hx, hb, hml, hown, hts⟩ hl.1 (c_m_isLeft0 l D cI cJ cC cZ cS mm g ta pa pe pd pb pp pf pg pn rt rn cd sn il tk am at_ aa 0 wt wy 0 rm ud nu sd qn qw qo qb qp qa qi oc d o (by omega) (by omega)) w_7_209 w_7_211 w_0_87 w_1_14 w_7_212 hd_X12_isLeft_2 ⟨⟨(Nat.le_of_ble_eq_true rfl), (Nat.le_of_ble_eq_true rfl)⟩, (Nat.le_of_ble_eq_true rfl), (Nat.le_of_ble_eq_true rfl)⟩ hK hP hD hS hA (fmT om_4_8 0) (fmF om_4_8 0) (fm_C1 rfl rfl) (fm_R rfl rfl) (fm_nT om_4_8 0) (fm_nF om_4_8 0) (fm_di om_4_8 0) rfl rfl rfl rfl (Nat.le_of_ble_eq_true rfl) dX12_canFollow_47 (fun r_10 u H locs hw hP hD hS => ?_)
      refine anE hw (fun er_12 eu_11 => ?_)
      clear hw
      subst er_12
      refine o_mgE (ws' := [(mm, .inr (12, mo g (nI ta) (nI pa) (nI pe) pd (nI pb) pp pf pg pn rt rn (nI cd) sn (nI il) tk am at_ aa 0 0 (-1) wt wy 0 (nI rm) (nI ud) (nI nu) sd (nI qn) (nI qw) qo (nI qb) (nI qp) qa (nI qi) (nI oc))), (g 31, .inl (cI, 120, .inl nw)), (g 37, .inl (cZ, 900, .inl yo)), (g 36, .inl (cZ, 900, .inl yw))]) eu_11 hP hD rfl (fun hP hD => ?_)
      refine lv_if_eq (tgt := 57) hx hb dX12_canFollow_50 (by decide) (fun c => absurd c (by decide)) (fun c_13 => ?_)
      refine lv_iconst (v := 1) hx hb dX12_canFollow_53 (by decide) ?_
      refine lv_goto (tgt := 58) hx hb dX12_canFollow_54 (by decide) ?_
      exact sk_iret hx hb hr rfl hlocks hK hP hD hS (⟨1, by omega, rfl, rfl⟩) (Nat.le_of_ble_eq_true rfl) (Nat.le_of_ble_eq_true rfl) dX12_canFollow_58
  · have c_7 : ¬ (b_1 = 0) := fun h => c_7 ((neq b_1 0 (by omega) (by omega)).mpr h)
    refine lv_aload_n hx hb dX12_canFollow_21 rfl (lv_at hl 1 rfl) ?_
    refine sk_get (v := .ref (g 37)) (C := RX12) (T := TX12) (N := 92) hx hb hts inlX12 hown hK hP 0 rfl rfl 37 (by decide) w_5_192 rfl dX12_canFollow_22 ?_
    refine lv_iload hx hb dX12_canFollow_25 (lv_at hl 0 rfl) ?_
    refine va_zald hx hb hK.1 hP 2 3 rfl rfl (vin (kx + o) 900 (by omega) (by omega)) dX12_canFollow_27 ?_
    refine lv_topi (fun v_14 ev_14 => ?_)
    refine lv_if_eq (tgt := 57) hx hb dX12_canFollow_28 (by decide) (fun c_15 => ?_) (fun c_15 => ?_)
    · skip
      refine lv_iconst (v := 0) hx hb dX12_canFollow_57 (by decide) ?_
      exact sk_iret hx hb hr rfl hlocks hK hP hD hS (⟨0, by omega, rfl, rfl⟩) (Nat.le_of_ble_eq_true rfl) (Nat.le_of_ble_eq_true rfl) dX12_canFollow_58
    · skip
      refine lv_goto (tgt := 44) hx hb dX12_canFollow_31 (by decide) ?_
      refine lv_aload_n hx hb dX12_canFollow_44 rfl (lv_at hl 1 rfl) ?_
      refine lv_iload_n hx hb dX12_canFollow_45 rfl (lv_at hl 2 rfl) ?_
      refine lv_iload_n hx hb dX12_canFollow_46 rfl (lv_at hl 4 rfl) ?_
      refine sk_Vi (q0 := 0) (n := 2) (rest := []) (wr := fmR om_4_8 _) ⟨hx, hb, hml, hown, hts⟩ hl.1 (c_m_isLeft0 l D cI cJ cC cZ cS mm g ta pa pe pd pb pp pf pg pn rt rn cd sn il tk am at_ aa 0 wt wy 0 rm ud nu sd qn qw qo qb qp qa qi oc d o (by omega) (by omega)) w_7_209 w_7_211 w_0_87 w_1_14 w_7_212 hd_X12_isLeft_2 ⟨⟨(Nat.le_of_ble_eq_true rfl), (Nat.le_of_ble_eq_true rfl)⟩, (Nat.le_of_ble_eq_true rfl), (Nat.le_of_ble_eq_true rfl)⟩ hK hP hD hS hA (fmT om_4_8 0) (fmF om_4_8 0) (fm_C1 rfl rfl) (fm_R rfl rfl) (fm_nT om_4_8 0) (fm_nF om_4_8 0) (fm_di om_4_8 0) rfl rfl rfl rfl (Nat.le_of_ble_eq_true rfl) dX12_canFollow_47 (fun r_16 u H locs hw hP hD hS => ?_)
      refine anE hw (fun er_18 eu_17 => ?_)
      clear hw
      subst er_18
      refine o_mgE (ws' := [(mm, .inr (12, mo g (nI ta) (nI pa) (nI pe) pd (nI pb) pp pf pg pn rt rn (nI cd) sn (nI il) tk am at_ aa 0 0 (-1) wt wy 0 (nI rm) (nI ud) (nI nu) sd (nI qn) (nI qw) qo (nI qb) (nI qp) qa (nI qi) (nI oc))), (g 31, .inl (cI, 120, .inl nw)), (g 37, .inl (cZ, 900, .inl yo)), (g 36, .inl (cZ, 900, .inl yw))]) eu_17 hP hD rfl (fun hP hD => ?_)
      refine lv_if_eq (tgt := 57) hx hb dX12_canFollow_50 (by decide) (fun c => absurd c (by decide)) (fun c_19 => ?_)
      refine lv_iconst (v := 1) hx hb dX12_canFollow_53 (by decide) ?_
      refine lv_goto (tgt := 58) hx hb dX12_canFollow_54 (by decide) ?_
      exact sk_iret hx hb hr rfl hlocks hK hP hD hS (⟨1, by omega, rfl, rfl⟩) (Nat.le_of_ble_eq_true rfl) (Nat.le_of_ble_eq_true rfl) dX12_canFollow_58
theorem dg_X12_bestBehind_0_0 : bqL cX12_bestBehind 0 [(0, [2]), (1, [62]), (2, [3]), (3, [54, 4]), (5, [21, 4]), (7, [16, 10]), (9, [162, 0, 77]), (86, [29]), (87, [172]), (12, [42]), (13, [27]), (14, [28]), (15, [21, 4]), (17, [182, 1, 122]), (20, [153, 0, 60]), (80, [132, 4, 1]), (83, [167, 255, 178]), (23, [42]), (24, [180, 0, 92]), (27, [16, 10]), (29, [27]), (30, [104]), (31, [21, 4]), (33, [96]), (34, [47]), (35, [20, 1, 165]), (38, [148]), (39, [154, 0, 6]), (45, [29]), (46, [2]), (47, [159, 0, 30]), (77, [21, 4]), (79, [62]), (50, [42]), (51, [180, 0, 92]), (54, [16, 10]), (56, [27]), (57, [104]), (58, [21, 4]), (60, [96])] = true := by decide +kernel
theorem dX12_bestBehind_0 : decode cX12_bestBehind 0 = .ok (.iconst (-1), 1) := q_iconstm1 (bat_get dg_X12_bestBehind_0_0 0 rfl rfl)
theorem dX12_bestBehind_1 : decode cX12_bestBehind 1 = .ok (.istore_n 3, 1) := q_istore_n3 (bat_get dg_X12_bestBehind_0_0 1 rfl rfl)
theorem dX12_bestBehind_2 : decode cX12_bestBehind 2 = .ok (.iconst 0, 1) := q_iconst0 (bat_get dg_X12_bestBehind_0_0 2 rfl rfl)
theorem dX12_bestBehind_3 : decode cX12_bestBehind 3 = .ok (.istore 4, 2) := q_istore (bat_get dg_X12_bestBehind_0_0 3 rfl rfl)
theorem dX12_bestBehind_5 : decode cX12_bestBehind 5 = .ok (.iload 4, 2) := q_iload (bat_get dg_X12_bestBehind_0_0 4 rfl rfl)
theorem dX12_bestBehind_7 : decode cX12_bestBehind 7 = .ok (.bipush 10, 2) := q_bipush (bat_get dg_X12_bestBehind_0_0 5 rfl rfl) rfl
theorem dX12_bestBehind_9 : decode cX12_bestBehind 9 = .ok (.if_icmp .ge 77, 3) := q_if_icmp_ge (bat_get dg_X12_bestBehind_0_0 6 rfl rfl) rfl
theorem dX12_bestBehind_86 : decode cX12_bestBehind 86 = .ok (.iload_n 3, 1) := q_iload_n3 (bat_get dg_X12_bestBehind_0_0 7 rfl rfl)
theorem dX12_bestBehind_87 : decode cX12_bestBehind 87 = .ok (.ireturn, 1) := q_ireturn (bat_get dg_X12_bestBehind_0_0 8 rfl rfl)
theorem dX12_bestBehind_12 : decode cX12_bestBehind 12 = .ok (.aload_n 0, 1) := q_aload_n0 (bat_get dg_X12_bestBehind_0_0 9 rfl rfl)
theorem dX12_bestBehind_13 : decode cX12_bestBehind 13 = .ok (.iload_n 1, 1) := q_iload_n1 (bat_get dg_X12_bestBehind_0_0 10 rfl rfl)
theorem dX12_bestBehind_14 : decode cX12_bestBehind 14 = .ok (.iload_n 2, 1) := q_iload_n2 (bat_get dg_X12_bestBehind_0_0 11 rfl rfl)
theorem dX12_bestBehind_15 : decode cX12_bestBehind 15 = .ok (.iload 4, 2) := q_iload (bat_get dg_X12_bestBehind_0_0 12 rfl rfl)
theorem dX12_bestBehind_17 : decode cX12_bestBehind 17 = .ok (.invokevirtual 378, 3) := q_invokevirtual (bat_get dg_X12_bestBehind_0_0 13 rfl rfl) rfl
theorem dX12_bestBehind_20 : decode cX12_bestBehind 20 = .ok (.ifCond .eq 60, 3) := q_ifCond_eq (bat_get dg_X12_bestBehind_0_0 14 rfl rfl) rfl
theorem dX12_bestBehind_80 : decode cX12_bestBehind 80 = .ok (.iinc 4 1, 3) := q_iinc (bat_get dg_X12_bestBehind_0_0 15 rfl rfl) rfl
theorem dX12_bestBehind_83 : decode cX12_bestBehind 83 = .ok (.goto (-78), 3) := q_goto (bat_get dg_X12_bestBehind_0_0 16 rfl rfl) rfl
theorem dX12_bestBehind_23 : decode cX12_bestBehind 23 = .ok (.aload_n 0, 1) := q_aload_n0 (bat_get dg_X12_bestBehind_0_0 17 rfl rfl)
theorem dX12_bestBehind_24 : decode cX12_bestBehind 24 = .ok (.getfield 92, 3) := q_getfield (bat_get dg_X12_bestBehind_0_0 18 rfl rfl) rfl
theorem dX12_bestBehind_27 : decode cX12_bestBehind 27 = .ok (.bipush 10, 2) := q_bipush (bat_get dg_X12_bestBehind_0_0 19 rfl rfl) rfl
theorem dX12_bestBehind_29 : decode cX12_bestBehind 29 = .ok (.iload_n 1, 1) := q_iload_n1 (bat_get dg_X12_bestBehind_0_0 20 rfl rfl)
theorem dX12_bestBehind_30 : decode cX12_bestBehind 30 = .ok (.imul, 1) := q_imul (bat_get dg_X12_bestBehind_0_0 21 rfl rfl)
theorem dX12_bestBehind_31 : decode cX12_bestBehind 31 = .ok (.iload 4, 2) := q_iload (bat_get dg_X12_bestBehind_0_0 22 rfl rfl)
theorem dX12_bestBehind_33 : decode cX12_bestBehind 33 = .ok (.iadd, 1) := q_iadd (bat_get dg_X12_bestBehind_0_0 23 rfl rfl)
theorem dX12_bestBehind_34 : decode cX12_bestBehind 34 = .ok (.laload, 1) := q_laload (bat_get dg_X12_bestBehind_0_0 24 rfl rfl)
theorem dX12_bestBehind_35 : decode cX12_bestBehind 35 = .ok (.ldc2_w 421, 3) := q_ldc2_w (bat_get dg_X12_bestBehind_0_0 25 rfl rfl) rfl
theorem dX12_bestBehind_38 : decode cX12_bestBehind 38 = .ok (.lcmp, 1) := q_lcmp (bat_get dg_X12_bestBehind_0_0 26 rfl rfl)
theorem dX12_bestBehind_39 : decode cX12_bestBehind 39 = .ok (.ifCond .ne 6, 3) := q_ifCond_ne (bat_get dg_X12_bestBehind_0_0 27 rfl rfl) rfl
theorem dX12_bestBehind_45 : decode cX12_bestBehind 45 = .ok (.iload_n 3, 1) := q_iload_n3 (bat_get dg_X12_bestBehind_0_0 28 rfl rfl)
theorem dX12_bestBehind_46 : decode cX12_bestBehind 46 = .ok (.iconst (-1), 1) := q_iconstm1 (bat_get dg_X12_bestBehind_0_0 29 rfl rfl)
theorem dX12_bestBehind_47 : decode cX12_bestBehind 47 = .ok (.if_icmp .eq 30, 3) := q_if_icmp_eq (bat_get dg_X12_bestBehind_0_0 30 rfl rfl) rfl
theorem dX12_bestBehind_77 : decode cX12_bestBehind 77 = .ok (.iload 4, 2) := q_iload (bat_get dg_X12_bestBehind_0_0 31 rfl rfl)
theorem dX12_bestBehind_79 : decode cX12_bestBehind 79 = .ok (.istore_n 3, 1) := q_istore_n3 (bat_get dg_X12_bestBehind_0_0 32 rfl rfl)
theorem dX12_bestBehind_50 : decode cX12_bestBehind 50 = .ok (.aload_n 0, 1) := q_aload_n0 (bat_get dg_X12_bestBehind_0_0 33 rfl rfl)
theorem dX12_bestBehind_51 : decode cX12_bestBehind 51 = .ok (.getfield 92, 3) := q_getfield (bat_get dg_X12_bestBehind_0_0 34 rfl rfl) rfl
theorem dX12_bestBehind_54 : decode cX12_bestBehind 54 = .ok (.bipush 10, 2) := q_bipush (bat_get dg_X12_bestBehind_0_0 35 rfl rfl) rfl
theorem dX12_bestBehind_56 : decode cX12_bestBehind 56 = .ok (.iload_n 1, 1) := q_iload_n1 (bat_get dg_X12_bestBehind_0_0 36 rfl rfl)
theorem dX12_bestBehind_57 : decode cX12_bestBehind 57 = .ok (.imul, 1) := q_imul (bat_get dg_X12_bestBehind_0_0 37 rfl rfl)
