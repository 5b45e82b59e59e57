set_option maxHeartbeats 4000000 in
set_option maxRecDepth 100000 in
theorem c_em_muteTold (l : Launch) (D : va_G) (cI cJ cC cZ cS : ClassId) (mm : Nat) (g : Nat → Nat) (ta : Nat) (pa : Nat) (pe : Nat) (pd : Int32) (pb : Nat) (pp : Int32) (pf : Int32) (pg : Int32) (pn : Int32) (rt : Int32) (rn : Int32) (cd : Nat) (sn : Int32) (il : Nat) (tk : Int32) (am : Int32) (at_ : Int32) (aa : Int32) (wt : Int32) (wy : Int64) (rm : Nat) (ud : Nat) (nu : Nat) (sd : Int64) (qn : Nat) (qw : Nat) (qo : Int32) (qb : Nat) (qp : Nat) (qa : Int64) (qi : Nat) (oc : Nat) (tb : Nat → Nat) (l0 : Nat) (l1 : Nat) (dm : Nat) (l3 : Nat) (dz : Nat → Int32) (og : Except Err Cur) (hpa : pa ≤ pe) (hpe : pe ≤ 1600) (hpb : pb ≤ 5) (hpb0 : pb = 0) (hl0 : 2 ≤ l0) (hl09 : l0 ≤ 9) (hO : moO tb pe og pa pd pb pp) (htb : ∀ j, tb j ≤ 255) : skM l yX12_muteTold cX12_muteTold 2 none 2 49 0 0 D (skT cI cJ cC cZ cS) [.ref mm] [(mm, .inr (12, mo g (nI ta) (nI pa) (nI pe) pd (nI pb) pp pf pg pn rt rn (nI cd) sn (nI il) tk am at_ aa 0 0 (-1) wt wy 0 (nI rm) (nI ud) (nI nu) sd (nI qn) (nI qw) qo (nI qb) (nI qp) qa (nI qi) (nI oc))), (g 0, .inl (cI, 1600, .inl (fun j => nI (tb j)))), (g 20, .inl (cI, 4, .inl (l4 (nI l0) (nI l1) (nI dm) (nI l3)))), (g 21, .inl (cI, 27, .inl dz))] (skV D (skT cI cJ cC cZ cS) (fun (u : va_W) => ∃ (dv : Nat), ∃ (mw : Nat), ∃ (pa2 : Nat), ∃ (pd2 : Int32), ∃ (pb2 : Nat), ∃ (pp2 : Int32), ∃ (pn2 : Int32), ∃ (dz2 : Nat → Int32), pa ≤ pa2 ∧ pa2 ≤ pe ∧ pb2 ≤ 5 ∧ (¬ pb2 = 0 ∨ pa + 1 ≤ pa2) ∧ moO tb pe (mutM tb pe l0 dz dv mw og) pa2 pd2 pb2 pp2 ∧ nvO tb pe 0 (l0 - 1) og dv ∧ (∀ c, og = .ok c → mw = c.1) ∧ ((¬ pb2 = 0 ∧ dz2 = dz) ∨ (pb2 = 0 ∧ dz2 = upd dz (3 * dv + 2) 1)) ∧ u = [(mm, .inr (12, mo g (nI ta) (nI pa2) (nI pe) pd2 (nI pb2) pp2 pf pg pn2 rt rn (nI cd) sn (nI il) tk am at_ aa 0 0 (-1) wt wy 0 (nI rm) (nI ud) (nI nu) sd (nI qn) (nI qw) qo (nI qb) (nI qp) qa (nI qi) (nI oc))), (g 0, .inl (cI, 1600, .inl (fun j => nI (tb j)))), (g 20, .inl (cI, 4, .inl (l4 (nI l0) (nI l1) (nI dm) (nI l3)))), (g 21, .inl (cI, 27, .inl dz2))])) := by
  refine skM_of pf_X12_muteTold (Nat.le_of_ble_eq_true rfl) ?_
  intro p e s m below meth c A ls E hP hD hl
  refine skE_el E (fun hx hb hr hml hlocks hin hown hts hK hA => ?_)
  have hown : s.vm.findClass RX12 = some m.cls := hown
  have hS : va_S A s.heap s.heap [] := va_S.rf
  have hl : lv_has ls 2 [(0, .ref mm)] := hl
  refine lv_aload_n hx hb dX12_muteTold_0 rfl (lv_at hl 0 rfl) ?_
  refine lv_iconst (v := 0) hx hb dX12_muteTold_1 (by decide) ?_
  refine lv_aload_n hx hb dX12_muteTold_2 rfl (lv_at hl 0 rfl) ?_
  refine sk_get (v := .ref (g 20)) (C := RX12) (T := TX12) (N := 92) hx hb hts inlX12 hown hK hP 0 rfl rfl 20 (by decide) w_5_175 rfl dX12_muteTold_3 ?_
  refine lv_iconst (v := 0) hx hb dX12_muteTold_6 (by decide) ?_
  refine va_iald hx hb hK.1 hP 2 0 rfl rfl (by unfold vp_in; decide) dX12_muteTold_7 ?_
  refine sk_top (nI l0) rfl ?_
  refine lv_iconst (v := 1) hx hb dX12_muteTold_8 (by decide) ?_
  refine lv_isub hx hb dX12_muteTold_9 ?_
  refine sk_top (nI (l0 - 1)) (nsub l0 1 (by omega)) ?_
  refine sk_Vi (q0 := 0) (n := 2) (rest := []) (wr := fmR om_4_c _) ⟨hx, hb, hml, hown, hts⟩ hl.1 (c_em_number l D cI cJ cC cZ cS mm g ta pa pe pd pb pp pf pg pn rt rn cd sn il tk am at_ aa wt wy rm ud nu sd qn qw qo qb qp qa qi oc 0 (l0 - 1) tb og (by omega) (by omega) (by omega) (by omega) (by omega) hO htb) w_6_233 w_6_235 w_0_47 w_1_14 w_6_236 hd_X12_number_2 ⟨⟨(Nat.le_of_ble_eq_true rfl), (Nat.le_of_ble_eq_true rfl)⟩, (Nat.le_of_ble_eq_true rfl), (Nat.le_of_ble_eq_true rfl)⟩ hK hP hD hS hA (fmT om_4_c 0) (fmF om_4_c 0) (fm_C1 rfl rfl) (fm_R rfl rfl) (fm_nT om_4_c 0) (fm_nF om_4_c 0) (fm_di om_4_c 0) rfl rfl rfl rfl (Nat.le_of_ble_eq_true rfl) dX12_muteTold_10 (fun r_7 u H locs hw hP hD hS => ?_)
  refine exE hw (fun nv_1 hw1 => exE hw1 (fun pa2_2 hw2 => exE hw2 (fun pd2_3 hw3 => exE hw3 (fun pb2_4 hw4 => exE hw4 (fun pp2_5 hw5 => exE hw5 (fun pn2_6 hw6 => anE hw6 (fun hpa2_8 hw7 => anE hw7 (fun hpa3_9 hw8 => anE hw8 (fun hpb2_10 hw9 => anE hw9 (fun hpb3_11 hw10 => anE hw10 (fun hnv_12 hw11 => anE hw11 (fun hO2_13 hw12 => anE hw12 (fun hnv2_14 hw13 => anE hw13 (fun hnp_15 hw14 => anE hw14 (fun er_17 eu_16 => ?_)))))))))))))))
  clear hw hw1 hw2 hw3 hw4 hw5 hw6 hw7 hw8 hw9 hw10 hw11 hw12 hw13 hw14
  subst er_17
  refine o_mgE (ws' := [(mm, .inr (12, mo g (nI ta) (nI pa2_2) (nI pe) pd2_3 (nI pb2_4) pp2_5 pf pg pn2_6 rt rn (nI cd) sn (nI il) tk am at_ aa 0 0 (-1) wt wy 0 (nI rm) (nI ud) (nI nu) sd (nI qn) (nI qw) qo (nI qb) (nI qp) qa (nI qi) (nI oc))), (g 0, .inl (cI, 1600, .inl (fun j => nI (tb j)))), (g 20, .inl (cI, 4, .inl (l4 (nI l0) (nI l1) (nI dm) (nI l3)))), (g 21, .inl (cI, 27, .inl dz))]) eu_16 hP hD rfl (fun hP hD => ?_)
  refine lv_istore_n (lv' := [(1, .int (nI nv_1)), (0, .ref mm)]) hx hb dX12_muteTold_13 rfl hl (by decide) rfl (fun ls hl => ?_)
  refine lv_aload_n hx hb dX12_muteTold_14 rfl (lv_at hl 1 rfl) ?_
  refine sk_get (v := .int (nI pb2_4)) (C := RX12) (T := TX12) (N := 92) hx hb hts inlX12 hown hK hP 0 rfl rfl 5 (by decide) w_5_160 rfl dX12_muteTold_15 ?_
  refine lv_if_ne (tgt := 44) hx hb dX12_muteTold_18 (by decide) (fun c_18 => ?_) (fun c_18 => ?_)
  · have c_18 : ¬ (pb2_4 = 0) := fun h => c_18 ((neq pb2_4 0 (by omega) (by omega)).mpr h)
    refine lv_aload_n hx hb dX12_muteTold_44 rfl (lv_at hl 1 rfl) ?_
    refine sk_get (v := .int (nI pb2_4)) (C := RX12) (T := TX12) (N := 92) hx hb hts inlX12 hown hK hP 0 rfl rfl 5 (by decide) w_5_160 rfl dX12_muteTold_45 ?_
    refine lv_if_ne (tgt := 62) hx hb dX12_muteTold_48 (by decide) (fun c_19 => ?_) (fun c => absurd ((neq pb2_4 0 (by omega) (by omega)).mp c) (by omega))
    exact sk_vret hx hb hr hlocks hK hP hD hS (⟨nv_1, (sk tb pe pa), pa2_2, pd2_3, pb2_4, pp2_5, pn2_6, dz, by omega, by omega, by omega, by omega, mo_er hO2_13 (by omega), hnv2_14, (fun c hc => by rw [(mo_cu hO hc).2]; rfl), (Or.inl ⟨by omega, rfl⟩), rfl⟩) (Nat.le_of_ble_eq_true rfl) (Nat.le_of_ble_eq_true rfl) dX12_muteTold_62
  · have c_18 : pb2_4 = 0 := (neq pb2_4 0 (by omega) (by omega)).mp c_18
    refine lv_aload_n hx hb dX12_muteTold_21 rfl (lv_at hl 1 rfl) ?_
    refine sk_get (v := .ref (g 21)) (C := RX12) (T := TX12) (N := 92) hx hb hts inlX12 hown hK hP 0 rfl rfl 21 (by decide) w_5_176 rfl dX12_muteTold_22 ?_
    refine lv_iconst (v := 3) hx hb dX12_muteTold_25 (by decide) ?_
    refine lv_iload_n hx hb dX12_muteTold_26 rfl (lv_at hl 0 rfl) ?_
    refine lv_imul hx hb dX12_muteTold_27 ?_
    refine sk_top (nI (3 * nv_1)) (nmul 3 nv_1) ?_
    refine lv_iconst (v := 2) hx hb dX12_muteTold_28 (by decide) ?_
    refine lv_iadd hx hb dX12_muteTold_29 ?_
    refine sk_top (nI (3 * nv_1 + 2)) (nI_add (3 * nv_1) 2) ?_
    refine va_iald hx hb hK.1 hP 3 0 rfl rfl (vin (3 * nv_1 + 2) 27 (by omega) (by omega)) dX12_muteTold_30 ?_
    refine lv_topi (fun v_20 ev_20 => ?_)
    refine lv_iconst (v := 1) hx hb dX12_muteTold_31 (by decide) ?_
    refine lv_icmp_ne (tgt := 44) hx hb dX12_muteTold_32 (by decide) (fun c_21 => ?_) (fun c_21 => ?_)
    · have hdt : ¬ dz (3 * nv_1 + 2) = 1 := by rw [← (show _ = dz (3 * nv_1 + 2) from ev_20.trans (by rw [nI_clamp (by omega)]))]; exact c_21
      refine lv_aload_n hx hb dX12_muteTold_44 rfl (lv_at hl 1 rfl) ?_
      refine sk_get (v := .int (nI pb2_4)) (C := RX12) (T := TX12) (N := 92) hx hb hts inlX12 hown hK hP 0 rfl rfl 5 (by decide) w_5_160 rfl dX12_muteTold_45 ?_
      refine lv_if_ne (tgt := 62) hx hb dX12_muteTold_48 (by decide) (fun c => absurd ((neq pb2_4 0 (by omega) (by omega)).mpr (by omega)) c) (fun c_22 => ?_)
      refine lv_aload_n hx hb dX12_muteTold_51 rfl (lv_at hl 1 rfl) ?_
      refine sk_get (v := .ref (g 21)) (C := RX12) (T := TX12) (N := 92) hx hb hts inlX12 hown hK hP 0 rfl rfl 21 (by decide) w_5_176 rfl dX12_muteTold_52 ?_
      refine lv_iconst (v := 3) hx hb dX12_muteTold_55 (by decide) ?_
      refine lv_iload_n hx hb dX12_muteTold_56 rfl (lv_at hl 0 rfl) ?_
      refine lv_imul hx hb dX12_muteTold_57 ?_
      refine sk_top (nI (3 * nv_1)) (nmul 3 nv_1) ?_
      refine lv_iconst (v := 2) hx hb dX12_muteTold_58 (by decide) ?_
      refine lv_iadd hx hb dX12_muteTold_59 ?_
      refine sk_top (nI (3 * nv_1 + 2)) (nI_add (3 * nv_1) 2) ?_
      refine lv_iconst (v := 1) hx hb dX12_muteTold_60 (by decide) ?_
      refine sk_iast (ws' := [(mm, .inr (12, mo g (nI ta) (nI pa2_2) (nI pe) pd2_3 (nI pb2_4) pp2_5 pf pg pn2_6 rt rn (nI cd) sn (nI il) tk am at_ aa 0 0 (-1) wt wy 0 (nI rm) (nI ud) (nI nu) sd (nI qn) (nI qw) qo (nI qb) (nI qp) qa (nI qi) (nI oc))), (g 0, .inl (cI, 1600, .inl (fun j => nI (tb j)))), (g 20, .inl (cI, 4, .inl (l4 (nI l0) (nI l1) (nI dm) (nI l3)))), (g 21, .inl (cI, 27, .inl (upd dz (3 * nv_1 + 2) 1)))]) hx hb hK hP hD hS 3 0 rfl rfl (vin (3 * nv_1 + 2) 27 (by omega) (by omega)) (by rw [nI_clamp (by omega)]; rfl) dX12_muteTold_61 (fun H locs hP hD hS => ?_)
      exact sk_vret hx hb hr hlocks hK hP hD hS (⟨nv_1, (sk tb pe pa), pa2_2, pd2_3, pb2_4, pp2_5, pn2_6, upd dz (3 * nv_1 + 2) 1, by omega, by omega, by omega, by omega, mg_no hO2_13 hdt, hnv2_14, (fun c hc => by rw [(mo_cu hO hc).2]; rfl), (Or.inr ⟨by omega, rfl⟩), rfl⟩) (Nat.le_of_ble_eq_true rfl) (Nat.le_of_ble_eq_true rfl) dX12_muteTold_62
    · have hdt :  dz (3 * nv_1 + 2) = 1 := by rw [← (show _ = dz (3 * nv_1 + 2) from ev_20.trans (by rw [nI_clamp (by omega)]))]; exact c_21
      refine lv_aload_n hx hb dX12_muteTold_35 rfl (lv_at hl 1 rfl) ?_
      refine lv_iconst (v := 2) hx hb dX12_muteTold_36 (by decide) ?_
      refine lv_aload_n hx hb dX12_muteTold_37 rfl (lv_at hl 1 rfl) ?_
      refine sk_get (v := .int pn2_6) (C := RX12) (T := TX12) (N := 92) hx hb hts inlX12 hown hK hP 0 rfl rfl 10 (by decide) w_5_165 rfl dX12_muteTold_38 ?_
      refine sk_Vv (q0 := 0) (n := 2) (rest := []) (wr := fmR om_4_8 _) ⟨hx, hb, hml, hown, hts⟩ hl.1 (c_em_fail l D cI cJ cC cZ cS mm g ta pa2_2 pe pd2_3 pb2_4 pp2_5 pf pg pn2_6 rt rn cd sn il tk am at_ aa wt wy rm ud nu sd qn qw qo qb qp qa qi oc 2 pn2_6 (by omega) (by omega) (by omega)) w_6_229 w_6_231 w_0_46 w_1_14 w_6_232 hd_X12_fail_2 ⟨⟨(Nat.le_of_ble_eq_true rfl), (Nat.le_of_ble_eq_true rfl)⟩, (Nat.le_of_ble_eq_true rfl), (Nat.le_of_ble_eq_true rfl)⟩ hK hP hD hS hA (fmT om_4_8 0) (fmF om_4_8 0) (fm_C1 rfl rfl) (fm_R rfl rfl) (fm_nT om_4_8 0) (fm_nF om_4_8 0) (fm_di om_4_8 0) rfl rfl rfl rfl (Nat.le_of_ble_eq_true rfl) dX12_muteTold_41 (fun u H locs hw hP hD hS => ?_)
      refine exE hw (fun pb2_23 hw1 => exE hw1 (fun pp2_24 hw2 => anE hw2 (fun hpb2_25 hw3 => anE hw3 (fun hpb3_26 hw4 => anE hw4 (fun hfl_27 eu_28 => ?_)))))
      clear hw hw1 hw2 hw3 hw4
      refine o_mgE (ws' := [(mm, .inr (12, mo g (nI ta) (nI pa2_2) (nI pe) pd2_3 (nI pb2_23) pp2_24 pf pg pn2_6 rt rn (nI cd) sn (nI il) tk am at_ aa 0 0 (-1) wt wy 0 (nI rm) (nI ud) (nI nu) sd (nI qn) (nI qw) qo (nI qb) (nI qp) qa (nI qi) (nI oc))), (g 0, .inl (cI, 1600, .inl (fun j => nI (tb j)))), (g 20, .inl (cI, 4, .inl (l4 (nI l0) (nI l1) (nI dm) (nI l3)))), (g 21, .inl (cI, 27, .inl dz))]) eu_28 hP hD rfl (fun hP hD => ?_)
      refine lv_aload_n hx hb dX12_muteTold_44 rfl (lv_at hl 1 rfl) ?_
      refine sk_get (v := .int (nI pb2_23)) (C := RX12) (T := TX12) (N := 92) hx hb hts inlX12 hown hK hP 0 rfl rfl 5 (by decide) w_5_160 rfl dX12_muteTold_45 ?_
      refine lv_if_ne (tgt := 62) hx hb dX12_muteTold_48 (by decide) (fun c_29 => ?_) (fun c => absurd ((neq pb2_23 0 (by omega) (by omega)).mp c) (by omega))
      exact sk_vret hx hb hr hlocks hK hP hD hS (⟨nv_1, (sk tb pe pa), pa2_2, pd2_3, pb2_23, pp2_24, pn2_6, dz, by omega, by omega, by omega, by omega, (by have hf := (hfl_27.resolve_right (fun z => z.1 (by omega))).2; rw [hf.1, hf.2, hnp_15 (by omega)]; exact mo_fail hO2_13 (by omega) (by decide) (by decide) (if_pos hdt)), hnv2_14, (fun c hc => by rw [(mo_cu hO hc).2]; rfl), (Or.inl ⟨by omega, rfl⟩), rfl⟩) (Nat.le_of_ble_eq_true rfl) (Nat.le_of_ble_eq_true rfl) dX12_muteTold_62

