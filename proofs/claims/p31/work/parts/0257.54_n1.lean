set_option maxHeartbeats 4000000 in
set_option maxRecDepth 100000 in
theorem c_nm_qJoins (l : Launch) (D : va_G) (cI cJ cC cZ cS : ClassId) (mm : Nat) (g : Nat → Nat) (ta : Nat) (pa : Nat) (pe : Nat) (pd : Int32) (pb : Nat) (pp : Int32) (pf : Int32) (pg : Int32) (pn : Int32) (rt : Int32) (rn : Int32) (cd : Nat) (sn : Int32) (il : Nat) (tk : Int32) (am : Int32) (at_ : Int32) (aa : Int32) (mt_ : Int32) (wt : Int32) (wy : Int64) (it_ : Nat) (rm : Nat) (ud : Nat) (nu : Nat) (sd : Int64) (qn : Nat) (qw : Nat) (qo : Int32) (qb : Nat) (qp : Nat) (qa : Int64) (qi : Nat) (oc : Nat) (jop : Nat) (ql : Nat → Int64) (a1 : Int64) (b1 : Int64) (R1 : List Int64) (hc1 : 1 ≤ jop) (hc6 : jop ≤ 6) (hst : stkO ql (b1 :: a1 :: R1)) (hqp2 : qp = R1.length + 2) (hqp : qp ≤ 1700) : skM l yX12_qJoins cX12_qJoins 6 none 1 25 0 0 D (skT cI cJ cC cZ cS) [.ref mm, .int (nI jop)] [(mm, .inr (12, mo g (nI ta) (nI pa) (nI pe) pd (nI pb) pp pf pg pn rt rn (nI cd) sn (nI il) tk am at_ aa mt_ 0 (-1) wt wy (nI it_) (nI rm) (nI ud) (nI nu) sd (nI qn) (nI qw) qo (nI qb) (nI qp) qa (nI qi) (nI oc))), (g 86, .inl (cJ, 1700, .inr (.inl ql)))] (skV D (skT cI cJ cC cZ cS) (fun (u : va_W) => ∃ (ql2 : Nat → Int64), stkO ql2 (kcOp jop a1 b1 :: R1) ∧ u = [(mm, .inr (12, mo g (nI ta) (nI pa) (nI pe) pd (nI pb) pp pf pg pn rt rn (nI cd) sn (nI il) tk am at_ aa mt_ 0 (-1) wt wy (nI it_) (nI rm) (nI ud) (nI nu) sd (nI qn) (nI qw) qo (nI qb) (nI (qp - 2 + 1)) qa (nI qi) (nI oc))), (g 86, .inl (cJ, 1700, .inr (.inl ql2)))])) := by
  refine skM_of pf_X12_qJoins (Nat.le_of_ble_eq_true rfl) ?_
  intro p e s m below meth c A ls E hP hD hl
  refine skE_el E (fun hx hb hr hml hlocks hin hown hts hK hA => ?_)
  have hown : s.vm.findClass RX12 = some m.cls := hown
  have hS : va_S A s.heap s.heap [] := va_S.rf
  have hl : lv_has ls 6 [(0, .ref mm), (1, .int (nI jop))] := hl
  refine lv_aload_n hx hb dX12_qJoins_0 rfl (lv_at hl 0 rfl) ?_
  refine sk_get (v := .ref (g 86)) (C := RX12) (T := TX12) (N := 92) hx hb hts inlX12 hown hK hP 0 rfl rfl 86 (by decide) w_6_1 rfl dX12_qJoins_1 ?_
  refine lv_aload_n hx hb dX12_qJoins_4 rfl (lv_at hl 0 rfl) ?_
  refine sk_get (v := .int (nI qp)) (C := RX12) (T := TX12) (N := 92) hx hb hts inlX12 hown hK hP 0 rfl rfl 87 (by decide) w_6_2 rfl dX12_qJoins_5 ?_
  refine lv_iconst (v := 1) hx hb dX12_qJoins_8 (by decide) ?_
  refine lv_isub hx hb dX12_qJoins_9 ?_
  refine sk_top (nI (qp - 1)) (nsub qp 1 (by omega)) ?_
  refine va_lald hx hb hK.1 hP 1 1 rfl rfl (vin (qp - 1) 1700 (by omega) (by omega)) dX12_qJoins_10 ?_
  refine sk_topl b1 (stk_b hst (by omega) (by omega)) ?_
  refine lv_lstore_n (lv' := [(2, .long b1), (0, .ref mm), (1, .int (nI jop))]) hx hb dX12_qJoins_11 rfl hl (by decide) rfl (fun ls hl => ?_)
  refine lv_aload_n hx hb dX12_qJoins_12 rfl (lv_at hl 1 rfl) ?_
  refine sk_get (v := .ref (g 86)) (C := RX12) (T := TX12) (N := 92) hx hb hts inlX12 hown hK hP 0 rfl rfl 86 (by decide) w_6_1 rfl dX12_qJoins_13 ?_
  refine lv_aload_n hx hb dX12_qJoins_16 rfl (lv_at hl 1 rfl) ?_
  refine sk_get (v := .int (nI qp)) (C := RX12) (T := TX12) (N := 92) hx hb hts inlX12 hown hK hP 0 rfl rfl 87 (by decide) w_6_2 rfl dX12_qJoins_17 ?_
  refine lv_iconst (v := 2) hx hb dX12_qJoins_20 (by decide) ?_
  refine lv_isub hx hb dX12_qJoins_21 ?_
  refine sk_top (nI (qp - 2)) (nsub qp 2 (by omega)) ?_
  refine va_lald hx hb hK.1 hP 1 1 rfl rfl (vin (qp - 2) 1700 (by omega) (by omega)) dX12_qJoins_22 ?_
  refine sk_topl a1 (stk_a hst (by omega) (by omega)) ?_
  refine lv_lstore (lv' := [(4, .long a1), (2, .long b1), (0, .ref mm), (1, .int (nI jop))]) hx hb dX12_qJoins_23 hl (by decide) rfl (fun ls hl => ?_)
  refine lv_aload_n hx hb dX12_qJoins_25 rfl (lv_at hl 2 rfl) ?_
  refine lv_dup hx hb dX12_qJoins_26 rfl ?_
  refine sk_get (v := .int (nI qp)) (C := RX12) (T := TX12) (N := 92) hx hb hts inlX12 hown hK hP 0 rfl rfl 87 (by decide) w_6_2 rfl dX12_qJoins_27 ?_
  refine lv_iconst (v := 2) hx hb dX12_qJoins_30 (by decide) ?_
  refine lv_isub hx hb dX12_qJoins_31 ?_
  refine sk_top (nI (qp - 2)) (nsub qp 2 (by omega)) ?_
  refine sk_put (ws' := [(mm, .inr (12, mo g (nI ta) (nI pa) (nI pe) pd (nI pb) pp pf pg pn rt rn (nI cd) sn (nI il) tk am at_ aa mt_ 0 (-1) wt wy (nI it_) (nI rm) (nI ud) (nI nu) sd (nI qn) (nI qw) qo (nI qb) (nI (qp - 2)) qa (nI qi) (nI oc))), (g 86, .inl (cJ, 1700, .inr (.inl ql)))]) (C := RX12) (T := TX12) (N := 92) (v := .int (nI (qp - 2))) hx hb hts inlX12 tyX12 tyX12_ok nmX12 hown hK hP hD hS 0 rfl rfl 87 (by decide) w_6_2 rfl rfl rfl (Nat.le_of_ble_eq_true rfl) rfl dX12_qJoins_32 (fun H locs hP hD hS => ?_)
  refine lv_iload_n hx hb dX12_qJoins_35 rfl (lv_at hl 3 rfl) ?_
  by_cases g_1 : nI jop = 1
  · refine lv_tableIn (off := 56) (tgt := 92) hx hb dX12_qJoins_36 (by rw [g_1]; decide) (by rw [g_1]; decide) (by rw [g_1]; rfl) (by decide) ?_
    refine lv_aload_n hx hb dX12_qJoins_92 rfl (lv_at hl 2 rfl) ?_
    refine lv_lload hx hb dX12_qJoins_93 (lv_at hl 0 rfl) ?_
    refine lv_lload_n hx hb dX12_qJoins_95 rfl (lv_at hl 1 rfl) ?_
    refine lv_ladd hx hb dX12_qJoins_96 ?_
    refine sk_Sl (n := 1) (rest := [.ref mm]) (wr := [(mm, .inr (12, mo g (nI ta) (nI pa) (nI pe) pd (nI pb) pp pf pg pn rt rn (nI cd) sn (nI il) tk am at_ aa mt_ 0 (-1) wt wy (nI it_) (nI rm) (nI ud) (nI nu) sd (nI qn) (nI qw) qo (nI qb) (nI (qp - 2)) qa (nI qi) (nI oc))), (g 86, .inl (cJ, 1700, .inr (.inl ql)))]) ⟨hx, hb, hml, hown, hts⟩ hl.1 (c_nm_qClip l D cI cJ cC cZ cS (a1 + b1)) w_7_160 w_7_161 w_1_14 w_7_162 hd_X12_qClip_1 ⟨⟨(Nat.le_of_ble_eq_true rfl), (Nat.le_of_ble_eq_true rfl)⟩, (Nat.le_of_ble_eq_true rfl), (Nat.le_of_ble_eq_true rfl)⟩ hK hP hD hS hA [] [0, 1] rfl rfl (by decide +kernel) (by decide +kernel) (by decide +kernel) rfl rfl (Nat.le_of_ble_eq_true rfl) dX12_qJoins_97 (fun r_2 u H locs hw hP hD hS => ?_)
    obtain ⟨hr_3, rfl⟩ := hw
    refine o_re (ws' := [(mm, .inr (12, mo g (nI ta) (nI pa) (nI pe) pd (nI pb) pp pf pg pn rt rn (nI cd) sn (nI il) tk am at_ aa mt_ 0 (-1) wt wy (nI it_) (nI rm) (nI ud) (nI nu) sd (nI qn) (nI qw) qo (nI qb) (nI (qp - 2)) qa (nI qi) (nI oc))), (g 86, .inl (cJ, 1700, .inr (.inl ql)))]) hP hD rfl (fun hP hD => ?_)
    subst hr_3
    refine sk_Vv (q0 := 0) (n := 1) (rest := []) (wr := fmR om_2_3 _) ⟨hx, hb, hml, hown, hts⟩ hl.1 (c_nm_qPuts l D cI cJ cC cZ cS mm g ta pa pe pd pb pp pf pg pn rt rn cd sn il tk am at_ aa mt_ wt wy it_ rm ud nu sd qn qw qo qb (qp - 2) qa qi oc (kcClip (a1 + b1)) ql (by omega)) w_7_139 w_7_141 w_0_76 w_1_14 w_7_142 hd_X12_qPuts_1 ⟨⟨(Nat.le_of_ble_eq_true rfl), (Nat.le_of_ble_eq_true rfl)⟩, (Nat.le_of_ble_eq_true rfl), (Nat.le_of_ble_eq_true rfl)⟩ hK hP hD hS hA (fmT om_2_3 0) (fmF om_2_3 0) (fm_C1 rfl rfl) (fm_R rfl rfl) (fm_nT om_2_3 0) (fm_nF om_2_3 0) (fm_di om_2_3 0) rfl rfl rfl rfl (Nat.le_of_ble_eq_true rfl) dX12_qJoins_100 (fun u H locs hw hP hD hS => ?_)
    refine exE hw (fun ql2_4 hw1 => anE hw1 (fun hql_5 eu_6 => ?_))
    clear hw hw1
    refine o_mgE (ws' := [(mm, .inr (12, mo g (nI ta) (nI pa) (nI pe) pd (nI pb) pp pf pg pn rt rn (nI cd) sn (nI il) tk am at_ aa mt_ 0 (-1) wt wy (nI it_) (nI rm) (nI ud) (nI nu) sd (nI qn) (nI qw) qo (nI qb) (nI ((qp - 2) + 1)) qa (nI qi) (nI oc))), (g 86, .inl (cJ, 1700, .inr (.inl ql2_4)))]) eu_6 hP hD rfl (fun hP hD => ?_)
    refine lv_goto (tgt := 273) hx hb dX12_qJoins_103 (by decide) ?_
    exact sk_vret hx hb hr hlocks hK hP hD hS (⟨ql2_4, stk_push hst.2.2 (by omega) hql_5 (by obtain rfl := kjo_c (k := 1) g_1 hc6 (by decide); exact kop_1 (c := 1) (by decide) (by decide)), rfl⟩) (Nat.le_of_ble_eq_true rfl) (Nat.le_of_ble_eq_true rfl) dX12_qJoins_273
  by_cases g_7 : nI jop = 2
  · refine lv_tableIn (off := 70) (tgt := 106) hx hb dX12_qJoins_36 (by rw [g_7]; decide) (by rw [g_7]; decide) (by rw [g_7]; rfl) (by decide) ?_
    refine lv_aload_n hx hb dX12_qJoins_106 rfl (lv_at hl 2 rfl) ?_
    refine lv_lload hx hb dX12_qJoins_107 (lv_at hl 0 rfl) ?_
    refine lv_lload_n hx hb dX12_qJoins_109 rfl (lv_at hl 1 rfl) ?_
    refine lv_lsub hx hb dX12_qJoins_110 ?_
    refine sk_Sl (n := 1) (rest := [.ref mm]) (wr := [(mm, .inr (12, mo g (nI ta) (nI pa) (nI pe) pd (nI pb) pp pf pg pn rt rn (nI cd) sn (nI il) tk am at_ aa mt_ 0 (-1) wt wy (nI it_) (nI rm) (nI ud) (nI nu) sd (nI qn) (nI qw) qo (nI qb) (nI (qp - 2)) qa (nI qi) (nI oc))), (g 86, .inl (cJ, 1700, .inr (.inl ql)))]) ⟨hx, hb, hml, hown, hts⟩ hl.1 (c_nm_qClip l D cI cJ cC cZ cS (a1 - b1)) w_7_160 w_7_161 w_1_14 w_7_162 hd_X12_qClip_1 ⟨⟨(Nat.le_of_ble_eq_true rfl), (Nat.le_of_ble_eq_true rfl)⟩, (Nat.le_of_ble_eq_true rfl), (Nat.le_of_ble_eq_true rfl)⟩ hK hP hD hS hA [] [0, 1] rfl rfl (by decide +kernel) (by decide +kernel) (by decide +kernel) rfl rfl (Nat.le_of_ble_eq_true rfl) dX12_qJoins_111 (fun r_8 u H locs hw hP hD hS => ?_)
    obtain ⟨hr_9, rfl⟩ := hw
    refine o_re (ws' := [(mm, .inr (12, mo g (nI ta) (nI pa) (nI pe) pd (nI pb) pp pf pg pn rt rn (nI cd) sn (nI il) tk am at_ aa mt_ 0 (-1) wt wy (nI it_) (nI rm) (nI ud) (nI nu) sd (nI qn) (nI qw) qo (nI qb) (nI (qp - 2)) qa (nI qi) (nI oc))), (g 86, .inl (cJ, 1700, .inr (.inl ql)))]) hP hD rfl (fun hP hD => ?_)
    subst hr_9
    refine sk_Vv (q0 := 0) (n := 1) (rest := []) (wr := fmR om_2_3 _) ⟨hx, hb, hml, hown, hts⟩ hl.1 (c_nm_qPuts l D cI cJ cC cZ cS mm g ta pa pe pd pb pp pf pg pn rt rn cd sn il tk am at_ aa mt_ wt wy it_ rm ud nu sd qn qw qo qb (qp - 2) qa qi oc (kcClip (a1 - b1)) ql (by omega)) w_7_139 w_7_141 w_0_76 w_1_14 w_7_142 hd_X12_qPuts_1 ⟨⟨(Nat.le_of_ble_eq_true rfl), (Nat.le_of_ble_eq_true rfl)⟩, (Nat.le_of_ble_eq_true rfl), (Nat.le_of_ble_eq_true rfl)⟩ hK hP hD hS hA (fmT om_2_3 0) (fmF om_2_3 0) (fm_C1 rfl rfl) (fm_R rfl rfl) (fm_nT om_2_3 0) (fm_nF om_2_3 0) (fm_di om_2_3 0) rfl rfl rfl rfl (Nat.le_of_ble_eq_true rfl) dX12_qJoins_114 (fun u H locs hw hP hD hS => ?_)
    refine exE hw (fun ql2_10 hw1 => anE hw1 (fun hql_11 eu_12 => ?_))
    clear hw hw1
    refine o_mgE (ws' := [(mm, .inr (12, mo g (nI ta) (nI pa) (nI pe) pd (nI pb) pp pf pg pn rt rn (nI cd) sn (nI il) tk am at_ aa mt_ 0 (-1) wt wy (nI it_) (nI rm) (nI ud) (nI nu) sd (nI qn) (nI qw) qo (nI qb) (nI ((qp - 2) + 1)) qa (nI qi) (nI oc))), (g 86, .inl (cJ, 1700, .inr (.inl ql2_10)))]) eu_12 hP hD rfl (fun hP hD => ?_)
    refine lv_goto (tgt := 273) hx hb dX12_qJoins_117 (by decide) ?_
    exact sk_vret hx hb hr hlocks hK hP hD hS (⟨ql2_10, stk_push hst.2.2 (by omega) hql_11 (by obtain rfl := kjo_c (k := 2) g_7 hc6 (by decide); exact kop_2 (c := 2) (by decide) (by decide)), rfl⟩) (Nat.le_of_ble_eq_true rfl) (Nat.le_of_ble_eq_true rfl) dX12_qJoins_273
  by_cases g_13 : nI jop = 3
  · refine lv_tableIn (off := 84) (tgt := 120) hx hb dX12_qJoins_36 (by rw [g_13]; decide) (by rw [g_13]; decide) (by rw [g_13]; rfl) (by decide) ?_
    refine lv_aload_n hx hb dX12_qJoins_120 rfl (lv_at hl 2 rfl) ?_
    refine lv_lload hx hb dX12_qJoins_121 (lv_at hl 0 rfl) ?_
    refine lv_lload_n hx hb dX12_qJoins_123 rfl (lv_at hl 1 rfl) ?_
    refine lv_lmul hx hb dX12_qJoins_124 ?_
    refine sk_Sl (n := 1) (rest := [.ref mm]) (wr := [(mm, .inr (12, mo g (nI ta) (nI pa) (nI pe) pd (nI pb) pp pf pg pn rt rn (nI cd) sn (nI il) tk am at_ aa mt_ 0 (-1) wt wy (nI it_) (nI rm) (nI ud) (nI nu) sd (nI qn) (nI qw) qo (nI qb) (nI (qp - 2)) qa (nI qi) (nI oc))), (g 86, .inl (cJ, 1700, .inr (.inl ql)))]) ⟨hx, hb, hml, hown, hts⟩ hl.1 (c_nm_qClip l D cI cJ cC cZ cS (a1 * b1)) w_7_160 w_7_161 w_1_14 w_7_162 hd_X12_qClip_1 ⟨⟨(Nat.le_of_ble_eq_true rfl), (Nat.le_of_ble_eq_true rfl)⟩, (Nat.le_of_ble_eq_true rfl), (Nat.le_of_ble_eq_true rfl)⟩ hK hP hD hS hA [] [0, 1] rfl rfl (by decide +kernel) (by decide +kernel) (by decide +kernel) rfl rfl (Nat.le_of_ble_eq_true rfl) dX12_qJoins_125 (fun r_14 u H locs hw hP hD hS => ?_)
    obtain ⟨hr_15, rfl⟩ := hw
    refine o_re (ws' := [(mm, .inr (12, mo g (nI ta) (nI pa) (nI pe) pd (nI pb) pp pf pg pn rt rn (nI cd) sn (nI il) tk am at_ aa mt_ 0 (-1) wt wy (nI it_) (nI rm) (nI ud) (nI nu) sd (nI qn) (nI qw) qo (nI qb) (nI (qp - 2)) qa (nI qi) (nI oc))), (g 86, .inl (cJ, 1700, .inr (.inl ql)))]) hP hD rfl (fun hP hD => ?_)
    subst hr_15
    refine sk_Vv (q0 := 0) (n := 1) (rest := []) (wr := fmR om_2_3 _) ⟨hx, hb, hml, hown, hts⟩ hl.1 (c_nm_qPuts l D cI cJ cC cZ cS mm g ta pa pe pd pb pp pf pg pn rt rn cd sn il tk am at_ aa mt_ wt wy it_ rm ud nu sd qn qw qo qb (qp - 2) qa qi oc (kcClip (a1 * b1)) ql (by omega)) w_7_139 w_7_141 w_0_76 w_1_14 w_7_142 hd_X12_qPuts_1 ⟨⟨(Nat.le_of_ble_eq_true rfl), (Nat.le_of_ble_eq_true rfl)⟩, (Nat.le_of_ble_eq_true rfl), (Nat.le_of_ble_eq_true rfl)⟩ hK hP hD hS hA (fmT om_2_3 0) (fmF om_2_3 0) (fm_C1 rfl rfl) (fm_R rfl rfl) (fm_nT om_2_3 0) (fm_nF om_2_3 0) (fm_di om_2_3 0) rfl rfl rfl rfl (Nat.le_of_ble_eq_true rfl) dX12_qJoins_128 (fun u H locs hw hP hD hS => ?_)
    refine exE hw (fun ql2_16 hw1 => anE hw1 (fun hql_17 eu_18 => ?_))
    clear hw hw1
    refine o_mgE (ws' := [(mm, .inr (12, mo g (nI ta) (nI pa) (nI pe) pd (nI pb) pp pf pg pn rt rn (nI cd) sn (nI il) tk am at_ aa mt_ 0 (-1) wt wy (nI it_) (nI rm) (nI ud) (nI nu) sd (nI qn) (nI qw) qo (nI qb) (nI ((qp - 2) + 1)) qa (nI qi) (nI oc))), (g 86, .inl (cJ, 1700, .inr (.inl ql2_16)))]) eu_18 hP hD rfl (fun hP hD => ?_)
    refine lv_goto (tgt := 273) hx hb dX12_qJoins_131 (by decide) ?_
    exact sk_vret hx hb hr hlocks hK hP hD hS (⟨ql2_16, stk_push hst.2.2 (by omega) hql_17 (by obtain rfl := kjo_c (k := 3) g_13 hc6 (by decide); exact kop_3 (c := 3) (by decide) (by decide)), rfl⟩) (Nat.le_of_ble_eq_true rfl) (Nat.le_of_ble_eq_true rfl) dX12_qJoins_273
  by_cases g_19 : nI jop = 4
  · refine lv_tableIn (off := 98) (tgt := 134) hx hb dX12_qJoins_36 (by rw [g_19]; decide) (by rw [g_19]; decide) (by rw [g_19]; rfl) (by decide) ?_
    refine lv_aload_n hx hb dX12_qJoins_134 rfl (lv_at hl 2 rfl) ?_
    refine lv_lload hx hb dX12_qJoins_135 (lv_at hl 0 rfl) ?_
    refine lv_lload_n hx hb dX12_qJoins_137 rfl (lv_at hl 1 rfl) ?_
    refine sk_Sl (n := 2) (rest := [.ref mm]) (wr := [(mm, .inr (12, mo g (nI ta) (nI pa) (nI pe) pd (nI pb) pp pf pg pn rt rn (nI cd) sn (nI il) tk am at_ aa mt_ 0 (-1) wt wy (nI it_) (nI rm) (nI ud) (nI nu) sd (nI qn) (nI qw) qo (nI qb) (nI (qp - 2)) qa (nI qi) (nI oc))), (g 86, .inl (cJ, 1700, .inr (.inl ql)))]) ⟨hx, hb, hml, hown, hts⟩ hl.1 (c_nm_qFloor l D cI cJ cC cZ cS a1 b1) w_7_165 w_7_166 w_1_14 w_7_167 hd_X12_qFloor_2 ⟨⟨(Nat.le_of_ble_eq_true rfl), (Nat.le_of_ble_eq_true rfl)⟩, (Nat.le_of_ble_eq_true rfl), (Nat.le_of_ble_eq_true rfl)⟩ hK hP hD hS hA [] [0, 1] rfl rfl (by decide +kernel) (by decide +kernel) (by decide +kernel) rfl rfl (Nat.le_of_ble_eq_true rfl) dX12_qJoins_138 (fun r_20 u H locs hw hP hD hS => ?_)
    obtain ⟨hr_21, rfl⟩ := hw
    refine o_re (ws' := [(mm, .inr (12, mo g (nI ta) (nI pa) (nI pe) pd (nI pb) pp pf pg pn rt rn (nI cd) sn (nI il) tk am at_ aa mt_ 0 (-1) wt wy (nI it_) (nI rm) (nI ud) (nI nu) sd (nI qn) (nI qw) qo (nI qb) (nI (qp - 2)) qa (nI qi) (nI oc))), (g 86, .inl (cJ, 1700, .inr (.inl ql)))]) hP hD rfl (fun hP hD => ?_)
    subst hr_21
    refine sk_Vv (q0 := 0) (n := 1) (rest := []) (wr := fmR om_2_3 _) ⟨hx, hb, hml, hown, hts⟩ hl.1 (c_nm_qPuts l D cI cJ cC cZ cS mm g ta pa pe pd pb pp pf pg pn rt rn cd sn il tk am at_ aa mt_ wt wy it_ rm ud nu sd qn qw qo qb (qp - 2) qa qi oc (kcFl a1 b1) ql (by omega)) w_7_139 w_7_141 w_0_76 w_1_14 w_7_142 hd_X12_qPuts_1 ⟨⟨(Nat.le_of_ble_eq_true rfl), (Nat.le_of_ble_eq_true rfl)⟩, (Nat.le_of_ble_eq_true rfl), (Nat.le_of_ble_eq_true rfl)⟩ hK hP hD hS hA (fmT om_2_3 0) (fmF om_2_3 0) (fm_C1 rfl rfl) (fm_R rfl rfl) (fm_nT om_2_3 0) (fm_nF om_2_3 0) (fm_di om_2_3 0) rfl rfl rfl rfl (Nat.le_of_ble_eq_true rfl) dX12_qJoins_141 (fun u H locs hw hP hD hS => ?_)
    refine exE hw (fun ql2_22 hw1 => anE hw1 (fun hql_23 eu_24 => ?_))
    clear hw hw1
    refine o_mgE (ws' := [(mm, .inr (12, mo g (nI ta) (nI pa) (nI pe) pd (nI pb) pp pf pg pn rt rn (nI cd) sn (nI il) tk am at_ aa mt_ 0 (-1) wt wy (nI it_) (nI rm) (nI ud) (nI nu) sd (nI qn) (nI qw) qo (nI qb) (nI ((qp - 2) + 1)) qa (nI qi) (nI oc))), (g 86, .inl (cJ, 1700, .inr (.inl ql2_22)))]) eu_24 hP hD rfl (fun hP hD => ?_)
    refine lv_goto (tgt := 273) hx hb dX12_qJoins_144 (by decide) ?_
    exact sk_vret hx hb hr hlocks hK hP hD hS (⟨ql2_22, stk_push hst.2.2 (by omega) hql_23 (by obtain rfl := kjo_c (k := 4) g_19 hc6 (by decide); exact kop_4 (c := 4) (by decide) (by decide) rfl), rfl⟩) (Nat.le_of_ble_eq_true rfl) (Nat.le_of_ble_eq_true rfl) dX12_qJoins_273
  by_cases g_25 : nI jop = 5
  · refine lv_tableIn (off := 111) (tgt := 147) hx hb dX12_qJoins_36 (by rw [g_25]; decide) (by rw [g_25]; decide) (by rw [g_25]; rfl) (by decide) ?_
    refine lv_aload_n hx hb dX12_qJoins_147 rfl (lv_at hl 2 rfl) ?_
    refine lv_lload hx hb dX12_qJoins_148 (lv_at hl 0 rfl) ?_
    refine lv_lload_n hx hb dX12_qJoins_150 rfl (lv_at hl 1 rfl) ?_
    refine W.lcmp hx hb dX12_qJoins_151 ?_
    refine lv_if_ge (tgt := 160) hx hb dX12_qJoins_152 (by decide) (fun c_26 => ?_) (fun c_26 => ?_)
    · skip
      refine lv_lload_n hx hb dX12_qJoins_160 rfl (lv_at hl 1 rfl) ?_
      refine sk_Vv (q0 := 0) (n := 1) (rest := []) (wr := fmR om_2_3 _) ⟨hx, hb, hml, hown, hts⟩ hl.1 (c_nm_qPuts l D cI cJ cC cZ cS mm g ta pa pe pd pb pp pf pg pn rt rn cd sn il tk am at_ aa mt_ wt wy it_ rm ud nu sd qn qw qo qb (qp - 2) qa qi oc b1 ql (by omega)) w_7_139 w_7_141 w_0_76 w_1_14 w_7_142 hd_X12_qPuts_1 ⟨⟨(Nat.le_of_ble_eq_true rfl), (Nat.le_of_ble_eq_true rfl)⟩, (Nat.le_of_ble_eq_true rfl), (Nat.le_of_ble_eq_true rfl)⟩ hK hP hD hS hA (fmT om_2_3 0) (fmF om_2_3 0) (fm_C1 rfl rfl) (fm_R rfl rfl) (fm_nT om_2_3 0) (fm_nF om_2_3 0) (fm_di om_2_3 0) rfl rfl rfl rfl (Nat.le_of_ble_eq_true rfl) dX12_qJoins_161 (fun u H locs hw hP hD hS => ?_)
      refine exE hw (fun ql2_27 hw1 => anE hw1 (fun hql_28 eu_29 => ?_))
      clear hw hw1
      refine o_mgE (ws' := [(mm, .inr (12, mo g (nI ta) (nI pa) (nI pe) pd (nI pb) pp pf pg pn rt rn (nI cd) sn (nI il) tk am at_ aa mt_ 0 (-1) wt wy (nI it_) (nI rm) (nI ud) (nI nu) sd (nI qn) (nI qw) qo (nI qb) (nI ((qp - 2) + 1)) qa (nI qi) (nI oc))), (g 86, .inl (cJ, 1700, .inr (.inl ql2_27)))]) eu_29 hP hD rfl (fun hP hD => ?_)
      refine lv_goto (tgt := 273) hx hb dX12_qJoins_164 (by decide) ?_
      exact sk_vret hx hb hr hlocks hK hP hD hS (⟨ql2_27, stk_push hst.2.2 (by omega) hql_28 (by obtain rfl := kjo_c (k := 5) g_25 hc6 (by decide); exact kjo_min c_26), rfl⟩) (Nat.le_of_ble_eq_true rfl) (Nat.le_of_ble_eq_true rfl) dX12_qJoins_273
    · skip
      refine lv_lload hx hb dX12_qJoins_155 (lv_at hl 0 rfl) ?_
      refine lv_goto (tgt := 161) hx hb dX12_qJoins_157 (by decide) ?_
      refine sk_Vv (q0 := 0) (n := 1) (rest := []) (wr := fmR om_2_3 _) ⟨hx, hb, hml, hown, hts⟩ hl.1 (c_nm_qPuts l D cI cJ cC cZ cS mm g ta pa pe pd pb pp pf pg pn rt rn cd sn il tk am at_ aa mt_ wt wy it_ rm ud nu sd qn qw qo qb (qp - 2) qa qi oc a1 ql (by omega)) w_7_139 w_7_141 w_0_76 w_1_14 w_7_142 hd_X12_qPuts_1 ⟨⟨(Nat.le_of_ble_eq_true rfl), (Nat.le_of_ble_eq_true rfl)⟩, (Nat.le_of_ble_eq_true rfl), (Nat.le_of_ble_eq_true rfl)⟩ hK hP hD hS hA (fmT om_2_3 0) (fmF om_2_3 0) (fm_C1 rfl rfl) (fm_R rfl rfl) (fm_nT om_2_3 0) (fm_nF om_2_3 0) (fm_di om_2_3 0) rfl rfl rfl rfl (Nat.le_of_ble_eq_true rfl) dX12_qJoins_161 (fun u H locs hw hP hD hS => ?_)
      refine exE hw (fun ql2_30 hw1 => anE hw1 (fun hql_31 eu_32 => ?_))
      clear hw hw1
      refine o_mgE (ws' := [(mm, .inr (12, mo g (nI ta) (nI pa) (nI pe) pd (nI pb) pp pf pg pn rt rn (nI cd) sn (nI il) tk am at_ aa mt_ 0 (-1) wt wy (nI it_) (nI rm) (nI ud) (nI nu) sd (nI qn) (nI qw) qo (nI qb) (nI ((qp - 2) + 1)) qa (nI qi) (nI oc))), (g 86, .inl (cJ, 1700, .inr (.inl ql2_30)))]) eu_32 hP hD rfl (fun hP hD => ?_)
      refine lv_goto (tgt := 273) hx hb dX12_qJoins_164 (by decide) ?_
      exact sk_vret hx hb hr hlocks hK hP hD hS (⟨ql2_30, stk_push hst.2.2 (by omega) hql_31 (by obtain rfl := kjo_c (k := 5) g_25 hc6 (by decide); exact kjo_min2 c_26), rfl⟩) (Nat.le_of_ble_eq_true rfl) (Nat.le_of_ble_eq_true rfl) dX12_qJoins_273
  by_cases g_33 : nI jop = 6
  · refine lv_tableIn (off := 131) (tgt := 167) hx hb dX12_qJoins_36 (by rw [g_33]; decide) (by rw [g_33]; decide) (by rw [g_33]; rfl) (by decide) ?_
    refine lv_aload_n hx hb dX12_qJoins_167 rfl (lv_at hl 2 rfl) ?_
    refine lv_lload hx hb dX12_qJoins_168 (lv_at hl 0 rfl) ?_
    refine lv_lload_n hx hb dX12_qJoins_170 rfl (lv_at hl 1 rfl) ?_
    refine W.lcmp hx hb dX12_qJoins_171 ?_
    refine lv_if_le (tgt := 180) hx hb dX12_qJoins_172 (by decide) (fun c_34 => ?_) (fun c_34 => ?_)
    · skip
      refine lv_lload_n hx hb dX12_qJoins_180 rfl (lv_at hl 1 rfl) ?_
      refine sk_Vv (q0 := 0) (n := 1) (rest := []) (wr := fmR om_2_3 _) ⟨hx, hb, hml, hown, hts⟩ hl.1 (c_nm_qPuts l D cI cJ cC cZ cS mm g ta pa pe pd pb pp pf pg pn rt rn cd sn il tk am at_ aa mt_ wt wy it_ rm ud nu sd qn qw qo qb (qp - 2) qa qi oc b1 ql (by omega)) w_7_139 w_7_141 w_0_76 w_1_14 w_7_142 hd_X12_qPuts_1 ⟨⟨(Nat.le_of_ble_eq_true rfl), (Nat.le_of_ble_eq_true rfl)⟩, (Nat.le_of_ble_eq_true rfl), (Nat.le_of_ble_eq_true rfl)⟩ hK hP hD hS hA (fmT om_2_3 0) (fmF om_2_3 0) (fm_C1 rfl rfl) (fm_R rfl rfl) (fm_nT om_2_3 0) (fm_nF om_2_3 0) (fm_di om_2_3 0) rfl rfl rfl rfl (Nat.le_of_ble_eq_true rfl) dX12_qJoins_181 (fun u H locs hw hP hD hS => ?_)
      refine exE hw (fun ql2_35 hw1 => anE hw1 (fun hql_36 eu_37 => ?_))
      clear hw hw1
      refine o_mgE (ws' := [(mm, .inr (12, mo g (nI ta) (nI pa) (nI pe) pd (nI pb) pp pf pg pn rt rn (nI cd) sn (nI il) tk am at_ aa mt_ 0 (-1) wt wy (nI it_) (nI rm) (nI ud) (nI nu) sd (nI qn) (nI qw) qo (nI qb) (nI ((qp - 2) + 1)) qa (nI qi) (nI oc))), (g 86, .inl (cJ, 1700, .inr (.inl ql2_35)))]) eu_37 hP hD rfl (fun hP hD => ?_)
      refine lv_goto (tgt := 273) hx hb dX12_qJoins_184 (by decide) ?_
      exact sk_vret hx hb hr hlocks hK hP hD hS (⟨ql2_35, stk_push hst.2.2 (by omega) hql_36 (by obtain rfl := kjo_c (k := 6) g_33 hc6 (by decide); exact kjo_max c_34), rfl⟩) (Nat.le_of_ble_eq_true rfl) (Nat.le_of_ble_eq_true rfl) dX12_qJoins_273
    · skip
      refine lv_lload hx hb dX12_qJoins_175 (lv_at hl 0 rfl) ?_
      refine lv_goto (tgt := 181) hx hb dX12_qJoins_177 (by decide) ?_
      refine sk_Vv (q0 := 0) (n := 1) (rest := []) (wr := fmR om_2_3 _) ⟨hx, hb, hml, hown, hts⟩ hl.1 (c_nm_qPuts l D cI cJ cC cZ cS mm g ta pa pe pd pb pp pf pg pn rt rn cd sn il tk am at_ aa mt_ wt wy it_ rm ud nu sd qn qw qo qb (qp - 2) qa qi oc a1 ql (by omega)) w_7_139 w_7_141 w_0_76 w_1_14 w_7_142 hd_X12_qPuts_1 ⟨⟨(Nat.le_of_ble_eq_true rfl), (Nat.le_of_ble_eq_true rfl)⟩, (Nat.le_of_ble_eq_true rfl), (Nat.le_of_ble_eq_true rfl)⟩ hK hP hD hS hA (fmT om_2_3 0) (fmF om_2_3 0) (fm_C1 rfl rfl) (fm_R rfl rfl) (fm_nT om_2_3 0) (fm_nF om_2_3 0) (fm_di om_2_3 0) rfl rfl rfl rfl (Nat.le_of_ble_eq_true rfl) dX12_qJoins_181 (fun u H locs hw hP hD hS => ?_)
      refine exE hw (fun ql2_38 hw1 => anE hw1 (fun hql_39 eu_40 => ?_))
      clear hw hw1
      refine o_mgE (ws' := [(mm, .inr (12, mo g (nI ta) (nI pa) (nI pe) pd (nI pb) pp pf pg pn rt rn (nI cd) sn (nI il) tk am at_ aa mt_ 0 (-1) wt wy (nI it_) (nI rm) (nI ud) (nI nu) sd (nI qn) (nI qw) qo (nI qb) (nI ((qp - 2) + 1)) qa (nI qi) (nI oc))), (g 86, .inl (cJ, 1700, .inr (.inl ql2_38)))]) eu_40 hP hD rfl (fun hP hD => ?_)
      refine lv_goto (tgt := 273) hx hb dX12_qJoins_184 (by decide) ?_
      exact sk_vret hx hb hr hlocks hK hP hD hS (⟨ql2_38, stk_push hst.2.2 (by omega) hql_39 (by obtain rfl := kjo_c (k := 6) g_33 hc6 (by decide); exact kjo_max2 c_34), rfl⟩) (Nat.le_of_ble_eq_true rfl) (Nat.le_of_ble_eq_true rfl) dX12_qJoins_273
  by_cases g_41 : nI jop = 7
  · refine lv_tableIn (off := 151) (tgt := 187) hx hb dX12_qJoins_36 (by rw [g_41]; decide) (by rw [g_41]; decide) (by rw [g_41]; rfl) (by decide) ?_
    refine lv_aload_n hx hb dX12_qJoins_187 rfl (lv_at hl 2 rfl) ?_
    refine lv_lload hx hb dX12_qJoins_188 (lv_at hl 0 rfl) ?_
    refine lv_lload_n hx hb dX12_qJoins_190 rfl (lv_at hl 1 rfl) ?_
    refine W.lcmp hx hb dX12_qJoins_191 ?_
    refine lv_if_ge (tgt := 199) hx hb dX12_qJoins_192 (by decide) (fun c_42 => ?_) (fun c_42 => ?_)
    · skip
      refine lv_lconst (v := 0) hx hb dX12_qJoins_199 (by decide) ?_
      refine sk_Vv (q0 := 0) (n := 1) (rest := []) (wr := fmR om_2_3 _) ⟨hx, hb, hml, hown, hts⟩ hl.1 (c_nm_qPuts l D cI cJ cC cZ cS mm g ta pa pe pd pb pp pf pg pn rt rn cd sn il tk am at_ aa mt_ wt wy it_ rm ud nu sd qn qw qo qb (qp - 2) qa qi oc 0 ql (by omega)) w_7_139 w_7_141 w_0_76 w_1_14 w_7_142 hd_X12_qPuts_1 ⟨⟨(Nat.le_of_ble_eq_true rfl), (Nat.le_of_ble_eq_true rfl)⟩, (Nat.le_of_ble_eq_true rfl), (Nat.le_of_ble_eq_true rfl)⟩ hK hP hD hS hA (fmT om_2_3 0) (fmF om_2_3 0) (fm_C1 rfl rfl) (fm_R rfl rfl) (fm_nT om_2_3 0) (fm_nF om_2_3 0) (fm_di om_2_3 0) rfl rfl rfl rfl (Nat.le_of_ble_eq_true rfl) dX12_qJoins_200 (fun u H locs hw hP hD hS => ?_)
      refine exE hw (fun ql2_43 hw1 => anE hw1 (fun hql_44 eu_45 => ?_))
      clear hw hw1
      refine o_mgE (ws' := [(mm, .inr (12, mo g (nI ta) (nI pa) (nI pe) pd (nI pb) pp pf pg pn rt rn (nI cd) sn (nI il) tk am at_ aa mt_ 0 (-1) wt wy (nI it_) (nI rm) (nI ud) (nI nu) sd (nI qn) (nI qw) qo (nI qb) (nI ((qp - 2) + 1)) qa (nI qi) (nI oc))), (g 86, .inl (cJ, 1700, .inr (.inl ql2_43)))]) eu_45 hP hD rfl (fun hP hD => ?_)
      refine lv_goto (tgt := 273) hx hb dX12_qJoins_203 (by decide) ?_
      exact sk_vret hx hb hr hlocks hK hP hD hS (⟨ql2_43, (show _ from absurd (kjo_c (k := 7) g_41 hc6 (by decide)) (by omega)), rfl⟩) (Nat.le_of_ble_eq_true rfl) (Nat.le_of_ble_eq_true rfl) dX12_qJoins_273
    · skip
      refine lv_lconst (v := 1) hx hb dX12_qJoins_195 (by decide) ?_
      refine lv_goto (tgt := 200) hx hb dX12_qJoins_196 (by decide) ?_
      refine sk_Vv (q0 := 0) (n := 1) (rest := []) (wr := fmR om_2_3 _) ⟨hx, hb, hml, hown, hts⟩ hl.1 (c_nm_qPuts l D cI cJ cC cZ cS mm g ta pa pe pd pb pp pf pg pn rt rn cd sn il tk am at_ aa mt_ wt wy it_ rm ud nu sd qn qw qo qb (qp - 2) qa qi oc 1 ql (by omega)) w_7_139 w_7_141 w_0_76 w_1_14 w_7_142 hd_X12_qPuts_1 ⟨⟨(Nat.le_of_ble_eq_true rfl), (Nat.le_of_ble_eq_true rfl)⟩, (Nat.le_of_ble_eq_true rfl), (Nat.le_of_ble_eq_true rfl)⟩ hK hP hD hS hA (fmT om_2_3 0) (fmF om_2_3 0) (fm_C1 rfl rfl) (fm_R rfl rfl) (fm_nT om_2_3 0) (fm_nF om_2_3 0) (fm_di om_2_3 0) rfl rfl rfl rfl (Nat.le_of_ble_eq_true rfl) dX12_qJoins_200 (fun u H locs hw hP hD hS => ?_)
      refine exE hw (fun ql2_46 hw1 => anE hw1 (fun hql_47 eu_48 => ?_))
      clear hw hw1
      refine o_mgE (ws' := [(mm, .inr (12, mo g (nI ta) (nI pa) (nI pe) pd (nI pb) pp pf pg pn rt rn (nI cd) sn (nI il) tk am at_ aa mt_ 0 (-1) wt wy (nI it_) (nI rm) (nI ud) (nI nu) sd (nI qn) (nI qw) qo (nI qb) (nI ((qp - 2) + 1)) qa (nI qi) (nI oc))), (g 86, .inl (cJ, 1700, .inr (.inl ql2_46)))]) eu_48 hP hD rfl (fun hP hD => ?_)
      refine lv_goto (tgt := 273) hx hb dX12_qJoins_203 (by decide) ?_
      exact sk_vret hx hb hr hlocks hK hP hD hS (⟨ql2_46, (show _ from absurd (kjo_c (k := 7) g_41 hc6 (by decide)) (by omega)), rfl⟩) (Nat.le_of_ble_eq_true rfl) (Nat.le_of_ble_eq_true rfl) dX12_qJoins_273
  by_cases g_49 : nI jop = 8
  · refine lv_tableIn (off := 170) (tgt := 206) hx hb dX12_qJoins_36 (by rw [g_49]; decide) (by rw [g_49]; decide) (by rw [g_49]; rfl) (by decide) ?_
    refine lv_aload_n hx hb dX12_qJoins_206 rfl (lv_at hl 2 rfl) ?_
    refine lv_lload hx hb dX12_qJoins_207 (lv_at hl 0 rfl) ?_
    refine lv_lload_n hx hb dX12_qJoins_209 rfl (lv_at hl 1 rfl) ?_
    refine W.lcmp hx hb dX12_qJoins_210 ?_
    refine lv_if_le (tgt := 218) hx hb dX12_qJoins_211 (by decide) (fun c_50 => ?_) (fun c_50 => ?_)
    · skip
      refine lv_lconst (v := 0) hx hb dX12_qJoins_218 (by decide) ?_
      refine sk_Vv (q0 := 0) (n := 1) (rest := []) (wr := fmR om_2_3 _) ⟨hx, hb, hml, hown, hts⟩ hl.1 (c_nm_qPuts l D cI cJ cC cZ cS mm g ta pa pe pd pb pp pf pg pn rt rn cd sn il tk am at_ aa mt_ wt wy it_ rm ud nu sd qn qw qo qb (qp - 2) qa qi oc 0 ql (by omega)) w_7_139 w_7_141 w_0_76 w_1_14 w_7_142 hd_X12_qPuts_1 ⟨⟨(Nat.le_of_ble_eq_true rfl), (Nat.le_of_ble_eq_true rfl)⟩, (Nat.le_of_ble_eq_true rfl), (Nat.le_of_ble_eq_true rfl)⟩ hK hP hD hS hA (fmT om_2_3 0) (fmF om_2_3 0) (fm_C1 rfl rfl) (fm_R rfl rfl) (fm_nT om_2_3 0) (fm_nF om_2_3 0) (fm_di om_2_3 0) rfl rfl rfl rfl (Nat.le_of_ble_eq_true rfl) dX12_qJoins_219 (fun u H locs hw hP hD hS => ?_)
      refine exE hw (fun ql2_51 hw1 => anE hw1 (fun hql_52 eu_53 => ?_))
      clear hw hw1
      refine o_mgE (ws' := [(mm, .inr (12, mo g (nI ta) (nI pa) (nI pe) pd (nI pb) pp pf pg pn rt rn (nI cd) sn (nI il) tk am at_ aa mt_ 0 (-1) wt wy (nI it_) (nI rm) (nI ud) (nI nu) sd (nI qn) (nI qw) qo (nI qb) (nI ((qp - 2) + 1)) qa (nI qi) (nI oc))), (g 86, .inl (cJ, 1700, .inr (.inl ql2_51)))]) eu_53 hP hD rfl (fun hP hD => ?_)
      refine lv_goto (tgt := 273) hx hb dX12_qJoins_222 (by decide) ?_
      exact sk_vret hx hb hr hlocks hK hP hD hS (⟨ql2_51, (show _ from absurd (kjo_c (k := 8) g_49 hc6 (by decide)) (by omega)), rfl⟩) (Nat.le_of_ble_eq_true rfl) (Nat.le_of_ble_eq_true rfl) dX12_qJoins_273
    · skip
      refine lv_lconst (v := 1) hx hb dX12_qJoins_214 (by decide) ?_
      refine lv_goto (tgt := 219) hx hb dX12_qJoins_215 (by decide) ?_
      refine sk_Vv (q0 := 0) (n := 1) (rest := []) (wr := fmR om_2_3 _) ⟨hx, hb, hml, hown, hts⟩ hl.1 (c_nm_qPuts l D cI cJ cC cZ cS mm g ta pa pe pd pb pp pf pg pn rt rn cd sn il tk am at_ aa mt_ wt wy it_ rm ud nu sd qn qw qo qb (qp - 2) qa qi oc 1 ql (by omega)) w_7_139 w_7_141 w_0_76 w_1_14 w_7_142 hd_X12_qPuts_1 ⟨⟨(Nat.le_of_ble_eq_true rfl), (Nat.le_of_ble_eq_true rfl)⟩, (Nat.le_of_ble_eq_true rfl), (Nat.le_of_ble_eq_true rfl)⟩ hK hP hD hS hA (fmT om_2_3 0) (fmF om_2_3 0) (fm_C1 rfl rfl) (fm_R rfl rfl) (fm_nT om_2_3 0) (fm_nF om_2_3 0) (fm_di om_2_3 0) rfl rfl rfl rfl (Nat.le_of_ble_eq_true rfl) dX12_qJoins_219 (fun u H locs hw hP hD hS => ?_)
      refine exE hw (fun ql2_54 hw1 => anE hw1 (fun hql_55 eu_56 => ?_))
      clear hw hw1
      refine o_mgE (ws' := [(mm, .inr (12, mo g (nI ta) (nI pa) (nI pe) pd (nI pb) pp pf pg pn rt rn (nI cd) sn (nI il) tk am at_ aa mt_ 0 (-1) wt wy (nI it_) (nI rm) (nI ud) (nI nu) sd (nI qn) (nI qw) qo (nI qb) (nI ((qp - 2) + 1)) qa (nI qi) (nI oc))), (g 86, .inl (cJ, 1700, .inr (.inl ql2_54)))]) eu_56 hP hD rfl (fun hP hD => ?_)
      refine lv_goto (tgt := 273) hx hb dX12_qJoins_222 (by decide) ?_
      exact sk_vret hx hb hr hlocks hK hP hD hS (⟨ql2_54, (show _ from absurd (kjo_c (k := 8) g_49 hc6 (by decide)) (by omega)), rfl⟩) (Nat.le_of_ble_eq_true rfl) (Nat.le_of_ble_eq_true rfl) dX12_qJoins_273
  by_cases g_57 : nI jop = 9
  · refine lv_tableIn (off := 189) (tgt := 225) hx hb dX12_qJoins_36 (by rw [g_57]; decide) (by rw [g_57]; decide) (by rw [g_57]; rfl) (by decide) ?_
    refine lv_aload_n hx hb dX12_qJoins_225 rfl (lv_at hl 2 rfl) ?_
    refine lv_lload hx hb dX12_qJoins_226 (lv_at hl 0 rfl) ?_
    refine lv_lload_n hx hb dX12_qJoins_228 rfl (lv_at hl 1 rfl) ?_
    refine W.lcmp hx hb dX12_qJoins_229 ?_
    refine lv_if_ne (tgt := 237) hx hb dX12_qJoins_230 (by decide) (fun c_58 => ?_) (fun c_58 => ?_)
    · skip
      refine lv_lconst (v := 0) hx hb dX12_qJoins_237 (by decide) ?_
      refine sk_Vv (q0 := 0) (n := 1) (rest := []) (wr := fmR om_2_3 _) ⟨hx, hb, hml, hown, hts⟩ hl.1 (c_nm_qPuts l D cI cJ cC cZ cS mm g ta pa pe pd pb pp pf pg pn rt rn cd sn il tk am at_ aa mt_ wt wy it_ rm ud nu sd qn qw qo qb (qp - 2) qa qi oc 0 ql (by omega)) w_7_139 w_7_141 w_0_76 w_1_14 w_7_142 hd_X12_qPuts_1 ⟨⟨(Nat.le_of_ble_eq_true rfl), (Nat.le_of_ble_eq_true rfl)⟩, (Nat.le_of_ble_eq_true rfl), (Nat.le_of_ble_eq_true rfl)⟩ hK hP hD hS hA (fmT om_2_3 0) (fmF om_2_3 0) (fm_C1 rfl rfl) (fm_R rfl rfl) (fm_nT om_2_3 0) (fm_nF om_2_3 0) (fm_di om_2_3 0) rfl rfl rfl rfl (Nat.le_of_ble_eq_true rfl) dX12_qJoins_238 (fun u H locs hw hP hD hS => ?_)
      refine exE hw (fun ql2_59 hw1 => anE hw1 (fun hql_60 eu_61 => ?_))
      clear hw hw1
      refine o_mgE (ws' := [(mm, .inr (12, mo g (nI ta) (nI pa) (nI pe) pd (nI pb) pp pf pg pn rt rn (nI cd) sn (nI il) tk am at_ aa mt_ 0 (-1) wt wy (nI it_) (nI rm) (nI ud) (nI nu) sd (nI qn) (nI qw) qo (nI qb) (nI ((qp - 2) + 1)) qa (nI qi) (nI oc))), (g 86, .inl (cJ, 1700, .inr (.inl ql2_59)))]) eu_61 hP hD rfl (fun hP hD => ?_)
      refine lv_goto (tgt := 273) hx hb dX12_qJoins_241 (by decide) ?_
      exact sk_vret hx hb hr hlocks hK hP hD hS (⟨ql2_59, (show _ from absurd (kjo_c (k := 9) g_57 hc6 (by decide)) (by omega)), rfl⟩) (Nat.le_of_ble_eq_true rfl) (Nat.le_of_ble_eq_true rfl) dX12_qJoins_273
    · skip
      refine lv_lconst (v := 1) hx hb dX12_qJoins_233 (by decide) ?_
      refine lv_goto (tgt := 238) hx hb dX12_qJoins_234 (by decide) ?_
      refine sk_Vv (q0 := 0) (n := 1) (rest := []) (wr := fmR om_2_3 _) ⟨hx, hb, hml, hown, hts⟩ hl.1 (c_nm_qPuts l D cI cJ cC cZ cS mm g ta pa pe pd pb pp pf pg pn rt rn cd sn il tk am at_ aa mt_ wt wy it_ rm ud nu sd qn qw qo qb (qp - 2) qa qi oc 1 ql (by omega)) w_7_139 w_7_141 w_0_76 w_1_14 w_7_142 hd_X12_qPuts_1 ⟨⟨(Nat.le_of_ble_eq_true rfl), (Nat.le_of_ble_eq_true rfl)⟩, (Nat.le_of_ble_eq_true rfl), (Nat.le_of_ble_eq_true rfl)⟩ hK hP hD hS hA (fmT om_2_3 0) (fmF om_2_3 0) (fm_C1 rfl rfl) (fm_R rfl rfl) (fm_nT om_2_3 0) (fm_nF om_2_3 0) (fm_di om_2_3 0) rfl rfl rfl rfl (Nat.le_of_ble_eq_true rfl) dX12_qJoins_238 (fun u H locs hw hP hD hS => ?_)
      refine exE hw (fun ql2_62 hw1 => anE hw1 (fun hql_63 eu_64 => ?_))
      clear hw hw1
      refine o_mgE (ws' := [(mm, .inr (12, mo g (nI ta) (nI pa) (nI pe) pd (nI pb) pp pf pg pn rt rn (nI cd) sn (nI il) tk am at_ aa mt_ 0 (-1) wt wy (nI it_) (nI rm) (nI ud) (nI nu) sd (nI qn) (nI qw) qo (nI qb) (nI ((qp - 2) + 1)) qa (nI qi) (nI oc))), (g 86, .inl (cJ, 1700, .inr (.inl ql2_62)))]) eu_64 hP hD rfl (fun hP hD => ?_)
      refine lv_goto (tgt := 273) hx hb dX12_qJoins_241 (by decide) ?_
      exact sk_vret hx hb hr hlocks hK hP hD hS (⟨ql2_62, (show _ from absurd (kjo_c (k := 9) g_57 hc6 (by decide)) (by omega)), rfl⟩) (Nat.le_of_ble_eq_true rfl) (Nat.le_of_ble_eq_true rfl) dX12_qJoins_273
  by_cases g_65 : nI jop = 10
  · refine lv_tableIn (off := 208) (tgt := 244) hx hb dX12_qJoins_36 (by rw [g_65]; decide) (by rw [g_65]; decide) (by rw [g_65]; rfl) (by decide) ?_
    refine lv_aload_n hx hb dX12_qJoins_244 rfl (lv_at hl 2 rfl) ?_
    refine lv_lload hx hb dX12_qJoins_245 (lv_at hl 0 rfl) ?_
    refine lv_lload_n hx hb dX12_qJoins_247 rfl (lv_at hl 1 rfl) ?_
    refine lv_lmul hx hb dX12_qJoins_248 ?_
    refine lv_topl (fun v_66 ev_66 => ?_)
    refine sk_Vv (q0 := 0) (n := 1) (rest := []) (wr := fmR om_2_3 _) ⟨hx, hb, hml, hown, hts⟩ hl.1 (c_nm_qPuts l D cI cJ cC cZ cS mm g ta pa pe pd pb pp pf pg pn rt rn cd sn il tk am at_ aa mt_ wt wy it_ rm ud nu sd qn qw qo qb (qp - 2) qa qi oc v_66 ql (by omega)) w_7_139 w_7_141 w_0_76 w_1_14 w_7_142 hd_X12_qPuts_1 ⟨⟨(Nat.le_of_ble_eq_true rfl), (Nat.le_of_ble_eq_true rfl)⟩, (Nat.le_of_ble_eq_true rfl), (Nat.le_of_ble_eq_true rfl)⟩ hK hP hD hS hA (fmT om_2_3 0) (fmF om_2_3 0) (fm_C1 rfl rfl) (fm_R rfl rfl) (fm_nT om_2_3 0) (fm_nF om_2_3 0) (fm_di om_2_3 0) rfl rfl rfl rfl (Nat.le_of_ble_eq_true rfl) dX12_qJoins_249 (fun u H locs hw hP hD hS => ?_)
    refine exE hw (fun ql2_67 hw1 => anE hw1 (fun hql_68 eu_69 => ?_))
    clear hw hw1
    refine o_mgE (ws' := [(mm, .inr (12, mo g (nI ta) (nI pa) (nI pe) pd (nI pb) pp pf pg pn rt rn (nI cd) sn (nI il) tk am at_ aa mt_ 0 (-1) wt wy (nI it_) (nI rm) (nI ud) (nI nu) sd (nI qn) (nI qw) qo (nI qb) (nI ((qp - 2) + 1)) qa (nI qi) (nI oc))), (g 86, .inl (cJ, 1700, .inr (.inl ql2_67)))]) eu_69 hP hD rfl (fun hP hD => ?_)
    refine lv_goto (tgt := 273) hx hb dX12_qJoins_252 (by decide) ?_
    exact sk_vret hx hb hr hlocks hK hP hD hS (⟨ql2_67, (show _ from absurd (kjo_c (k := 10) g_65 hc6 (by decide)) (by omega)), rfl⟩) (Nat.le_of_ble_eq_true rfl) (Nat.le_of_ble_eq_true rfl) dX12_qJoins_273
  refine lv_tableOut (tgt := 255) hx hb dX12_qJoins_36 (sk_out2 1 10 (by intro k hk1 hk2; rcases (show k = 1 ∨ k = 2 ∨ k = 3 ∨ k = 4 ∨ k = 5 ∨ k = 6 ∨ k = 7 ∨ k = 8 ∨ k = 9 ∨ k = 10 by omega) with rfl | rfl | rfl | rfl | rfl | rfl | rfl | rfl | rfl | rfl <;> assumption)) (by decide) ?_
  refine lv_aload_n hx hb dX12_qJoins_255 rfl (lv_at hl 2 rfl) ?_
  refine lv_lload hx hb dX12_qJoins_256 (lv_at hl 0 rfl) ?_
  refine lv_lload_n hx hb dX12_qJoins_258 rfl (lv_at hl 1 rfl) ?_
  refine lv_ladd hx hb dX12_qJoins_259 ?_
  refine lv_topl (fun v_70 ev_70 => ?_)
  refine lv_lconst (v := 0) hx hb dX12_qJoins_260 (by decide) ?_
  refine W.lcmp hx hb dX12_qJoins_261 ?_
  refine lv_if_le (tgt := 269) hx hb dX12_qJoins_262 (by decide) (fun c_71 => ?_) (fun c_71 => ?_)
  · skip
    refine lv_lconst (v := 0) hx hb dX12_qJoins_269 (by decide) ?_
    refine sk_Vv (q0 := 0) (n := 1) (rest := []) (wr := fmR om_2_3 _) ⟨hx, hb, hml, hown, hts⟩ hl.1 (c_nm_qPuts l D cI cJ cC cZ cS mm g ta pa pe pd pb pp pf pg pn rt rn cd sn il tk am at_ aa mt_ wt wy it_ rm ud nu sd qn qw qo qb (qp - 2) qa qi oc 0 ql (by omega)) w_7_139 w_7_141 w_0_76 w_1_14 w_7_142 hd_X12_qPuts_1 ⟨⟨(Nat.le_of_ble_eq_true rfl), (Nat.le_of_ble_eq_true rfl)⟩, (Nat.le_of_ble_eq_true rfl), (Nat.le_of_ble_eq_true rfl)⟩ hK hP hD hS hA (fmT om_2_3 0) (fmF om_2_3 0) (fm_C1 rfl rfl) (fm_R rfl rfl) (fm_nT om_2_3 0) (fm_nF om_2_3 0) (fm_di om_2_3 0) rfl rfl rfl rfl (Nat.le_of_ble_eq_true rfl) dX12_qJoins_270 (fun u H locs hw hP hD hS => ?_)
    refine exE hw (fun ql2_72 hw1 => anE hw1 (fun hql_73 eu_74 => ?_))
    clear hw hw1
    refine o_mgE (ws' := [(mm, .inr (12, mo g (nI ta) (nI pa) (nI pe) pd (nI pb) pp pf pg pn rt rn (nI cd) sn (nI il) tk am at_ aa mt_ 0 (-1) wt wy (nI it_) (nI rm) (nI ud) (nI nu) sd (nI qn) (nI qw) qo (nI qb) (nI ((qp - 2) + 1)) qa (nI qi) (nI oc))), (g 86, .inl (cJ, 1700, .inr (.inl ql2_72)))]) eu_74 hP hD rfl (fun hP hD => ?_)
    exact sk_vret hx hb hr hlocks hK hP hD hS (⟨ql2_72, (kjo_f hc1 hc6 (by assumption) (by assumption) (by assumption) (by assumption) (by assumption) (by assumption)).elim, rfl⟩) (Nat.le_of_ble_eq_true rfl) (Nat.le_of_ble_eq_true rfl) dX12_qJoins_273
  · skip
    refine lv_lconst (v := 1) hx hb dX12_qJoins_265 (by decide) ?_
    refine lv_goto (tgt := 270) hx hb dX12_qJoins_266 (by decide) ?_
    refine sk_Vv (q0 := 0) (n := 1) (rest := []) (wr := fmR om_2_3 _) ⟨hx, hb, hml, hown, hts⟩ hl.1 (c_nm_qPuts l D cI cJ cC cZ cS mm g ta pa pe pd pb pp pf pg pn rt rn cd sn il tk am at_ aa mt_ wt wy it_ rm ud nu sd qn qw qo qb (qp - 2) qa qi oc 1 ql (by omega)) w_7_139 w_7_141 w_0_76 w_1_14 w_7_142 hd_X12_qPuts_1 ⟨⟨(Nat.le_of_ble_eq_true rfl), (Nat.le_of_ble_eq_true rfl)⟩, (Nat.le_of_ble_eq_true rfl), (Nat.le_of_ble_eq_true rfl)⟩ hK hP hD hS hA (fmT om_2_3 0) (fmF om_2_3 0) (fm_C1 rfl rfl) (fm_R rfl rfl) (fm_nT om_2_3 0) (fm_nF om_2_3 0) (fm_di om_2_3 0) rfl rfl rfl rfl (Nat.le_of_ble_eq_true rfl) dX12_qJoins_270 (fun u H locs hw hP hD hS => ?_)
    refine exE hw (fun ql2_75 hw1 => anE hw1 (fun hql_76 eu_77 => ?_))
    clear hw hw1
    refine o_mgE (ws' := [(mm, .inr (12, mo g (nI ta) (nI pa) (nI pe) pd (nI pb) pp pf pg pn rt rn (nI cd) sn (nI il) tk am at_ aa mt_ 0 (-1) wt wy (nI it_) (nI rm) (nI ud) (nI nu) sd (nI qn) (nI qw) qo (nI qb) (nI ((qp - 2) + 1)) qa (nI qi) (nI oc))), (g 86, .inl (cJ, 1700, .inr (.inl ql2_75)))]) eu_77 hP hD rfl (fun hP hD => ?_)
    exact sk_vret hx hb hr hlocks hK hP hD hS (⟨ql2_75, (kjo_f hc1 hc6 (by assumption) (by assumption) (by assumption) (by assumption) (by assumption) (by assumption)).elim, rfl⟩) (Nat.le_of_ble_eq_true rfl) (Nat.le_of_ble_eq_true rfl) dX12_qJoins_273

