set_option maxHeartbeats 4000000 in
set_option maxRecDepth 100000 in
theorem c_nm_codesTell1 (l : Launch) (D : va_G) (cI cJ cC cZ cS : ClassId) (mm : Nat) (g : Nat → Nat) (ta : Nat) (pa : Nat) (pe : Nat) (pd : Int32) (pb : Nat) (pp : Int32) (pf : Int32) (pg : Int32) (pn : Int32) (rt : Int32) (rn : Int32) (cd : Nat) (sn : Int32) (il : Nat) (tk : Int32) (am : Int32) (at_ : Int32) (aa : Int32) (mt_ : Int32) (wt : Int32) (wy : Int64) (it_ : Nat) (rm : Nat) (ud : Nat) (nu : Nat) (sd : Int64) (qn : Nat) (qw : Nat) (qo : Int32) (qb : Nat) (qp : Nat) (qa : Int64) (qi : Nat) (oc : Nat) (d : Nat) (u0 : Int32) (u1 : Int32) (u2 : Int32) (u3 : Int32) (u5 : Int32) (ca : Nat) (v0 : Int32) (v1 : Int32) (v2 : Int32) (v3 : Int32) (v5 : Int32) (cb : Nat) (cs : Nat → Nat) (nw : Nat → Int32) (pt : Nat → Nat) (ql : Nat → Int64) (K : List Nat) (nm : Nat → Int64) (v : Int64) (kn : Nat) (hd : d < 9) (hab : ca ≤ cb) (hbk : cb ≤ K.length) (hkl : K.length ≤ 1600) (hKc : ∀ j, j < K.length → cs (1600 + j) = K.getD j 0) (hkn : kn < 2) (hns : kcNs kn (kcSub K (ca, cb))) (hnm : mnO nm am at_ aa nw d) (hex : kcEx nm 64 (kcSub K (ca, cb)) [] = some [v]) (hcs : ∀ j, cs j ≤ 20000) (hnw : nowOk nw) (hpt : ∀ j, pt j ≤ 9) : skM l yX12_codesTell cX12_codesTell 5 (some .long) 2 50 0 0 D (skT cI cJ cC cZ cS) [.ref mm, .int 1, .int (nI d)] [(mm, .inr (12, mo g (nI ta) (nI pa) (nI pe) pd (nI pb) pp pf pg pn rt rn (nI cd) sn (nI il) tk am at_ aa mt_ 0 (-1) wt wy (nI it_) (nI rm) (nI ud) (nI nu) sd (nI qn) (nI qw) qo (nI qb) (nI qp) qa (nI qi) (nI oc))), (g 24, .inl (cI, 6, .inl (l6 u0 u1 u2 u3 (nI ca) u5))), (g 25, .inl (cI, 6, .inl (l6 v0 v1 v2 v3 (nI cb) v5))), (g 26, .inl (cI, 3200, .inl (fun j => nI (cs j)))), (g 31, .inl (cI, 120, .inl nw)), (g 46, .inl (cI, 9, .inl (fun j => nI (pt j)))), (g 86, .inl (cJ, 1700, .inr (.inl ql)))] (skL D (skT cI cJ cC cZ cS) (fun (r : Int64) (u : va_W) => ∃ (qp2 : Nat), ∃ (ql2 : Nat → Int64), r = v ∧ u = [(mm, .inr (12, mo g (nI ta) (nI pa) (nI pe) pd (nI pb) pp pf pg pn rt rn (nI cd) sn (nI il) 1 am at_ aa mt_ 0 (-1) wt wy (nI it_) (nI rm) (nI ud) (nI nu) sd (nI qn) (nI qw) qo (nI qb) (nI qp2) qa (nI qi) (nI oc))), (g 24, .inl (cI, 6, .inl (l6 u0 u1 u2 u3 (nI ca) u5))), (g 25, .inl (cI, 6, .inl (l6 v0 v1 v2 v3 (nI cb) v5))), (g 26, .inl (cI, 3200, .inl (fun j => nI (cs j)))), (g 31, .inl (cI, 120, .inl nw)), (g 46, .inl (cI, 9, .inl (fun j => nI (pt j)))), (g 86, .inl (cJ, 1700, .inr (.inl ql2)))])) := by
  refine skM_of pf_X12_codesTell (Nat.le_of_ble_eq_true rfl) ?_
  intro p e s m below meth c A ls E hP hD hl
  refine skE_el E (fun hx hb hr hml hlocks hin hown hts hK hA => ?_)
  have hown : s.vm.findClass RX12 = some m.cls := hown
  have hS : va_S A s.heap s.heap [] := va_S.rf
  have hl : lv_has ls 5 [(0, .ref mm), (1, .int 1), (2, .int (nI d))] := hl
  refine lv_aload_n hx hb dX12_codesTell_0 rfl (lv_at hl 0 rfl) ?_
  refine lv_iload_n hx hb dX12_codesTell_1 rfl (lv_at hl 1 rfl) ?_
  refine lv_iconst (v := 1) hx hb dX12_codesTell_2 (by decide) ?_
  refine lv_icmp_ne (tgt := 10) hx hb dX12_codesTell_3 (by decide) (fun c => absurd c (by decide)) (fun c_1 => ?_)
  refine lv_iconst (v := 1) hx hb dX12_codesTell_6 (by decide) ?_
  refine lv_goto (tgt := 11) hx hb dX12_codesTell_7 (by decide) ?_
  refine sk_put (ws' := [(mm, .inr (12, mo g (nI ta) (nI pa) (nI pe) pd (nI pb) pp pf pg pn rt rn (nI cd) sn (nI il) 1 am at_ aa mt_ 0 (-1) wt wy (nI it_) (nI rm) (nI ud) (nI nu) sd (nI qn) (nI qw) qo (nI qb) (nI qp) qa (nI qi) (nI oc))), (g 24, .inl (cI, 6, .inl (l6 u0 u1 u2 u3 (nI ca) u5))), (g 25, .inl (cI, 6, .inl (l6 v0 v1 v2 v3 (nI cb) v5))), (g 26, .inl (cI, 3200, .inl (fun j => nI (cs j)))), (g 31, .inl (cI, 120, .inl nw)), (g 46, .inl (cI, 9, .inl (fun j => nI (pt j)))), (g 86, .inl (cJ, 1700, .inr (.inl ql)))]) (C := RX12) (T := TX12) (N := 92) (v := .int 1) hx hb hts inlX12 tyX12 tyX12_ok nmX12 hown hK hP hD hS 0 rfl rfl 30 (by decide) w_5_185 rfl rfl rfl (Nat.le_of_ble_eq_true rfl) rfl dX12_codesTell_11 (fun H locs hP hD hS => ?_)
  refine lv_aload_n hx hb dX12_codesTell_14 rfl (lv_at hl 0 rfl) ?_
  refine lv_iconst (v := 0) hx hb dX12_codesTell_15 (by decide) ?_
  refine sk_put (ws' := [(mm, .inr (12, mo g (nI ta) (nI pa) (nI pe) pd (nI pb) pp pf pg pn rt rn (nI cd) sn (nI il) 1 am at_ aa mt_ 0 (-1) wt wy (nI it_) (nI rm) (nI ud) (nI nu) sd (nI qn) (nI qw) qo (nI qb) 0 qa (nI qi) (nI oc))), (g 24, .inl (cI, 6, .inl (l6 u0 u1 u2 u3 (nI ca) u5))), (g 25, .inl (cI, 6, .inl (l6 v0 v1 v2 v3 (nI cb) v5))), (g 26, .inl (cI, 3200, .inl (fun j => nI (cs j)))), (g 31, .inl (cI, 120, .inl nw)), (g 46, .inl (cI, 9, .inl (fun j => nI (pt j)))), (g 86, .inl (cJ, 1700, .inr (.inl ql)))]) (C := RX12) (T := TX12) (N := 92) (v := .int 0) hx hb hts inlX12 tyX12 tyX12_ok nmX12 hown hK hP hD hS 0 rfl rfl 87 (by decide) w_6_2 rfl rfl rfl (Nat.le_of_ble_eq_true rfl) rfl dX12_codesTell_16 (fun H locs hP hD hS => ?_)
  refine lv_aload_n hx hb dX12_codesTell_19 rfl (lv_at hl 0 rfl) ?_
  refine sk_get (v := .ref (g 24)) (C := RX12) (T := TX12) (N := 92) hx hb hts inlX12 hown hK hP 0 rfl rfl 24 (by decide) w_5_179 rfl dX12_codesTell_20 ?_
  refine lv_iconst (v := 3) hx hb dX12_codesTell_23 (by decide) ?_
  refine lv_iload_n hx hb dX12_codesTell_24 rfl (lv_at hl 1 rfl) ?_
  refine lv_iadd hx hb dX12_codesTell_25 ?_
  refine sk_top 4 (by decide) ?_
  refine va_iald hx hb hK.1 hP 1 0 rfl rfl (by unfold vp_in; decide) dX12_codesTell_26 ?_
  refine sk_top (nI ca) rfl ?_
  refine lv_istore_n (lv' := [(3, .int (nI ca)), (0, .ref mm), (1, .int 1), (2, .int (nI d))]) hx hb dX12_codesTell_27 rfl hl (by decide) rfl (fun ls hl => ?_)
  have lp_2 : ∀ (n_3 : Nat) (i : Nat) (zq : Nat) (zl : Nat → Int64) (SS : List Int64) (H : Heap) (locs : List Loc) (ls : Array Slot), cb - i < n_3 → (ca ≤ i) → (i ≤ cb) → (zq = SS.length) → (zq ≤ 64) → (stkO zl SS) → (kcNs kn (kcSub K (i, cb))) → (kcEx nm 64 (kcSub K (i, cb)) SS = some [v]) → va_P D vwCl [(mm, .inr (12, mo g (nI ta) (nI pa) (nI pe) pd (nI pb) pp pf pg pn rt rn (nI cd) sn (nI il) 1 am at_ aa mt_ 0 (-1) wt wy (nI it_) (nI rm) (nI ud) (nI nu) sd (nI qn) (nI qw) qo (nI qb) (nI zq) qa (nI qi) (nI oc))), (g 24, .inl (cI, 6, .inl (l6 u0 u1 u2 u3 (nI ca) u5))), (g 25, .inl (cI, 6, .inl (l6 v0 v1 v2 v3 (nI cb) v5))), (g 26, .inl (cI, 3200, .inl (fun j => nI (cs j)))), (g 31, .inl (cI, 120, .inl nw)), (g 46, .inl (cI, 9, .inl (fun j => nI (pt j)))), (g 86, .inl (cJ, 1700, .inr (.inl zl)))] H → va_D A [(mm, .inr (12, mo g (nI ta) (nI pa) (nI pe) pd (nI pb) pp pf pg pn rt rn (nI cd) sn (nI il) 1 am at_ aa mt_ 0 (-1) wt wy (nI it_) (nI rm) (nI ud) (nI nu) sd (nI qn) (nI qw) qo (nI qb) (nI zq) qa (nI qi) (nI oc))), (g 24, .inl (cI, 6, .inl (l6 u0 u1 u2 u3 (nI ca) u5))), (g 25, .inl (cI, 6, .inl (l6 v0 v1 v2 v3 (nI cb) v5))), (g 26, .inl (cI, 3200, .inl (fun j => nI (cs j)))), (g 31, .inl (cI, 120, .inl nw)), (g 46, .inl (cI, 9, .inl (fun j => nI (pt j)))), (g 86, .inl (cJ, 1700, .inr (.inl zl)))] → va_S A s.heap H locs → lv_has ls 5 [(3, .int (nI i)), (0, .ref mm), (1, .int 1), (2, .int (nI d))] → W p l e { frames := 2, cells := 0, slots := 0, locals := 50 } s m ([.ref mm, .int 1, .int (nI d)] : List Value).toArray below meth c H locs 0 0 (MQ below (skL D (skT cI cJ cC cZ cS) (fun (r : Int64) (u : va_W) => ∃ (qp2 : Nat), ∃ (ql2 : Nat → Int64), r = v ∧ u = [(mm, .inr (12, mo g (nI ta) (nI pa) (nI pe) pd (nI pb) pp pf pg pn rt rn (nI cd) sn (nI il) 1 am at_ aa mt_ 0 (-1) wt wy (nI it_) (nI rm) (nI ud) (nI nu) sd (nI qn) (nI qw) qo (nI qb) (nI qp2) qa (nI qi) (nI oc))), (g 24, .inl (cI, 6, .inl (l6 u0 u1 u2 u3 (nI ca) u5))), (g 25, .inl (cI, 6, .inl (l6 v0 v1 v2 v3 (nI cb) v5))), (g 26, .inl (cI, 3200, .inl (fun j => nI (cs j)))), (g 31, .inl (cI, 120, .inl nw)), (g 46, .inl (cI, 9, .inl (fun j => nI (pt j)))), (g 86, .inl (cJ, 1700, .inr (.inl ql2)))]) A) ([.ref mm, .int 1, .int (nI d)] : List Value).toArray s 0 0 A) (F0 m 28 ls []) := by
    intro n_3
    induction n_3 with
    | zero => intro i zq zl SS H locs ls hm; exact absurd hm (Nat.not_lt_zero _)
    | succ n_3 ih_lp_2 =>
      intro i zq zl SS H locs ls hm hi1 hi2 hzq0 hzq1 hst hns2 hex2 hP hD hS hl
      refine lv_iload_n hx hb dX12_codesTell_28 rfl (lv_at hl 0 rfl) ?_
      refine lv_aload_n hx hb dX12_codesTell_29 rfl (lv_at hl 1 rfl) ?_
      refine sk_get (v := .ref (g 25)) (C := RX12) (T := TX12) (N := 92) hx hb hts inlX12 hown hK hP 0 rfl rfl 25 (by decide) w_5_180 rfl dX12_codesTell_30 ?_
      refine lv_iconst (v := 3) hx hb dX12_codesTell_33 (by decide) ?_
      refine lv_iload_n hx hb dX12_codesTell_34 rfl (lv_at hl 2 rfl) ?_
      refine lv_iadd hx hb dX12_codesTell_35 ?_
      refine sk_top 4 (by decide) ?_
      refine va_iald hx hb hK.1 hP 2 0 rfl rfl (by unfold vp_in; decide) dX12_codesTell_36 ?_
      refine sk_top (nI cb) rfl ?_
      refine lv_icmp_ge (tgt := 110) hx hb dX12_codesTell_37 (by decide) (fun c_4 => ?_) (fun c_4 => ?_)
      · have c_4 : cb ≤ i := (nle cb i (by omega) (by omega)).mp c_4
        obtain rfl := kx_end hex2 (by omega)
        have htp3 : zq = 1 := hzq0
        refine lv_aload_n hx hb dX12_codesTell_110 rfl (lv_at hl 1 rfl) ?_
        refine sk_get (v := .ref (g 86)) (C := RX12) (T := TX12) (N := 92) hx hb hts inlX12 hown hK hP 0 rfl rfl 86 (by decide) w_6_1 rfl dX12_codesTell_111 ?_
        refine lv_iconst (v := 0) hx hb dX12_codesTell_114 (by decide) ?_
        refine va_lald hx hb hK.1 hP 6 1 rfl rfl (by unfold vp_in; decide) dX12_codesTell_115 ?_
        refine sk_topl v (hst.1) ?_
        exact sk_lret hx hb hr hlocks hK hP hD hS (⟨zq, zl, rfl, rfl⟩) (Nat.le_of_ble_eq_true rfl) (Nat.le_of_ble_eq_true rfl) dX12_codesTell_116
      · have c_4 : ¬ (cb ≤ i) := fun h => c_4 ((nle cb i (by omega) (by omega)).mpr h)
        have hib : i < cb := by omega
        rw [kcSub_c hib (by omega), ← hKc i (by omega)] at hex2 hns2
        have hns3 : kcNs kn (kcSub K (i + 1, cb)) := fun x hx => hns2 x (List.mem_cons_of_mem _ hx)
        obtain ⟨T, hT1, hT2, hT3⟩ := kcEx_c hex2
        rcases kx_c3 hkn (hns2 _ (List.mem_cons_self ..)) with ⟨hc1, hc2⟩ | ⟨hc1, hc2⟩ | ⟨hc1, hc2⟩
        · obtain ⟨b1, a1, R1, rfl, rfl⟩ := kcSt_two (by omega) hT1
          have htp2 : zq = R1.length + 2 := hzq0
          refine lv_aload_n hx hb dX12_codesTell_40 rfl (lv_at hl 1 rfl) ?_
          refine sk_get (v := .ref (g 26)) (C := RX12) (T := TX12) (N := 92) hx hb hts inlX12 hown hK hP 0 rfl rfl 26 (by decide) w_5_181 rfl dX12_codesTell_41 ?_
          refine lv_sipush (v := 1600) hx hb dX12_codesTell_44 (by decide) ?_
          refine lv_iload_n hx hb dX12_codesTell_47 rfl (lv_at hl 0 rfl) ?_
          refine lv_iadd hx hb dX12_codesTell_48 ?_
          refine sk_top (nI (1600 + i)) (nI_add 1600 i) ?_
          refine va_iald hx hb hK.1 hP 3 0 rfl rfl (vin (1600 + i) 3200 (by omega) (by omega)) dX12_codesTell_49 ?_
          refine sk_top (nI (cs (1600 + i))) (nrd cs (1600 + i) (by omega)) ?_
          have hb_5 := hcs (1600 + i)
          refine lv_istore (lv' := [(4, .int (nI (cs (1600 + i)))), (3, .int (nI i)), (0, .ref mm), (1, .int 1), (2, .int (nI d))]) hx hb dX12_codesTell_50 hl (by decide) rfl (fun ls hl => ?_)
          refine lv_iload hx hb dX12_codesTell_52 (lv_at hl 0 rfl) ?_
          refine lv_sipush (v := 1000) hx hb dX12_codesTell_54 (by decide) ?_
          refine lv_icmp_lt (tgt := 74) hx hb dX12_codesTell_57 (by decide) (fun c_6 => ?_) (fun c => absurd ((nlt (cs (1600 + i)) 1000 (by omega) (by omega)).mpr (by omega)) c)
          refine lv_iload hx hb dX12_codesTell_74 (lv_at hl 0 rfl) ?_
          refine lv_bipush (v := 40) hx hb dX12_codesTell_76 (by decide) ?_
          refine lv_icmp_lt (tgt := 98) hx hb dX12_codesTell_78 (by decide) (fun c_7 => ?_) (fun c => absurd ((nlt (cs (1600 + i)) 40 (by omega) (by omega)).mpr (by omega)) c)
          refine lv_aload_n hx hb dX12_codesTell_98 rfl (lv_at hl 2 rfl) ?_
          refine lv_iload hx hb dX12_codesTell_99 (lv_at hl 0 rfl) ?_
          refine sk_Vv (q0 := 0) (n := 1) (rest := []) (wr := fmR om_7_41 _) ⟨hx, hb, hml, hown, hts⟩ hl.1 (c_nm_qJoins l D cI cJ cC cZ cS mm g ta pa pe pd pb pp pf pg pn rt rn cd sn il 1 am at_ aa mt_ wt wy it_ rm ud nu sd qn qw qo qb zq qa qi oc (cs (1600 + i)) zl a1 b1 R1 (by omega) (by omega) hst (by omega) (by omega)) w_7_156 w_7_158 w_0_80 w_1_14 w_7_159 hd_X12_qJoins_1 ⟨⟨(Nat.le_of_ble_eq_true rfl), (Nat.le_of_ble_eq_true rfl)⟩, (Nat.le_of_ble_eq_true rfl), (Nat.le_of_ble_eq_true rfl)⟩ hK hP hD hS hA (fmT om_7_41 0) (fmF om_7_41 0) (fm_C1 rfl rfl) (fm_R rfl rfl) (fm_nT om_7_41 0) (fm_nF om_7_41 0) (fm_di om_7_41 0) rfl rfl rfl rfl (Nat.le_of_ble_eq_true rfl) dX12_codesTell_101 (fun u H locs hw hP hD hS => ?_)
          refine exE hw (fun ql2_8 hw1 => anE hw1 (fun hst2_9 eu_10 => ?_))
          clear hw hw1
          refine o_mgE (ws' := [(mm, .inr (12, mo g (nI ta) (nI pa) (nI pe) pd (nI pb) pp pf pg pn rt rn (nI cd) sn (nI il) 1 am at_ aa mt_ 0 (-1) wt wy (nI it_) (nI rm) (nI ud) (nI nu) sd (nI qn) (nI qw) qo (nI qb) (nI (zq - 2 + 1)) qa (nI qi) (nI oc))), (g 24, .inl (cI, 6, .inl (l6 u0 u1 u2 u3 (nI ca) u5))), (g 25, .inl (cI, 6, .inl (l6 v0 v1 v2 v3 (nI cb) v5))), (g 26, .inl (cI, 3200, .inl (fun j => nI (cs j)))), (g 31, .inl (cI, 120, .inl nw)), (g 46, .inl (cI, 9, .inl (fun j => nI (pt j)))), (g 86, .inl (cJ, 1700, .inr (.inl ql2_8)))]) eu_10 hP hD rfl (fun hP hD => ?_)
          refine lv_iinc (v := nI (i + 1)) (lv' := [(3, .int (nI (i + 1))), (4, .int (nI (cs (1600 + i)))), (0, .ref mm), (1, .int 1), (2, .int (nI d))]) hx hb dX12_codesTell_104 hl (k := 1) rfl (ninc i 1 (by decide)) (by decide) rfl (fun ls hl => ?_)
          refine lv_goto (tgt := 28) hx hb dX12_codesTell_107 (by decide) ?_
          exact ih_lp_2 (i + 1) (zq - 2 + 1) ql2_8 (kcOp (cs (1600 + i)) a1 b1 :: R1) _ _ _ (by omega) (by omega) (by omega) (show _ = R1.length + 1 by omega) (by omega) hst2_9 hns3 hT3 hP hD hS (lv_sub hl [0, 2, 3, 4] rfl)
        · rw [kcSt_num (by omega)] at hT1
          obtain rfl := Option.some.inj hT1
          have htp2 : SS.length + 1 ≤ 64 := hT2
          refine lv_aload_n hx hb dX12_codesTell_40 rfl (lv_at hl 1 rfl) ?_
          refine sk_get (v := .ref (g 26)) (C := RX12) (T := TX12) (N := 92) hx hb hts inlX12 hown hK hP 0 rfl rfl 26 (by decide) w_5_181 rfl dX12_codesTell_41 ?_
          refine lv_sipush (v := 1600) hx hb dX12_codesTell_44 (by decide) ?_
          refine lv_iload_n hx hb dX12_codesTell_47 rfl (lv_at hl 0 rfl) ?_
          refine lv_iadd hx hb dX12_codesTell_48 ?_
          refine sk_top (nI (1600 + i)) (nI_add 1600 i) ?_
          refine va_iald hx hb hK.1 hP 3 0 rfl rfl (vin (1600 + i) 3200 (by omega) (by omega)) dX12_codesTell_49 ?_
          refine sk_top (nI (cs (1600 + i))) (nrd cs (1600 + i) (by omega)) ?_
          have hb_11 := hcs (1600 + i)
          refine lv_istore (lv' := [(4, .int (nI (cs (1600 + i)))), (3, .int (nI i)), (0, .ref mm), (1, .int 1), (2, .int (nI d))]) hx hb dX12_codesTell_50 hl (by decide) rfl (fun ls hl => ?_)
          refine lv_iload hx hb dX12_codesTell_52 (lv_at hl 0 rfl) ?_
          refine lv_sipush (v := 1000) hx hb dX12_codesTell_54 (by decide) ?_
          refine lv_icmp_lt (tgt := 74) hx hb dX12_codesTell_57 (by decide) (fun c => absurd ((nlt (cs (1600 + i)) 1000 (by omega) (by omega)).mp c) (by omega)) (fun c_12 => ?_)
          refine lv_aload_n hx hb dX12_codesTell_60 rfl (lv_at hl 2 rfl) ?_
          refine lv_iload hx hb dX12_codesTell_61 (lv_at hl 0 rfl) ?_
          refine lv_sipush (v := 1000) hx hb dX12_codesTell_63 (by decide) ?_
          refine lv_isub hx hb dX12_codesTell_66 ?_
          refine sk_top (nI (cs (1600 + i) - 1000)) (nsub (cs (1600 + i)) 1000 (by omega)) ?_
          refine lv_i2l hx hb dX12_codesTell_67 rfl ?_
          refine sk_Vv (q0 := 0) (n := 1) (rest := []) (wr := fmR om_7_41 _) ⟨hx, hb, hml, hown, hts⟩ hl.1 (c_nm_qPuts l D cI cJ cC cZ cS mm g ta pa pe pd pb pp pf pg pn rt rn cd sn il 1 am at_ aa mt_ wt wy it_ rm ud nu sd qn qw qo qb zq qa qi oc (Int32.toInt64 (nI (cs (1600 + i) - 1000))) zl (by omega)) w_7_139 w_7_141 w_0_76 w_1_14 w_7_142 hd_X12_qPuts_1 ⟨⟨(Nat.le_of_ble_eq_true rfl), (Nat.le_of_ble_eq_true rfl)⟩, (Nat.le_of_ble_eq_true rfl), (Nat.le_of_ble_eq_true rfl)⟩ hK hP hD hS hA (fmT om_7_41 0) (fmF om_7_41 0) (fm_C1 rfl rfl) (fm_R rfl rfl) (fm_nT om_7_41 0) (fm_nF om_7_41 0) (fm_di om_7_41 0) rfl rfl rfl rfl (Nat.le_of_ble_eq_true rfl) dX12_codesTell_68 (fun u H locs hw hP hD hS => ?_)
          refine exE hw (fun ql2_13 hw1 => anE hw1 (fun hql_14 eu_15 => ?_))
          clear hw hw1
          refine o_mgE (ws' := [(mm, .inr (12, mo g (nI ta) (nI pa) (nI pe) pd (nI pb) pp pf pg pn rt rn (nI cd) sn (nI il) 1 am at_ aa mt_ 0 (-1) wt wy (nI it_) (nI rm) (nI ud) (nI nu) sd (nI qn) (nI qw) qo (nI qb) (nI (zq + 1)) qa (nI qi) (nI oc))), (g 24, .inl (cI, 6, .inl (l6 u0 u1 u2 u3 (nI ca) u5))), (g 25, .inl (cI, 6, .inl (l6 v0 v1 v2 v3 (nI cb) v5))), (g 26, .inl (cI, 3200, .inl (fun j => nI (cs j)))), (g 31, .inl (cI, 120, .inl nw)), (g 46, .inl (cI, 9, .inl (fun j => nI (pt j)))), (g 86, .inl (cJ, 1700, .inr (.inl ql2_13)))]) eu_15 hP hD rfl (fun hP hD => ?_)
          have hs_16 := stk_push hst hzq0 hql_14 (kx_i2l (by omega))
          refine lv_goto (tgt := 104) hx hb dX12_codesTell_71 (by decide) ?_
          refine lv_iinc (v := nI (i + 1)) (lv' := [(3, .int (nI (i + 1))), (4, .int (nI (cs (1600 + i)))), (0, .ref mm), (1, .int 1), (2, .int (nI d))]) hx hb dX12_codesTell_104 hl (k := 1) rfl (ninc i 1 (by decide)) (by decide) rfl (fun ls hl => ?_)
          refine lv_goto (tgt := 28) hx hb dX12_codesTell_107 (by decide) ?_
          exact ih_lp_2 (i + 1) (zq + 1) ql2_13 (Int64.ofNat (cs (1600 + i) - 1000) :: SS) _ _ _ (by omega) (by omega) (by omega) (show _ = SS.length + 1 by omega) (by omega) hs_16 hns3 hT3 hP hD hS (lv_sub hl [0, 2, 3, 4] rfl)
        · rw [kcSt_nm (by omega) (by omega)] at hT1
          obtain rfl := Option.some.inj hT1
          have htp2 : SS.length + 1 ≤ 64 := hT2
          refine lv_aload_n hx hb dX12_codesTell_40 rfl (lv_at hl 1 rfl) ?_
          refine sk_get (v := .ref (g 26)) (C := RX12) (T := TX12) (N := 92) hx hb hts inlX12 hown hK hP 0 rfl rfl 26 (by decide) w_5_181 rfl dX12_codesTell_41 ?_
          refine lv_sipush (v := 1600) hx hb dX12_codesTell_44 (by decide) ?_
          refine lv_iload_n hx hb dX12_codesTell_47 rfl (lv_at hl 0 rfl) ?_
          refine lv_iadd hx hb dX12_codesTell_48 ?_
          refine sk_top (nI (1600 + i)) (nI_add 1600 i) ?_
          refine va_iald hx hb hK.1 hP 3 0 rfl rfl (vin (1600 + i) 3200 (by omega) (by omega)) dX12_codesTell_49 ?_
          refine sk_top (nI (cs (1600 + i))) (nrd cs (1600 + i) (by omega)) ?_
          have hb_17 := hcs (1600 + i)
          refine lv_istore (lv' := [(4, .int (nI (cs (1600 + i)))), (3, .int (nI i)), (0, .ref mm), (1, .int 1), (2, .int (nI d))]) hx hb dX12_codesTell_50 hl (by decide) rfl (fun ls hl => ?_)
          refine lv_iload hx hb dX12_codesTell_52 (lv_at hl 0 rfl) ?_
          refine lv_sipush (v := 1000) hx hb dX12_codesTell_54 (by decide) ?_
          refine lv_icmp_lt (tgt := 74) hx hb dX12_codesTell_57 (by decide) (fun c_18 => ?_) (fun c => absurd ((nlt (cs (1600 + i)) 1000 (by omega) (by omega)).mpr (by omega)) c)
          refine lv_iload hx hb dX12_codesTell_74 (lv_at hl 0 rfl) ?_
          refine lv_bipush (v := 40) hx hb dX12_codesTell_76 (by decide) ?_
          refine lv_icmp_lt (tgt := 98) hx hb dX12_codesTell_78 (by decide) (fun c => absurd ((nlt (cs (1600 + i)) 40 (by omega) (by omega)).mp c) (by omega)) (fun c_19 => ?_)
          refine lv_aload_n hx hb dX12_codesTell_81 rfl (lv_at hl 2 rfl) ?_
          refine lv_aload_n hx hb dX12_codesTell_82 rfl (lv_at hl 2 rfl) ?_
          refine lv_iload hx hb dX12_codesTell_83 (lv_at hl 0 rfl) ?_
          refine lv_bipush (v := 40) hx hb dX12_codesTell_85 (by decide) ?_
          refine lv_isub hx hb dX12_codesTell_87 ?_
          refine sk_top (nI (cs (1600 + i) - 40)) (nsub (cs (1600 + i)) 40 (by omega)) ?_
          refine lv_iload_n hx hb dX12_codesTell_88 rfl (lv_at hl 4 rfl) ?_
          refine sk_Vl (q0 := 0) (n := 2) (rest := [.ref mm]) (wr := fmR om_7_46 _) ⟨hx, hb, hml, hown, hts⟩ hl.1 (c_nm_qPartOf l D cI cJ cC cZ cS mm g ta pa pe pd pb pp pf pg pn rt rn cd sn il 1 am at_ aa mt_ wt wy it_ rm ud nu sd qn qw qo qb zq qa qi oc (cs (1600 + i) - 40) d nw pt nm (by omega) (by omega) hnm hnw hpt) w_7_143 w_7_145 w_0_77 w_1_14 w_7_146 hd_X12_qPartOf_2 ⟨⟨(Nat.le_of_ble_eq_true rfl), (Nat.le_of_ble_eq_true rfl)⟩, (Nat.le_of_ble_eq_true rfl), (Nat.le_of_ble_eq_true rfl)⟩ hK hP hD hS hA (fmT om_7_46 0) (fmF om_7_46 0) (fm_C1 rfl rfl) (fm_R rfl rfl) (fm_nT om_7_46 0) (fm_nF om_7_46 0) (fm_di om_7_46 0) rfl rfl rfl rfl (Nat.le_of_ble_eq_true rfl) dX12_codesTell_89 (fun r_20 u H locs hw hP hD hS => ?_)
          refine anE hw (fun hr_21 eu_22 => ?_)
          clear hw
          refine o_mgE (ws' := [(mm, .inr (12, mo g (nI ta) (nI pa) (nI pe) pd (nI pb) pp pf pg pn rt rn (nI cd) sn (nI il) 1 am at_ aa mt_ 0 (-1) wt wy (nI it_) (nI rm) (nI ud) (nI nu) sd (nI qn) (nI qw) qo (nI qb) (nI zq) qa (nI qi) (nI oc))), (g 24, .inl (cI, 6, .inl (l6 u0 u1 u2 u3 (nI ca) u5))), (g 25, .inl (cI, 6, .inl (l6 v0 v1 v2 v3 (nI cb) v5))), (g 26, .inl (cI, 3200, .inl (fun j => nI (cs j)))), (g 31, .inl (cI, 120, .inl nw)), (g 46, .inl (cI, 9, .inl (fun j => nI (pt j)))), (g 86, .inl (cJ, 1700, .inr (.inl zl)))]) eu_22 hP hD rfl (fun hP hD => ?_)
          subst hr_21
          refine sk_Vv (q0 := 0) (n := 1) (rest := []) (wr := fmR om_7_41 _) ⟨hx, hb, hml, hown, hts⟩ hl.1 (c_nm_qPuts l D cI cJ cC cZ cS mm g ta pa pe pd pb pp pf pg pn rt rn cd sn il 1 am at_ aa mt_ wt wy it_ rm ud nu sd qn qw qo qb zq qa qi oc (nm (cs (1600 + i) - 40)) zl (by omega)) w_7_139 w_7_141 w_0_76 w_1_14 w_7_142 hd_X12_qPuts_1 ⟨⟨(Nat.le_of_ble_eq_true rfl), (Nat.le_of_ble_eq_true rfl)⟩, (Nat.le_of_ble_eq_true rfl), (Nat.le_of_ble_eq_true rfl)⟩ hK hP hD hS hA (fmT om_7_41 0) (fmF om_7_41 0) (fm_C1 rfl rfl) (fm_R rfl rfl) (fm_nT om_7_41 0) (fm_nF om_7_41 0) (fm_di om_7_41 0) rfl rfl rfl rfl (Nat.le_of_ble_eq_true rfl) dX12_codesTell_92 (fun u H locs hw hP hD hS => ?_)
          refine exE hw (fun ql2_23 hw1 => anE hw1 (fun hql_24 eu_25 => ?_))
          clear hw hw1
          refine o_mgE (ws' := [(mm, .inr (12, mo g (nI ta) (nI pa) (nI pe) pd (nI pb) pp pf pg pn rt rn (nI cd) sn (nI il) 1 am at_ aa mt_ 0 (-1) wt wy (nI it_) (nI rm) (nI ud) (nI nu) sd (nI qn) (nI qw) qo (nI qb) (nI (zq + 1)) qa (nI qi) (nI oc))), (g 24, .inl (cI, 6, .inl (l6 u0 u1 u2 u3 (nI ca) u5))), (g 25, .inl (cI, 6, .inl (l6 v0 v1 v2 v3 (nI cb) v5))), (g 26, .inl (cI, 3200, .inl (fun j => nI (cs j)))), (g 31, .inl (cI, 120, .inl nw)), (g 46, .inl (cI, 9, .inl (fun j => nI (pt j)))), (g 86, .inl (cJ, 1700, .inr (.inl ql2_23)))]) eu_25 hP hD rfl (fun hP hD => ?_)
          have hs_26 := stk_push hst hzq0 hql_24 rfl
          refine lv_goto (tgt := 104) hx hb dX12_codesTell_95 (by decide) ?_
          refine lv_iinc (v := nI (i + 1)) (lv' := [(3, .int (nI (i + 1))), (4, .int (nI (cs (1600 + i)))), (0, .ref mm), (1, .int 1), (2, .int (nI d))]) hx hb dX12_codesTell_104 hl (k := 1) rfl (ninc i 1 (by decide)) (by decide) rfl (fun ls hl => ?_)
          refine lv_goto (tgt := 28) hx hb dX12_codesTell_107 (by decide) ?_
          exact ih_lp_2 (i + 1) (zq + 1) ql2_23 (nm (cs (1600 + i) - 40) :: SS) _ _ _ (by omega) (by omega) (by omega) (show _ = SS.length + 1 by omega) (by omega) hs_26 hns3 hT3 hP hD hS (lv_sub hl [0, 2, 3, 4] rfl)
  exact lp_2 (cb - ca + 1) ca 0 ql ([]) _ _ _ (Nat.lt_succ_self _) (by omega) (by omega) rfl (by omega) True.intro hns hex hP hD hS (lv_sub hl [0, 1, 2, 3] rfl)

