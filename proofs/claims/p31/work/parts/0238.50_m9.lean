theorem dX12_pay_11 : decode cX12_pay 11 = .ok (.aload_n 0, 1) := q_aload_n0 (bat_get dg_X12_pay_0_0 3 rfl rfl)
theorem dX12_pay_12 : decode cX12_pay 12 = .ok (.invokevirtual 442, 3) := q_invokevirtual (bat_get dg_X12_pay_0_0 4 rfl rfl) rfl
theorem dX12_pay_15 : decode cX12_pay 15 = .ok (.aload_n 0, 1) := q_aload_n0 (bat_get dg_X12_pay_0_0 5 rfl rfl)
theorem dX12_pay_16 : decode cX12_pay 16 = .ok (.iconst 0, 1) := q_iconst0 (bat_get dg_X12_pay_0_0 6 rfl rfl)
theorem dX12_pay_17 : decode cX12_pay 17 = .ok (.aload_n 0, 1) := q_aload_n0 (bat_get dg_X12_pay_0_0 7 rfl rfl)
theorem dX12_pay_18 : decode cX12_pay 18 = .ok (.getfield 63, 3) := q_getfield (bat_get dg_X12_pay_0_0 8 rfl rfl) rfl
theorem dX12_pay_21 : decode cX12_pay 21 = .ok (.iconst 1, 1) := q_iconst1 (bat_get dg_X12_pay_0_0 9 rfl rfl)
theorem dX12_pay_22 : decode cX12_pay 22 = .ok (.iaload, 1) := q_iaload (bat_get dg_X12_pay_0_0 10 rfl rfl)
theorem dX12_pay_23 : decode cX12_pay 23 = .ok (.invokevirtual 445, 3) := q_invokevirtual (bat_get dg_X12_pay_0_0 11 rfl rfl) rfl
theorem dX12_pay_26 : decode cX12_pay 26 = .ok (.istore_n 1, 1) := q_istore_n1 (bat_get dg_X12_pay_0_0 12 rfl rfl)
theorem dX12_pay_27 : decode cX12_pay 27 = .ok (.iload_n 1, 1) := q_iload_n1 (bat_get dg_X12_pay_0_0 13 rfl rfl)
theorem dX12_pay_28 : decode cX12_pay 28 = .ok (.iconst (-1), 1) := q_iconstm1 (bat_get dg_X12_pay_0_0 14 rfl rfl)
theorem dX12_pay_29 : decode cX12_pay 29 = .ok (.if_icmp .ne 9, 3) := q_if_icmp_ne (bat_get dg_X12_pay_0_0 15 rfl rfl) rfl
theorem dX12_pay_38 : decode cX12_pay 38 = .ok (.aload_n 0, 1) := q_aload_n0 (bat_get dg_X12_pay_0_0 16 rfl rfl)
theorem dX12_pay_39 : decode cX12_pay 39 = .ok (.getfield 92, 3) := q_getfield (bat_get dg_X12_pay_0_0 17 rfl rfl) rfl
theorem dX12_pay_42 : decode cX12_pay 42 = .ok (.iload_n 1, 1) := q_iload_n1 (bat_get dg_X12_pay_0_0 18 rfl rfl)
theorem dX12_pay_43 : decode cX12_pay 43 = .ok (.laload, 1) := q_laload (bat_get dg_X12_pay_0_0 19 rfl rfl)
theorem dX12_pay_44 : decode cX12_pay 44 = .ok (.lreturn, 1) := q_lreturn (bat_get dg_X12_pay_0_0 20 rfl rfl)
theorem dX12_pay_32 : decode cX12_pay 32 = .ok (.ldc2_w 421, 3) := q_ldc2_w (bat_get dg_X12_pay_0_0 21 rfl rfl) rfl
theorem dX12_pay_35 : decode cX12_pay 35 = .ok (.goto 9, 3) := q_goto (bat_get dg_X12_pay_0_0 22 rfl rfl) rfl
theorem dX12_pay_7 : decode cX12_pay 7 = .ok (.ldc2_w 421, 3) := q_ldc2_w (bat_get dg_X12_pay_0_0 23 rfl rfl) rfl
theorem dX12_pay_10 : decode cX12_pay 10 = .ok (.lreturn, 1) := q_lreturn (bat_get dg_X12_pay_0_0 24 rfl rfl)
theorem w_8_41 : (Cond.methodLink RX12 442 yX12_laysPay) ∈ wsL_law := sk_mem (ck_8 _ (List.mem_of_getElem? (i := 41) rfl)) rfl
theorem w_8_43 : (Cond.instanceMethod yX12_laysPay) ∈ wsL_law := sk_mem (ck_8 _ (List.mem_of_getElem? (i := 43) rfl)) rfl
theorem w_0_96 : (Cond.selects RX12 yX12_laysPay yX12_laysPay) ∈ wsL_law := sk_mem (ck_0 _ (List.mem_of_getElem? (i := 96) rfl)) rfl
theorem w_8_49 : (Cond.methodLink RX12 445 yX12_bestBehind) ∈ wsL_law := sk_mem (ck_8 _ (List.mem_of_getElem? (i := 49) rfl)) rfl
theorem w_8_51 : (Cond.instanceMethod yX12_bestBehind) ∈ wsL_law := sk_mem (ck_8 _ (List.mem_of_getElem? (i := 51) rfl)) rfl
theorem w_0_98 : (Cond.selects RX12 yX12_bestBehind yX12_bestBehind) ∈ wsL_law := sk_mem (ck_0 _ (List.mem_of_getElem? (i := 98) rfl)) rfl
theorem w_8_40 : (Cond.code yX12_pay cX12_pay 2 (some .long)) ∈ wsL_law := sk_mem (ck_8 _ (List.mem_of_getElem? (i := 40) rfl)) rfl
def om_14_3fff : List Bool := true :: true :: true :: true :: true :: true :: true :: true :: true :: true :: true :: true :: true :: true :: []
def om_14_2219 : List Bool := true :: false :: false :: false :: true :: false :: false :: false :: false :: true :: true :: false :: false :: true :: []
theorem hd_X12_laysPay_0 : skD yX12_laysPay 0 := by decide +kernel
theorem hd_X12_bestBehind_2 : skD yX12_bestBehind 2 := by decide +kernel
set_option maxHeartbeats 4000000 in
set_option maxRecDepth 100000 in
theorem c_m_pay (l : Launch) (D : va_G) (cI cJ cC cZ cS : ClassId) (mm : Nat) (g : Nat → Nat) (ta : Nat) (pa : Nat) (pe : Nat) (pd : Int32) (pb : Nat) (pp : Int32) (pf : Int32) (pg : Int32) (pn : Int32) (rt : Int32) (rn : Int32) (cd : Nat) (sn : Int32) (il : Nat) (tk : Int32) (am : Int32) (at_ : Int32) (aa : Int32) (wt : Int32) (wy : Int64) (rm : Nat) (ud : Nat) (nu : Nat) (sd : Int64) (qn : Nat) (qw : Nat) (qo : Int32) (qb : Nat) (qp : Nat) (qa : Int64) (qi : Nat) (oc : Nat) (u0 : Int32) (u1 : Int32) (u2 : Int32) (u3 : Int32) (u4 : Int32) (u5 : Int32) (v0 : Int32) (v1 : Int32) (v2 : Int32) (v3 : Int32) (v4 : Int32) (v5 : Int32) (cs : Nat → Nat) (nw : Nat → Int32) (pt : Nat → Nat) (ql : Nat → Int64) (l0 : Nat) (l1 : Nat) (dm : Nat) (l3 : Nat) (ws_ : Nat → Int32) (yw : Nat → Int32) (yo : Nat → Int32) (be : Nat → Int64) (bf : Nat → Int64) (py : Nat → Int64) (hil : il ≤ 1) (hild : il = 1 → 1 ≤ dm) (hdm : dm ≤ 9) (hp0 : progOk cs u3 v3) (hp1 : progOk cs u4 v4) (hp2 : progOk cs u5 v5) (hcs : ∀ j, cs j ≤ 20000) (hnw : nowOk nw) (hpt : ∀ j, pt j ≤ 9) : skM l yX12_pay cX12_pay 2 (some .long) 7 167 0 0 D (skT cI cJ cC cZ cS) [.ref mm] [(mm, .inr (12, mo g (nI ta) (nI pa) (nI pe) pd (nI pb) pp pf pg pn rt rn (nI cd) sn (nI il) tk am at_ aa 0 0 (-1) wt wy 0 (nI rm) (nI ud) (nI nu) sd (nI qn) (nI qw) qo (nI qb) (nI qp) qa (nI qi) (nI oc))), (g 24, .inl (cI, 6, .inl (l6 u0 u1 u2 u3 u4 u5))), (g 25, .inl (cI, 6, .inl (l6 v0 v1 v2 v3 v4 v5))), (g 26, .inl (cI, 3200, .inl (fun j => nI (cs j)))), (g 31, .inl (cI, 120, .inl nw)), (g 46, .inl (cI, 9, .inl (fun j => nI (pt j)))), (g 86, .inl (cJ, 1700, .inr (.inl ql))), (g 20, .inl (cI, 4, .inl (l4 (nI l0) (nI l1) (nI dm) (nI l3)))), (g 38, .inl (cI, 90, .inl ws_)), (g 36, .inl (cZ, 900, .inl yw)), (g 37, .inl (cZ, 900, .inl yo)), (g 43, .inl (cJ, 90, .inr (.inl be))), (g 44, .inl (cJ, 90, .inr (.inl bf))), (g 48, .inl (cJ, 90, .inr (.inl py)))] (skL D (skT cI cJ cC cZ cS) (fun (r : Int64) (u : va_W) => ∃ (tk2 : Int32), ∃ (qp2 : Nat), ∃ (am2 : Int32), ∃ (at_2 : Int32), ∃ (aa2 : Int32), ∃ (wy2 : Int64), ∃ (ql2 : Nat → Int64), ∃ (ws_2 : Nat → Int32), ∃ (yw2 : Nat → Int32), ∃ (yo2 : Nat → Int32), ∃ (be2 : Nat → Int64), ∃ (bf2 : Nat → Int64), ∃ (py2 : Nat → Int64), u = [(mm, .inr (12, mo g (nI ta) (nI pa) (nI pe) pd (nI pb) pp pf pg pn rt rn (nI cd) sn (nI il) tk2 am2 at_2 aa2 0 0 (-1) wt wy2 0 (nI rm) (nI ud) (nI nu) sd (nI qn) (nI qw) qo (nI qb) (nI qp2) qa (nI qi) (nI oc))), (g 24, .inl (cI, 6, .inl (l6 u0 u1 u2 u3 u4 u5))), (g 25, .inl (cI, 6, .inl (l6 v0 v1 v2 v3 v4 v5))), (g 26, .inl (cI, 3200, .inl (fun j => nI (cs j)))), (g 31, .inl (cI, 120, .inl nw)), (g 46, .inl (cI, 9, .inl (fun j => nI (pt j)))), (g 86, .inl (cJ, 1700, .inr (.inl ql2))), (g 20, .inl (cI, 4, .inl (l4 (nI l0) (nI l1) (nI dm) (nI l3)))), (g 38, .inl (cI, 90, .inl ws_2)), (g 36, .inl (cZ, 900, .inl yw2)), (g 37, .inl (cZ, 900, .inl yo2)), (g 43, .inl (cJ, 90, .inr (.inl be2))), (g 44, .inl (cJ, 90, .inr (.inl bf2))), (g 48, .inl (cJ, 90, .inr (.inl py2)))])) := by
  refine skM_of pf_X12_pay (Nat.le_of_ble_eq_true rfl) ?_
  intro p e s m below meth c A ls E hP hD hl
  refine skE_el E (fun hx hb hr hml hlocks hin hown hts hK hA => ?_)
  have hown : s.vm.findClass RX12 = some m.cls := hown
  have hS : va_S A s.heap s.heap [] := va_S.rf
  have hl : lv_has ls 2 [(0, .ref mm)] := hl
  refine lv_aload_n hx hb dX12_pay_0 rfl (lv_at hl 0 rfl) ?_
  refine sk_get (v := .int (nI il)) (C := RX12) (T := TX12) (N := 92) hx hb hts inlX12 hown hK hP 0 rfl rfl 29 (by decide) w_5_184 rfl dX12_pay_1 ?_
  refine lv_if_ne (tgt := 11) hx hb dX12_pay_4 (by decide) (fun c_1 => ?_) (fun c_1 => ?_)
  · have c_1 : ¬ (il = 0) := fun h => c_1 ((neq il 0 (by omega) (by omega)).mpr h)
    refine lv_aload_n hx hb dX12_pay_11 rfl (lv_at hl 0 rfl) ?_
    refine sk_Vv (q0 := 0) (n := 0) (rest := []) (wr := fmR om_14_3fff _) ⟨hx, hb, hml, hown, hts⟩ hl.1 (c_m_laysPay l D cI cJ cC cZ cS mm g ta pa pe pd pb pp pf pg pn rt rn cd sn il tk am at_ aa wt wy rm ud nu sd qn qw qo qb qp qa qi oc u0 u1 u2 u3 u4 u5 v0 v1 v2 v3 v4 v5 cs nw pt ql l0 l1 dm l3 ws_ yw yo be bf py (by omega) (by omega) hp0 hp1 hp2 hcs hnw hpt) w_8_41 w_8_43 w_0_96 w_1_14 w_8_44 hd_X12_laysPay_0 ⟨⟨(Nat.le_of_ble_eq_true rfl), (Nat.le_of_ble_eq_true rfl)⟩, (Nat.le_of_ble_eq_true rfl), (Nat.le_of_ble_eq_true rfl)⟩ hK hP hD hS hA (fmT om_14_3fff 0) (fmF om_14_3fff 0) (fm_C1 rfl rfl) (fm_R rfl rfl) (fm_nT om_14_3fff 0) (fm_nF om_14_3fff 0) (fm_di om_14_3fff 0) rfl rfl rfl rfl (Nat.le_of_ble_eq_true rfl) dX12_pay_12 (fun u H locs hw hP hD hS => ?_)
    refine exE hw (fun tk2_2 hw1 => exE hw1 (fun qp2_3 hw2 => exE hw2 (fun am2_4 hw3 => exE hw3 (fun at_2_5 hw4 => exE hw4 (fun aa2_6 hw5 => exE hw5 (fun wy2_7 hw6 => exE hw6 (fun ql2_8 hw7 => exE hw7 (fun ws_2_9 hw8 => exE hw8 (fun yw2_10 hw9 => exE hw9 (fun yo2_11 hw10 => exE hw10 (fun be2_12 hw11 => exE hw11 (fun bf2_13 hw12 => exE hw12 (fun py2_14 eu_15 => ?_)))))))))))))
    clear hw hw1 hw2 hw3 hw4 hw5 hw6 hw7 hw8 hw9 hw10 hw11 hw12
    refine o_mgE (ws' := [(mm, .inr (12, mo g (nI ta) (nI pa) (nI pe) pd (nI pb) pp pf pg pn rt rn (nI cd) sn (nI il) tk2_2 am2_4 at_2_5 aa2_6 0 0 (-1) wt wy2_7 0 (nI rm) (nI ud) (nI nu) sd (nI qn) (nI qw) qo (nI qb) (nI qp2_3) qa (nI qi) (nI oc))), (g 24, .inl (cI, 6, .inl (l6 u0 u1 u2 u3 u4 u5))), (g 25, .inl (cI, 6, .inl (l6 v0 v1 v2 v3 v4 v5))), (g 26, .inl (cI, 3200, .inl (fun j => nI (cs j)))), (g 31, .inl (cI, 120, .inl nw)), (g 46, .inl (cI, 9, .inl (fun j => nI (pt j)))), (g 86, .inl (cJ, 1700, .inr (.inl ql2_8))), (g 20, .inl (cI, 4, .inl (l4 (nI l0) (nI l1) (nI dm) (nI l3)))), (g 38, .inl (cI, 90, .inl ws_2_9)), (g 36, .inl (cZ, 900, .inl yw2_10)), (g 37, .inl (cZ, 900, .inl yo2_11)), (g 43, .inl (cJ, 90, .inr (.inl be2_12))), (g 44, .inl (cJ, 90, .inr (.inl bf2_13))), (g 48, .inl (cJ, 90, .inr (.inl py2_14)))]) eu_15 hP hD rfl (fun hP hD => ?_)
    refine lv_aload_n hx hb dX12_pay_15 rfl (lv_at hl 0 rfl) ?_
    refine lv_iconst (v := 0) hx hb dX12_pay_16 (by decide) ?_
    refine lv_aload_n hx hb dX12_pay_17 rfl (lv_at hl 0 rfl) ?_
    refine sk_get (v := .ref (g 31)) (C := RX12) (T := TX12) (N := 92) hx hb hts inlX12 hown hK hP 0 rfl rfl 31 (by decide) w_5_186 rfl dX12_pay_18 ?_
    refine lv_iconst (v := 1) hx hb dX12_pay_21 (by decide) ?_
    refine va_iald hx hb hK.1 hP 4 0 rfl rfl (by unfold vp_in; decide) dX12_pay_22 ?_
    obtain ⟨k_16, hk_16, ek_16⟩ := nowOk_1 hnw
    refine sk_top (nI k_16) ek_16 ?_
    refine sk_Vi (q0 := 0) (n := 2) (rest := []) (wr := fmR om_14_2219 _) ⟨hx, hb, hml, hown, hts⟩ hl.1 (c_m_bestBehind l D cI cJ cC cZ cS mm g ta pa pe pd pb pp pf pg pn rt rn cd sn il tk2_2 am2_4 at_2_5 aa2_6 wt wy2_7 rm ud nu sd qn qw qo qb qp2_3 qa qi oc 0 (nI k_16) nw yo2_11 yw2_10 py2_14 (by omega) (mdAt_n (k := k_16) (by omega)) hnw) w_8_49 w_8_51 w_0_98 w_1_14 w_8_52 hd_X12_bestBehind_2 ⟨⟨(Nat.le_of_ble_eq_true rfl), (Nat.le_of_ble_eq_true rfl)⟩, (Nat.le_of_ble_eq_true rfl), (Nat.le_of_ble_eq_true rfl)⟩ hK hP hD hS hA [0, 4, 10, 9, 13] (fmF om_14_2219 0) rfl (fm_R rfl rfl) (by decide +kernel) (fm_nF om_14_2219 0) (by decide +kernel) rfl rfl rfl rfl (Nat.le_of_ble_eq_true rfl) dX12_pay_23 (fun r_17 u H locs hw hP hD hS => ?_)
    refine anE hw (fun hr1_18 eu_19 => ?_)
    clear hw
    refine o_mgqE (ux := [(mm, .inr (12, mo g (nI ta) (nI pa) (nI pe) pd (nI pb) pp pf pg pn rt rn (nI cd) sn (nI il) tk2_2 am2_4 at_2_5 aa2_6 0 0 (-1) wt wy2_7 0 (nI rm) (nI ud) (nI nu) sd (nI qn) (nI qw) qo (nI qb) (nI qp2_3) qa (nI qi) (nI oc))), (g 31, .inl (cI, 120, .inl nw)), (g 36, .inl (cZ, 900, .inl yw2_10)), (g 37, .inl (cZ, 900, .inl yo2_11)), (g 48, .inl (cJ, 90, .inr (.inl py2_14)))]) (ws' := [(mm, .inr (12, mo g (nI ta) (nI pa) (nI pe) pd (nI pb) pp pf pg pn rt rn (nI cd) sn (nI il) tk2_2 am2_4 at_2_5 aa2_6 0 0 (-1) wt wy2_7 0 (nI rm) (nI ud) (nI nu) sd (nI qn) (nI qw) qo (nI qb) (nI qp2_3) qa (nI qi) (nI oc))), (g 24, .inl (cI, 6, .inl (l6 u0 u1 u2 u3 u4 u5))), (g 25, .inl (cI, 6, .inl (l6 v0 v1 v2 v3 v4 v5))), (g 26, .inl (cI, 3200, .inl (fun j => nI (cs j)))), (g 31, .inl (cI, 120, .inl nw)), (g 46, .inl (cI, 9, .inl (fun j => nI (pt j)))), (g 86, .inl (cJ, 1700, .inr (.inl ql2_8))), (g 20, .inl (cI, 4, .inl (l4 (nI l0) (nI l1) (nI dm) (nI l3)))), (g 38, .inl (cI, 90, .inl ws_2_9)), (g 36, .inl (cZ, 900, .inl yw2_10)), (g 37, .inl (cZ, 900, .inl yo2_11)), (g 43, .inl (cJ, 90, .inr (.inl be2_12))), (g 44, .inl (cJ, 90, .inr (.inl bf2_13))), (g 48, .inl (cJ, 90, .inr (.inl py2_14)))]) eu_19 [0, 1, 3, 2, 4] (by decide +kernel) rfl hP hD rfl (fun hP hD => ?_)
    refine lv_istore_n (lv' := [(1, .int r_17), (0, .ref mm)]) hx hb dX12_pay_26 rfl hl (by decide) rfl (fun ls hl => ?_)
    refine lv_iload_n hx hb dX12_pay_27 rfl (lv_at hl 0 rfl) ?_
    refine lv_iconst (v := (-1)) hx hb dX12_pay_28 (by decide) ?_
    refine lv_icmp_ne (tgt := 38) hx hb dX12_pay_29 (by decide) (fun c_20 => ?_) (fun c_20 => ?_)
    · skip
      refine lv_aload_n hx hb dX12_pay_38 rfl (lv_at hl 1 rfl) ?_
      refine sk_get (v := .ref (g 48)) (C := RX12) (T := TX12) (N := 92) hx hb hts inlX12 hown hK hP 0 rfl rfl 48 (by decide) w_5_203 rfl dX12_pay_39 ?_
      refine lv_iload_n hx hb dX12_pay_42 rfl (lv_at hl 0 rfl) ?_
      refine va_lald hx hb hK.1 hP 13 1 rfl rfl (by obtain ⟨k, hk, ek⟩ := mdOk_k hr1_18 c_20; rw [ek]; exact vin k 90 (by omega) (by omega)) dX12_pay_43 ?_
      refine lv_topl (fun v_21 ev_21 => ?_)
      exact sk_lret hx hb hr hlocks hK hP hD hS (⟨tk2_2, qp2_3, am2_4, at_2_5, aa2_6, wy2_7, ql2_8, ws_2_9, yw2_10, yo2_11, be2_12, bf2_13, py2_14, rfl⟩) (Nat.le_of_ble_eq_true rfl) (Nat.le_of_ble_eq_true rfl) dX12_pay_44
    · skip
      refine lv_ldc2 (v := (-1000000000000000)) hx hb hown (hts _ w_7_184) dX12_pay_32 ?_
      refine lv_goto (tgt := 44) hx hb dX12_pay_35 (by decide) ?_
      exact sk_lret hx hb hr hlocks hK hP hD hS (⟨tk2_2, qp2_3, am2_4, at_2_5, aa2_6, wy2_7, ql2_8, ws_2_9, yw2_10, yo2_11, be2_12, bf2_13, py2_14, rfl⟩) (Nat.le_of_ble_eq_true rfl) (Nat.le_of_ble_eq_true rfl) dX12_pay_44
  · have c_1 : il = 0 := (neq il 0 (by omega) (by omega)).mp c_1
    refine lv_ldc2 (v := (-1000000000000000)) hx hb hown (hts _ w_7_184) dX12_pay_7 ?_
    exact sk_lret hx hb hr hlocks hK hP hD hS (⟨tk, qp, am, at_, aa, wy, ql, ws_, yw, yo, be, bf, py, rfl⟩) (Nat.le_of_ble_eq_true rfl) (Nat.le_of_ble_eq_true rfl) dX12_pay_10
theorem dg_X12_paid_0_0 : bqL cX12_paid 0 [(0, [42]), (1, [27]), (2, [182, 1, 157]), (5, [154, 0, 5]), (10, [42]), (11, [182, 1, 186]), (14, [42]), (15, [180, 1, 126]), (18, [9]), (19, [148]), (20, [154, 0, 5]), (25, [42]), (26, [180, 0, 63]), (29, [4]), (30, [46]), (31, [61]), (32, [3]), (33, [62]), (34, [29]), (35, [27]), (36, [163, 0, 16]), (52, [28]), (53, [172]), (39, [42]), (40, [29]), (41, [28]), (42, [182, 1, 189]), (45, [61]), (46, [132, 3, 1]), (49, [167, 255, 241]), (23, [2]), (24, [172]), (8, [2]), (9, [172])] = true := by decide +kernel
theorem dX12_paid_0 : decode cX12_paid 0 = .ok (.aload_n 0, 1) := q_aload_n0 (bat_get dg_X12_paid_0_0 0 rfl rfl)
theorem dX12_paid_1 : decode cX12_paid 1 = .ok (.iload_n 1, 1) := q_iload_n1 (bat_get dg_X12_paid_0_0 1 rfl rfl)
theorem dX12_paid_2 : decode cX12_paid 2 = .ok (.invokevirtual 413, 3) := q_invokevirtual (bat_get dg_X12_paid_0_0 2 rfl rfl) rfl
theorem dX12_paid_5 : decode cX12_paid 5 = .ok (.ifCond .ne 5, 3) := q_ifCond_ne (bat_get dg_X12_paid_0_0 3 rfl rfl) rfl
theorem dX12_paid_10 : decode cX12_paid 10 = .ok (.aload_n 0, 1) := q_aload_n0 (bat_get dg_X12_paid_0_0 4 rfl rfl)
theorem dX12_paid_11 : decode cX12_paid 11 = .ok (.invokevirtual 442, 3) := q_invokevirtual (bat_get dg_X12_paid_0_0 5 rfl rfl) rfl
theorem dX12_paid_14 : decode cX12_paid 14 = .ok (.aload_n 0, 1) := q_aload_n0 (bat_get dg_X12_paid_0_0 6 rfl rfl)
theorem dX12_paid_15 : decode cX12_paid 15 = .ok (.getfield 382, 3) := q_getfield (bat_get dg_X12_paid_0_0 7 rfl rfl) rfl
theorem dX12_paid_18 : decode cX12_paid 18 = .ok (.lconst 0, 1) := q_lconst0 (bat_get dg_X12_paid_0_0 8 rfl rfl)
theorem dX12_paid_19 : decode cX12_paid 19 = .ok (.lcmp, 1) := q_lcmp (bat_get dg_X12_paid_0_0 9 rfl rfl)
theorem dX12_paid_20 : decode cX12_paid 20 = .ok (.ifCond .ne 5, 3) := q_ifCond_ne (bat_get dg_X12_paid_0_0 10 rfl rfl) rfl
