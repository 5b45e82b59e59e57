theorem w_8_88 : (Cond.code yX12_moodsOf cX12_moodsOf 4 (some .int)) ∈ wsL_law := sk_mem (ck_8 _ (List.mem_of_getElem? (i := 88) rfl)) rfl
set_option maxHeartbeats 4000000 in
set_option maxRecDepth 100000 in
theorem c_m_moodsOf (l : Launch) (D : va_G) (cI cJ cC cZ cS : ClassId) (mm : Nat) (g : Nat → Nat) (ta : Nat) (pa : Nat) (pe : Nat) (pd : Int32) (pb : Nat) (pp : Int32) (pf : Int32) (pg : Int32) (pn : Int32) (rt : Int32) (rn : Int32) (cd : Nat) (sn : Int32) (il : Nat) (tk : Int32) (am : Int32) (at_ : Int32) (aa : Int32) (wt : Int32) (wy : Int64) (rm : Nat) (ud : Nat) (nu : Nat) (sd : Int64) (qn : Nat) (qw : Nat) (qo : Int32) (qb : Nat) (qp : Nat) (qa : Int64) (qi : Nat) (oc : Nat) (d : Nat) (be : Nat → Int64) (bf : Nat → Int64) (hd : d < 9) : skM l yX12_moodsOf cX12_moodsOf 4 (some .int) 0 0 0 0 D (skT cI cJ cC cZ cS) [.ref mm, .int (nI d)] [(mm, .inr (12, mo g (nI ta) (nI pa) (nI pe) pd (nI pb) pp pf pg pn rt rn (nI cd) sn (nI il) tk am at_ aa 0 0 (-1) wt wy 0 (nI rm) (nI ud) (nI nu) sd (nI qn) (nI qw) qo (nI qb) (nI qp) qa (nI qi) (nI oc))), (g 43, .inl (cJ, 90, .inr (.inl be))), (g 44, .inl (cJ, 90, .inr (.inl bf)))] (skI D (skT cI cJ cC cZ cS) (fun (r : Int32) (u : va_W) => u = [(mm, .inr (12, mo g (nI ta) (nI pa) (nI pe) pd (nI pb) pp pf pg pn rt rn (nI cd) sn (nI il) tk am at_ aa 0 0 (-1) wt wy 0 (nI rm) (nI ud) (nI nu) sd (nI qn) (nI qw) qo (nI qb) (nI qp) qa (nI qi) (nI oc))), (g 43, .inl (cJ, 90, .inr (.inl be))), (g 44, .inl (cJ, 90, .inr (.inl bf)))])) := by
  refine skM_of pf_X12_moodsOf (Nat.le_of_ble_eq_true rfl) ?_
  intro p e s m below meth c A ls E hP hD hl
  refine skE_el E (fun hx hb hr hml hlocks hin hown hts hK hA => ?_)
  have hown : s.vm.findClass RX12 = some m.cls := hown
  have hS : va_S A s.heap s.heap [] := va_S.rf
  have hl : lv_has ls 4 [(0, .ref mm), (1, .int (nI d))] := hl
  refine lv_iconst (v := 0) hx hb dX12_moodsOf_0 (by decide) ?_
  refine lv_istore_n (lv' := [(2, .int 0), (0, .ref mm), (1, .int (nI d))]) hx hb dX12_moodsOf_1 rfl hl (by decide) rfl (fun ls hl => ?_)
  refine lv_iconst (v := 0) hx hb dX12_moodsOf_2 (by decide) ?_
  refine lv_istore_n (lv' := [(3, .int 0), (2, .int 0), (0, .ref mm), (1, .int (nI d))]) hx hb dX12_moodsOf_3 rfl hl (by decide) rfl (fun ls hl => ?_)
  have lp_1 : ∀ (n_2 : Nat) (i : Nat) (ms : Int32) (H : Heap) (locs : List Loc) (ls : Array Slot), 10 - i < n_2 → (i ≤ 10) → va_P D vwCl [(mm, .inr (12, mo g (nI ta) (nI pa) (nI pe) pd (nI pb) pp pf pg pn rt rn (nI cd) sn (nI il) tk am at_ aa 0 0 (-1) wt wy 0 (nI rm) (nI ud) (nI nu) sd (nI qn) (nI qw) qo (nI qb) (nI qp) qa (nI qi) (nI oc))), (g 43, .inl (cJ, 90, .inr (.inl be))), (g 44, .inl (cJ, 90, .inr (.inl bf)))] H → va_D A [(mm, .inr (12, mo g (nI ta) (nI pa) (nI pe) pd (nI pb) pp pf pg pn rt rn (nI cd) sn (nI il) tk am at_ aa 0 0 (-1) wt wy 0 (nI rm) (nI ud) (nI nu) sd (nI qn) (nI qw) qo (nI qb) (nI qp) qa (nI qi) (nI oc))), (g 43, .inl (cJ, 90, .inr (.inl be))), (g 44, .inl (cJ, 90, .inr (.inl bf)))] → va_S A s.heap H locs → lv_has ls 4 [(3, .int (nI i)), (2, .int ms), (0, .ref mm), (1, .int (nI d))] → W p l e { frames := 0, cells := 0, slots := 0, locals := 0 } s m ([.ref mm, .int (nI d)] : List Value).toArray below meth c H locs 0 0 (MQ below (skI D (skT cI cJ cC cZ cS) (fun (r : Int32) (u : va_W) => u = [(mm, .inr (12, mo g (nI ta) (nI pa) (nI pe) pd (nI pb) pp pf pg pn rt rn (nI cd) sn (nI il) tk am at_ aa 0 0 (-1) wt wy 0 (nI rm) (nI ud) (nI nu) sd (nI qn) (nI qw) qo (nI qb) (nI qp) qa (nI qi) (nI oc))), (g 43, .inl (cJ, 90, .inr (.inl be))), (g 44, .inl (cJ, 90, .inr (.inl bf)))]) A) ([.ref mm, .int (nI d)] : List Value).toArray s 0 0 A) (F0 m 4 ls []) := by
    intro n_2
    induction n_2 with
    | zero => intro i ms H locs ls hm; exact absurd hm (Nat.not_lt_zero _)
    | succ n_2 ih_lp_1 =>
      intro i ms H locs ls hm hi hP hD hS hl
      refine lv_iload_n hx hb dX12_moodsOf_4 rfl (lv_at hl 0 rfl) ?_
      refine lv_bipush (v := 10) hx hb dX12_moodsOf_5 (by decide) ?_
      refine lv_icmp_ge (tgt := 54) hx hb dX12_moodsOf_7 (by decide) (fun c_3 => ?_) (fun c_3 => ?_)
      · have c_3 : 10 ≤ i := (nle 10 i (by omega) (by omega)).mp c_3
        refine lv_iload_n hx hb dX12_moodsOf_54 rfl (lv_at hl 1 rfl) ?_
        exact sk_iret hx hb hr rfl hlocks hK hP hD hS rfl (Nat.le_of_ble_eq_true rfl) (Nat.le_of_ble_eq_true rfl) dX12_moodsOf_55
      · have c_3 : ¬ (10 ≤ i) := fun h => c_3 ((nle 10 i (by omega) (by omega)).mpr h)
        refine lv_aload_n hx hb dX12_moodsOf_10 rfl (lv_at hl 2 rfl) ?_
        refine sk_get (v := .ref (g 44)) (C := RX12) (T := TX12) (N := 92) hx hb hts inlX12 hown hK hP 0 rfl rfl 44 (by decide) w_5_199 rfl dX12_moodsOf_11 ?_
        refine lv_bipush (v := 10) hx hb dX12_moodsOf_14 (by decide) ?_
        refine lv_iload_n hx hb dX12_moodsOf_16 rfl (lv_at hl 3 rfl) ?_
        refine lv_imul hx hb dX12_moodsOf_17 ?_
        refine sk_top (nI (10 * d)) (nmul 10 d) ?_
        refine lv_iload_n hx hb dX12_moodsOf_18 rfl (lv_at hl 0 rfl) ?_
        refine lv_iadd hx hb dX12_moodsOf_19 ?_
        refine sk_top (nI (10 * d + i)) (nI_add (10 * d) i) ?_
        refine va_lald hx hb hK.1 hP 2 1 rfl rfl (vin (10 * d + i) 90 (by omega) (by omega)) dX12_moodsOf_20 ?_
        refine lv_topl (fun v_4 ev_4 => ?_)
        refine lv_lconst (v := 0) hx hb dX12_moodsOf_21 (by decide) ?_
        refine W.lcmp hx hb dX12_moodsOf_22 ?_
        refine lv_if_le (tgt := 48) hx hb dX12_moodsOf_23 (by decide) (fun c_5 => ?_) (fun c_5 => ?_)
        · skip
          refine lv_iinc (v := nI (i + 1)) (lv' := [(3, .int (nI (i + 1))), (2, .int ms), (0, .ref mm), (1, .int (nI d))]) hx hb dX12_moodsOf_48 hl (k := 0) rfl (ninc i 1 (by decide)) (by decide) rfl (fun ls hl => ?_)
          refine lv_goto (tgt := 4) hx hb dX12_moodsOf_51 (by decide) ?_
          exact ih_lp_1 (i + 1) ms _ _ _ (by omega) (by omega) hP hD hS (lv_sub hl [0, 1, 2, 3] rfl)
        · skip
          refine lv_aload_n hx hb dX12_moodsOf_26 rfl (lv_at hl 2 rfl) ?_
          refine sk_get (v := .ref (g 43)) (C := RX12) (T := TX12) (N := 92) hx hb hts inlX12 hown hK hP 0 rfl rfl 43 (by decide) w_5_198 rfl dX12_moodsOf_27 ?_
          refine lv_bipush (v := 10) hx hb dX12_moodsOf_30 (by decide) ?_
          refine lv_iload_n hx hb dX12_moodsOf_32 rfl (lv_at hl 3 rfl) ?_
          refine lv_imul hx hb dX12_moodsOf_33 ?_
          refine sk_top (nI (10 * d)) (nmul 10 d) ?_
          refine lv_iload_n hx hb dX12_moodsOf_34 rfl (lv_at hl 0 rfl) ?_
          refine lv_iadd hx hb dX12_moodsOf_35 ?_
          refine sk_top (nI (10 * d + i)) (nI_add (10 * d) i) ?_
          refine va_lald hx hb hK.1 hP 1 1 rfl rfl (vin (10 * d + i) 90 (by omega) (by omega)) dX12_moodsOf_36 ?_
          refine lv_topl (fun v_6 ev_6 => ?_)
          refine lv_lconst (v := 0) hx hb dX12_moodsOf_37 (by decide) ?_
          refine W.lcmp hx hb dX12_moodsOf_38 ?_
          refine lv_if_le (tgt := 48) hx hb dX12_moodsOf_39 (by decide) (fun c_7 => ?_) (fun c_7 => ?_)
          · skip
            refine lv_iinc (v := nI (i + 1)) (lv' := [(3, .int (nI (i + 1))), (2, .int ms), (0, .ref mm), (1, .int (nI d))]) hx hb dX12_moodsOf_48 hl (k := 0) rfl (ninc i 1 (by decide)) (by decide) rfl (fun ls hl => ?_)
            refine lv_goto (tgt := 4) hx hb dX12_moodsOf_51 (by decide) ?_
            exact ih_lp_1 (i + 1) ms _ _ _ (by omega) (by omega) hP hD hS (lv_sub hl [0, 1, 2, 3] rfl)
          · skip
            refine lv_iload_n hx hb dX12_moodsOf_42 rfl (lv_at hl 1 rfl) ?_
            refine lv_iconst (v := 1) hx hb dX12_moodsOf_43 (by decide) ?_
            refine lv_iload_n hx hb dX12_moodsOf_44 rfl (lv_at hl 0 rfl) ?_
            refine lv_ishl hx hb dX12_moodsOf_45 ?_
            refine lv_topi (fun v_8 ev_8 => ?_)
            refine lv_ior hx hb dX12_moodsOf_46 ?_
            refine lv_topi (fun v_9 ev_9 => ?_)
            refine lv_istore_n (lv' := [(2, .int v_9), (3, .int (nI i)), (0, .ref mm), (1, .int (nI d))]) hx hb dX12_moodsOf_47 rfl hl (by decide) rfl (fun ls hl => ?_)
            refine lv_iinc (v := nI (i + 1)) (lv' := [(3, .int (nI (i + 1))), (2, .int v_9), (0, .ref mm), (1, .int (nI d))]) hx hb dX12_moodsOf_48 hl (k := 1) rfl (ninc i 1 (by decide)) (by decide) rfl (fun ls hl => ?_)
            refine lv_goto (tgt := 4) hx hb dX12_moodsOf_51 (by decide) ?_
            exact ih_lp_1 (i + 1) v_9 _ _ _ (by omega) (by omega) hP hD hS (lv_sub hl [0, 1, 2, 3] rfl)
  exact lp_1 (10 - 0 + 1) 0 0 _ _ _ (Nat.lt_succ_self _) (by omega) hP hD hS (lv_sub hl [0, 1, 2, 3] rfl)
theorem dg_X12_canBeTold_0_0 : bqL cX12_canBeTold 0 [(0, [42]), (1, [27]), (2, [182, 1, 157]), (5, [153, 0, 23]), (28, [3]), (29, [172]), (8, [42]), (9, [27]), (10, [182, 1, 103]), (13, [154, 0, 15]), (16, [42]), (17, [28]), (18, [182, 1, 162]), (21, [153, 0, 7]), (24, [4]), (25, [167, 0, 4])] = true := by decide +kernel
theorem dX12_canBeTold_0 : decode cX12_canBeTold 0 = .ok (.aload_n 0, 1) := q_aload_n0 (bat_get dg_X12_canBeTold_0_0 0 rfl rfl)
theorem dX12_canBeTold_1 : decode cX12_canBeTold 1 = .ok (.iload_n 1, 1) := q_iload_n1 (bat_get dg_X12_canBeTold_0_0 1 rfl rfl)
theorem dX12_canBeTold_2 : decode cX12_canBeTold 2 = .ok (.invokevirtual 413, 3) := q_invokevirtual (bat_get dg_X12_canBeTold_0_0 2 rfl rfl) rfl
theorem dX12_canBeTold_5 : decode cX12_canBeTold 5 = .ok (.ifCond .eq 23, 3) := q_ifCond_eq (bat_get dg_X12_canBeTold_0_0 3 rfl rfl) rfl
theorem dX12_canBeTold_28 : decode cX12_canBeTold 28 = .ok (.iconst 0, 1) := q_iconst0 (bat_get dg_X12_canBeTold_0_0 4 rfl rfl)
theorem dX12_canBeTold_29 : decode cX12_canBeTold 29 = .ok (.ireturn, 1) := q_ireturn (bat_get dg_X12_canBeTold_0_0 5 rfl rfl)
theorem dX12_canBeTold_8 : decode cX12_canBeTold 8 = .ok (.aload_n 0, 1) := q_aload_n0 (bat_get dg_X12_canBeTold_0_0 6 rfl rfl)
theorem dX12_canBeTold_9 : decode cX12_canBeTold 9 = .ok (.iload_n 1, 1) := q_iload_n1 (bat_get dg_X12_canBeTold_0_0 7 rfl rfl)
theorem dX12_canBeTold_10 : decode cX12_canBeTold 10 = .ok (.invokevirtual 359, 3) := q_invokevirtual (bat_get dg_X12_canBeTold_0_0 8 rfl rfl) rfl
theorem dX12_canBeTold_13 : decode cX12_canBeTold 13 = .ok (.ifCond .ne 15, 3) := q_ifCond_ne (bat_get dg_X12_canBeTold_0_0 9 rfl rfl) rfl
theorem dX12_canBeTold_16 : decode cX12_canBeTold 16 = .ok (.aload_n 0, 1) := q_aload_n0 (bat_get dg_X12_canBeTold_0_0 10 rfl rfl)
theorem dX12_canBeTold_17 : decode cX12_canBeTold 17 = .ok (.iload_n 2, 1) := q_iload_n2 (bat_get dg_X12_canBeTold_0_0 11 rfl rfl)
theorem dX12_canBeTold_18 : decode cX12_canBeTold 18 = .ok (.invokevirtual 418, 3) := q_invokevirtual (bat_get dg_X12_canBeTold_0_0 12 rfl rfl) rfl
theorem dX12_canBeTold_21 : decode cX12_canBeTold 21 = .ok (.ifCond .eq 7, 3) := q_ifCond_eq (bat_get dg_X12_canBeTold_0_0 13 rfl rfl) rfl
theorem dX12_canBeTold_24 : decode cX12_canBeTold 24 = .ok (.iconst 1, 1) := q_iconst1 (bat_get dg_X12_canBeTold_0_0 14 rfl rfl)
theorem dX12_canBeTold_25 : decode cX12_canBeTold 25 = .ok (.goto 4, 3) := q_goto (bat_get dg_X12_canBeTold_0_0 15 rfl rfl) rfl
theorem w_8_80 : (Cond.code yX12_canBeTold cX12_canBeTold 3 (some .boolean)) ∈ wsL_law := sk_mem (ck_8 _ (List.mem_of_getElem? (i := 80) rfl)) rfl
def om_3_5 : List Bool := true :: false :: true :: []
set_option maxHeartbeats 4000000 in
set_option maxRecDepth 100000 in
theorem c_m_canBeTold (l : Launch) (D : va_G) (cI cJ cC cZ cS : ClassId) (mm : Nat) (g : Nat → Nat) (ta : Nat) (pa : Nat) (pe : Nat) (pd : Int32) (pb : Nat) (pp : Int32) (pf : Int32) (pg : Int32) (pn : Int32) (rt : Int32) (rn : Int32) (cd : Nat) (sn : Int32) (il : Nat) (tk : Int32) (am : Int32) (at_ : Int32) (aa : Int32) (wt : Int32) (wy : Int64) (rm : Nat) (ud : Nat) (nu : Nat) (sd : Int64) (qn : Nat) (qw : Nat) (qo : Int32) (qb : Nat) (qp : Nat) (qa : Int64) (qi : Nat) (oc : Nat) (d : Int32) (w : Int32) (l0 : Nat) (l1 : Nat) (dm : Nat) (l3 : Nat) (nw : Nat → Int32) (hdm : dm ≤ 9) (hnw : nowOk nw) : skM l yX12_canBeTold cX12_canBeTold 3 (some .boolean) 2 46 0 0 D (skT cI cJ cC cZ cS) [.ref mm, .int d, .int w] [(mm, .inr (12, mo g (nI ta) (nI pa) (nI pe) pd (nI pb) pp pf pg pn rt rn (nI cd) sn (nI il) tk am at_ aa 0 0 (-1) wt wy 0 (nI rm) (nI ud) (nI nu) sd (nI qn) (nI qw) qo (nI qb) (nI qp) qa (nI qi) (nI oc))), (g 20, .inl (cI, 4, .inl (l4 (nI l0) (nI l1) (nI dm) (nI l3)))), (g 31, .inl (cI, 120, .inl nw))] (skI D (skT cI cJ cC cZ cS) (fun (r : Int32) (u : va_W) => ∃ (b : Nat), (b = 0 ∨ (b = 1 ∧ ∃ kq : Nat, kq < dm ∧ d = nI kq)) ∧ r = nI b ∧ u = [(mm, .inr (12, mo g (nI ta) (nI pa) (nI pe) pd (nI pb) pp pf pg pn rt rn (nI cd) sn (nI il) tk am at_ aa 0 0 (-1) wt wy 0 (nI rm) (nI ud) (nI nu) sd (nI qn) (nI qw) qo (nI qb) (nI qp) qa (nI qi) (nI oc))), (g 20, .inl (cI, 4, .inl (l4 (nI l0) (nI l1) (nI dm) (nI l3)))), (g 31, .inl (cI, 120, .inl nw))])) := by
  refine skM_of pf_X12_canBeTold (Nat.le_of_ble_eq_true rfl) ?_
  intro p e s m below meth c A ls E hP hD hl
  refine skE_el E (fun hx hb hr hml hlocks hin hown hts hK hA => ?_)
  have hown : s.vm.findClass RX12 = some m.cls := hown
  have hS : va_S A s.heap s.heap [] := va_S.rf
  have hl : lv_has ls 3 [(0, .ref mm), (1, .int d), (2, .int w)] := hl
  refine lv_aload_n hx hb dX12_canBeTold_0 rfl (lv_at hl 0 rfl) ?_
  refine lv_iload_n hx hb dX12_canBeTold_1 rfl (lv_at hl 1 rfl) ?_
  refine sk_Vi (q0 := 0) (n := 1) (rest := []) (wr := fmR om_3_6 _) ⟨hx, hb, hml, hown, hts⟩ hl.1 (c_m_isDay l D cI cJ cC cZ cS mm g ta pa pe pd pb pp pf pg pn rt rn cd sn il tk am at_ aa 0 0 (-1) wt wy 0 rm ud nu sd qn qw qo qb qp qa qi oc d l0 l1 dm l3 (by omega)) w_7_117 w_7_119 w_0_72 w_1_14 w_7_120 hd_X12_isDay_1 ⟨⟨(Nat.le_of_ble_eq_true rfl), (Nat.le_of_ble_eq_true rfl)⟩, (Nat.le_of_ble_eq_true rfl), (Nat.le_of_ble_eq_true rfl)⟩ hK hP hD hS hA (fmT om_3_6 0) (fmF om_3_6 0) (fm_C1 rfl rfl) (fm_R rfl rfl) (fm_nT om_3_6 0) (fm_nF om_3_6 0) (fm_di om_3_6 0) rfl rfl rfl rfl (Nat.le_of_ble_eq_true rfl) dX12_canBeTold_2 (fun r_2 u H locs hw hP hD hS => ?_)
  refine exE hw (fun b_1 hw1 => anE hw1 (fun hb1_3 hw2 => anE hw2 (fun er_5 eu_4 => ?_)))
  clear hw hw1 hw2
  subst er_5
  refine o_mgE (ws' := [(mm, .inr (12, mo g (nI ta) (nI pa) (nI pe) pd (nI pb) pp pf pg pn rt rn (nI cd) sn (nI il) tk am at_ aa 0 0 (-1) wt wy 0 (nI rm) (nI ud) (nI nu) sd (nI qn) (nI qw) qo (nI qb) (nI qp) qa (nI qi) (nI oc))), (g 20, .inl (cI, 4, .inl (l4 (nI l0) (nI l1) (nI dm) (nI l3)))), (g 31, .inl (cI, 120, .inl nw))]) eu_4 hP hD rfl (fun hP hD => ?_)
  refine lv_if_eq (tgt := 28) hx hb dX12_canBeTold_5 (by decide) (fun c_6 => ?_) (fun c_6 => ?_)
  · have c_6 : b_1 = 0 := (neq b_1 0 (by omega) (by omega)).mp c_6
    refine lv_iconst (v := 0) hx hb dX12_canBeTold_28 (by decide) ?_
    exact sk_iret hx hb hr rfl hlocks hK hP hD hS (⟨0, Or.inl rfl, rfl, rfl⟩) (Nat.le_of_ble_eq_true rfl) (Nat.le_of_ble_eq_true rfl) dX12_canBeTold_29
  · have c_6 : ¬ (b_1 = 0) := fun h => c_6 ((neq b_1 0 (by omega) (by omega)).mpr h)
    obtain ⟨kd_7, hkd_7, rfl⟩ := (hb1_3.resolve_left (by omega)).2
    refine lv_aload_n hx hb dX12_canBeTold_8 rfl (lv_at hl 0 rfl) ?_
    refine lv_iload_n hx hb dX12_canBeTold_9 rfl (lv_at hl 1 rfl) ?_
    refine sk_Vi (q0 := 0) (n := 1) (rest := []) (wr := fmR om_3_5 _) ⟨hx, hb, hml, hown, hts⟩ hl.1 (c_m_isMute l D cI cJ cC cZ cS mm g ta pa pe pd pb pp pf pg pn rt rn cd sn il tk am at_ aa 0 0 (-1) wt wy 0 rm ud nu sd qn qw qo qb qp qa qi oc kd_7 nw (by omega) hnw) w_7_106 w_7_108 w_0_71 w_1_14 w_7_109 hd_X12_isMute_1 ⟨⟨(Nat.le_of_ble_eq_true rfl), (Nat.le_of_ble_eq_true rfl)⟩, (Nat.le_of_ble_eq_true rfl), (Nat.le_of_ble_eq_true rfl)⟩ hK hP hD hS hA (fmT om_3_5 0) (fmF om_3_5 0) (fm_C1 rfl rfl) (fm_R rfl rfl) (fm_nT om_3_5 0) (fm_nF om_3_5 0) (fm_di om_3_5 0) rfl rfl rfl rfl (Nat.le_of_ble_eq_true rfl) dX12_canBeTold_10 (fun r_9 u H locs hw hP hD hS => ?_)
    refine exE hw (fun b_8 hw1 => anE hw1 (fun hb1_10 hw2 => anE hw2 (fun hb2_11 hw3 => anE hw3 (fun er_13 eu_12 => ?_))))
    clear hw hw1 hw2 hw3
    subst er_13
    refine o_mgE (ws' := [(mm, .inr (12, mo g (nI ta) (nI pa) (nI pe) pd (nI pb) pp pf pg pn rt rn (nI cd) sn (nI il) tk am at_ aa 0 0 (-1) wt wy 0 (nI rm) (nI ud) (nI nu) sd (nI qn) (nI qw) qo (nI qb) (nI qp) qa (nI qi) (nI oc))), (g 20, .inl (cI, 4, .inl (l4 (nI l0) (nI l1) (nI dm) (nI l3)))), (g 31, .inl (cI, 120, .inl nw))]) eu_12 hP hD rfl (fun hP hD => ?_)
    refine lv_if_ne (tgt := 28) hx hb dX12_canBeTold_13 (by decide) (fun c_14 => ?_) (fun c_14 => ?_)
    · have c_14 : ¬ (b_8 = 0) := fun h => c_14 ((neq b_8 0 (by omega) (by omega)).mpr h)
      refine lv_iconst (v := 0) hx hb dX12_canBeTold_28 (by decide) ?_
      exact sk_iret hx hb hr rfl hlocks hK hP hD hS (⟨0, Or.inl rfl, rfl, rfl⟩) (Nat.le_of_ble_eq_true rfl) (Nat.le_of_ble_eq_true rfl) dX12_canBeTold_29
    · have c_14 : b_8 = 0 := (neq b_8 0 (by omega) (by omega)).mp c_14
      refine lv_aload_n hx hb dX12_canBeTold_16 rfl (lv_at hl 0 rfl) ?_
      refine lv_iload_n hx hb dX12_canBeTold_17 rfl (lv_at hl 2 rfl) ?_
      refine sk_Vi (q0 := 0) (n := 1) (rest := []) (wr := fmR om_3_4 _) ⟨hx, hb, hml, hown, hts⟩ hl.1 (c_m_isMood l D cI cJ cC cZ cS mm g ta pa pe pd pb pp pf pg pn rt rn cd sn il tk am at_ aa 0 0 (-1) wt wy 0 rm ud nu sd qn qw qo qb qp qa qi oc w) w_7_126 w_7_128 w_0_73 w_1_14 w_7_129 hd_X12_isMood_1 ⟨⟨(Nat.le_of_ble_eq_true rfl), (Nat.le_of_ble_eq_true rfl)⟩, (Nat.le_of_ble_eq_true rfl), (Nat.le_of_ble_eq_true rfl)⟩ hK hP hD hS hA (fmT om_3_4 0) (fmF om_3_4 0) (fm_C1 rfl rfl) (fm_R rfl rfl) (fm_nT om_3_4 0) (fm_nF om_3_4 0) (fm_di om_3_4 0) rfl rfl rfl rfl (Nat.le_of_ble_eq_true rfl) dX12_canBeTold_18 (fun r_16 u H locs hw hP hD hS => ?_)
      refine exE hw (fun b_15 hw1 => anE hw1 (fun hb1_17 hw2 => anE hw2 (fun er_19 eu_18 => ?_)))
      clear hw hw1 hw2
      subst er_19
      refine o_mgE (ws' := [(mm, .inr (12, mo g (nI ta) (nI pa) (nI pe) pd (nI pb) pp pf pg pn rt rn (nI cd) sn (nI il) tk am at_ aa 0 0 (-1) wt wy 0 (nI rm) (nI ud) (nI nu) sd (nI qn) (nI qw) qo (nI qb) (nI qp) qa (nI qi) (nI oc))), (g 20, .inl (cI, 4, .inl (l4 (nI l0) (nI l1) (nI dm) (nI l3)))), (g 31, .inl (cI, 120, .inl nw))]) eu_18 hP hD rfl (fun hP hD => ?_)
      refine lv_if_eq (tgt := 28) hx hb dX12_canBeTold_21 (by decide) (fun c_20 => ?_) (fun c_20 => ?_)
      · have c_20 : b_15 = 0 := (neq b_15 0 (by omega) (by omega)).mp c_20
        refine lv_iconst (v := 0) hx hb dX12_canBeTold_28 (by decide) ?_
        exact sk_iret hx hb hr rfl hlocks hK hP hD hS (⟨0, Or.inl rfl, rfl, rfl⟩) (Nat.le_of_ble_eq_true rfl) (Nat.le_of_ble_eq_true rfl) dX12_canBeTold_29
      · have c_20 : ¬ (b_15 = 0) := fun h => c_20 ((neq b_15 0 (by omega) (by omega)).mpr h)
        obtain ⟨kd_21, hkd_21, rfl⟩ := (hb1_17.resolve_left (by omega)).2
        refine lv_iconst (v := 1) hx hb dX12_canBeTold_24 (by decide) ?_
        refine lv_goto (tgt := 29) hx hb dX12_canBeTold_25 (by decide) ?_
        exact sk_iret hx hb hr rfl hlocks hK hP hD hS (⟨1, Or.inr ⟨rfl, kd_7, by omega, rfl⟩, rfl, rfl⟩) (Nat.le_of_ble_eq_true rfl) (Nat.le_of_ble_eq_true rfl) dX12_canBeTold_29
