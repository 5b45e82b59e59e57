set_option maxHeartbeats 4000000 in
set_option maxRecDepth 100000 in
theorem c_nm_bitsX (l : Launch) (D : va_G) (cI cJ cC cZ cS : ClassId) (mz : Nat) (hm : mz < 512) : skM l yX12_bits cX12_bits 3 (some .int) 0 0 0 0 D (skT cI cJ cC cZ cS) [.int (nI mz)] [] (skI D (skT cI cJ cC cZ cS) (fun (r : Int32) (u : va_W) => r = nI (kpop mz) ∧ u = [])) := by
  refine skM_of pf_X12_bits (Nat.le_of_ble_eq_true rfl) ?_
  intro p e s m below meth c A ls E hP hD hl
  refine skE_el E (fun hx hb hr hml hlocks hin hown hts hK hA => ?_)
  have hown : s.vm.findClass RX12 = some m.cls := hown
  have hS : va_S A s.heap s.heap [] := va_S.rf
  have hl : lv_has ls 3 [(0, .int (nI mz))] := hl
  refine lv_iconst (v := 0) hx hb dX12_bits_0 (by decide) ?_
  refine lv_istore_n (lv' := [(1, .int 0), (0, .int (nI mz))]) hx hb dX12_bits_1 rfl hl (by decide) rfl (fun ls hl => ?_)
  refine lv_iload_n hx hb dX12_bits_2 rfl (lv_at hl 1 rfl) ?_
  refine lv_istore_n (lv' := [(2, .int (nI mz)), (1, .int 0), (0, .int (nI mz))]) hx hb dX12_bits_3 rfl hl (by decide) rfl (fun ls hl => ?_)
  have lp_1 : ∀ (n_2 : Nat) (bs : Nat) (bn : Nat) (H : Heap) (locs : List Loc) (ls : Array Slot), bs < n_2 → (bs < 512) → (bn + kpop bs = kpop mz) → va_P D vwCl [] H → va_D A [] → va_S A s.heap H locs → lv_has ls 3 [(2, .int (nI bs)), (1, .int (nI bn)), (0, .int (nI mz))] → W p l e { frames := 0, cells := 0, slots := 0, locals := 0 } s m ([.int (nI mz)] : List Value).toArray below meth c H locs 0 0 (MQ below (skI D (skT cI cJ cC cZ cS) (fun (r : Int32) (u : va_W) => r = nI (kpop mz) ∧ u = []) A) ([.int (nI mz)] : List Value).toArray s 0 0 A) (F0 m 4 ls []) := by
    intro n_2
    induction n_2 with
    | zero => intro bs bn H locs ls hm; exact absurd hm (Nat.not_lt_zero _)
    | succ n_2 ih_lp_1 =>
      intro bs bn H locs ls hm hbs hbn hP hD hS hl
      refine lv_iload_n hx hb dX12_bits_4 rfl (lv_at hl 0 rfl) ?_
      refine lv_if_eq (tgt := 20) hx hb dX12_bits_5 (by decide) (fun c_3 => ?_) (fun c_3 => ?_)
      · have c_3 : bs = 0 := (neq bs 0 (by omega) (by omega)).mp c_3
        refine lv_iload_n hx hb dX12_bits_20 rfl (lv_at hl 1 rfl) ?_
        exact sk_iret hx hb hr rfl hlocks hK hP hD hS (⟨(congrArg nI (by have h9 := hbn; rw [show bs = 0 by omega, kpop_0] at h9; omega)), rfl⟩) (Nat.le_of_ble_eq_true rfl) (Nat.le_of_ble_eq_true rfl) dX12_bits_21
      · have c_3 : ¬ (bs = 0) := fun h => c_3 ((neq bs 0 (by omega) (by omega)).mpr h)
        refine lv_iinc (v := nI (bn + 1)) (lv' := [(1, .int (nI (bn + 1))), (2, .int (nI bs)), (0, .int (nI mz))]) hx hb dX12_bits_8 hl (k := 1) rfl (ninc bn 1 (by decide)) (by decide) rfl (fun ls hl => ?_)
        refine lv_iload_n hx hb dX12_bits_11 rfl (lv_at hl 1 rfl) ?_
        refine lv_iload_n hx hb dX12_bits_12 rfl (lv_at hl 1 rfl) ?_
        refine lv_iconst (v := 1) hx hb dX12_bits_13 (by decide) ?_
        refine lv_isub hx hb dX12_bits_14 ?_
        refine sk_top (nI (bs - 1)) (nsub bs 1 (by omega)) ?_
        refine lv_iand hx hb dX12_bits_15 ?_
        have hbd := kbs_d bs (by omega) (by omega)
        refine sk_top (nI (bs &&& (bs - 1))) hbd.1 ?_
        refine lv_istore_n (lv' := [(2, .int (nI (bs &&& (bs - 1)))), (1, .int (nI (bn + 1))), (0, .int (nI mz))]) hx hb dX12_bits_16 rfl hl (by decide) rfl (fun ls hl => ?_)
        refine lv_goto (tgt := 4) hx hb dX12_bits_17 (by decide) ?_
        exact ih_lp_1 (bs &&& (bs - 1)) (bn + 1) _ _ _ (by have h9 := hbd.2.1; omega) (by have h9 := hbd.2.1; omega) (by have h9 := hbd.2.2; omega) hP hD hS (lv_sub hl [0, 1, 2] rfl)
  exact lp_1 (mz + 1) mz 0 _ _ _ (Nat.lt_succ_self _) hm (Nat.zero_add _) hP hD hS (lv_sub hl [0, 1, 2] rfl)
theorem dg_X12_muteSet_0_0 : bqL cX12_muteSet 0 [(0, [3]), (1, [60]), (2, [3]), (3, [61]), (4, [28]), (5, [42]), (6, [182, 1, 59]), (9, [162, 0, 23]), (32, [27]), (33, [172]), (12, [42]), (13, [28]), (14, [182, 1, 103]), (17, [153, 0, 9]), (26, [132, 2, 1]), (29, [167, 255, 231]), (20, [27]), (21, [4]), (22, [28]), (23, [120]), (24, [128]), (25, [60])] = true := by decide +kernel
theorem dX12_muteSet_0 : decode cX12_muteSet 0 = .ok (.iconst 0, 1) := q_iconst0 (bat_get dg_X12_muteSet_0_0 0 rfl rfl)
theorem dX12_muteSet_1 : decode cX12_muteSet 1 = .ok (.istore_n 1, 1) := q_istore_n1 (bat_get dg_X12_muteSet_0_0 1 rfl rfl)
theorem dX12_muteSet_2 : decode cX12_muteSet 2 = .ok (.iconst 0, 1) := q_iconst0 (bat_get dg_X12_muteSet_0_0 2 rfl rfl)
theorem dX12_muteSet_3 : decode cX12_muteSet 3 = .ok (.istore_n 2, 1) := q_istore_n2 (bat_get dg_X12_muteSet_0_0 3 rfl rfl)
theorem dX12_muteSet_4 : decode cX12_muteSet 4 = .ok (.iload_n 2, 1) := q_iload_n2 (bat_get dg_X12_muteSet_0_0 4 rfl rfl)
theorem dX12_muteSet_5 : decode cX12_muteSet 5 = .ok (.aload_n 0, 1) := q_aload_n0 (bat_get dg_X12_muteSet_0_0 5 rfl rfl)
theorem dX12_muteSet_6 : decode cX12_muteSet 6 = .ok (.invokevirtual 315, 3) := q_invokevirtual (bat_get dg_X12_muteSet_0_0 6 rfl rfl) rfl
theorem dX12_muteSet_9 : decode cX12_muteSet 9 = .ok (.if_icmp .ge 23, 3) := q_if_icmp_ge (bat_get dg_X12_muteSet_0_0 7 rfl rfl) rfl
theorem dX12_muteSet_32 : decode cX12_muteSet 32 = .ok (.iload_n 1, 1) := q_iload_n1 (bat_get dg_X12_muteSet_0_0 8 rfl rfl)
theorem dX12_muteSet_33 : decode cX12_muteSet 33 = .ok (.ireturn, 1) := q_ireturn (bat_get dg_X12_muteSet_0_0 9 rfl rfl)
theorem dX12_muteSet_12 : decode cX12_muteSet 12 = .ok (.aload_n 0, 1) := q_aload_n0 (bat_get dg_X12_muteSet_0_0 10 rfl rfl)
theorem dX12_muteSet_13 : decode cX12_muteSet 13 = .ok (.iload_n 2, 1) := q_iload_n2 (bat_get dg_X12_muteSet_0_0 11 rfl rfl)
theorem dX12_muteSet_14 : decode cX12_muteSet 14 = .ok (.invokevirtual 359, 3) := q_invokevirtual (bat_get dg_X12_muteSet_0_0 12 rfl rfl) rfl
theorem dX12_muteSet_17 : decode cX12_muteSet 17 = .ok (.ifCond .eq 9, 3) := q_ifCond_eq (bat_get dg_X12_muteSet_0_0 13 rfl rfl) rfl
theorem dX12_muteSet_26 : decode cX12_muteSet 26 = .ok (.iinc 2 1, 3) := q_iinc (bat_get dg_X12_muteSet_0_0 14 rfl rfl) rfl
theorem dX12_muteSet_29 : decode cX12_muteSet 29 = .ok (.goto (-25), 3) := q_goto (bat_get dg_X12_muteSet_0_0 15 rfl rfl) rfl
theorem dX12_muteSet_20 : decode cX12_muteSet 20 = .ok (.iload_n 1, 1) := q_iload_n1 (bat_get dg_X12_muteSet_0_0 16 rfl rfl)
theorem dX12_muteSet_21 : decode cX12_muteSet 21 = .ok (.iconst 1, 1) := q_iconst1 (bat_get dg_X12_muteSet_0_0 17 rfl rfl)
theorem dX12_muteSet_22 : decode cX12_muteSet 22 = .ok (.iload_n 2, 1) := q_iload_n2 (bat_get dg_X12_muteSet_0_0 18 rfl rfl)
theorem dX12_muteSet_23 : decode cX12_muteSet 23 = .ok (.ishl, 1) := q_ishl (bat_get dg_X12_muteSet_0_0 19 rfl rfl)
theorem dX12_muteSet_24 : decode cX12_muteSet 24 = .ok (.ior, 1) := q_ior (bat_get dg_X12_muteSet_0_0 20 rfl rfl)
theorem dX12_muteSet_25 : decode cX12_muteSet 25 = .ok (.istore_n 1, 1) := q_istore_n1 (bat_get dg_X12_muteSet_0_0 21 rfl rfl)
theorem w_7_105 : (Cond.code yX12_muteSet cX12_muteSet 3 (some .int)) ∈ wsL_law := sk_mem (ck_7 _ (List.mem_of_getElem? (i := 105) rfl)) rfl
set_option maxHeartbeats 4000000 in
set_option maxRecDepth 100000 in
theorem c_nm_muteSet (l : Launch) (D : va_G) (cI cJ cC cZ cS : ClassId) (mm : Nat) (g : Nat → Nat) (ta : Nat) (pa : Nat) (pe : Nat) (pd : Int32) (pb : Nat) (pp : Int32) (pf : Int32) (pg : Int32) (pn : Int32) (rt : Int32) (rn : Int32) (cd : Nat) (sn : Int32) (il : Nat) (tk : Int32) (am : Int32) (at_ : Int32) (aa : Int32) (wt : Int32) (wy : Int64) (rm : Nat) (ud : Nat) (nu : Nat) (sd : Int64) (qn : Nat) (qw : Nat) (qo : Int32) (qb : Nat) (qp : Nat) (qa : Int64) (qi : Nat) (oc : Nat) (l0 : Nat) (l1 : Nat) (dm : Nat) (l3 : Nat) (nw : Nat → Int32) (wn : Nat) (mN : Nat) (Ba : Nat → Nat) (We : Nat → Nat) (U : Nat → Bool) (ke : Nat) (lg : KLg) (hdm : dm ≤ 9) (hnw : nwX wn mN Ba We U ke lg nw) : skM l yX12_muteSet cX12_muteSet 3 (some .int) 1 21 0 0 D (skT cI cJ cC cZ cS) [.ref mm] [(mm, .inr (12, mo g (nI ta) (nI pa) (nI pe) pd (nI pb) pp pf pg pn rt rn (nI cd) sn (nI il) tk am at_ aa 0 0 (-1) wt wy 0 (nI rm) (nI ud) (nI nu) sd (nI qn) (nI qw) qo (nI qb) (nI qp) qa (nI qi) (nI oc))), (g 20, .inl (cI, 4, .inl (l4 (nI l0) (nI l1) (nI dm) (nI l3)))), (g 31, .inl (cI, 120, .inl nw))] (skI D (skT cI cJ cC cZ cS) (fun (r : Int32) (u : va_W) => r = nI (kcK U dm) ∧ u = [(mm, .inr (12, mo g (nI ta) (nI pa) (nI pe) pd (nI pb) pp pf pg pn rt rn (nI cd) sn (nI il) tk am at_ aa 0 0 (-1) wt wy 0 (nI rm) (nI ud) (nI nu) sd (nI qn) (nI qw) qo (nI qb) (nI qp) qa (nI qi) (nI oc))), (g 20, .inl (cI, 4, .inl (l4 (nI l0) (nI l1) (nI dm) (nI l3)))), (g 31, .inl (cI, 120, .inl nw))])) := by
  refine skM_of pf_X12_muteSet (Nat.le_of_ble_eq_true rfl) ?_
  intro p e s m below meth c A ls E hP hD hl
  refine skE_el E (fun hx hb hr hml hlocks hin hown hts hK hA => ?_)
  have hown : s.vm.findClass RX12 = some m.cls := hown
  have hS : va_S A s.heap s.heap [] := va_S.rf
  have hl : lv_has ls 3 [(0, .ref mm)] := hl
  refine lv_iconst (v := 0) hx hb dX12_muteSet_0 (by decide) ?_
  refine lv_istore_n (lv' := [(1, .int 0), (0, .ref mm)]) hx hb dX12_muteSet_1 rfl hl (by decide) rfl (fun ls hl => ?_)
  refine lv_iconst (v := 0) hx hb dX12_muteSet_2 (by decide) ?_
  refine lv_istore_n (lv' := [(2, .int 0), (1, .int 0), (0, .ref mm)]) hx hb dX12_muteSet_3 rfl hl (by decide) rfl (fun ls hl => ?_)
  have lp_1 : ∀ (n_2 : Nat) (i : Nat) (ms : Int32) (H : Heap) (locs : List Loc) (ls : Array Slot), dm - i < n_2 → (i ≤ dm) → (ms = nI (kcK U i)) → va_P D vwCl [(mm, .inr (12, mo g (nI ta) (nI pa) (nI pe) pd (nI pb) pp pf pg pn rt rn (nI cd) sn (nI il) tk am at_ aa 0 0 (-1) wt wy 0 (nI rm) (nI ud) (nI nu) sd (nI qn) (nI qw) qo (nI qb) (nI qp) qa (nI qi) (nI oc))), (g 20, .inl (cI, 4, .inl (l4 (nI l0) (nI l1) (nI dm) (nI l3)))), (g 31, .inl (cI, 120, .inl nw))] H → va_D A [(mm, .inr (12, mo g (nI ta) (nI pa) (nI pe) pd (nI pb) pp pf pg pn rt rn (nI cd) sn (nI il) tk am at_ aa 0 0 (-1) wt wy 0 (nI rm) (nI ud) (nI nu) sd (nI qn) (nI qw) qo (nI qb) (nI qp) qa (nI qi) (nI oc))), (g 20, .inl (cI, 4, .inl (l4 (nI l0) (nI l1) (nI dm) (nI l3)))), (g 31, .inl (cI, 120, .inl nw))] → va_S A s.heap H locs → lv_has ls 3 [(2, .int (nI i)), (1, .int ms), (0, .ref mm)] → W p l e { frames := 1, cells := 0, slots := 0, locals := 21 } s m ([.ref mm] : List Value).toArray below meth c H locs 0 0 (MQ below (skI D (skT cI cJ cC cZ cS) (fun (r : Int32) (u : va_W) => r = nI (kcK U dm) ∧ u = [(mm, .inr (12, mo g (nI ta) (nI pa) (nI pe) pd (nI pb) pp pf pg pn rt rn (nI cd) sn (nI il) tk am at_ aa 0 0 (-1) wt wy 0 (nI rm) (nI ud) (nI nu) sd (nI qn) (nI qw) qo (nI qb) (nI qp) qa (nI qi) (nI oc))), (g 20, .inl (cI, 4, .inl (l4 (nI l0) (nI l1) (nI dm) (nI l3)))), (g 31, .inl (cI, 120, .inl nw))]) A) ([.ref mm] : List Value).toArray s 0 0 A) (F0 m 4 ls []) := by
    intro n_2
    induction n_2 with
    | zero => intro i ms H locs ls hm; exact absurd hm (Nat.not_lt_zero _)
    | succ n_2 ih_lp_1 =>
      intro i ms H locs ls hm hi hms hP hD hS hl
      refine lv_iload_n hx hb dX12_muteSet_4 rfl (lv_at hl 0 rfl) ?_
      refine lv_aload_n hx hb dX12_muteSet_5 rfl (lv_at hl 2 rfl) ?_
      refine sk_Vi (q0 := 0) (n := 0) (rest := [.int (nI i)]) (wr := fmR om_3_6 _) ⟨hx, hb, hml, hown, hts⟩ hl.1 (c_m_dayMany l D cI cJ cC cZ cS mm g ta pa pe pd pb pp pf pg pn rt rn cd sn il tk am at_ aa 0 0 (-1) wt wy 0 rm ud nu sd qn qw qo qb qp qa qi oc l0 l1 dm l3) w_7_98 w_7_100 w_0_69 w_1_14 w_7_101 hd_X12_dayMany_0 ⟨⟨(Nat.le_of_ble_eq_true rfl), (Nat.le_of_ble_eq_true rfl)⟩, (Nat.le_of_ble_eq_true rfl), (Nat.le_of_ble_eq_true rfl)⟩ hK hP hD hS hA (fmT om_3_6 0) (fmF om_3_6 0) (fm_C1 rfl rfl) (fm_R rfl rfl) (fm_nT om_3_6 0) (fm_nF om_3_6 0) (fm_di om_3_6 0) rfl rfl rfl rfl (Nat.le_of_ble_eq_true rfl) dX12_muteSet_6 (fun r_3 u H locs hw hP hD hS => ?_)
      refine anE hw (fun er_5 eu_4 => ?_)
      clear hw
      subst er_5
      refine o_mgE (ws' := [(mm, .inr (12, mo g (nI ta) (nI pa) (nI pe) pd (nI pb) pp pf pg pn rt rn (nI cd) sn (nI il) tk am at_ aa 0 0 (-1) wt wy 0 (nI rm) (nI ud) (nI nu) sd (nI qn) (nI qw) qo (nI qb) (nI qp) qa (nI qi) (nI oc))), (g 20, .inl (cI, 4, .inl (l4 (nI l0) (nI l1) (nI dm) (nI l3)))), (g 31, .inl (cI, 120, .inl nw))]) eu_4 hP hD rfl (fun hP hD => ?_)
      refine lv_icmp_ge (tgt := 32) hx hb dX12_muteSet_9 (by decide) (fun c_6 => ?_) (fun c_6 => ?_)
      · have c_6 : dm ≤ i := (nle dm i (by omega) (by omega)).mp c_6
        obtain rfl : dm = i := by omega
        subst hms
        refine lv_iload_n hx hb dX12_muteSet_32 rfl (lv_at hl 1 rfl) ?_
        exact sk_iret hx hb hr rfl hlocks hK hP hD hS (⟨rfl, rfl⟩) (Nat.le_of_ble_eq_true rfl) (Nat.le_of_ble_eq_true rfl) dX12_muteSet_33
      · have c_6 : ¬ (dm ≤ i) := fun h => c_6 ((nle dm i (by omega) (by omega)).mpr h)
        refine lv_aload_n hx hb dX12_muteSet_12 rfl (lv_at hl 2 rfl) ?_
        refine lv_iload_n hx hb dX12_muteSet_13 rfl (lv_at hl 0 rfl) ?_
        refine sk_Vi (q0 := 0) (n := 1) (rest := []) (wr := fmR om_3_5 _) ⟨hx, hb, hml, hown, hts⟩ hl.1 (c_nm_isMute l D cI cJ cC cZ cS mm g ta pa pe pd pb pp pf pg pn rt rn cd sn il tk am at_ aa wt wy rm ud nu sd qn qw qo qb qp qa qi oc i nw wn mN Ba We U ke lg (by omega) hnw) w_7_106 w_7_108 w_0_71 w_1_14 w_7_109 hd_X12_isMute_1 ⟨⟨(Nat.le_of_ble_eq_true rfl), (Nat.le_of_ble_eq_true rfl)⟩, (Nat.le_of_ble_eq_true rfl), (Nat.le_of_ble_eq_true rfl)⟩ hK hP hD hS hA (fmT om_3_5 0) (fmF om_3_5 0) (fm_C1 rfl rfl) (fm_R rfl rfl) (fm_nT om_3_5 0) (fm_nF om_3_5 0) (fm_di om_3_5 0) rfl rfl rfl rfl (Nat.le_of_ble_eq_true rfl) dX12_muteSet_14 (fun r_8 u H locs hw hP hD hS => ?_)
        refine exE hw (fun b_7 hw1 => anE hw1 (fun hb1_9 hw2 => anE hw2 (fun er_11 eu_10 => ?_)))
        clear hw hw1 hw2
        subst er_11
        refine o_mgE (ws' := [(mm, .inr (12, mo g (nI ta) (nI pa) (nI pe) pd (nI pb) pp pf pg pn rt rn (nI cd) sn (nI il) tk am at_ aa 0 0 (-1) wt wy 0 (nI rm) (nI ud) (nI nu) sd (nI qn) (nI qw) qo (nI qb) (nI qp) qa (nI qi) (nI oc))), (g 20, .inl (cI, 4, .inl (l4 (nI l0) (nI l1) (nI dm) (nI l3)))), (g 31, .inl (cI, 120, .inl nw))]) eu_10 hP hD rfl (fun hP hD => ?_)
        refine lv_if_eq (tgt := 26) hx hb dX12_muteSet_17 (by decide) (fun c_12 => ?_) (fun c_12 => ?_)
        · have c_12 : b_7 = 0 := (neq b_7 0 (by omega) (by omega)).mp c_12
          refine lv_iinc (v := nI (i + 1)) (lv' := [(2, .int (nI (i + 1))), (1, .int ms), (0, .ref mm)]) hx hb dX12_muteSet_26 hl (k := 0) rfl (ninc i 1 (by decide)) (by decide) rfl (fun ls hl => ?_)
          refine lv_goto (tgt := 4) hx hb dX12_muteSet_29 (by decide) ?_
          exact ih_lp_1 (i + 1) ms _ _ _ (by omega) (by omega) (kmK_n hms (km_0 hb1_9 (by omega))) hP hD hS (lv_sub hl [0, 1, 2] rfl)
        · have c_12 : ¬ (b_7 = 0) := fun h => c_12 ((neq b_7 0 (by omega) (by omega)).mpr h)
          refine lv_iload_n hx hb dX12_muteSet_20 rfl (lv_at hl 1 rfl) ?_
          refine lv_iconst (v := 1) hx hb dX12_muteSet_21 (by decide) ?_
          refine lv_iload_n hx hb dX12_muteSet_22 rfl (lv_at hl 0 rfl) ?_
          refine lv_ishl hx hb dX12_muteSet_23 ?_
          refine lv_ior hx hb dX12_muteSet_24 ?_
          refine lv_istore_n (lv' := [(1, .int (ms ||| ((1 : Int32) <<< (nI i &&& 31)))), (2, .int (nI i)), (0, .ref mm)]) hx hb dX12_muteSet_25 rfl hl (by decide) rfl (fun ls hl => ?_)
          refine lv_iinc (v := nI (i + 1)) (lv' := [(2, .int (nI (i + 1))), (1, .int (ms ||| ((1 : Int32) <<< (nI i &&& 31)))), (0, .ref mm)]) hx hb dX12_muteSet_26 hl (k := 1) rfl (ninc i 1 (by decide)) (by decide) rfl (fun ls hl => ?_)
          refine lv_goto (tgt := 4) hx hb dX12_muteSet_29 (by decide) ?_
          exact ih_lp_1 (i + 1) (ms ||| ((1 : Int32) <<< (nI i &&& 31))) _ _ _ (by omega) (by omega) (kmK_s hms (by omega) (km_1 hb1_9 (by omega))) hP hD hS (lv_sub hl [0, 1, 2] rfl)
  exact lp_1 (dm - 0 + 1) 0 0 _ _ _ (Nat.lt_succ_self _) (by omega) rfl hP hD hS (lv_sub hl [0, 1, 2] rfl)
theorem dX12_has_1 : decode cX12_has 1 = .ok (.tableswitch 83 0 6 #[43, 48, 48, 57, 65, 73, 78], 43) := by decide +kernel
theorem dg_X12_has_0_0 : bqL cX12_has 0 [(0, [27]), (44, [42]), (45, [182, 1, 59]), (48, [172]), (49, [42]), (50, [180, 0, 63]), (53, [27]), (54, [4]), (55, [100]), (56, [46]), (57, [172]), (58, [42]), (59, [182, 1, 150]), (62, [184, 1, 153]), (65, [172]), (66, [42]), (67, [180, 0, 63]), (70, [16, 29]), (72, [46]), (73, [172]), (74, [42]), (75, [180, 1, 56]), (78, [172]), (79, [42]), (80, [180, 1, 53]), (83, [172]), (84, [2]), (85, [172])] = true := by decide +kernel
