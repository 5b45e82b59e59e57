theorem dX12_becomes_0 : decode cX12_becomes 0 = .ok (.aload_n 0, 1) := by decide +kernel
theorem dX12_becomes_1 : decode cX12_becomes 1 = .ok (.iload_n 1, 1) := by decide +kernel
theorem dX12_becomes_2 : decode cX12_becomes 2 = .ok (.invokevirtual 413, 3) := by decide +kernel
theorem dX12_becomes_5 : decode cX12_becomes 5 = .ok (.ifCond .eq 24, 3) := by decide +kernel
theorem dX12_becomes_29 : decode cX12_becomes 29 = .ok (.aload_n 0, 1) := by decide +kernel
theorem dX12_becomes_30 : decode cX12_becomes 30 = .ok (.getfield 17, 3) := by decide +kernel
theorem dX12_becomes_33 : decode cX12_becomes 33 = .ok (.iconst 2, 1) := by decide +kernel
theorem dX12_becomes_34 : decode cX12_becomes 34 = .ok (.dup2, 1) := by decide +kernel
theorem dX12_becomes_35 : decode cX12_becomes 35 = .ok (.iaload, 1) := by decide +kernel
theorem dX12_becomes_36 : decode cX12_becomes 36 = .ok (.iconst 1, 1) := by decide +kernel
theorem dX12_becomes_37 : decode cX12_becomes 37 = .ok (.iadd, 1) := by decide +kernel
theorem dX12_becomes_38 : decode cX12_becomes 38 = .ok (.iastore, 1) := by decide +kernel
theorem dX12_becomes_39 : decode cX12_becomes 39 = .ok (.iconst 0, 1) := by decide +kernel
theorem dX12_becomes_40 : decode cX12_becomes 40 = .ok (.ireturn, 1) := by decide +kernel
theorem dX12_becomes_8 : decode cX12_becomes 8 = .ok (.iload 4, 2) := by decide +kernel
theorem dX12_becomes_10 : decode cX12_becomes 10 = .ok (.ifCond .eq 19, 3) := by decide +kernel
theorem w_8_129 : (Cond.code yX12_becomes cX12_becomes 5 (some .boolean)) ∈ wsL_law := sk_mem (ck_8 _ (List.mem_of_getElem? (i := 129) rfl)) rfl
set_option maxHeartbeats 4000000 in
set_option maxRecDepth 100000 in
theorem c_nm_becomes0 (l : Launch) (D : va_G) (cI cJ cC cZ cS : ClassId) (mm : Nat) (g : Nat → Nat) (ta : Nat) (pa : Nat) (pe : Nat) (pd : Int32) (pb : Nat) (pp : Int32) (pf : Int32) (pg : Int32) (pn : Int32) (rt : Int32) (rn : Int32) (cd : Nat) (sn : Int32) (il : Nat) (tk : Int32) (am : Int32) (at_ : Int32) (aa : Int32) (wt : Int32) (wy : Int64) (rm : Nat) (ud : Nat) (nu : Nat) (sd : Int64) (qn : Nat) (qw : Nat) (qo : Int32) (qb : Nat) (qp : Nat) (qa : Int64) (qi : Nat) (oc : Nat) (d : Int32) (w : Int32) (o : Int32) (l0 : Nat) (l1 : Nat) (dm : Nat) (l3 : Nat) (rf : Nat → Int32) (hdm : dm ≤ 9) : skM l yX12_becomes cX12_becomes 5 (some .boolean) 2 46 0 0 D (skT cI cJ cC cZ cS) [.ref mm, .int d, .int w, .int o, .int 0] [(mm, .inr (12, mo g (nI ta) (nI pa) (nI pe) pd (nI pb) pp pf pg pn rt rn (nI cd) sn (nI il) tk am at_ aa 0 0 (-1) wt wy 0 (nI rm) (nI ud) (nI nu) sd (nI qn) (nI qw) qo (nI qb) (nI qp) qa (nI qi) (nI oc))), (g 20, .inl (cI, 4, .inl (l4 (nI l0) (nI l1) (nI dm) (nI l3)))), (g 9, .inl (cI, 6, .inl rf))] (skI D (skT cI cJ cC cZ cS) (fun (r : Int32) (u : va_W) => ∃ (rf2 : Nat → Int32), rf2 = upd rf 2 (rf 2 + 1) ∧ r = 0 ∧ u = [(mm, .inr (12, mo g (nI ta) (nI pa) (nI pe) pd (nI pb) pp pf pg pn rt rn (nI cd) sn (nI il) tk am at_ aa 0 0 (-1) wt wy 0 (nI rm) (nI ud) (nI nu) sd (nI qn) (nI qw) qo (nI qb) (nI qp) qa (nI qi) (nI oc))), (g 20, .inl (cI, 4, .inl (l4 (nI l0) (nI l1) (nI dm) (nI l3)))), (g 9, .inl (cI, 6, .inl rf2))])) := by
  refine skM_of (by decide +kernel) (Nat.le_of_ble_eq_true rfl) ?_
  intro p e s m below meth c A ls E hP hD hl
  obtain ⟨hx, hb, hr, hml, hlocks, hin, hown, hts, hK, hA⟩ := E
  have hown : s.vm.findClass RX12 = some m.cls := hown
  have hS : va_S A s.heap s.heap [] := va_S.rf
  have hl : lv_has ls 5 [(0, .ref mm), (1, .int d), (2, .int w), (3, .int o), (4, .int 0)] := hl
  refine lv_aload_n hx hb dX12_becomes_0 rfl (lv_at hl 0 rfl) ?_
  refine lv_iload_n hx hb dX12_becomes_1 rfl (lv_at hl 1 rfl) ?_
  refine sk_Vi (q0 := 0) (n := 1) (rest := []) (wr := [(g 9, .inl (cI, 6, .inl rf))]) ⟨hx, hb, hml, hown, hts⟩ hl.1 (c_nm_isDay l D cI cJ cC cZ cS mm g ta pa pe pd pb pp pf pg pn rt rn cd sn il tk am at_ aa wt wy rm ud nu sd qn qw qo qb qp qa qi oc d l0 l1 dm l3 (by omega)) w_7_117 w_7_119 w_0_72 w_1_14 w_7_120 (by decide +kernel) ⟨⟨(Nat.le_of_ble_eq_true rfl), (Nat.le_of_ble_eq_true rfl)⟩, (Nat.le_of_ble_eq_true rfl), (Nat.le_of_ble_eq_true rfl)⟩ hK hP hD hS hA [0, 1] [2] rfl rfl (by decide +kernel) (by decide +kernel) (by decide +kernel) rfl rfl rfl rfl (Nat.le_of_ble_eq_true rfl) dX12_becomes_2 (fun r_2 u H locs hw hP hD hS => ?_)
  obtain ⟨b_1, hb1_3, rfl, rfl⟩ := hw
  have hP : va_P D vwCl [(g 9, .inl (cI, 6, .inl rf)), (mm, .inr (12, mo g (nI ta) (nI pa) (nI pe) pd (nI pb) pp pf pg pn rt rn (nI cd) sn (nI il) tk am at_ aa 0 0 (-1) wt wy 0 (nI rm) (nI ud) (nI nu) sd (nI qn) (nI qw) qo (nI qb) (nI qp) qa (nI qi) (nI oc))), (g 20, .inl (cI, 4, .inl (l4 (nI l0) (nI l1) (nI dm) (nI l3))))] H := hP
  have hD : va_D A [(g 9, .inl (cI, 6, .inl rf)), (mm, .inr (12, mo g (nI ta) (nI pa) (nI pe) pd (nI pb) pp pf pg pn rt rn (nI cd) sn (nI il) tk am at_ aa 0 0 (-1) wt wy 0 (nI rm) (nI ud) (nI nu) sd (nI qn) (nI qw) qo (nI qb) (nI qp) qa (nI qi) (nI oc))), (g 20, .inl (cI, 4, .inl (l4 (nI l0) (nI l1) (nI dm) (nI l3))))] := hD
  refine lv_if_eq (tgt := 29) hx hb dX12_becomes_5 (by decide) (fun c_4 => ?_) (fun c_4 => ?_)
  · have c_4 : b_1 = 0 := (neq b_1 0 (by omega) (by omega)).mp c_4
    refine lv_aload_n hx hb dX12_becomes_29 rfl (lv_at hl 0 rfl) ?_
    refine sk_get (v := .ref (g 9)) (C := RX12) (T := TX12) (N := 92) hx hb hts inlX12 hown hK hP 1 rfl rfl 9 (by decide) w_5_164 rfl dX12_becomes_30 ?_
    refine lv_iconst (v := 2) hx hb dX12_becomes_33 (by decide) ?_
    refine lv_dup2_11 hx hb dX12_becomes_34 rfl rfl ?_
    refine va_iald hx hb hK.1 hP 0 0 rfl rfl (by unfold vp_in; decide) dX12_becomes_35 ?_
    refine sk_top (rf 2) (rfl) ?_
    refine lv_iconst (v := 1) hx hb dX12_becomes_36 (by decide) ?_
    refine lv_iadd hx hb dX12_becomes_37 ?_
    refine sk_iastE (k := 2) (ws' := fun f_5 => [(g 9, .inl (cI, 6, .inl f_5)), (mm, .inr (12, mo g (nI ta) (nI pa) (nI pe) pd (nI pb) pp pf pg pn rt rn (nI cd) sn (nI il) tk am at_ aa 0 0 (-1) wt wy 0 (nI rm) (nI ud) (nI nu) sd (nI qn) (nI qw) qo (nI qb) (nI qp) qa (nI qi) (nI oc))), (g 20, .inl (cI, 4, .inl (l4 (nI l0) (nI l1) (nI dm) (nI l3))))]) hx hb hK hP hD hS 0 0 rfl rfl (by omega) (by omega) (fun _ => rfl) dX12_becomes_38 (fun f_5 H locs ef_6 hP hD hS => ?_)
    refine lv_iconst (v := 0) hx hb dX12_becomes_39 (by decide) ?_
    have hP := hP.sub (ws' := [(mm, .inr (12, mo g (nI ta) (nI pa) (nI pe) pd (nI pb) pp pf pg pn rt rn (nI cd) sn (nI il) tk am at_ aa 0 0 (-1) wt wy 0 (nI rm) (nI ud) (nI nu) sd (nI qn) (nI qw) qo (nI qb) (nI qp) qa (nI qi) (nI oc))), (g 20, .inl (cI, 4, .inl (l4 (nI l0) (nI l1) (nI dm) (nI l3)))), (g 9, .inl (cI, 6, .inl f_5))]) [1, 2, 0] rfl
    have hD := hD.sub (ws' := [(mm, .inr (12, mo g (nI ta) (nI pa) (nI pe) pd (nI pb) pp pf pg pn rt rn (nI cd) sn (nI il) tk am at_ aa 0 0 (-1) wt wy 0 (nI rm) (nI ud) (nI nu) sd (nI qn) (nI qw) qo (nI qb) (nI qp) qa (nI qi) (nI oc))), (g 20, .inl (cI, 4, .inl (l4 (nI l0) (nI l1) (nI dm) (nI l3)))), (g 9, .inl (cI, 6, .inl f_5))]) [1, 2, 0] (by decide +kernel) rfl
    exact sk_iret hx hb hr rfl hlocks hK hP hD hS (⟨f_5, ef_6, rfl, rfl⟩) (Nat.le_of_ble_eq_true rfl) (Nat.le_of_ble_eq_true rfl) dX12_becomes_40
  · have c_4 : ¬ (b_1 = 0) := fun h => c_4 ((neq b_1 0 (by omega) (by omega)).mpr h)
    obtain ⟨kd_7, hkd_7, rfl⟩ := rr_1 hb1_3 (by omega)
    refine lv_iload hx hb dX12_becomes_8 (lv_at hl 4 rfl) ?_
    refine lv_if_eq (tgt := 29) hx hb dX12_becomes_10 (by decide) (fun c_8 => ?_) (fun c => absurd c (by decide))
    refine lv_aload_n hx hb dX12_becomes_29 rfl (lv_at hl 0 rfl) ?_
    refine sk_get (v := .ref (g 9)) (C := RX12) (T := TX12) (N := 92) hx hb hts inlX12 hown hK hP 1 rfl rfl 9 (by decide) w_5_164 rfl dX12_becomes_30 ?_
    refine lv_iconst (v := 2) hx hb dX12_becomes_33 (by decide) ?_
    refine lv_dup2_11 hx hb dX12_becomes_34 rfl rfl ?_
    refine va_iald hx hb hK.1 hP 0 0 rfl rfl (by unfold vp_in; decide) dX12_becomes_35 ?_
    refine sk_top (rf 2) (rfl) ?_
    refine lv_iconst (v := 1) hx hb dX12_becomes_36 (by decide) ?_
    refine lv_iadd hx hb dX12_becomes_37 ?_
    refine sk_iastE (k := 2) (ws' := fun f_9 => [(g 9, .inl (cI, 6, .inl f_9)), (mm, .inr (12, mo g (nI ta) (nI pa) (nI pe) pd (nI pb) pp pf pg pn rt rn (nI cd) sn (nI il) tk am at_ aa 0 0 (-1) wt wy 0 (nI rm) (nI ud) (nI nu) sd (nI qn) (nI qw) qo (nI qb) (nI qp) qa (nI qi) (nI oc))), (g 20, .inl (cI, 4, .inl (l4 (nI l0) (nI l1) (nI dm) (nI l3))))]) hx hb hK hP hD hS 0 0 rfl rfl (by omega) (by omega) (fun _ => rfl) dX12_becomes_38 (fun f_9 H locs ef_10 hP hD hS => ?_)
    refine lv_iconst (v := 0) hx hb dX12_becomes_39 (by decide) ?_
    have hP := hP.sub (ws' := [(mm, .inr (12, mo g (nI ta) (nI pa) (nI pe) pd (nI pb) pp pf pg pn rt rn (nI cd) sn (nI il) tk am at_ aa 0 0 (-1) wt wy 0 (nI rm) (nI ud) (nI nu) sd (nI qn) (nI qw) qo (nI qb) (nI qp) qa (nI qi) (nI oc))), (g 20, .inl (cI, 4, .inl (l4 (nI l0) (nI l1) (nI dm) (nI l3)))), (g 9, .inl (cI, 6, .inl f_9))]) [1, 2, 0] rfl
    have hD := hD.sub (ws' := [(mm, .inr (12, mo g (nI ta) (nI pa) (nI pe) pd (nI pb) pp pf pg pn rt rn (nI cd) sn (nI il) tk am at_ aa 0 0 (-1) wt wy 0 (nI rm) (nI ud) (nI nu) sd (nI qn) (nI qw) qo (nI qb) (nI qp) qa (nI qi) (nI oc))), (g 20, .inl (cI, 4, .inl (l4 (nI l0) (nI l1) (nI dm) (nI l3)))), (g 9, .inl (cI, 6, .inl f_9))]) [1, 2, 0] (by decide +kernel) rfl
    exact sk_iret hx hb hr rfl hlocks hK hP hD hS (⟨f_9, ef_10, rfl, rfl⟩) (Nat.le_of_ble_eq_true rfl) (Nat.le_of_ble_eq_true rfl) dX12_becomes_40
theorem dX12_becomes_13 : decode cX12_becomes 13 = .ok (.aload_n 0, 1) := by decide +kernel
theorem dX12_becomes_14 : decode cX12_becomes 14 = .ok (.getfield 63, 3) := by decide +kernel
theorem dX12_becomes_17 : decode cX12_becomes 17 = .ok (.iconst 2, 1) := by decide +kernel
theorem dX12_becomes_18 : decode cX12_becomes 18 = .ok (.iconst 3, 1) := by decide +kernel
theorem dX12_becomes_19 : decode cX12_becomes 19 = .ok (.iload_n 1, 1) := by decide +kernel
theorem dX12_becomes_20 : decode cX12_becomes 20 = .ok (.imul, 1) := by decide +kernel
theorem dX12_becomes_21 : decode cX12_becomes 21 = .ok (.iadd, 1) := by decide +kernel
theorem dX12_becomes_22 : decode cX12_becomes 22 = .ok (.iload_n 2, 1) := by decide +kernel
theorem dX12_becomes_23 : decode cX12_becomes 23 = .ok (.iadd, 1) := by decide +kernel
theorem dX12_becomes_24 : decode cX12_becomes 24 = .ok (.iaload, 1) := by decide +kernel
theorem dX12_becomes_25 : decode cX12_becomes 25 = .ok (.iload_n 3, 1) := by decide +kernel
theorem dX12_becomes_26 : decode cX12_becomes 26 = .ok (.if_icmp .ne 15, 3) := by decide +kernel
theorem dX12_becomes_41 : decode cX12_becomes 41 = .ok (.aload_n 0, 1) := by decide +kernel
theorem dX12_becomes_42 : decode cX12_becomes 42 = .ok (.invokevirtual 474, 3) := by decide +kernel
theorem dX12_becomes_45 : decode cX12_becomes 45 = .ok (.aload_n 0, 1) := by decide +kernel
theorem dX12_becomes_46 : decode cX12_becomes 46 = .ok (.getfield 63, 3) := by decide +kernel
theorem dX12_becomes_49 : decode cX12_becomes 49 = .ok (.iconst 2, 1) := by decide +kernel
theorem dX12_becomes_50 : decode cX12_becomes 50 = .ok (.iconst 3, 1) := by decide +kernel
theorem dX12_becomes_51 : decode cX12_becomes 51 = .ok (.iload_n 1, 1) := by decide +kernel
theorem dX12_becomes_52 : decode cX12_becomes 52 = .ok (.imul, 1) := by decide +kernel
theorem dX12_becomes_53 : decode cX12_becomes 53 = .ok (.iadd, 1) := by decide +kernel
theorem dX12_becomes_54 : decode cX12_becomes 54 = .ok (.iload_n 2, 1) := by decide +kernel
theorem dX12_becomes_55 : decode cX12_becomes 55 = .ok (.iadd, 1) := by decide +kernel
theorem dX12_becomes_56 : decode cX12_becomes 56 = .ok (.iload_n 3, 1) := by decide +kernel
theorem dX12_becomes_57 : decode cX12_becomes 57 = .ok (.iastore, 1) := by decide +kernel
theorem dX12_becomes_58 : decode cX12_becomes 58 = .ok (.iconst 1, 1) := by decide +kernel
theorem dX12_becomes_59 : decode cX12_becomes 59 = .ok (.ireturn, 1) := by decide +kernel
theorem w_8_130 : (Cond.methodLink RX12 474 yX12_keeps) ∈ wsL_law := sk_mem (ck_8 _ (List.mem_of_getElem? (i := 130) rfl)) rfl
theorem w_8_132 : (Cond.instanceMethod yX12_keeps) ∈ wsL_law := sk_mem (ck_8 _ (List.mem_of_getElem? (i := 132) rfl)) rfl
theorem w_0_107 : (Cond.selects RX12 yX12_keeps yX12_keeps) ∈ wsL_law := sk_mem (ck_0 _ (List.mem_of_getElem? (i := 107) rfl)) rfl
set_option maxHeartbeats 4000000 in
set_option maxRecDepth 100000 in
theorem c_nm_becomes10 (l : Launch) (D : va_G) (cI cJ cC cZ cS : ClassId) (mm : Nat) (g : Nat → Nat) (ta : Nat) (pa : Nat) (pe : Nat) (pd : Int32) (pb : Nat) (pp : Int32) (pf : Int32) (pg : Int32) (pn : Int32) (rt : Int32) (rn : Int32) (cd : Nat) (sn : Int32) (il : Nat) (tk : Int32) (am : Int32) (at_ : Int32) (aa : Int32) (wt : Int32) (wy : Int64) (rm : Nat) (ud : Nat) (nu : Nat) (sd : Int64) (qn : Nat) (qw : Nat) (qo : Int32) (qb : Nat) (qp : Nat) (qa : Int64) (qi : Nat) (oc : Nat) (d : Int32) (ov : Nat) (l0 : Nat) (l1 : Nat) (dm : Nat) (l3 : Nat) (nw : Nat → Int32) (kp : Nat → Int32) (rf : Nat → Int32) (wn : Nat) (mN : Nat) (Ba : Nat → Nat) (We : Nat → Nat) (U : Nat → Bool) (ke : Nat) (lg : KLg) (su : Nat → KN) (hdm : dm ≤ 9) (hnu : nu < 20) (hud : ud ≤ 20) (hov : ov < 10) (hB9 : ∀ j, Ba j ≤ 9) (hW9 : ∀ j, We j ≤ 9) (hnw : nwX wn mN Ba We U ke lg nw) (hkp : kpX ud nu su lg kp) : skM l yX12_becomes cX12_becomes 5 (some .boolean) 2 46 0 0 D (skT cI cJ cC cZ cS) [.ref mm, .int d, .int 0, .int (nI ov), .int 1] [(mm, .inr (12, mo g (nI ta) (nI pa) (nI pe) pd (nI pb) pp pf pg pn rt rn (nI cd) sn (nI il) tk am at_ aa 0 0 (-1) wt wy 0 (nI rm) (nI ud) (nI nu) sd (nI qn) (nI qw) qo (nI qb) (nI qp) qa (nI qi) (nI oc))), (g 20, .inl (cI, 4, .inl (l4 (nI l0) (nI l1) (nI dm) (nI l3)))), (g 31, .inl (cI, 120, .inl nw)), (g 54, .inl (cI, 2400, .inl kp)), (g 9, .inl (cI, 6, .inl rf))] (skI D (skT cI cJ cC cZ cS) (fun (r : Int32) (u : va_W) => ∃ (Ba2 : Nat → Nat), ∃ (We2 : Nat → Nat), ∃ (U2 : Nat → Bool), ∃ (su2 : Nat → KN), ∃ (nw2 : Nat → Int32), ∃ (kp2 : Nat → Int32), ∃ (b : Nat), ∃ (nu2 : Nat), ∃ (ud2 : Nat), ∃ (rf2 : Nat → Int32), nwX wn mN Ba2 We2 U2 ke lg nw2 ∧ kpX ud2 nu2 su2 lg kp2 ∧ nu2 < 20 ∧ ud2 ≤ 20 ∧ b ≤ 1 ∧ setR dm (wn, mN, Ba, We, U, ke) ud su rf d (nI 0) (nI ov) (nI b) (wn, mN, Ba2, We2, U2, ke) ud2 su2 rf2 ∧ r = nI b ∧ u = [(mm, .inr (12, mo g (nI ta) (nI pa) (nI pe) pd (nI pb) pp pf pg pn rt rn (nI cd) sn (nI il) tk am at_ aa 0 0 (-1) wt wy 0 (nI rm) (nI ud2) (nI nu2) sd (nI qn) (nI qw) qo (nI qb) (nI qp) qa (nI qi) (nI oc))), (g 20, .inl (cI, 4, .inl (l4 (nI l0) (nI l1) (nI dm) (nI l3)))), (g 31, .inl (cI, 120, .inl nw2)), (g 54, .inl (cI, 2400, .inl kp2)), (g 9, .inl (cI, 6, .inl rf2))])) := by
  refine skM_of (by decide +kernel) (Nat.le_of_ble_eq_true rfl) ?_
  intro p e s m below meth c A ls E hP hD hl
  obtain ⟨hx, hb, hr, hml, hlocks, hin, hown, hts, hK, hA⟩ := E
  have hown : s.vm.findClass RX12 = some m.cls := hown
  have hS : va_S A s.heap s.heap [] := va_S.rf
  have hl : lv_has ls 5 [(0, .ref mm), (1, .int d), (2, .int 0), (3, .int (nI ov)), (4, .int 1)] := hl
  refine lv_aload_n hx hb dX12_becomes_0 rfl (lv_at hl 0 rfl) ?_
  refine lv_iload_n hx hb dX12_becomes_1 rfl (lv_at hl 1 rfl) ?_
  refine sk_Vi (q0 := 0) (n := 1) (rest := []) (wr := [(g 31, .inl (cI, 120, .inl nw)), (g 54, .inl (cI, 2400, .inl kp)), (g 9, .inl (cI, 6, .inl rf))]) ⟨hx, hb, hml, hown, hts⟩ hl.1 (c_nm_isDay l D cI cJ cC cZ cS mm g ta pa pe pd pb pp pf pg pn rt rn cd sn il tk am at_ aa wt wy rm ud nu sd qn qw qo qb qp qa qi oc d l0 l1 dm l3 (by omega)) w_7_117 w_7_119 w_0_72 w_1_14 w_7_120 (by decide +kernel) ⟨⟨(Nat.le_of_ble_eq_true rfl), (Nat.le_of_ble_eq_true rfl)⟩, (Nat.le_of_ble_eq_true rfl), (Nat.le_of_ble_eq_true rfl)⟩ hK hP hD hS hA [0, 1] [2, 3, 4] rfl rfl (by decide +kernel) (by decide +kernel) (by decide +kernel) rfl rfl rfl rfl (Nat.le_of_ble_eq_true rfl) dX12_becomes_2 (fun r_2 u H locs hw hP hD hS => ?_)
  obtain ⟨b_1, hb1_3, rfl, rfl⟩ := hw
  have hP : va_P D vwCl [(g 31, .inl (cI, 120, .inl nw)), (g 54, .inl (cI, 2400, .inl kp)), (g 9, .inl (cI, 6, .inl rf)), (mm, .inr (12, mo g (nI ta) (nI pa) (nI pe) pd (nI pb) pp pf pg pn rt rn (nI cd) sn (nI il) tk am at_ aa 0 0 (-1) wt wy 0 (nI rm) (nI ud) (nI nu) sd (nI qn) (nI qw) qo (nI qb) (nI qp) qa (nI qi) (nI oc))), (g 20, .inl (cI, 4, .inl (l4 (nI l0) (nI l1) (nI dm) (nI l3))))] H := hP
  have hD : va_D A [(g 31, .inl (cI, 120, .inl nw)), (g 54, .inl (cI, 2400, .inl kp)), (g 9, .inl (cI, 6, .inl rf)), (mm, .inr (12, mo g (nI ta) (nI pa) (nI pe) pd (nI pb) pp pf pg pn rt rn (nI cd) sn (nI il) tk am at_ aa 0 0 (-1) wt wy 0 (nI rm) (nI ud) (nI nu) sd (nI qn) (nI qw) qo (nI qb) (nI qp) qa (nI qi) (nI oc))), (g 20, .inl (cI, 4, .inl (l4 (nI l0) (nI l1) (nI dm) (nI l3))))] := hD
  refine lv_if_eq (tgt := 29) hx hb dX12_becomes_5 (by decide) (fun c_4 => ?_) (fun c_4 => ?_)
  · have c_4 : b_1 = 0 := (neq b_1 0 (by omega) (by omega)).mp c_4
    refine lv_aload_n hx hb dX12_becomes_29 rfl (lv_at hl 0 rfl) ?_
    refine sk_get (v := .ref (g 9)) (C := RX12) (T := TX12) (N := 92) hx hb hts inlX12 hown hK hP 3 rfl rfl 9 (by decide) w_5_164 rfl dX12_becomes_30 ?_
    refine lv_iconst (v := 2) hx hb dX12_becomes_33 (by decide) ?_
    refine lv_dup2_11 hx hb dX12_becomes_34 rfl rfl ?_
    refine va_iald hx hb hK.1 hP 2 0 rfl rfl (by unfold vp_in; decide) dX12_becomes_35 ?_
    refine sk_top (rf 2) (rfl) ?_
    refine lv_iconst (v := 1) hx hb dX12_becomes_36 (by decide) ?_
    refine lv_iadd hx hb dX12_becomes_37 ?_
    refine sk_iastE (k := 2) (ws' := fun f_5 => [(g 31, .inl (cI, 120, .inl nw)), (g 54, .inl (cI, 2400, .inl kp)), (g 9, .inl (cI, 6, .inl f_5)), (mm, .inr (12, mo g (nI ta) (nI pa) (nI pe) pd (nI pb) pp pf pg pn rt rn (nI cd) sn (nI il) tk am at_ aa 0 0 (-1) wt wy 0 (nI rm) (nI ud) (nI nu) sd (nI qn) (nI qw) qo (nI qb) (nI qp) qa (nI qi) (nI oc))), (g 20, .inl (cI, 4, .inl (l4 (nI l0) (nI l1) (nI dm) (nI l3))))]) hx hb hK hP hD hS 2 0 rfl rfl (by omega) (by omega) (fun _ => rfl) dX12_becomes_38 (fun f_5 H locs ef_6 hP hD hS => ?_)
    refine lv_iconst (v := 0) hx hb dX12_becomes_39 (by decide) ?_
    have hP := hP.sub (ws' := [(mm, .inr (12, mo g (nI ta) (nI pa) (nI pe) pd (nI pb) pp pf pg pn rt rn (nI cd) sn (nI il) tk am at_ aa 0 0 (-1) wt wy 0 (nI rm) (nI ud) (nI nu) sd (nI qn) (nI qw) qo (nI qb) (nI qp) qa (nI qi) (nI oc))), (g 20, .inl (cI, 4, .inl (l4 (nI l0) (nI l1) (nI dm) (nI l3)))), (g 31, .inl (cI, 120, .inl nw)), (g 54, .inl (cI, 2400, .inl kp)), (g 9, .inl (cI, 6, .inl f_5))]) [3, 4, 0, 1, 2] rfl
    have hD := hD.sub (ws' := [(mm, .inr (12, mo g (nI ta) (nI pa) (nI pe) pd (nI pb) pp pf pg pn rt rn (nI cd) sn (nI il) tk am at_ aa 0 0 (-1) wt wy 0 (nI rm) (nI ud) (nI nu) sd (nI qn) (nI qw) qo (nI qb) (nI qp) qa (nI qi) (nI oc))), (g 20, .inl (cI, 4, .inl (l4 (nI l0) (nI l1) (nI dm) (nI l3)))), (g 31, .inl (cI, 120, .inl nw)), (g 54, .inl (cI, 2400, .inl kp)), (g 9, .inl (cI, 6, .inl f_5))]) [3, 4, 0, 1, 2] (by decide +kernel) rfl
    exact sk_iret hx hb hr rfl hlocks hK hP hD hS (⟨Ba, We, U, su, nw, kp, 0, nu, ud, f_5, hnw, hkp, by omega, by omega, (by decide), set_0 (rr_0 hb1_3 (by omega)) ef_6, rfl, rfl⟩) (Nat.le_of_ble_eq_true rfl) (Nat.le_of_ble_eq_true rfl) dX12_becomes_40
  · have c_4 : ¬ (b_1 = 0) := fun h => c_4 ((neq b_1 0 (by omega) (by omega)).mpr h)
    obtain ⟨kd_7, hkd_7, rfl⟩ := rr_1 hb1_3 (by omega)
    refine lv_iload hx hb dX12_becomes_8 (lv_at hl 4 rfl) ?_
    refine lv_if_eq (tgt := 29) hx hb dX12_becomes_10 (by decide) (fun c => absurd c (by decide)) (fun c_8 => ?_)
    refine lv_aload_n hx hb dX12_becomes_13 rfl (lv_at hl 0 rfl) ?_
    refine sk_get (v := .ref (g 31)) (C := RX12) (T := TX12) (N := 92) hx hb hts inlX12 hown hK hP 3 rfl rfl 31 (by decide) w_5_186 rfl dX12_becomes_14 ?_
    refine lv_iconst (v := 2) hx hb dX12_becomes_17 (by decide) ?_
    refine lv_iconst (v := 3) hx hb dX12_becomes_18 (by decide) ?_
    refine lv_iload_n hx hb dX12_becomes_19 rfl (lv_at hl 1 rfl) ?_
    refine lv_imul hx hb dX12_becomes_20 ?_
    refine sk_top (nI (3 * kd_7)) (nmul 3 kd_7) ?_
    refine lv_iadd hx hb dX12_becomes_21 ?_
    refine sk_top (nI (2 + (3 * kd_7))) (nI_add 2 (3 * kd_7)) ?_
    refine lv_iload_n hx hb dX12_becomes_22 rfl (lv_at hl 2 rfl) ?_
    refine lv_iadd hx hb dX12_becomes_23 ?_
    refine sk_top (nI (2 + (3 * kd_7) + 0)) (nI_add (2 + (3 * kd_7)) 0) ?_
    refine va_iald hx hb hK.1 hP 0 0 rfl rfl (vin (2 + (3 * kd_7) + 0) 120 (by omega) (by omega)) dX12_becomes_24 ?_
    have hv_ := hB9 kd_7
    refine sk_top (nI (Ba kd_7)) (by rw [nI_clamp (by omega)]; exact nwX_b hnw (by omega)) ?_
    refine lv_iload_n hx hb dX12_becomes_25 rfl (lv_at hl 3 rfl) ?_
    refine lv_icmp_ne (tgt := 41) hx hb dX12_becomes_26 (by decide) (fun c_9 => ?_) (fun c_9 => ?_)
    · have c_9 : ¬ (Ba kd_7 = ov) := fun h => c_9 ((neq (Ba kd_7) ov (by omega) (by omega)).mpr h)
      refine lv_aload_n hx hb dX12_becomes_41 rfl (lv_at hl 0 rfl) ?_
      refine sk_Vv (q0 := 0) (n := 0) (rest := []) (wr := [(g 9, .inl (cI, 6, .inl rf)), (g 20, .inl (cI, 4, .inl (l4 (nI l0) (nI l1) (nI dm) (nI l3))))]) ⟨hx, hb, hml, hown, hts⟩ hl.1 (c_nm_keeps l D cI cJ cC cZ cS mm g ta pa pe pd pb pp pf pg pn rt rn cd sn il tk am at_ aa wt wy rm ud nu sd qn qw qo qb qp qa qi oc nw kp wn mN Ba We U ke lg su (by omega) (by omega) hnw hkp) w_8_130 w_8_132 w_0_107 w_1_14 w_8_133 (by decide +kernel) ⟨⟨(Nat.le_of_ble_eq_true rfl), (Nat.le_of_ble_eq_true rfl)⟩, (Nat.le_of_ble_eq_true rfl), (Nat.le_of_ble_eq_true rfl)⟩ hK hP hD hS hA [3, 0, 1] [2, 4] rfl rfl (by decide +kernel) (by decide +kernel) (by decide +kernel) rfl rfl rfl rfl (Nat.le_of_ble_eq_true rfl) dX12_becomes_42 (fun u H locs hw hP hD hS => ?_)
      obtain ⟨kp2_10, ud2_11, hud2_12, hkp2_13, rfl⟩ := hw
      have hP : va_P D vwCl [(g 9, .inl (cI, 6, .inl rf)), (g 20, .inl (cI, 4, .inl (l4 (nI l0) (nI l1) (nI dm) (nI l3)))), (mm, .inr (12, mo g (nI ta) (nI pa) (nI pe) pd (nI pb) pp pf pg pn rt rn (nI cd) sn (nI il) tk am at_ aa 0 0 (-1) wt wy 0 (nI rm) (nI ud2_11) (nI ((nu + 1) % 20)) sd (nI qn) (nI qw) qo (nI qb) (nI qp) qa (nI qi) (nI oc))), (g 31, .inl (cI, 120, .inl nw)), (g 54, .inl (cI, 2400, .inl kp2_10))] H := hP
      have hD : va_D A [(g 9, .inl (cI, 6, .inl rf)), (g 20, .inl (cI, 4, .inl (l4 (nI l0) (nI l1) (nI dm) (nI l3)))), (mm, .inr (12, mo g (nI ta) (nI pa) (nI pe) pd (nI pb) pp pf pg pn rt rn (nI cd) sn (nI il) tk am at_ aa 0 0 (-1) wt wy 0 (nI rm) (nI ud2_11) (nI ((nu + 1) % 20)) sd (nI qn) (nI qw) qo (nI qb) (nI qp) qa (nI qi) (nI oc))), (g 31, .inl (cI, 120, .inl nw)), (g 54, .inl (cI, 2400, .inl kp2_10))] := hD
      refine lv_aload_n hx hb dX12_becomes_45 rfl (lv_at hl 0 rfl) ?_
      refine sk_get (v := .ref (g 31)) (C := RX12) (T := TX12) (N := 92) hx hb hts inlX12 hown hK hP 2 rfl rfl 31 (by decide) w_5_186 rfl dX12_becomes_46 ?_
      refine lv_iconst (v := 2) hx hb dX12_becomes_49 (by decide) ?_
      refine lv_iconst (v := 3) hx hb dX12_becomes_50 (by decide) ?_
      refine lv_iload_n hx hb dX12_becomes_51 rfl (lv_at hl 1 rfl) ?_
      refine lv_imul hx hb dX12_becomes_52 ?_
      refine sk_top (nI (3 * kd_7)) (nmul 3 kd_7) ?_
      refine lv_iadd hx hb dX12_becomes_53 ?_
      refine sk_top (nI (2 + (3 * kd_7))) (nI_add 2 (3 * kd_7)) ?_
      refine lv_iload_n hx hb dX12_becomes_54 rfl (lv_at hl 2 rfl) ?_
      refine lv_iadd hx hb dX12_becomes_55 ?_
      refine sk_top (nI (2 + (3 * kd_7) + 0)) (nI_add (2 + (3 * kd_7)) 0) ?_
      refine lv_iload_n hx hb dX12_becomes_56 rfl (lv_at hl 3 rfl) ?_
      refine sk_iastE (k := (2 + (3 * kd_7) + 0)) (x := (nI ov)) (ws' := fun f_14 => [(g 9, .inl (cI, 6, .inl rf)), (g 20, .inl (cI, 4, .inl (l4 (nI l0) (nI l1) (nI dm) (nI l3)))), (mm, .inr (12, mo g (nI ta) (nI pa) (nI pe) pd (nI pb) pp pf pg pn rt rn (nI cd) sn (nI il) tk am at_ aa 0 0 (-1) wt wy 0 (nI rm) (nI ud2_11) (nI ((nu + 1) % 20)) sd (nI qn) (nI qw) qo (nI qb) (nI qp) qa (nI qi) (nI oc))), (g 31, .inl (cI, 120, .inl f_14)), (g 54, .inl (cI, 2400, .inl kp2_10))]) hx hb hK hP hD hS 3 0 rfl rfl (by omega) (by omega) (fun _ => rfl) dX12_becomes_57 (fun f_14 H locs ef_15 hP hD hS => ?_)
      have hN_16 : nwX wn mN (updG Ba kd_7 ov) We U ke lg f_14 := nwX_upb hnw ef_15 (by omega)
      refine lv_iconst (v := 1) hx hb dX12_becomes_58 (by decide) ?_
      have hP := hP.sub (ws' := [(mm, .inr (12, mo g (nI ta) (nI pa) (nI pe) pd (nI pb) pp pf pg pn rt rn (nI cd) sn (nI il) tk am at_ aa 0 0 (-1) wt wy 0 (nI rm) (nI ud2_11) (nI ((nu + 1) % 20)) sd (nI qn) (nI qw) qo (nI qb) (nI qp) qa (nI qi) (nI oc))), (g 20, .inl (cI, 4, .inl (l4 (nI l0) (nI l1) (nI dm) (nI l3)))), (g 31, .inl (cI, 120, .inl f_14)), (g 54, .inl (cI, 2400, .inl kp2_10)), (g 9, .inl (cI, 6, .inl rf))]) [2, 1, 3, 4, 0] rfl
      have hD := hD.sub (ws' := [(mm, .inr (12, mo g (nI ta) (nI pa) (nI pe) pd (nI pb) pp pf pg pn rt rn (nI cd) sn (nI il) tk am at_ aa 0 0 (-1) wt wy 0 (nI rm) (nI ud2_11) (nI ((nu + 1) % 20)) sd (nI qn) (nI qw) qo (nI qb) (nI qp) qa (nI qi) (nI oc))), (g 20, .inl (cI, 4, .inl (l4 (nI l0) (nI l1) (nI dm) (nI l3)))), (g 31, .inl (cI, 120, .inl f_14)), (g 54, .inl (cI, 2400, .inl kp2_10)), (g 9, .inl (cI, 6, .inl rf))]) [2, 1, 3, 4, 0] (by decide +kernel) rfl
      exact sk_iret hx hb hr rfl hlocks hK hP hD hS (⟨(updG Ba kd_7 ov), We, U, (psh ud su (wn, mN, Ba, We, U, ke)), f_14, kp2_10, 1, (nu + 1) % 20, ud2_11, rf, hN_16, hkp2_13, by omega, by omega, (by decide), (by rw [hud2_12]; exact set_y0 (n := (wn, mN, Ba, We, U, ke)) hkd_7 hov rfl c_9), rfl, rfl⟩) (Nat.le_of_ble_eq_true rfl) (Nat.le_of_ble_eq_true rfl) dX12_becomes_59
    · have c_9 : Ba kd_7 = ov := (neq (Ba kd_7) ov (by omega) (by omega)).mp c_9
      refine lv_aload_n hx hb dX12_becomes_29 rfl (lv_at hl 0 rfl) ?_
      refine sk_get (v := .ref (g 9)) (C := RX12) (T := TX12) (N := 92) hx hb hts inlX12 hown hK hP 3 rfl rfl 9 (by decide) w_5_164 rfl dX12_becomes_30 ?_
      refine lv_iconst (v := 2) hx hb dX12_becomes_33 (by decide) ?_
      refine lv_dup2_11 hx hb dX12_becomes_34 rfl rfl ?_
      refine va_iald hx hb hK.1 hP 2 0 rfl rfl (by unfold vp_in; decide) dX12_becomes_35 ?_
      refine sk_top (rf 2) (rfl) ?_
      refine lv_iconst (v := 1) hx hb dX12_becomes_36 (by decide) ?_
      refine lv_iadd hx hb dX12_becomes_37 ?_
      refine sk_iastE (k := 2) (ws' := fun f_17 => [(g 31, .inl (cI, 120, .inl nw)), (g 54, .inl (cI, 2400, .inl kp)), (g 9, .inl (cI, 6, .inl f_17)), (mm, .inr (12, mo g (nI ta) (nI pa) (nI pe) pd (nI pb) pp pf pg pn rt rn (nI cd) sn (nI il) tk am at_ aa 0 0 (-1) wt wy 0 (nI rm) (nI ud) (nI nu) sd (nI qn) (nI qw) qo (nI qb) (nI qp) qa (nI qi) (nI oc))), (g 20, .inl (cI, 4, .inl (l4 (nI l0) (nI l1) (nI dm) (nI l3))))]) hx hb hK hP hD hS 2 0 rfl rfl (by omega) (by omega) (fun _ => rfl) dX12_becomes_38 (fun f_17 H locs ef_18 hP hD hS => ?_)
      refine lv_iconst (v := 0) hx hb dX12_becomes_39 (by decide) ?_
      have hP := hP.sub (ws' := [(mm, .inr (12, mo g (nI ta) (nI pa) (nI pe) pd (nI pb) pp pf pg pn rt rn (nI cd) sn (nI il) tk am at_ aa 0 0 (-1) wt wy 0 (nI rm) (nI ud) (nI nu) sd (nI qn) (nI qw) qo (nI qb) (nI qp) qa (nI qi) (nI oc))), (g 20, .inl (cI, 4, .inl (l4 (nI l0) (nI l1) (nI dm) (nI l3)))), (g 31, .inl (cI, 120, .inl nw)), (g 54, .inl (cI, 2400, .inl kp)), (g 9, .inl (cI, 6, .inl f_17))]) [3, 4, 0, 1, 2] rfl
      have hD := hD.sub (ws' := [(mm, .inr (12, mo g (nI ta) (nI pa) (nI pe) pd (nI pb) pp pf pg pn rt rn (nI cd) sn (nI il) tk am at_ aa 0 0 (-1) wt wy 0 (nI rm) (nI ud) (nI nu) sd (nI qn) (nI qw) qo (nI qb) (nI qp) qa (nI qi) (nI oc))), (g 20, .inl (cI, 4, .inl (l4 (nI l0) (nI l1) (nI dm) (nI l3)))), (g 31, .inl (cI, 120, .inl nw)), (g 54, .inl (cI, 2400, .inl kp)), (g 9, .inl (cI, 6, .inl f_17))]) [3, 4, 0, 1, 2] (by decide +kernel) rfl
      exact sk_iret hx hb hr rfl hlocks hK hP hD hS (⟨Ba, We, U, su, nw, kp, 0, nu, ud, f_17, hnw, hkp, by omega, by omega, (by decide), set_4 (j := 0) (n := (wn, mN, Ba, We, U, ke)) hdm hkd_7 hov (by decide) rfl c_9 ef_18, rfl, rfl⟩) (Nat.le_of_ble_eq_true rfl) (Nat.le_of_ble_eq_true rfl) dX12_becomes_40
set_option maxHeartbeats 4000000 in
set_option maxRecDepth 100000 in
theorem c_nm_becomes11 (l : Launch) (D : va_G) (cI cJ cC cZ cS : ClassId) (mm : Nat) (g : Nat → Nat) (ta : Nat) (pa : Nat) (pe : Nat) (pd : Int32) (pb : Nat) (pp : Int32) (pf : Int32) (pg : Int32) (pn : Int32) (rt : Int32) (rn : Int32) (cd : Nat) (sn : Int32) (il : Nat) (tk : Int32) (am : Int32) (at_ : Int32) (aa : Int32) (wt : Int32) (wy : Int64) (rm : Nat) (ud : Nat) (nu : Nat) (sd : Int64) (qn : Nat) (qw : Nat) (qo : Int32) (qb : Nat) (qp : Nat) (qa : Int64) (qi : Nat) (oc : Nat) (d : Int32) (ov : Nat) (l0 : Nat) (l1 : Nat) (dm : Nat) (l3 : Nat) (nw : Nat → Int32) (kp : Nat → Int32) (rf : Nat → Int32) (wn : Nat) (mN : Nat) (Ba : Nat → Nat) (We : Nat → Nat) (U : Nat → Bool) (ke : Nat) (lg : KLg) (su : Nat → KN) (hdm : dm ≤ 9) (hnu : nu < 20) (hud : ud ≤ 20) (hov : ov < 10) (hB9 : ∀ j, Ba j ≤ 9) (hW9 : ∀ j, We j ≤ 9) (hnw : nwX wn mN Ba We U ke lg nw) (hkp : kpX ud nu su lg kp) : skM l yX12_becomes cX12_becomes 5 (some .boolean) 2 46 0 0 D (skT cI cJ cC cZ cS) [.ref mm, .int d, .int 1, .int (nI ov), .int 1] [(mm, .inr (12, mo g (nI ta) (nI pa) (nI pe) pd (nI pb) pp pf pg pn rt rn (nI cd) sn (nI il) tk am at_ aa 0 0 (-1) wt wy 0 (nI rm) (nI ud) (nI nu) sd (nI qn) (nI qw) qo (nI qb) (nI qp) qa (nI qi) (nI oc))), (g 20, .inl (cI, 4, .inl (l4 (nI l0) (nI l1) (nI dm) (nI l3)))), (g 31, .inl (cI, 120, .inl nw)), (g 54, .inl (cI, 2400, .inl kp)), (g 9, .inl (cI, 6, .inl rf))] (skI D (skT cI cJ cC cZ cS) (fun (r : Int32) (u : va_W) => ∃ (Ba2 : Nat → Nat), ∃ (We2 : Nat → Nat), ∃ (U2 : Nat → Bool), ∃ (su2 : Nat → KN), ∃ (nw2 : Nat → Int32), ∃ (kp2 : Nat → Int32), ∃ (b : Nat), ∃ (nu2 : Nat), ∃ (ud2 : Nat), ∃ (rf2 : Nat → Int32), nwX wn mN Ba2 We2 U2 ke lg nw2 ∧ kpX ud2 nu2 su2 lg kp2 ∧ nu2 < 20 ∧ ud2 ≤ 20 ∧ b ≤ 1 ∧ setR dm (wn, mN, Ba, We, U, ke) ud su rf d (nI 1) (nI ov) (nI b) (wn, mN, Ba2, We2, U2, ke) ud2 su2 rf2 ∧ r = nI b ∧ u = [(mm, .inr (12, mo g (nI ta) (nI pa) (nI pe) pd (nI pb) pp pf pg pn rt rn (nI cd) sn (nI il) tk am at_ aa 0 0 (-1) wt wy 0 (nI rm) (nI ud2) (nI nu2) sd (nI qn) (nI qw) qo (nI qb) (nI qp) qa (nI qi) (nI oc))), (g 20, .inl (cI, 4, .inl (l4 (nI l0) (nI l1) (nI dm) (nI l3)))), (g 31, .inl (cI, 120, .inl nw2)), (g 54, .inl (cI, 2400, .inl kp2)), (g 9, .inl (cI, 6, .inl rf2))])) := by
  refine skM_of (by decide +kernel) (Nat.le_of_ble_eq_true rfl) ?_
  intro p e s m below meth c A ls E hP hD hl
  obtain ⟨hx, hb, hr, hml, hlocks, hin, hown, hts, hK, hA⟩ := E
  have hown : s.vm.findClass RX12 = some m.cls := hown
  have hS : va_S A s.heap s.heap [] := va_S.rf
  have hl : lv_has ls 5 [(0, .ref mm), (1, .int d), (2, .int 1), (3, .int (nI ov)), (4, .int 1)] := hl
  refine lv_aload_n hx hb dX12_becomes_0 rfl (lv_at hl 0 rfl) ?_
  refine lv_iload_n hx hb dX12_becomes_1 rfl (lv_at hl 1 rfl) ?_
  refine sk_Vi (q0 := 0) (n := 1) (rest := []) (wr := [(g 31, .inl (cI, 120, .inl nw)), (g 54, .inl (cI, 2400, .inl kp)), (g 9, .inl (cI, 6, .inl rf))]) ⟨hx, hb, hml, hown, hts⟩ hl.1 (c_nm_isDay l D cI cJ cC cZ cS mm g ta pa pe pd pb pp pf pg pn rt rn cd sn il tk am at_ aa wt wy rm ud nu sd qn qw qo qb qp qa qi oc d l0 l1 dm l3 (by omega)) w_7_117 w_7_119 w_0_72 w_1_14 w_7_120 (by decide +kernel) ⟨⟨(Nat.le_of_ble_eq_true rfl), (Nat.le_of_ble_eq_true rfl)⟩, (Nat.le_of_ble_eq_true rfl), (Nat.le_of_ble_eq_true rfl)⟩ hK hP hD hS hA [0, 1] [2, 3, 4] rfl rfl (by decide +kernel) (by decide +kernel) (by decide +kernel) rfl rfl rfl rfl (Nat.le_of_ble_eq_true rfl) dX12_becomes_2 (fun r_2 u H locs hw hP hD hS => ?_)
  obtain ⟨b_1, hb1_3, rfl, rfl⟩ := hw
  have hP : va_P D vwCl [(g 31, .inl (cI, 120, .inl nw)), (g 54, .inl (cI, 2400, .inl kp)), (g 9, .inl (cI, 6, .inl rf)), (mm, .inr (12, mo g (nI ta) (nI pa) (nI pe) pd (nI pb) pp pf pg pn rt rn (nI cd) sn (nI il) tk am at_ aa 0 0 (-1) wt wy 0 (nI rm) (nI ud) (nI nu) sd (nI qn) (nI qw) qo (nI qb) (nI qp) qa (nI qi) (nI oc))), (g 20, .inl (cI, 4, .inl (l4 (nI l0) (nI l1) (nI dm) (nI l3))))] H := hP
  have hD : va_D A [(g 31, .inl (cI, 120, .inl nw)), (g 54, .inl (cI, 2400, .inl kp)), (g 9, .inl (cI, 6, .inl rf)), (mm, .inr (12, mo g (nI ta) (nI pa) (nI pe) pd (nI pb) pp pf pg pn rt rn (nI cd) sn (nI il) tk am at_ aa 0 0 (-1) wt wy 0 (nI rm) (nI ud) (nI nu) sd (nI qn) (nI qw) qo (nI qb) (nI qp) qa (nI qi) (nI oc))), (g 20, .inl (cI, 4, .inl (l4 (nI l0) (nI l1) (nI dm) (nI l3))))] := hD
  refine lv_if_eq (tgt := 29) hx hb dX12_becomes_5 (by decide) (fun c_4 => ?_) (fun c_4 => ?_)
  · have c_4 : b_1 = 0 := (neq b_1 0 (by omega) (by omega)).mp c_4
    refine lv_aload_n hx hb dX12_becomes_29 rfl (lv_at hl 0 rfl) ?_
    refine sk_get (v := .ref (g 9)) (C := RX12) (T := TX12) (N := 92) hx hb hts inlX12 hown hK hP 3 rfl rfl 9 (by decide) w_5_164 rfl dX12_becomes_30 ?_
    refine lv_iconst (v := 2) hx hb dX12_becomes_33 (by decide) ?_
    refine lv_dup2_11 hx hb dX12_becomes_34 rfl rfl ?_
    refine va_iald hx hb hK.1 hP 2 0 rfl rfl (by unfold vp_in; decide) dX12_becomes_35 ?_
    refine sk_top (rf 2) (rfl) ?_
    refine lv_iconst (v := 1) hx hb dX12_becomes_36 (by decide) ?_
    refine lv_iadd hx hb dX12_becomes_37 ?_
    refine sk_iastE (k := 2) (ws' := fun f_5 => [(g 31, .inl (cI, 120, .inl nw)), (g 54, .inl (cI, 2400, .inl kp)), (g 9, .inl (cI, 6, .inl f_5)), (mm, .inr (12, mo g (nI ta) (nI pa) (nI pe) pd (nI pb) pp pf pg pn rt rn (nI cd) sn (nI il) tk am at_ aa 0 0 (-1) wt wy 0 (nI rm) (nI ud) (nI nu) sd (nI qn) (nI qw) qo (nI qb) (nI qp) qa (nI qi) (nI oc))), (g 20, .inl (cI, 4, .inl (l4 (nI l0) (nI l1) (nI dm) (nI l3))))]) hx hb hK hP hD hS 2 0 rfl rfl (by omega) (by omega) (fun _ => rfl) dX12_becomes_38 (fun f_5 H locs ef_6 hP hD hS => ?_)
    refine lv_iconst (v := 0) hx hb dX12_becomes_39 (by decide) ?_
    have hP := hP.sub (ws' := [(mm, .inr (12, mo g (nI ta) (nI pa) (nI pe) pd (nI pb) pp pf pg pn rt rn (nI cd) sn (nI il) tk am at_ aa 0 0 (-1) wt wy 0 (nI rm) (nI ud) (nI nu) sd (nI qn) (nI qw) qo (nI qb) (nI qp) qa (nI qi) (nI oc))), (g 20, .inl (cI, 4, .inl (l4 (nI l0) (nI l1) (nI dm) (nI l3)))), (g 31, .inl (cI, 120, .inl nw)), (g 54, .inl (cI, 2400, .inl kp)), (g 9, .inl (cI, 6, .inl f_5))]) [3, 4, 0, 1, 2] rfl
    have hD := hD.sub (ws' := [(mm, .inr (12, mo g (nI ta) (nI pa) (nI pe) pd (nI pb) pp pf pg pn rt rn (nI cd) sn (nI il) tk am at_ aa 0 0 (-1) wt wy 0 (nI rm) (nI ud) (nI nu) sd (nI qn) (nI qw) qo (nI qb) (nI qp) qa (nI qi) (nI oc))), (g 20, .inl (cI, 4, .inl (l4 (nI l0) (nI l1) (nI dm) (nI l3)))), (g 31, .inl (cI, 120, .inl nw)), (g 54, .inl (cI, 2400, .inl kp)), (g 9, .inl (cI, 6, .inl f_5))]) [3, 4, 0, 1, 2] (by decide +kernel) rfl
    exact sk_iret hx hb hr rfl hlocks hK hP hD hS (⟨Ba, We, U, su, nw, kp, 0, nu, ud, f_5, hnw, hkp, by omega, by omega, (by decide), set_0 (rr_0 hb1_3 (by omega)) ef_6, rfl, rfl⟩) (Nat.le_of_ble_eq_true rfl) (Nat.le_of_ble_eq_true rfl) dX12_becomes_40
  · have c_4 : ¬ (b_1 = 0) := fun h => c_4 ((neq b_1 0 (by omega) (by omega)).mpr h)
    obtain ⟨kd_7, hkd_7, rfl⟩ := rr_1 hb1_3 (by omega)
    refine lv_iload hx hb dX12_becomes_8 (lv_at hl 4 rfl) ?_
    refine lv_if_eq (tgt := 29) hx hb dX12_becomes_10 (by decide) (fun c => absurd c (by decide)) (fun c_8 => ?_)
    refine lv_aload_n hx hb dX12_becomes_13 rfl (lv_at hl 0 rfl) ?_
    refine sk_get (v := .ref (g 31)) (C := RX12) (T := TX12) (N := 92) hx hb hts inlX12 hown hK hP 3 rfl rfl 31 (by decide) w_5_186 rfl dX12_becomes_14 ?_
    refine lv_iconst (v := 2) hx hb dX12_becomes_17 (by decide) ?_
    refine lv_iconst (v := 3) hx hb dX12_becomes_18 (by decide) ?_
    refine lv_iload_n hx hb dX12_becomes_19 rfl (lv_at hl 1 rfl) ?_
    refine lv_imul hx hb dX12_becomes_20 ?_
    refine sk_top (nI (3 * kd_7)) (nmul 3 kd_7) ?_
    refine lv_iadd hx hb dX12_becomes_21 ?_
    refine sk_top (nI (2 + (3 * kd_7))) (nI_add 2 (3 * kd_7)) ?_
    refine lv_iload_n hx hb dX12_becomes_22 rfl (lv_at hl 2 rfl) ?_
    refine lv_iadd hx hb dX12_becomes_23 ?_
    refine sk_top (nI (2 + (3 * kd_7) + 1)) (nI_add (2 + (3 * kd_7)) 1) ?_
    refine va_iald hx hb hK.1 hP 0 0 rfl rfl (vin (2 + (3 * kd_7) + 1) 120 (by omega) (by omega)) dX12_becomes_24 ?_
    have hv_ := hW9 kd_7
    refine sk_top (nI (We kd_7)) (by rw [nI_clamp (by omega)]; exact nwX_w hnw (by omega)) ?_
    refine lv_iload_n hx hb dX12_becomes_25 rfl (lv_at hl 3 rfl) ?_
    refine lv_icmp_ne (tgt := 41) hx hb dX12_becomes_26 (by decide) (fun c_9 => ?_) (fun c_9 => ?_)
    · have c_9 : ¬ (We kd_7 = ov) := fun h => c_9 ((neq (We kd_7) ov (by omega) (by omega)).mpr h)
      refine lv_aload_n hx hb dX12_becomes_41 rfl (lv_at hl 0 rfl) ?_
      refine sk_Vv (q0 := 0) (n := 0) (rest := []) (wr := [(g 9, .inl (cI, 6, .inl rf)), (g 20, .inl (cI, 4, .inl (l4 (nI l0) (nI l1) (nI dm) (nI l3))))]) ⟨hx, hb, hml, hown, hts⟩ hl.1 (c_nm_keeps l D cI cJ cC cZ cS mm g ta pa pe pd pb pp pf pg pn rt rn cd sn il tk am at_ aa wt wy rm ud nu sd qn qw qo qb qp qa qi oc nw kp wn mN Ba We U ke lg su (by omega) (by omega) hnw hkp) w_8_130 w_8_132 w_0_107 w_1_14 w_8_133 (by decide +kernel) ⟨⟨(Nat.le_of_ble_eq_true rfl), (Nat.le_of_ble_eq_true rfl)⟩, (Nat.le_of_ble_eq_true rfl), (Nat.le_of_ble_eq_true rfl)⟩ hK hP hD hS hA [3, 0, 1] [2, 4] rfl rfl (by decide +kernel) (by decide +kernel) (by decide +kernel) rfl rfl rfl rfl (Nat.le_of_ble_eq_true rfl) dX12_becomes_42 (fun u H locs hw hP hD hS => ?_)
      obtain ⟨kp2_10, ud2_11, hud2_12, hkp2_13, rfl⟩ := hw
      have hP : va_P D vwCl [(g 9, .inl (cI, 6, .inl rf)), (g 20, .inl (cI, 4, .inl (l4 (nI l0) (nI l1) (nI dm) (nI l3)))), (mm, .inr (12, mo g (nI ta) (nI pa) (nI pe) pd (nI pb) pp pf pg pn rt rn (nI cd) sn (nI il) tk am at_ aa 0 0 (-1) wt wy 0 (nI rm) (nI ud2_11) (nI ((nu + 1) % 20)) sd (nI qn) (nI qw) qo (nI qb) (nI qp) qa (nI qi) (nI oc))), (g 31, .inl (cI, 120, .inl nw)), (g 54, .inl (cI, 2400, .inl kp2_10))] H := hP
      have hD : va_D A [(g 9, .inl (cI, 6, .inl rf)), (g 20, .inl (cI, 4, .inl (l4 (nI l0) (nI l1) (nI dm) (nI l3)))), (mm, .inr (12, mo g (nI ta) (nI pa) (nI pe) pd (nI pb) pp pf pg pn rt rn (nI cd) sn (nI il) tk am at_ aa 0 0 (-1) wt wy 0 (nI rm) (nI ud2_11) (nI ((nu + 1) % 20)) sd (nI qn) (nI qw) qo (nI qb) (nI qp) qa (nI qi) (nI oc))), (g 31, .inl (cI, 120, .inl nw)), (g 54, .inl (cI, 2400, .inl kp2_10))] := hD
      refine lv_aload_n hx hb dX12_becomes_45 rfl (lv_at hl 0 rfl) ?_
      refine sk_get (v := .ref (g 31)) (C := RX12) (T := TX12) (N := 92) hx hb hts inlX12 hown hK hP 2 rfl rfl 31 (by decide) w_5_186 rfl dX12_becomes_46 ?_
      refine lv_iconst (v := 2) hx hb dX12_becomes_49 (by decide) ?_
      refine lv_iconst (v := 3) hx hb dX12_becomes_50 (by decide) ?_
      refine lv_iload_n hx hb dX12_becomes_51 rfl (lv_at hl 1 rfl) ?_
      refine lv_imul hx hb dX12_becomes_52 ?_
      refine sk_top (nI (3 * kd_7)) (nmul 3 kd_7) ?_
      refine lv_iadd hx hb dX12_becomes_53 ?_
      refine sk_top (nI (2 + (3 * kd_7))) (nI_add 2 (3 * kd_7)) ?_
      refine lv_iload_n hx hb dX12_becomes_54 rfl (lv_at hl 2 rfl) ?_
      refine lv_iadd hx hb dX12_becomes_55 ?_
      refine sk_top (nI (2 + (3 * kd_7) + 1)) (nI_add (2 + (3 * kd_7)) 1) ?_
      refine lv_iload_n hx hb dX12_becomes_56 rfl (lv_at hl 3 rfl) ?_
      refine sk_iastE (k := (2 + (3 * kd_7) + 1)) (x := (nI ov)) (ws' := fun f_14 => [(g 9, .inl (cI, 6, .inl rf)), (g 20, .inl (cI, 4, .inl (l4 (nI l0) (nI l1) (nI dm) (nI l3)))), (mm, .inr (12, mo g (nI ta) (nI pa) (nI pe) pd (nI pb) pp pf pg pn rt rn (nI cd) sn (nI il) tk am at_ aa 0 0 (-1) wt wy 0 (nI rm) (nI ud2_11) (nI ((nu + 1) % 20)) sd (nI qn) (nI qw) qo (nI qb) (nI qp) qa (nI qi) (nI oc))), (g 31, .inl (cI, 120, .inl f_14)), (g 54, .inl (cI, 2400, .inl kp2_10))]) hx hb hK hP hD hS 3 0 rfl rfl (by omega) (by omega) (fun _ => rfl) dX12_becomes_57 (fun f_14 H locs ef_15 hP hD hS => ?_)
      have hN_16 : nwX wn mN Ba (updG We kd_7 ov) U ke lg f_14 := nwX_upw hnw ef_15 (by omega)
      refine lv_iconst (v := 1) hx hb dX12_becomes_58 (by decide) ?_
      have hP := hP.sub (ws' := [(mm, .inr (12, mo g (nI ta) (nI pa) (nI pe) pd (nI pb) pp pf pg pn rt rn (nI cd) sn (nI il) tk am at_ aa 0 0 (-1) wt wy 0 (nI rm) (nI ud2_11) (nI ((nu + 1) % 20)) sd (nI qn) (nI qw) qo (nI qb) (nI qp) qa (nI qi) (nI oc))), (g 20, .inl (cI, 4, .inl (l4 (nI l0) (nI l1) (nI dm) (nI l3)))), (g 31, .inl (cI, 120, .inl f_14)), (g 54, .inl (cI, 2400, .inl kp2_10)), (g 9, .inl (cI, 6, .inl rf))]) [2, 1, 3, 4, 0] rfl
      have hD := hD.sub (ws' := [(mm, .inr (12, mo g (nI ta) (nI pa) (nI pe) pd (nI pb) pp pf pg pn rt rn (nI cd) sn (nI il) tk am at_ aa 0 0 (-1) wt wy 0 (nI rm) (nI ud2_11) (nI ((nu + 1) % 20)) sd (nI qn) (nI qw) qo (nI qb) (nI qp) qa (nI qi) (nI oc))), (g 20, .inl (cI, 4, .inl (l4 (nI l0) (nI l1) (nI dm) (nI l3)))), (g 31, .inl (cI, 120, .inl f_14)), (g 54, .inl (cI, 2400, .inl kp2_10)), (g 9, .inl (cI, 6, .inl rf))]) [2, 1, 3, 4, 0] (by decide +kernel) rfl
      exact sk_iret hx hb hr rfl hlocks hK hP hD hS (⟨Ba, (updG We kd_7 ov), U, (psh ud su (wn, mN, Ba, We, U, ke)), f_14, kp2_10, 1, (nu + 1) % 20, ud2_11, rf, hN_16, hkp2_13, by omega, by omega, (by decide), (by rw [hud2_12]; exact set_y1 (n := (wn, mN, Ba, We, U, ke)) hkd_7 hov rfl c_9), rfl, rfl⟩) (Nat.le_of_ble_eq_true rfl) (Nat.le_of_ble_eq_true rfl) dX12_becomes_59
    · have c_9 : We kd_7 = ov := (neq (We kd_7) ov (by omega) (by omega)).mp c_9
      refine lv_aload_n hx hb dX12_becomes_29 rfl (lv_at hl 0 rfl) ?_
      refine sk_get (v := .ref (g 9)) (C := RX12) (T := TX12) (N := 92) hx hb hts inlX12 hown hK hP 3 rfl rfl 9 (by decide) w_5_164 rfl dX12_becomes_30 ?_
      refine lv_iconst (v := 2) hx hb dX12_becomes_33 (by decide) ?_
      refine lv_dup2_11 hx hb dX12_becomes_34 rfl rfl ?_
      refine va_iald hx hb hK.1 hP 2 0 rfl rfl (by unfold vp_in; decide) dX12_becomes_35 ?_
      refine sk_top (rf 2) (rfl) ?_
      refine lv_iconst (v := 1) hx hb dX12_becomes_36 (by decide) ?_
      refine lv_iadd hx hb dX12_becomes_37 ?_
      refine sk_iastE (k := 2) (ws' := fun f_17 => [(g 31, .inl (cI, 120, .inl nw)), (g 54, .inl (cI, 2400, .inl kp)), (g 9, .inl (cI, 6, .inl f_17)), (mm, .inr (12, mo g (nI ta) (nI pa) (nI pe) pd (nI pb) pp pf pg pn rt rn (nI cd) sn (nI il) tk am at_ aa 0 0 (-1) wt wy 0 (nI rm) (nI ud) (nI nu) sd (nI qn) (nI qw) qo (nI qb) (nI qp) qa (nI qi) (nI oc))), (g 20, .inl (cI, 4, .inl (l4 (nI l0) (nI l1) (nI dm) (nI l3))))]) hx hb hK hP hD hS 2 0 rfl rfl (by omega) (by omega) (fun _ => rfl) dX12_becomes_38 (fun f_17 H locs ef_18 hP hD hS => ?_)
      refine lv_iconst (v := 0) hx hb dX12_becomes_39 (by decide) ?_
      have hP := hP.sub (ws' := [(mm, .inr (12, mo g (nI ta) (nI pa) (nI pe) pd (nI pb) pp pf pg pn rt rn (nI cd) sn (nI il) tk am at_ aa 0 0 (-1) wt wy 0 (nI rm) (nI ud) (nI nu) sd (nI qn) (nI qw) qo (nI qb) (nI qp) qa (nI qi) (nI oc))), (g 20, .inl (cI, 4, .inl (l4 (nI l0) (nI l1) (nI dm) (nI l3)))), (g 31, .inl (cI, 120, .inl nw)), (g 54, .inl (cI, 2400, .inl kp)), (g 9, .inl (cI, 6, .inl f_17))]) [3, 4, 0, 1, 2] rfl
      have hD := hD.sub (ws' := [(mm, .inr (12, mo g (nI ta) (nI pa) (nI pe) pd (nI pb) pp pf pg pn rt rn (nI cd) sn (nI il) tk am at_ aa 0 0 (-1) wt wy 0 (nI rm) (nI ud) (nI nu) sd (nI qn) (nI qw) qo (nI qb) (nI qp) qa (nI qi) (nI oc))), (g 20, .inl (cI, 4, .inl (l4 (nI l0) (nI l1) (nI dm) (nI l3)))), (g 31, .inl (cI, 120, .inl nw)), (g 54, .inl (cI, 2400, .inl kp)), (g 9, .inl (cI, 6, .inl f_17))]) [3, 4, 0, 1, 2] (by decide +kernel) rfl
      exact sk_iret hx hb hr rfl hlocks hK hP hD hS (⟨Ba, We, U, su, nw, kp, 0, nu, ud, f_17, hnw, hkp, by omega, by omega, (by decide), set_4 (j := 1) (n := (wn, mN, Ba, We, U, ke)) hdm hkd_7 hov (by decide) rfl c_9 ef_18, rfl, rfl⟩) (Nat.le_of_ble_eq_true rfl) (Nat.le_of_ble_eq_true rfl) dX12_becomes_40
set_option maxHeartbeats 4000000 in
set_option maxRecDepth 100000 in
theorem c_nm_becomes12 (l : Launch) (D : va_G) (cI cJ cC cZ cS : ClassId) (mm : Nat) (g : Nat → Nat) (ta : Nat) (pa : Nat) (pe : Nat) (pd : Int32) (pb : Nat) (pp : Int32) (pf : Int32) (pg : Int32) (pn : Int32) (rt : Int32) (rn : Int32) (cd : Nat) (sn : Int32) (il : Nat) (tk : Int32) (am : Int32) (at_ : Int32) (aa : Int32) (wt : Int32) (wy : Int64) (rm : Nat) (ud : Nat) (nu : Nat) (sd : Int64) (qn : Nat) (qw : Nat) (qo : Int32) (qb : Nat) (qp : Nat) (qa : Int64) (qi : Nat) (oc : Nat) (d : Int32) (ov : Nat) (l0 : Nat) (l1 : Nat) (dm : Nat) (l3 : Nat) (nw : Nat → Int32) (kp : Nat → Int32) (rf : Nat → Int32) (wn : Nat) (mN : Nat) (Ba : Nat → Nat) (We : Nat → Nat) (U : Nat → Bool) (ke : Nat) (lg : KLg) (su : Nat → KN) (hdm : dm ≤ 9) (hnu : nu < 20) (hud : ud ≤ 20) (hov : ov < 2) (hB9 : ∀ j, Ba j ≤ 9) (hW9 : ∀ j, We j ≤ 9) (hnw : nwX wn mN Ba We U ke lg nw) (hkp : kpX ud nu su lg kp) : skM l yX12_becomes cX12_becomes 5 (some .boolean) 2 46 0 0 D (skT cI cJ cC cZ cS) [.ref mm, .int d, .int 2, .int (nI ov), .int 1] [(mm, .inr (12, mo g (nI ta) (nI pa) (nI pe) pd (nI pb) pp pf pg pn rt rn (nI cd) sn (nI il) tk am at_ aa 0 0 (-1) wt wy 0 (nI rm) (nI ud) (nI nu) sd (nI qn) (nI qw) qo (nI qb) (nI qp) qa (nI qi) (nI oc))), (g 20, .inl (cI, 4, .inl (l4 (nI l0) (nI l1) (nI dm) (nI l3)))), (g 31, .inl (cI, 120, .inl nw)), (g 54, .inl (cI, 2400, .inl kp)), (g 9, .inl (cI, 6, .inl rf))] (skI D (skT cI cJ cC cZ cS) (fun (r : Int32) (u : va_W) => ∃ (Ba2 : Nat → Nat), ∃ (We2 : Nat → Nat), ∃ (U2 : Nat → Bool), ∃ (su2 : Nat → KN), ∃ (nw2 : Nat → Int32), ∃ (kp2 : Nat → Int32), ∃ (b : Nat), ∃ (nu2 : Nat), ∃ (ud2 : Nat), ∃ (rf2 : Nat → Int32), nwX wn mN Ba2 We2 U2 ke lg nw2 ∧ kpX ud2 nu2 su2 lg kp2 ∧ nu2 < 20 ∧ ud2 ≤ 20 ∧ b ≤ 1 ∧ muteR dm (wn, mN, Ba, We, U, ke) ud su rf d (nI ov) (nI b) (wn, mN, Ba2, We2, U2, ke) ud2 su2 rf2 ∧ r = nI b ∧ u = [(mm, .inr (12, mo g (nI ta) (nI pa) (nI pe) pd (nI pb) pp pf pg pn rt rn (nI cd) sn (nI il) tk am at_ aa 0 0 (-1) wt wy 0 (nI rm) (nI ud2) (nI nu2) sd (nI qn) (nI qw) qo (nI qb) (nI qp) qa (nI qi) (nI oc))), (g 20, .inl (cI, 4, .inl (l4 (nI l0) (nI l1) (nI dm) (nI l3)))), (g 31, .inl (cI, 120, .inl nw2)), (g 54, .inl (cI, 2400, .inl kp2)), (g 9, .inl (cI, 6, .inl rf2))])) := by
  refine skM_of (by decide +kernel) (Nat.le_of_ble_eq_true rfl) ?_
  intro p e s m below meth c A ls E hP hD hl
  obtain ⟨hx, hb, hr, hml, hlocks, hin, hown, hts, hK, hA⟩ := E
  have hown : s.vm.findClass RX12 = some m.cls := hown
  have hS : va_S A s.heap s.heap [] := va_S.rf
  have hl : lv_has ls 5 [(0, .ref mm), (1, .int d), (2, .int 2), (3, .int (nI ov)), (4, .int 1)] := hl
  refine lv_aload_n hx hb dX12_becomes_0 rfl (lv_at hl 0 rfl) ?_
  refine lv_iload_n hx hb dX12_becomes_1 rfl (lv_at hl 1 rfl) ?_
  refine sk_Vi (q0 := 0) (n := 1) (rest := []) (wr := [(g 31, .inl (cI, 120, .inl nw)), (g 54, .inl (cI, 2400, .inl kp)), (g 9, .inl (cI, 6, .inl rf))]) ⟨hx, hb, hml, hown, hts⟩ hl.1 (c_nm_isDay l D cI cJ cC cZ cS mm g ta pa pe pd pb pp pf pg pn rt rn cd sn il tk am at_ aa wt wy rm ud nu sd qn qw qo qb qp qa qi oc d l0 l1 dm l3 (by omega)) w_7_117 w_7_119 w_0_72 w_1_14 w_7_120 (by decide +kernel) ⟨⟨(Nat.le_of_ble_eq_true rfl), (Nat.le_of_ble_eq_true rfl)⟩, (Nat.le_of_ble_eq_true rfl), (Nat.le_of_ble_eq_true rfl)⟩ hK hP hD hS hA [0, 1] [2, 3, 4] rfl rfl (by decide +kernel) (by decide +kernel) (by decide +kernel) rfl rfl rfl rfl (Nat.le_of_ble_eq_true rfl) dX12_becomes_2 (fun r_2 u H locs hw hP hD hS => ?_)
  obtain ⟨b_1, hb1_3, rfl, rfl⟩ := hw
  have hP : va_P D vwCl [(g 31, .inl (cI, 120, .inl nw)), (g 54, .inl (cI, 2400, .inl kp)), (g 9, .inl (cI, 6, .inl rf)), (mm, .inr (12, mo g (nI ta) (nI pa) (nI pe) pd (nI pb) pp pf pg pn rt rn (nI cd) sn (nI il) tk am at_ aa 0 0 (-1) wt wy 0 (nI rm) (nI ud) (nI nu) sd (nI qn) (nI qw) qo (nI qb) (nI qp) qa (nI qi) (nI oc))), (g 20, .inl (cI, 4, .inl (l4 (nI l0) (nI l1) (nI dm) (nI l3))))] H := hP
  have hD : va_D A [(g 31, .inl (cI, 120, .inl nw)), (g 54, .inl (cI, 2400, .inl kp)), (g 9, .inl (cI, 6, .inl rf)), (mm, .inr (12, mo g (nI ta) (nI pa) (nI pe) pd (nI pb) pp pf pg pn rt rn (nI cd) sn (nI il) tk am at_ aa 0 0 (-1) wt wy 0 (nI rm) (nI ud) (nI nu) sd (nI qn) (nI qw) qo (nI qb) (nI qp) qa (nI qi) (nI oc))), (g 20, .inl (cI, 4, .inl (l4 (nI l0) (nI l1) (nI dm) (nI l3))))] := hD
  refine lv_if_eq (tgt := 29) hx hb dX12_becomes_5 (by decide) (fun c_4 => ?_) (fun c_4 => ?_)
  · have c_4 : b_1 = 0 := (neq b_1 0 (by omega) (by omega)).mp c_4
    refine lv_aload_n hx hb dX12_becomes_29 rfl (lv_at hl 0 rfl) ?_
    refine sk_get (v := .ref (g 9)) (C := RX12) (T := TX12) (N := 92) hx hb hts inlX12 hown hK hP 3 rfl rfl 9 (by decide) w_5_164 rfl dX12_becomes_30 ?_
    refine lv_iconst (v := 2) hx hb dX12_becomes_33 (by decide) ?_
    refine lv_dup2_11 hx hb dX12_becomes_34 rfl rfl ?_
    refine va_iald hx hb hK.1 hP 2 0 rfl rfl (by unfold vp_in; decide) dX12_becomes_35 ?_
    refine sk_top (rf 2) (rfl) ?_
    refine lv_iconst (v := 1) hx hb dX12_becomes_36 (by decide) ?_
    refine lv_iadd hx hb dX12_becomes_37 ?_
    refine sk_iastE (k := 2) (ws' := fun f_5 => [(g 31, .inl (cI, 120, .inl nw)), (g 54, .inl (cI, 2400, .inl kp)), (g 9, .inl (cI, 6, .inl f_5)), (mm, .inr (12, mo g (nI ta) (nI pa) (nI pe) pd (nI pb) pp pf pg pn rt rn (nI cd) sn (nI il) tk am at_ aa 0 0 (-1) wt wy 0 (nI rm) (nI ud) (nI nu) sd (nI qn) (nI qw) qo (nI qb) (nI qp) qa (nI qi) (nI oc))), (g 20, .inl (cI, 4, .inl (l4 (nI l0) (nI l1) (nI dm) (nI l3))))]) hx hb hK hP hD hS 2 0 rfl rfl (by omega) (by omega) (fun _ => rfl) dX12_becomes_38 (fun f_5 H locs ef_6 hP hD hS => ?_)
    refine lv_iconst (v := 0) hx hb dX12_becomes_39 (by decide) ?_
    have hP := hP.sub (ws' := [(mm, .inr (12, mo g (nI ta) (nI pa) (nI pe) pd (nI pb) pp pf pg pn rt rn (nI cd) sn (nI il) tk am at_ aa 0 0 (-1) wt wy 0 (nI rm) (nI ud) (nI nu) sd (nI qn) (nI qw) qo (nI qb) (nI qp) qa (nI qi) (nI oc))), (g 20, .inl (cI, 4, .inl (l4 (nI l0) (nI l1) (nI dm) (nI l3)))), (g 31, .inl (cI, 120, .inl nw)), (g 54, .inl (cI, 2400, .inl kp)), (g 9, .inl (cI, 6, .inl f_5))]) [3, 4, 0, 1, 2] rfl
    have hD := hD.sub (ws' := [(mm, .inr (12, mo g (nI ta) (nI pa) (nI pe) pd (nI pb) pp pf pg pn rt rn (nI cd) sn (nI il) tk am at_ aa 0 0 (-1) wt wy 0 (nI rm) (nI ud) (nI nu) sd (nI qn) (nI qw) qo (nI qb) (nI qp) qa (nI qi) (nI oc))), (g 20, .inl (cI, 4, .inl (l4 (nI l0) (nI l1) (nI dm) (nI l3)))), (g 31, .inl (cI, 120, .inl nw)), (g 54, .inl (cI, 2400, .inl kp)), (g 9, .inl (cI, 6, .inl f_5))]) [3, 4, 0, 1, 2] (by decide +kernel) rfl
    exact sk_iret hx hb hr rfl hlocks hK hP hD hS (⟨Ba, We, U, su, nw, kp, 0, nu, ud, f_5, hnw, hkp, by omega, by omega, (by decide), mut_0 (rr_0 hb1_3 (by omega)) ef_6, rfl, rfl⟩) (Nat.le_of_ble_eq_true rfl) (Nat.le_of_ble_eq_true rfl) dX12_becomes_40
  · have c_4 : ¬ (b_1 = 0) := fun h => c_4 ((neq b_1 0 (by omega) (by omega)).mpr h)
    obtain ⟨kd_7, hkd_7, rfl⟩ := rr_1 hb1_3 (by omega)
    refine lv_iload hx hb dX12_becomes_8 (lv_at hl 4 rfl) ?_
    refine lv_if_eq (tgt := 29) hx hb dX12_becomes_10 (by decide) (fun c => absurd c (by decide)) (fun c_8 => ?_)
    refine lv_aload_n hx hb dX12_becomes_13 rfl (lv_at hl 0 rfl) ?_
    refine sk_get (v := .ref (g 31)) (C := RX12) (T := TX12) (N := 92) hx hb hts inlX12 hown hK hP 3 rfl rfl 31 (by decide) w_5_186 rfl dX12_becomes_14 ?_
    refine lv_iconst (v := 2) hx hb dX12_becomes_17 (by decide) ?_
    refine lv_iconst (v := 3) hx hb dX12_becomes_18 (by decide) ?_
    refine lv_iload_n hx hb dX12_becomes_19 rfl (lv_at hl 1 rfl) ?_
    refine lv_imul hx hb dX12_becomes_20 ?_
    refine sk_top (nI (3 * kd_7)) (nmul 3 kd_7) ?_
    refine lv_iadd hx hb dX12_becomes_21 ?_
    refine sk_top (nI (2 + (3 * kd_7))) (nI_add 2 (3 * kd_7)) ?_
    refine lv_iload_n hx hb dX12_becomes_22 rfl (lv_at hl 2 rfl) ?_
    refine lv_iadd hx hb dX12_becomes_23 ?_
    refine sk_top (nI (2 + (3 * kd_7) + 2)) (nI_add (2 + (3 * kd_7)) 2) ?_
    refine va_iald hx hb hK.1 hP 0 0 rfl rfl (vin (2 + (3 * kd_7) + 2) 120 (by omega) (by omega)) dX12_becomes_24 ?_
    obtain ⟨uv, huv⟩ : ∃ uv : Nat, uv = (if U kd_7 = true then 1 else 0) := ⟨_, rfl⟩
    have huv1 : uv ≤ 1 := (by rw [huv]; split <;> decide)
    refine sk_top (nI uv) (by rw [huv, nI_clamp (by omega)]; exact nwX_m1v hnw (by omega)) ?_
    refine lv_iload_n hx hb dX12_becomes_25 rfl (lv_at hl 3 rfl) ?_
    refine lv_icmp_ne (tgt := 41) hx hb dX12_becomes_26 (by decide) (fun c_9 => ?_) (fun c_9 => ?_)
    · have c_9 : ¬ (uv = ov) := fun h => c_9 ((neq uv ov (by omega) (by omega)).mpr h)
      refine lv_aload_n hx hb dX12_becomes_41 rfl (lv_at hl 0 rfl) ?_
      refine sk_Vv (q0 := 0) (n := 0) (rest := []) (wr := [(g 9, .inl (cI, 6, .inl rf)), (g 20, .inl (cI, 4, .inl (l4 (nI l0) (nI l1) (nI dm) (nI l3))))]) ⟨hx, hb, hml, hown, hts⟩ hl.1 (c_nm_keeps l D cI cJ cC cZ cS mm g ta pa pe pd pb pp pf pg pn rt rn cd sn il tk am at_ aa wt wy rm ud nu sd qn qw qo qb qp qa qi oc nw kp wn mN Ba We U ke lg su (by omega) (by omega) hnw hkp) w_8_130 w_8_132 w_0_107 w_1_14 w_8_133 (by decide +kernel) ⟨⟨(Nat.le_of_ble_eq_true rfl), (Nat.le_of_ble_eq_true rfl)⟩, (Nat.le_of_ble_eq_true rfl), (Nat.le_of_ble_eq_true rfl)⟩ hK hP hD hS hA [3, 0, 1] [2, 4] rfl rfl (by decide +kernel) (by decide +kernel) (by decide +kernel) rfl rfl rfl rfl (Nat.le_of_ble_eq_true rfl) dX12_becomes_42 (fun u H locs hw hP hD hS => ?_)
      obtain ⟨kp2_10, ud2_11, hud2_12, hkp2_13, rfl⟩ := hw
      have hP : va_P D vwCl [(g 9, .inl (cI, 6, .inl rf)), (g 20, .inl (cI, 4, .inl (l4 (nI l0) (nI l1) (nI dm) (nI l3)))), (mm, .inr (12, mo g (nI ta) (nI pa) (nI pe) pd (nI pb) pp pf pg pn rt rn (nI cd) sn (nI il) tk am at_ aa 0 0 (-1) wt wy 0 (nI rm) (nI ud2_11) (nI ((nu + 1) % 20)) sd (nI qn) (nI qw) qo (nI qb) (nI qp) qa (nI qi) (nI oc))), (g 31, .inl (cI, 120, .inl nw)), (g 54, .inl (cI, 2400, .inl kp2_10))] H := hP
      have hD : va_D A [(g 9, .inl (cI, 6, .inl rf)), (g 20, .inl (cI, 4, .inl (l4 (nI l0) (nI l1) (nI dm) (nI l3)))), (mm, .inr (12, mo g (nI ta) (nI pa) (nI pe) pd (nI pb) pp pf pg pn rt rn (nI cd) sn (nI il) tk am at_ aa 0 0 (-1) wt wy 0 (nI rm) (nI ud2_11) (nI ((nu + 1) % 20)) sd (nI qn) (nI qw) qo (nI qb) (nI qp) qa (nI qi) (nI oc))), (g 31, .inl (cI, 120, .inl nw)), (g 54, .inl (cI, 2400, .inl kp2_10))] := hD
      refine lv_aload_n hx hb dX12_becomes_45 rfl (lv_at hl 0 rfl) ?_
      refine sk_get (v := .ref (g 31)) (C := RX12) (T := TX12) (N := 92) hx hb hts inlX12 hown hK hP 2 rfl rfl 31 (by decide) w_5_186 rfl dX12_becomes_46 ?_
      refine lv_iconst (v := 2) hx hb dX12_becomes_49 (by decide) ?_
      refine lv_iconst (v := 3) hx hb dX12_becomes_50 (by decide) ?_
      refine lv_iload_n hx hb dX12_becomes_51 rfl (lv_at hl 1 rfl) ?_
      refine lv_imul hx hb dX12_becomes_52 ?_
      refine sk_top (nI (3 * kd_7)) (nmul 3 kd_7) ?_
      refine lv_iadd hx hb dX12_becomes_53 ?_
      refine sk_top (nI (2 + (3 * kd_7))) (nI_add 2 (3 * kd_7)) ?_
      refine lv_iload_n hx hb dX12_becomes_54 rfl (lv_at hl 2 rfl) ?_
      refine lv_iadd hx hb dX12_becomes_55 ?_
      refine sk_top (nI (2 + (3 * kd_7) + 2)) (nI_add (2 + (3 * kd_7)) 2) ?_
      refine lv_iload_n hx hb dX12_becomes_56 rfl (lv_at hl 3 rfl) ?_
      refine sk_iastE (k := (2 + (3 * kd_7) + 2)) (x := (nI ov)) (ws' := fun f_14 => [(g 9, .inl (cI, 6, .inl rf)), (g 20, .inl (cI, 4, .inl (l4 (nI l0) (nI l1) (nI dm) (nI l3)))), (mm, .inr (12, mo g (nI ta) (nI pa) (nI pe) pd (nI pb) pp pf pg pn rt rn (nI cd) sn (nI il) tk am at_ aa 0 0 (-1) wt wy 0 (nI rm) (nI ud2_11) (nI ((nu + 1) % 20)) sd (nI qn) (nI qw) qo (nI qb) (nI qp) qa (nI qi) (nI oc))), (g 31, .inl (cI, 120, .inl f_14)), (g 54, .inl (cI, 2400, .inl kp2_10))]) hx hb hK hP hD hS 3 0 rfl rfl (by omega) (by omega) (fun _ => rfl) dX12_becomes_57 (fun f_14 H locs ef_15 hP hD hS => ?_)
      have hN_16 : nwX wn mN Ba We (updG U kd_7 (!U kd_7)) ke lg f_14 := nwX_upm hnw ef_15 (mu_flip (by rw [← huv]; omega) (by omega)) (by omega)
      refine lv_iconst (v := 1) hx hb dX12_becomes_58 (by decide) ?_
      have hP := hP.sub (ws' := [(mm, .inr (12, mo g (nI ta) (nI pa) (nI pe) pd (nI pb) pp pf pg pn rt rn (nI cd) sn (nI il) tk am at_ aa 0 0 (-1) wt wy 0 (nI rm) (nI ud2_11) (nI ((nu + 1) % 20)) sd (nI qn) (nI qw) qo (nI qb) (nI qp) qa (nI qi) (nI oc))), (g 20, .inl (cI, 4, .inl (l4 (nI l0) (nI l1) (nI dm) (nI l3)))), (g 31, .inl (cI, 120, .inl f_14)), (g 54, .inl (cI, 2400, .inl kp2_10)), (g 9, .inl (cI, 6, .inl rf))]) [2, 1, 3, 4, 0] rfl
      have hD := hD.sub (ws' := [(mm, .inr (12, mo g (nI ta) (nI pa) (nI pe) pd (nI pb) pp pf pg pn rt rn (nI cd) sn (nI il) tk am at_ aa 0 0 (-1) wt wy 0 (nI rm) (nI ud2_11) (nI ((nu + 1) % 20)) sd (nI qn) (nI qw) qo (nI qb) (nI qp) qa (nI qi) (nI oc))), (g 20, .inl (cI, 4, .inl (l4 (nI l0) (nI l1) (nI dm) (nI l3)))), (g 31, .inl (cI, 120, .inl f_14)), (g 54, .inl (cI, 2400, .inl kp2_10)), (g 9, .inl (cI, 6, .inl rf))]) [2, 1, 3, 4, 0] (by decide +kernel) rfl
      exact sk_iret hx hb hr rfl hlocks hK hP hD hS (⟨Ba, We, (updG U kd_7 (!U kd_7)), (psh ud su (wn, mN, Ba, We, U, ke)), f_14, kp2_10, 1, (nu + 1) % 20, ud2_11, rf, hN_16, hkp2_13, by omega, by omega, (by decide), (by rw [hud2_12]; exact mut_y (n := (wn, mN, Ba, We, U, ke)) hkd_7 (by omega) (mu_b U kd_7) (mu_c (by omega)) (by rw [← huv]; exact c_9)), rfl, rfl⟩) (Nat.le_of_ble_eq_true rfl) (Nat.le_of_ble_eq_true rfl) dX12_becomes_59
    · have c_9 : uv = ov := (neq uv ov (by omega) (by omega)).mp c_9
      refine lv_aload_n hx hb dX12_becomes_29 rfl (lv_at hl 0 rfl) ?_
      refine sk_get (v := .ref (g 9)) (C := RX12) (T := TX12) (N := 92) hx hb hts inlX12 hown hK hP 3 rfl rfl 9 (by decide) w_5_164 rfl dX12_becomes_30 ?_
      refine lv_iconst (v := 2) hx hb dX12_becomes_33 (by decide) ?_
      refine lv_dup2_11 hx hb dX12_becomes_34 rfl rfl ?_
      refine va_iald hx hb hK.1 hP 2 0 rfl rfl (by unfold vp_in; decide) dX12_becomes_35 ?_
      refine sk_top (rf 2) (rfl) ?_
      refine lv_iconst (v := 1) hx hb dX12_becomes_36 (by decide) ?_
      refine lv_iadd hx hb dX12_becomes_37 ?_
      refine sk_iastE (k := 2) (ws' := fun f_17 => [(g 31, .inl (cI, 120, .inl nw)), (g 54, .inl (cI, 2400, .inl kp)), (g 9, .inl (cI, 6, .inl f_17)), (mm, .inr (12, mo g (nI ta) (nI pa) (nI pe) pd (nI pb) pp pf pg pn rt rn (nI cd) sn (nI il) tk am at_ aa 0 0 (-1) wt wy 0 (nI rm) (nI ud) (nI nu) sd (nI qn) (nI qw) qo (nI qb) (nI qp) qa (nI qi) (nI oc))), (g 20, .inl (cI, 4, .inl (l4 (nI l0) (nI l1) (nI dm) (nI l3))))]) hx hb hK hP hD hS 2 0 rfl rfl (by omega) (by omega) (fun _ => rfl) dX12_becomes_38 (fun f_17 H locs ef_18 hP hD hS => ?_)
      refine lv_iconst (v := 0) hx hb dX12_becomes_39 (by decide) ?_
      have hP := hP.sub (ws' := [(mm, .inr (12, mo g (nI ta) (nI pa) (nI pe) pd (nI pb) pp pf pg pn rt rn (nI cd) sn (nI il) tk am at_ aa 0 0 (-1) wt wy 0 (nI rm) (nI ud) (nI nu) sd (nI qn) (nI qw) qo (nI qb) (nI qp) qa (nI qi) (nI oc))), (g 20, .inl (cI, 4, .inl (l4 (nI l0) (nI l1) (nI dm) (nI l3)))), (g 31, .inl (cI, 120, .inl nw)), (g 54, .inl (cI, 2400, .inl kp)), (g 9, .inl (cI, 6, .inl f_17))]) [3, 4, 0, 1, 2] rfl
      have hD := hD.sub (ws' := [(mm, .inr (12, mo g (nI ta) (nI pa) (nI pe) pd (nI pb) pp pf pg pn rt rn (nI cd) sn (nI il) tk am at_ aa 0 0 (-1) wt wy 0 (nI rm) (nI ud) (nI nu) sd (nI qn) (nI qw) qo (nI qb) (nI qp) qa (nI qi) (nI oc))), (g 20, .inl (cI, 4, .inl (l4 (nI l0) (nI l1) (nI dm) (nI l3)))), (g 31, .inl (cI, 120, .inl nw)), (g 54, .inl (cI, 2400, .inl kp)), (g 9, .inl (cI, 6, .inl f_17))]) [3, 4, 0, 1, 2] (by decide +kernel) rfl
      exact sk_iret hx hb hr rfl hlocks hK hP hD hS (⟨Ba, We, U, su, nw, kp, 0, nu, ud, f_17, hnw, hkp, by omega, by omega, (by decide), mut_3 (n := (wn, mN, Ba, We, U, ke)) hdm hkd_7 (by omega) (mu_b U kd_7) (mu_c (by omega)) (by rw [← huv]; exact c_9) ef_18, rfl, rfl⟩) (Nat.le_of_ble_eq_true rfl) (Nat.le_of_ble_eq_true rfl) dX12_becomes_40
theorem dX12_set_0 : decode cX12_set 0 = .ok (.aload_n 0, 1) := by decide +kernel
theorem dX12_set_1 : decode cX12_set 1 = .ok (.iload_n 1, 1) := by decide +kernel
theorem dX12_set_2 : decode cX12_set 2 = .ok (.iload_n 2, 1) := by decide +kernel
theorem dX12_set_3 : decode cX12_set 3 = .ok (.iconst 1, 1) := by decide +kernel
theorem dX12_set_4 : decode cX12_set 4 = .ok (.if_icmp .ne 7, 3) := by decide +kernel
theorem dX12_set_11 : decode cX12_set 11 = .ok (.iconst 0, 1) := by decide +kernel
theorem dX12_set_12 : decode cX12_set 12 = .ok (.iload_n 3, 1) := by decide +kernel
theorem dX12_set_13 : decode cX12_set 13 = .ok (.iload_n 2, 1) := by decide +kernel
theorem dX12_set_14 : decode cX12_set 14 = .ok (.i2l, 1) := by decide +kernel
theorem dX12_set_15 : decode cX12_set 15 = .ok (.lconst 0, 1) := by decide +kernel
theorem dX12_set_16 : decode cX12_set 16 = .ok (.lconst 1, 1) := by decide +kernel
theorem dX12_set_17 : decode cX12_set 17 = .ok (.invokestatic 238, 3) := by decide +kernel
theorem dX12_set_20 : decode cX12_set 20 = .ok (.ifCond .eq 19, 3) := by decide +kernel
theorem dX12_set_39 : decode cX12_set 39 = .ok (.iconst 0, 1) := by decide +kernel
theorem dX12_set_40 : decode cX12_set 40 = .ok (.invokevirtual 477, 3) := by decide +kernel
theorem dX12_set_43 : decode cX12_set 43 = .ok (.ireturn, 1) := by decide +kernel
theorem dX12_set_23 : decode cX12_set 23 = .ok (.iload_n 3, 1) := by decide +kernel
theorem dX12_set_24 : decode cX12_set 24 = .ok (.i2l, 1) := by decide +kernel
theorem dX12_set_25 : decode cX12_set 25 = .ok (.lconst 0, 1) := by decide +kernel
theorem dX12_set_26 : decode cX12_set 26 = .ok (.ldc2_w 318, 3) := by decide +kernel
theorem dX12_set_29 : decode cX12_set 29 = .ok (.invokestatic 238, 3) := by decide +kernel
theorem dX12_set_32 : decode cX12_set 32 = .ok (.ifCond .eq 7, 3) := by decide +kernel
theorem dX12_set_35 : decode cX12_set 35 = .ok (.iconst 1, 1) := by decide +kernel
theorem dX12_set_36 : decode cX12_set 36 = .ok (.goto 4, 3) := by decide +kernel
theorem dX12_set_7 : decode cX12_set 7 = .ok (.iconst 1, 1) := by decide +kernel
theorem dX12_set_8 : decode cX12_set 8 = .ok (.goto 4, 3) := by decide +kernel
theorem w_8_126 : (Cond.methodLink RX12 477 yX12_becomes) ∈ wsL_law := sk_mem (ck_8 _ (List.mem_of_getElem? (i := 126) rfl)) rfl
theorem w_8_128 : (Cond.instanceMethod yX12_becomes) ∈ wsL_law := sk_mem (ck_8 _ (List.mem_of_getElem? (i := 128) rfl)) rfl
theorem w_0_106 : (Cond.selects RX12 yX12_becomes yX12_becomes) ∈ wsL_law := sk_mem (ck_0 _ (List.mem_of_getElem? (i := 106) rfl)) rfl
theorem w_8_125 : (Cond.code yX12_set cX12_set 4 (some .boolean)) ∈ wsL_law := sk_mem (ck_8 _ (List.mem_of_getElem? (i := 125) rfl)) rfl
set_option maxHeartbeats 4000000 in
set_option maxRecDepth 100000 in
theorem c_nm_set (l : Launch) (D : va_G) (cI cJ cC cZ cS : ClassId) (mm : Nat) (g : Nat → Nat) (ta : Nat) (pa : Nat) (pe : Nat) (pd : Int32) (pb : Nat) (pp : Int32) (pf : Int32) (pg : Int32) (pn : Int32) (rt : Int32) (rn : Int32) (cd : Nat) (sn : Int32) (il : Nat) (tk : Int32) (am : Int32) (at_ : Int32) (aa : Int32) (wt : Int32) (wy : Int64) (rm : Nat) (ud : Nat) (nu : Nat) (sd : Int64) (qn : Nat) (qw : Nat) (qo : Int32) (qb : Nat) (qp : Nat) (qa : Int64) (qi : Nat) (oc : Nat) (d : Int32) (w : Int32) (o : Int32) (l0 : Nat) (l1 : Nat) (dm : Nat) (l3 : Nat) (nw : Nat → Int32) (kp : Nat → Int32) (rf : Nat → Int32) (wn : Nat) (mN : Nat) (Ba : Nat → Nat) (We : Nat → Nat) (U : Nat → Bool) (ke : Nat) (lg : KLg) (su : Nat → KN) (hdm : dm ≤ 9) (hnu : nu < 20) (hud : ud ≤ 20) (hB9 : ∀ j, Ba j ≤ 9) (hW9 : ∀ j, We j ≤ 9) (hnw : nwX wn mN Ba We U ke lg nw) (hkp : kpX ud nu su lg kp) : skM l yX12_set cX12_set 4 (some .boolean) 3 70 0 0 D (skT cI cJ cC cZ cS) [.ref mm, .int d, .int w, .int o] [(mm, .inr (12, mo g (nI ta) (nI pa) (nI pe) pd (nI pb) pp pf pg pn rt rn (nI cd) sn (nI il) tk am at_ aa 0 0 (-1) wt wy 0 (nI rm) (nI ud) (nI nu) sd (nI qn) (nI qw) qo (nI qb) (nI qp) qa (nI qi) (nI oc))), (g 20, .inl (cI, 4, .inl (l4 (nI l0) (nI l1) (nI dm) (nI l3)))), (g 31, .inl (cI, 120, .inl nw)), (g 54, .inl (cI, 2400, .inl kp)), (g 9, .inl (cI, 6, .inl rf))] (skI D (skT cI cJ cC cZ cS) (fun (r : Int32) (u : va_W) => ∃ (Ba2 : Nat → Nat), ∃ (We2 : Nat → Nat), ∃ (U2 : Nat → Bool), ∃ (su2 : Nat → KN), ∃ (nw2 : Nat → Int32), ∃ (kp2 : Nat → Int32), ∃ (b : Nat), ∃ (nu2 : Nat), ∃ (ud2 : Nat), ∃ (rf2 : Nat → Int32), nwX wn mN Ba2 We2 U2 ke lg nw2 ∧ kpX ud2 nu2 su2 lg kp2 ∧ nu2 < 20 ∧ ud2 ≤ 20 ∧ setR dm (wn, mN, Ba, We, U, ke) ud su rf d w o (nI b) (wn, mN, Ba2, We2, U2, ke) ud2 su2 rf2 ∧ r = nI b ∧ u = [(mm, .inr (12, mo g (nI ta) (nI pa) (nI pe) pd (nI pb) pp pf pg pn rt rn (nI cd) sn (nI il) tk am at_ aa 0 0 (-1) wt wy 0 (nI rm) (nI ud2) (nI nu2) sd (nI qn) (nI qw) qo (nI qb) (nI qp) qa (nI qi) (nI oc))), (g 20, .inl (cI, 4, .inl (l4 (nI l0) (nI l1) (nI dm) (nI l3)))), (g 31, .inl (cI, 120, .inl nw2)), (g 54, .inl (cI, 2400, .inl kp2)), (g 9, .inl (cI, 6, .inl rf2))])) := by
  refine skM_of (by decide +kernel) (Nat.le_of_ble_eq_true rfl) ?_
  intro p e s m below meth c A ls E hP hD hl
  obtain ⟨hx, hb, hr, hml, hlocks, hin, hown, hts, hK, hA⟩ := E
  have hown : s.vm.findClass RX12 = some m.cls := hown
  have hS : va_S A s.heap s.heap [] := va_S.rf
  have hl : lv_has ls 4 [(0, .ref mm), (1, .int d), (2, .int w), (3, .int o)] := hl
  refine lv_aload_n hx hb dX12_set_0 rfl (lv_at hl 0 rfl) ?_
  refine lv_iload_n hx hb dX12_set_1 rfl (lv_at hl 1 rfl) ?_
  refine lv_iload_n hx hb dX12_set_2 rfl (lv_at hl 2 rfl) ?_
  refine lv_iconst (v := 1) hx hb dX12_set_3 (by decide) ?_
  refine lv_icmp_ne (tgt := 11) hx hb dX12_set_4 (by decide) (fun c_1 => ?_) (fun c_1 => ?_)
  · skip
    refine lv_iconst (v := 0) hx hb dX12_set_11 (by decide) ?_
    refine lv_iload_n hx hb dX12_set_12 rfl (lv_at hl 3 rfl) ?_
    refine lv_iload_n hx hb dX12_set_13 rfl (lv_at hl 2 rfl) ?_
    refine lv_i2l hx hb dX12_set_14 rfl ?_
    refine lv_lconst (v := 0) hx hb dX12_set_15 (by decide) ?_
    refine lv_lconst (v := 1) hx hb dX12_set_16 (by decide) ?_
    refine sk_Si (n := 3) (rest := [.int o, .int 0, .int d, .ref mm]) (wr := [(mm, .inr (12, mo g (nI ta) (nI pa) (nI pe) pd (nI pb) pp pf pg pn rt rn (nI cd) sn (nI il) tk am at_ aa 0 0 (-1) wt wy 0 (nI rm) (nI ud) (nI nu) sd (nI qn) (nI qw) qo (nI qb) (nI qp) qa (nI qi) (nI oc))), (g 20, .inl (cI, 4, .inl (l4 (nI l0) (nI l1) (nI dm) (nI l3)))), (g 31, .inl (cI, 120, .inl nw)), (g 54, .inl (cI, 2400, .inl kp)), (g 9, .inl (cI, 6, .inl rf))]) ⟨hx, hb, hml, hown, hts⟩ hl.1 (c_nm_isIn l D cI cJ cC cZ cS (Int32.toInt64 w) 0 1) w_7_0 w_7_1 w_1_14 w_7_2 (by decide +kernel) ⟨⟨(Nat.le_of_ble_eq_true rfl), (Nat.le_of_ble_eq_true rfl)⟩, (Nat.le_of_ble_eq_true rfl), (Nat.le_of_ble_eq_true rfl)⟩ hK hP hD hS hA [] [0, 1, 2, 3, 4] rfl rfl (by decide +kernel) (by decide +kernel) (by decide +kernel) rfl rfl (Nat.le_of_ble_eq_true rfl) dX12_set_17 (fun r_3 u H locs hw hP hD hS => ?_)
    obtain ⟨b_2, hb1_4, rfl, rfl⟩ := hw
    have hP : va_P D vwCl [(mm, .inr (12, mo g (nI ta) (nI pa) (nI pe) pd (nI pb) pp pf pg pn rt rn (nI cd) sn (nI il) tk am at_ aa 0 0 (-1) wt wy 0 (nI rm) (nI ud) (nI nu) sd (nI qn) (nI qw) qo (nI qb) (nI qp) qa (nI qi) (nI oc))), (g 20, .inl (cI, 4, .inl (l4 (nI l0) (nI l1) (nI dm) (nI l3)))), (g 31, .inl (cI, 120, .inl nw)), (g 54, .inl (cI, 2400, .inl kp)), (g 9, .inl (cI, 6, .inl rf))] H := hP
    have hD : va_D A [(mm, .inr (12, mo g (nI ta) (nI pa) (nI pe) pd (nI pb) pp pf pg pn rt rn (nI cd) sn (nI il) tk am at_ aa 0 0 (-1) wt wy 0 (nI rm) (nI ud) (nI nu) sd (nI qn) (nI qw) qo (nI qb) (nI qp) qa (nI qi) (nI oc))), (g 20, .inl (cI, 4, .inl (l4 (nI l0) (nI l1) (nI dm) (nI l3)))), (g 31, .inl (cI, 120, .inl nw)), (g 54, .inl (cI, 2400, .inl kp)), (g 9, .inl (cI, 6, .inl rf))] := hD
    refine lv_if_eq (tgt := 39) hx hb dX12_set_20 (by decide) (fun c_5 => ?_) (fun c_5 => ?_)
    · have c_5 : b_2 = 0 := (neq b_2 0 (by omega) (by omega)).mp c_5
      refine lv_iconst (v := 0) hx hb dX12_set_39 (by decide) ?_
      refine sk_Vi (q0 := 0) (n := 4) (rest := []) (wr := [(g 31, .inl (cI, 120, .inl nw)), (g 54, .inl (cI, 2400, .inl kp))]) ⟨hx, hb, hml, hown, hts⟩ hl.1 (c_nm_becomes0 l D cI cJ cC cZ cS mm g ta pa pe pd pb pp pf pg pn rt rn cd sn il tk am at_ aa wt wy rm ud nu sd qn qw qo qb qp qa qi oc d 0 o l0 l1 dm l3 rf (by omega)) w_8_126 w_8_128 w_0_106 w_1_14 w_8_129 (by decide +kernel) ⟨⟨(Nat.le_of_ble_eq_true rfl), (Nat.le_of_ble_eq_true rfl)⟩, (Nat.le_of_ble_eq_true rfl), (Nat.le_of_ble_eq_true rfl)⟩ hK hP hD hS hA [0, 1, 4] [2, 3] rfl rfl (by decide +kernel) (by decide +kernel) (by decide +kernel) rfl rfl rfl rfl (Nat.le_of_ble_eq_true rfl) dX12_set_40 (fun r_7 u H locs hw hP hD hS => ?_)
      obtain ⟨rf2_6, hrf_8, rfl, rfl⟩ := hw
      have hP : va_P D vwCl [(g 31, .inl (cI, 120, .inl nw)), (g 54, .inl (cI, 2400, .inl kp)), (mm, .inr (12, mo g (nI ta) (nI pa) (nI pe) pd (nI pb) pp pf pg pn rt rn (nI cd) sn (nI il) tk am at_ aa 0 0 (-1) wt wy 0 (nI rm) (nI ud) (nI nu) sd (nI qn) (nI qw) qo (nI qb) (nI qp) qa (nI qi) (nI oc))), (g 20, .inl (cI, 4, .inl (l4 (nI l0) (nI l1) (nI dm) (nI l3)))), (g 9, .inl (cI, 6, .inl rf2_6))] H := hP
      have hD : va_D A [(g 31, .inl (cI, 120, .inl nw)), (g 54, .inl (cI, 2400, .inl kp)), (mm, .inr (12, mo g (nI ta) (nI pa) (nI pe) pd (nI pb) pp pf pg pn rt rn (nI cd) sn (nI il) tk am at_ aa 0 0 (-1) wt wy 0 (nI rm) (nI ud) (nI nu) sd (nI qn) (nI qw) qo (nI qb) (nI qp) qa (nI qi) (nI oc))), (g 20, .inl (cI, 4, .inl (l4 (nI l0) (nI l1) (nI dm) (nI l3)))), (g 9, .inl (cI, 6, .inl rf2_6))] := hD
      have hP := hP.sub (ws' := [(mm, .inr (12, mo g (nI ta) (nI pa) (nI pe) pd (nI pb) pp pf pg pn rt rn (nI cd) sn (nI il) tk am at_ aa 0 0 (-1) wt wy 0 (nI rm) (nI ud) (nI nu) sd (nI qn) (nI qw) qo (nI qb) (nI qp) qa (nI qi) (nI oc))), (g 20, .inl (cI, 4, .inl (l4 (nI l0) (nI l1) (nI dm) (nI l3)))), (g 31, .inl (cI, 120, .inl nw)), (g 54, .inl (cI, 2400, .inl kp)), (g 9, .inl (cI, 6, .inl rf2_6))]) [2, 3, 0, 1, 4] rfl
      have hD := hD.sub (ws' := [(mm, .inr (12, mo g (nI ta) (nI pa) (nI pe) pd (nI pb) pp pf pg pn rt rn (nI cd) sn (nI il) tk am at_ aa 0 0 (-1) wt wy 0 (nI rm) (nI ud) (nI nu) sd (nI qn) (nI qw) qo (nI qb) (nI qp) qa (nI qi) (nI oc))), (g 20, .inl (cI, 4, .inl (l4 (nI l0) (nI l1) (nI dm) (nI l3)))), (g 31, .inl (cI, 120, .inl nw)), (g 54, .inl (cI, 2400, .inl kp)), (g 9, .inl (cI, 6, .inl rf2_6))]) [2, 3, 0, 1, 4] (by decide +kernel) rfl
      exact sk_iret hx hb hr rfl hlocks hK hP hD hS (⟨Ba, We, U, su, nw, kp, 0, nu, ud, rf2_6, hnw, hkp, by omega, by omega, set_w (fun hq => rr_0 hb1_4 (by omega) ((kin0 (n := 2) (by decide) (by omega)).mpr hq)) hrf_8, rfl, rfl⟩) (Nat.le_of_ble_eq_true rfl) (Nat.le_of_ble_eq_true rfl) dX12_set_43
    · have c_5 : ¬ (b_2 = 0) := fun h => c_5 ((neq b_2 0 (by omega) (by omega)).mpr h)
      obtain ⟨kd_9, hkd_9, rfl⟩ := (kin0 (n := 2) (by decide) (by omega)).mp (rr_1 hb1_4 (by omega))
      refine lv_iload_n hx hb dX12_set_23 rfl (lv_at hl 3 rfl) ?_
      refine lv_i2l hx hb dX12_set_24 rfl ?_
      refine lv_lconst (v := 0) hx hb dX12_set_25 (by decide) ?_
      refine lv_ldc2 (v := 9) hx hb hown (hts _ w_7_130) dX12_set_26 ?_
      refine sk_Si (n := 3) (rest := [.int o, .int 0, .int d, .ref mm]) (wr := [(mm, .inr (12, mo g (nI ta) (nI pa) (nI pe) pd (nI pb) pp pf pg pn rt rn (nI cd) sn (nI il) tk am at_ aa 0 0 (-1) wt wy 0 (nI rm) (nI ud) (nI nu) sd (nI qn) (nI qw) qo (nI qb) (nI qp) qa (nI qi) (nI oc))), (g 20, .inl (cI, 4, .inl (l4 (nI l0) (nI l1) (nI dm) (nI l3)))), (g 31, .inl (cI, 120, .inl nw)), (g 54, .inl (cI, 2400, .inl kp)), (g 9, .inl (cI, 6, .inl rf))]) ⟨hx, hb, hml, hown, hts⟩ hl.1 (c_nm_isIn l D cI cJ cC cZ cS (Int32.toInt64 o) 0 9) w_7_0 w_7_1 w_1_14 w_7_2 (by decide +kernel) ⟨⟨(Nat.le_of_ble_eq_true rfl), (Nat.le_of_ble_eq_true rfl)⟩, (Nat.le_of_ble_eq_true rfl), (Nat.le_of_ble_eq_true rfl)⟩ hK hP hD hS hA [] [0, 1, 2, 3, 4] rfl rfl (by decide +kernel) (by decide +kernel) (by decide +kernel) rfl rfl (Nat.le_of_ble_eq_true rfl) dX12_set_29 (fun r_11 u H locs hw hP hD hS => ?_)
      obtain ⟨b_10, hb1_12, rfl, rfl⟩ := hw
      have hP : va_P D vwCl [(mm, .inr (12, mo g (nI ta) (nI pa) (nI pe) pd (nI pb) pp pf pg pn rt rn (nI cd) sn (nI il) tk am at_ aa 0 0 (-1) wt wy 0 (nI rm) (nI ud) (nI nu) sd (nI qn) (nI qw) qo (nI qb) (nI qp) qa (nI qi) (nI oc))), (g 20, .inl (cI, 4, .inl (l4 (nI l0) (nI l1) (nI dm) (nI l3)))), (g 31, .inl (cI, 120, .inl nw)), (g 54, .inl (cI, 2400, .inl kp)), (g 9, .inl (cI, 6, .inl rf))] H := hP
      have hD : va_D A [(mm, .inr (12, mo g (nI ta) (nI pa) (nI pe) pd (nI pb) pp pf pg pn rt rn (nI cd) sn (nI il) tk am at_ aa 0 0 (-1) wt wy 0 (nI rm) (nI ud) (nI nu) sd (nI qn) (nI qw) qo (nI qb) (nI qp) qa (nI qi) (nI oc))), (g 20, .inl (cI, 4, .inl (l4 (nI l0) (nI l1) (nI dm) (nI l3)))), (g 31, .inl (cI, 120, .inl nw)), (g 54, .inl (cI, 2400, .inl kp)), (g 9, .inl (cI, 6, .inl rf))] := hD
      refine lv_if_eq (tgt := 39) hx hb dX12_set_32 (by decide) (fun c_13 => ?_) (fun c_13 => ?_)
      · have c_13 : b_10 = 0 := (neq b_10 0 (by omega) (by omega)).mp c_13
        refine lv_iconst (v := 0) hx hb dX12_set_39 (by decide) ?_
        refine sk_Vi (q0 := 0) (n := 4) (rest := []) (wr := [(g 31, .inl (cI, 120, .inl nw)), (g 54, .inl (cI, 2400, .inl kp))]) ⟨hx, hb, hml, hown, hts⟩ hl.1 (c_nm_becomes0 l D cI cJ cC cZ cS mm g ta pa pe pd pb pp pf pg pn rt rn cd sn il tk am at_ aa wt wy rm ud nu sd qn qw qo qb qp qa qi oc d 0 o l0 l1 dm l3 rf (by omega)) w_8_126 w_8_128 w_0_106 w_1_14 w_8_129 (by decide +kernel) ⟨⟨(Nat.le_of_ble_eq_true rfl), (Nat.le_of_ble_eq_true rfl)⟩, (Nat.le_of_ble_eq_true rfl), (Nat.le_of_ble_eq_true rfl)⟩ hK hP hD hS hA [0, 1, 4] [2, 3] rfl rfl (by decide +kernel) (by decide +kernel) (by decide +kernel) rfl rfl rfl rfl (Nat.le_of_ble_eq_true rfl) dX12_set_40 (fun r_15 u H locs hw hP hD hS => ?_)
        obtain ⟨rf2_14, hrf_16, rfl, rfl⟩ := hw
        have hP : va_P D vwCl [(g 31, .inl (cI, 120, .inl nw)), (g 54, .inl (cI, 2400, .inl kp)), (mm, .inr (12, mo g (nI ta) (nI pa) (nI pe) pd (nI pb) pp pf pg pn rt rn (nI cd) sn (nI il) tk am at_ aa 0 0 (-1) wt wy 0 (nI rm) (nI ud) (nI nu) sd (nI qn) (nI qw) qo (nI qb) (nI qp) qa (nI qi) (nI oc))), (g 20, .inl (cI, 4, .inl (l4 (nI l0) (nI l1) (nI dm) (nI l3)))), (g 9, .inl (cI, 6, .inl rf2_14))] H := hP
        have hD : va_D A [(g 31, .inl (cI, 120, .inl nw)), (g 54, .inl (cI, 2400, .inl kp)), (mm, .inr (12, mo g (nI ta) (nI pa) (nI pe) pd (nI pb) pp pf pg pn rt rn (nI cd) sn (nI il) tk am at_ aa 0 0 (-1) wt wy 0 (nI rm) (nI ud) (nI nu) sd (nI qn) (nI qw) qo (nI qb) (nI qp) qa (nI qi) (nI oc))), (g 20, .inl (cI, 4, .inl (l4 (nI l0) (nI l1) (nI dm) (nI l3)))), (g 9, .inl (cI, 6, .inl rf2_14))] := hD
        have hP := hP.sub (ws' := [(mm, .inr (12, mo g (nI ta) (nI pa) (nI pe) pd (nI pb) pp pf pg pn rt rn (nI cd) sn (nI il) tk am at_ aa 0 0 (-1) wt wy 0 (nI rm) (nI ud) (nI nu) sd (nI qn) (nI qw) qo (nI qb) (nI qp) qa (nI qi) (nI oc))), (g 20, .inl (cI, 4, .inl (l4 (nI l0) (nI l1) (nI dm) (nI l3)))), (g 31, .inl (cI, 120, .inl nw)), (g 54, .inl (cI, 2400, .inl kp)), (g 9, .inl (cI, 6, .inl rf2_14))]) [2, 3, 0, 1, 4] rfl
        have hD := hD.sub (ws' := [(mm, .inr (12, mo g (nI ta) (nI pa) (nI pe) pd (nI pb) pp pf pg pn rt rn (nI cd) sn (nI il) tk am at_ aa 0 0 (-1) wt wy 0 (nI rm) (nI ud) (nI nu) sd (nI qn) (nI qw) qo (nI qb) (nI qp) qa (nI qi) (nI oc))), (g 20, .inl (cI, 4, .inl (l4 (nI l0) (nI l1) (nI dm) (nI l3)))), (g 31, .inl (cI, 120, .inl nw)), (g 54, .inl (cI, 2400, .inl kp)), (g 9, .inl (cI, 6, .inl rf2_14))]) [2, 3, 0, 1, 4] (by decide +kernel) rfl
        exact sk_iret hx hb hr rfl hlocks hK hP hD hS (⟨Ba, We, U, su, nw, kp, 0, nu, ud, rf2_14, hnw, hkp, by omega, by omega, set_3 (fun hq => rr_0 hb1_12 (by omega) ((kin0 (n := 10) (by decide) (by omega)).mpr hq)) hrf_16, rfl, rfl⟩) (Nat.le_of_ble_eq_true rfl) (Nat.le_of_ble_eq_true rfl) dX12_set_43
      · have c_13 : ¬ (b_10 = 0) := fun h => c_13 ((neq b_10 0 (by omega) (by omega)).mpr h)
        obtain ⟨kd_17, hkd_17, rfl⟩ := (kin0 (n := 10) (by decide) (by omega)).mp (rr_1 hb1_12 (by omega))
        refine lv_iconst (v := 1) hx hb dX12_set_35 (by decide) ?_
        refine lv_goto (tgt := 40) hx hb dX12_set_36 (by decide) ?_
        have hq9 : ¬ kd_9 = 1 := fun q => c_1 ((neq kd_9 1 (by omega) (by omega)).mpr q)
        obtain rfl : kd_9 = 0 := by omega
        refine sk_Vi (q0 := 0) (n := 4) (rest := []) (wr := []) ⟨hx, hb, hml, hown, hts⟩ hl.1 (c_nm_becomes10 l D cI cJ cC cZ cS mm g ta pa pe pd pb pp pf pg pn rt rn cd sn il tk am at_ aa wt wy rm ud nu sd qn qw qo qb qp qa qi oc d kd_17 l0 l1 dm l3 nw kp rf wn mN Ba We U ke lg su (by omega) (by omega) (by omega) (by omega) hB9 hW9 hnw hkp) w_8_126 w_8_128 w_0_106 w_1_14 w_8_129 (by decide +kernel) ⟨⟨(Nat.le_of_ble_eq_true rfl), (Nat.le_of_ble_eq_true rfl)⟩, (Nat.le_of_ble_eq_true rfl), (Nat.le_of_ble_eq_true rfl)⟩ hK hP hD hS hA [0, 1, 2, 3, 4] [] rfl rfl (by decide +kernel) (by decide +kernel) (by decide +kernel) rfl rfl rfl rfl (Nat.le_of_ble_eq_true rfl) dX12_set_40 (fun r_28 u H locs hw hP hD hS => ?_)
        obtain ⟨Ba2_18, We2_19, U2_20, su2_21, nw2_22, kp2_23, b_24, nu2_25, ud2_26, rf2_27, hnw2_29, hkp2_30, hnu2_31, hud2_32, hbb_33, hset_34, rfl, rfl⟩ := hw
        have hP : va_P D vwCl [(mm, .inr (12, mo g (nI ta) (nI pa) (nI pe) pd (nI pb) pp pf pg pn rt rn (nI cd) sn (nI il) tk am at_ aa 0 0 (-1) wt wy 0 (nI rm) (nI ud2_26) (nI nu2_25) sd (nI qn) (nI qw) qo (nI qb) (nI qp) qa (nI qi) (nI oc))), (g 20, .inl (cI, 4, .inl (l4 (nI l0) (nI l1) (nI dm) (nI l3)))), (g 31, .inl (cI, 120, .inl nw2_22)), (g 54, .inl (cI, 2400, .inl kp2_23)), (g 9, .inl (cI, 6, .inl rf2_27))] H := hP
        have hD : va_D A [(mm, .inr (12, mo g (nI ta) (nI pa) (nI pe) pd (nI pb) pp pf pg pn rt rn (nI cd) sn (nI il) tk am at_ aa 0 0 (-1) wt wy 0 (nI rm) (nI ud2_26) (nI nu2_25) sd (nI qn) (nI qw) qo (nI qb) (nI qp) qa (nI qi) (nI oc))), (g 20, .inl (cI, 4, .inl (l4 (nI l0) (nI l1) (nI dm) (nI l3)))), (g 31, .inl (cI, 120, .inl nw2_22)), (g 54, .inl (cI, 2400, .inl kp2_23)), (g 9, .inl (cI, 6, .inl rf2_27))] := hD
        exact sk_iret hx hb hr (nbool b_24 (by omega)) hlocks hK hP hD hS (⟨Ba2_18, We2_19, U2_20, su2_21, nw2_22, kp2_23, b_24, nu2_25, ud2_26, rf2_27, hnw2_29, hkp2_30, by omega, by omega, hset_34, rfl, rfl⟩) (Nat.le_of_ble_eq_true rfl) (Nat.le_of_ble_eq_true rfl) dX12_set_43
  · skip
    refine lv_iconst (v := 1) hx hb dX12_set_7 (by decide) ?_
    refine lv_goto (tgt := 12) hx hb dX12_set_8 (by decide) ?_
    refine lv_iload_n hx hb dX12_set_12 rfl (lv_at hl 3 rfl) ?_
    refine lv_iload_n hx hb dX12_set_13 rfl (lv_at hl 2 rfl) ?_
    refine lv_i2l hx hb dX12_set_14 rfl ?_
    refine lv_lconst (v := 0) hx hb dX12_set_15 (by decide) ?_
    refine lv_lconst (v := 1) hx hb dX12_set_16 (by decide) ?_
    refine sk_Si (n := 3) (rest := [.int o, .int 1, .int d, .ref mm]) (wr := [(mm, .inr (12, mo g (nI ta) (nI pa) (nI pe) pd (nI pb) pp pf pg pn rt rn (nI cd) sn (nI il) tk am at_ aa 0 0 (-1) wt wy 0 (nI rm) (nI ud) (nI nu) sd (nI qn) (nI qw) qo (nI qb) (nI qp) qa (nI qi) (nI oc))), (g 20, .inl (cI, 4, .inl (l4 (nI l0) (nI l1) (nI dm) (nI l3)))), (g 31, .inl (cI, 120, .inl nw)), (g 54, .inl (cI, 2400, .inl kp)), (g 9, .inl (cI, 6, .inl rf))]) ⟨hx, hb, hml, hown, hts⟩ hl.1 (c_nm_isIn l D cI cJ cC cZ cS (Int32.toInt64 w) 0 1) w_7_0 w_7_1 w_1_14 w_7_2 (by decide +kernel) ⟨⟨(Nat.le_of_ble_eq_true rfl), (Nat.le_of_ble_eq_true rfl)⟩, (Nat.le_of_ble_eq_true rfl), (Nat.le_of_ble_eq_true rfl)⟩ hK hP hD hS hA [] [0, 1, 2, 3, 4] rfl rfl (by decide +kernel) (by decide +kernel) (by decide +kernel) rfl rfl (Nat.le_of_ble_eq_true rfl) dX12_set_17 (fun r_36 u H locs hw hP hD hS => ?_)
    obtain ⟨b_35, hb1_37, rfl, rfl⟩ := hw
    have hP : va_P D vwCl [(mm, .inr (12, mo g (nI ta) (nI pa) (nI pe) pd (nI pb) pp pf pg pn rt rn (nI cd) sn (nI il) tk am at_ aa 0 0 (-1) wt wy 0 (nI rm) (nI ud) (nI nu) sd (nI qn) (nI qw) qo (nI qb) (nI qp) qa (nI qi) (nI oc))), (g 20, .inl (cI, 4, .inl (l4 (nI l0) (nI l1) (nI dm) (nI l3)))), (g 31, .inl (cI, 120, .inl nw)), (g 54, .inl (cI, 2400, .inl kp)), (g 9, .inl (cI, 6, .inl rf))] H := hP
    have hD : va_D A [(mm, .inr (12, mo g (nI ta) (nI pa) (nI pe) pd (nI pb) pp pf pg pn rt rn (nI cd) sn (nI il) tk am at_ aa 0 0 (-1) wt wy 0 (nI rm) (nI ud) (nI nu) sd (nI qn) (nI qw) qo (nI qb) (nI qp) qa (nI qi) (nI oc))), (g 20, .inl (cI, 4, .inl (l4 (nI l0) (nI l1) (nI dm) (nI l3)))), (g 31, .inl (cI, 120, .inl nw)), (g 54, .inl (cI, 2400, .inl kp)), (g 9, .inl (cI, 6, .inl rf))] := hD
    refine lv_if_eq (tgt := 39) hx hb dX12_set_20 (by decide) (fun c_38 => ?_) (fun c_38 => ?_)
    · have c_38 : b_35 = 0 := (neq b_35 0 (by omega) (by omega)).mp c_38
      refine lv_iconst (v := 0) hx hb dX12_set_39 (by decide) ?_
      refine sk_Vi (q0 := 0) (n := 4) (rest := []) (wr := [(g 31, .inl (cI, 120, .inl nw)), (g 54, .inl (cI, 2400, .inl kp))]) ⟨hx, hb, hml, hown, hts⟩ hl.1 (c_nm_becomes0 l D cI cJ cC cZ cS mm g ta pa pe pd pb pp pf pg pn rt rn cd sn il tk am at_ aa wt wy rm ud nu sd qn qw qo qb qp qa qi oc d 1 o l0 l1 dm l3 rf (by omega)) w_8_126 w_8_128 w_0_106 w_1_14 w_8_129 (by decide +kernel) ⟨⟨(Nat.le_of_ble_eq_true rfl), (Nat.le_of_ble_eq_true rfl)⟩, (Nat.le_of_ble_eq_true rfl), (Nat.le_of_ble_eq_true rfl)⟩ hK hP hD hS hA [0, 1, 4] [2, 3] rfl rfl (by decide +kernel) (by decide +kernel) (by decide +kernel) rfl rfl rfl rfl (Nat.le_of_ble_eq_true rfl) dX12_set_40 (fun r_40 u H locs hw hP hD hS => ?_)
      obtain ⟨rf2_39, hrf_41, rfl, rfl⟩ := hw
      have hP : va_P D vwCl [(g 31, .inl (cI, 120, .inl nw)), (g 54, .inl (cI, 2400, .inl kp)), (mm, .inr (12, mo g (nI ta) (nI pa) (nI pe) pd (nI pb) pp pf pg pn rt rn (nI cd) sn (nI il) tk am at_ aa 0 0 (-1) wt wy 0 (nI rm) (nI ud) (nI nu) sd (nI qn) (nI qw) qo (nI qb) (nI qp) qa (nI qi) (nI oc))), (g 20, .inl (cI, 4, .inl (l4 (nI l0) (nI l1) (nI dm) (nI l3)))), (g 9, .inl (cI, 6, .inl rf2_39))] H := hP
      have hD : va_D A [(g 31, .inl (cI, 120, .inl nw)), (g 54, .inl (cI, 2400, .inl kp)), (mm, .inr (12, mo g (nI ta) (nI pa) (nI pe) pd (nI pb) pp pf pg pn rt rn (nI cd) sn (nI il) tk am at_ aa 0 0 (-1) wt wy 0 (nI rm) (nI ud) (nI nu) sd (nI qn) (nI qw) qo (nI qb) (nI qp) qa (nI qi) (nI oc))), (g 20, .inl (cI, 4, .inl (l4 (nI l0) (nI l1) (nI dm) (nI l3)))), (g 9, .inl (cI, 6, .inl rf2_39))] := hD
      have hP := hP.sub (ws' := [(mm, .inr (12, mo g (nI ta) (nI pa) (nI pe) pd (nI pb) pp pf pg pn rt rn (nI cd) sn (nI il) tk am at_ aa 0 0 (-1) wt wy 0 (nI rm) (nI ud) (nI nu) sd (nI qn) (nI qw) qo (nI qb) (nI qp) qa (nI qi) (nI oc))), (g 20, .inl (cI, 4, .inl (l4 (nI l0) (nI l1) (nI dm) (nI l3)))), (g 31, .inl (cI, 120, .inl nw)), (g 54, .inl (cI, 2400, .inl kp)), (g 9, .inl (cI, 6, .inl rf2_39))]) [2, 3, 0, 1, 4] rfl
      have hD := hD.sub (ws' := [(mm, .inr (12, mo g (nI ta) (nI pa) (nI pe) pd (nI pb) pp pf pg pn rt rn (nI cd) sn (nI il) tk am at_ aa 0 0 (-1) wt wy 0 (nI rm) (nI ud) (nI nu) sd (nI qn) (nI qw) qo (nI qb) (nI qp) qa (nI qi) (nI oc))), (g 20, .inl (cI, 4, .inl (l4 (nI l0) (nI l1) (nI dm) (nI l3)))), (g 31, .inl (cI, 120, .inl nw)), (g 54, .inl (cI, 2400, .inl kp)), (g 9, .inl (cI, 6, .inl rf2_39))]) [2, 3, 0, 1, 4] (by decide +kernel) rfl
      exact sk_iret hx hb hr rfl hlocks hK hP hD hS (⟨Ba, We, U, su, nw, kp, 0, nu, ud, rf2_39, hnw, hkp, by omega, by omega, set_w (fun hq => rr_0 hb1_37 (by omega) ((kin0 (n := 2) (by decide) (by omega)).mpr hq)) hrf_41, rfl, rfl⟩) (Nat.le_of_ble_eq_true rfl) (Nat.le_of_ble_eq_true rfl) dX12_set_43
    · have c_38 : ¬ (b_35 = 0) := fun h => c_38 ((neq b_35 0 (by omega) (by omega)).mpr h)
      obtain ⟨kd_42, hkd_42, rfl⟩ := (kin0 (n := 2) (by decide) (by omega)).mp (rr_1 hb1_37 (by omega))
      refine lv_iload_n hx hb dX12_set_23 rfl (lv_at hl 3 rfl) ?_
      refine lv_i2l hx hb dX12_set_24 rfl ?_
      refine lv_lconst (v := 0) hx hb dX12_set_25 (by decide) ?_
      refine lv_ldc2 (v := 9) hx hb hown (hts _ w_7_130) dX12_set_26 ?_
      refine sk_Si (n := 3) (rest := [.int o, .int 1, .int d, .ref mm]) (wr := [(mm, .inr (12, mo g (nI ta) (nI pa) (nI pe) pd (nI pb) pp pf pg pn rt rn (nI cd) sn (nI il) tk am at_ aa 0 0 (-1) wt wy 0 (nI rm) (nI ud) (nI nu) sd (nI qn) (nI qw) qo (nI qb) (nI qp) qa (nI qi) (nI oc))), (g 20, .inl (cI, 4, .inl (l4 (nI l0) (nI l1) (nI dm) (nI l3)))), (g 31, .inl (cI, 120, .inl nw)), (g 54, .inl (cI, 2400, .inl kp)), (g 9, .inl (cI, 6, .inl rf))]) ⟨hx, hb, hml, hown, hts⟩ hl.1 (c_nm_isIn l D cI cJ cC cZ cS (Int32.toInt64 o) 0 9) w_7_0 w_7_1 w_1_14 w_7_2 (by decide +kernel) ⟨⟨(Nat.le_of_ble_eq_true rfl), (Nat.le_of_ble_eq_true rfl)⟩, (Nat.le_of_ble_eq_true rfl), (Nat.le_of_ble_eq_true rfl)⟩ hK hP hD hS hA [] [0, 1, 2, 3, 4] rfl rfl (by decide +kernel) (by decide +kernel) (by decide +kernel) rfl rfl (Nat.le_of_ble_eq_true rfl) dX12_set_29 (fun r_44 u H locs hw hP hD hS => ?_)
      obtain ⟨b_43, hb1_45, rfl, rfl⟩ := hw
      have hP : va_P D vwCl [(mm, .inr (12, mo g (nI ta) (nI pa) (nI pe) pd (nI pb) pp pf pg pn rt rn (nI cd) sn (nI il) tk am at_ aa 0 0 (-1) wt wy 0 (nI rm) (nI ud) (nI nu) sd (nI qn) (nI qw) qo (nI qb) (nI qp) qa (nI qi) (nI oc))), (g 20, .inl (cI, 4, .inl (l4 (nI l0) (nI l1) (nI dm) (nI l3)))), (g 31, .inl (cI, 120, .inl nw)), (g 54, .inl (cI, 2400, .inl kp)), (g 9, .inl (cI, 6, .inl rf))] H := hP
      have hD : va_D A [(mm, .inr (12, mo g (nI ta) (nI pa) (nI pe) pd (nI pb) pp pf pg pn rt rn (nI cd) sn (nI il) tk am at_ aa 0 0 (-1) wt wy 0 (nI rm) (nI ud) (nI nu) sd (nI qn) (nI qw) qo (nI qb) (nI qp) qa (nI qi) (nI oc))), (g 20, .inl (cI, 4, .inl (l4 (nI l0) (nI l1) (nI dm) (nI l3)))), (g 31, .inl (cI, 120, .inl nw)), (g 54, .inl (cI, 2400, .inl kp)), (g 9, .inl (cI, 6, .inl rf))] := hD
      refine lv_if_eq (tgt := 39) hx hb dX12_set_32 (by decide) (fun c_46 => ?_) (fun c_46 => ?_)
      · have c_46 : b_43 = 0 := (neq b_43 0 (by omega) (by omega)).mp c_46
        refine lv_iconst (v := 0) hx hb dX12_set_39 (by decide) ?_
        refine sk_Vi (q0 := 0) (n := 4) (rest := []) (wr := [(g 31, .inl (cI, 120, .inl nw)), (g 54, .inl (cI, 2400, .inl kp))]) ⟨hx, hb, hml, hown, hts⟩ hl.1 (c_nm_becomes0 l D cI cJ cC cZ cS mm g ta pa pe pd pb pp pf pg pn rt rn cd sn il tk am at_ aa wt wy rm ud nu sd qn qw qo qb qp qa qi oc d 1 o l0 l1 dm l3 rf (by omega)) w_8_126 w_8_128 w_0_106 w_1_14 w_8_129 (by decide +kernel) ⟨⟨(Nat.le_of_ble_eq_true rfl), (Nat.le_of_ble_eq_true rfl)⟩, (Nat.le_of_ble_eq_true rfl), (Nat.le_of_ble_eq_true rfl)⟩ hK hP hD hS hA [0, 1, 4] [2, 3] rfl rfl (by decide +kernel) (by decide +kernel) (by decide +kernel) rfl rfl rfl rfl (Nat.le_of_ble_eq_true rfl) dX12_set_40 (fun r_48 u H locs hw hP hD hS => ?_)
        obtain ⟨rf2_47, hrf_49, rfl, rfl⟩ := hw
        have hP : va_P D vwCl [(g 31, .inl (cI, 120, .inl nw)), (g 54, .inl (cI, 2400, .inl kp)), (mm, .inr (12, mo g (nI ta) (nI pa) (nI pe) pd (nI pb) pp pf pg pn rt rn (nI cd) sn (nI il) tk am at_ aa 0 0 (-1) wt wy 0 (nI rm) (nI ud) (nI nu) sd (nI qn) (nI qw) qo (nI qb) (nI qp) qa (nI qi) (nI oc))), (g 20, .inl (cI, 4, .inl (l4 (nI l0) (nI l1) (nI dm) (nI l3)))), (g 9, .inl (cI, 6, .inl rf2_47))] H := hP
        have hD : va_D A [(g 31, .inl (cI, 120, .inl nw)), (g 54, .inl (cI, 2400, .inl kp)), (mm, .inr (12, mo g (nI ta) (nI pa) (nI pe) pd (nI pb) pp pf pg pn rt rn (nI cd) sn (nI il) tk am at_ aa 0 0 (-1) wt wy 0 (nI rm) (nI ud) (nI nu) sd (nI qn) (nI qw) qo (nI qb) (nI qp) qa (nI qi) (nI oc))), (g 20, .inl (cI, 4, .inl (l4 (nI l0) (nI l1) (nI dm) (nI l3)))), (g 9, .inl (cI, 6, .inl rf2_47))] := hD
        have hP := hP.sub (ws' := [(mm, .inr (12, mo g (nI ta) (nI pa) (nI pe) pd (nI pb) pp pf pg pn rt rn (nI cd) sn (nI il) tk am at_ aa 0 0 (-1) wt wy 0 (nI rm) (nI ud) (nI nu) sd (nI qn) (nI qw) qo (nI qb) (nI qp) qa (nI qi) (nI oc))), (g 20, .inl (cI, 4, .inl (l4 (nI l0) (nI l1) (nI dm) (nI l3)))), (g 31, .inl (cI, 120, .inl nw)), (g 54, .inl (cI, 2400, .inl kp)), (g 9, .inl (cI, 6, .inl rf2_47))]) [2, 3, 0, 1, 4] rfl
        have hD := hD.sub (ws' := [(mm, .inr (12, mo g (nI ta) (nI pa) (nI pe) pd (nI pb) pp pf pg pn rt rn (nI cd) sn (nI il) tk am at_ aa 0 0 (-1) wt wy 0 (nI rm) (nI ud) (nI nu) sd (nI qn) (nI qw) qo (nI qb) (nI qp) qa (nI qi) (nI oc))), (g 20, .inl (cI, 4, .inl (l4 (nI l0) (nI l1) (nI dm) (nI l3)))), (g 31, .inl (cI, 120, .inl nw)), (g 54, .inl (cI, 2400, .inl kp)), (g 9, .inl (cI, 6, .inl rf2_47))]) [2, 3, 0, 1, 4] (by decide +kernel) rfl
        exact sk_iret hx hb hr rfl hlocks hK hP hD hS (⟨Ba, We, U, su, nw, kp, 0, nu, ud, rf2_47, hnw, hkp, by omega, by omega, set_3 (fun hq => rr_0 hb1_45 (by omega) ((kin0 (n := 10) (by decide) (by omega)).mpr hq)) hrf_49, rfl, rfl⟩) (Nat.le_of_ble_eq_true rfl) (Nat.le_of_ble_eq_true rfl) dX12_set_43
      · have c_46 : ¬ (b_43 = 0) := fun h => c_46 ((neq b_43 0 (by omega) (by omega)).mpr h)
        obtain ⟨kd_50, hkd_50, rfl⟩ := (kin0 (n := 10) (by decide) (by omega)).mp (rr_1 hb1_45 (by omega))
        refine lv_iconst (v := 1) hx hb dX12_set_35 (by decide) ?_
        refine lv_goto (tgt := 40) hx hb dX12_set_36 (by decide) ?_
        have hq9 : kd_42 = 1 := (neq kd_42 1 (by omega) (by omega)).mp c_1
        obtain rfl : kd_42 = 1 := by omega
        refine sk_Vi (q0 := 0) (n := 4) (rest := []) (wr := []) ⟨hx, hb, hml, hown, hts⟩ hl.1 (c_nm_becomes11 l D cI cJ cC cZ cS mm g ta pa pe pd pb pp pf pg pn rt rn cd sn il tk am at_ aa wt wy rm ud nu sd qn qw qo qb qp qa qi oc d kd_50 l0 l1 dm l3 nw kp rf wn mN Ba We U ke lg su (by omega) (by omega) (by omega) (by omega) hB9 hW9 hnw hkp) w_8_126 w_8_128 w_0_106 w_1_14 w_8_129 (by decide +kernel) ⟨⟨(Nat.le_of_ble_eq_true rfl), (Nat.le_of_ble_eq_true rfl)⟩, (Nat.le_of_ble_eq_true rfl), (Nat.le_of_ble_eq_true rfl)⟩ hK hP hD hS hA [0, 1, 2, 3, 4] [] rfl rfl (by decide +kernel) (by decide +kernel) (by decide +kernel) rfl rfl rfl rfl (Nat.le_of_ble_eq_true rfl) dX12_set_40 (fun r_61 u H locs hw hP hD hS => ?_)
        obtain ⟨Ba2_51, We2_52, U2_53, su2_54, nw2_55, kp2_56, b_57, nu2_58, ud2_59, rf2_60, hnw2_62, hkp2_63, hnu2_64, hud2_65, hbb_66, hset_67, rfl, rfl⟩ := hw
        have hP : va_P D vwCl [(mm, .inr (12, mo g (nI ta) (nI pa) (nI pe) pd (nI pb) pp pf pg pn rt rn (nI cd) sn (nI il) tk am at_ aa 0 0 (-1) wt wy 0 (nI rm) (nI ud2_59) (nI nu2_58) sd (nI qn) (nI qw) qo (nI qb) (nI qp) qa (nI qi) (nI oc))), (g 20, .inl (cI, 4, .inl (l4 (nI l0) (nI l1) (nI dm) (nI l3)))), (g 31, .inl (cI, 120, .inl nw2_55)), (g 54, .inl (cI, 2400, .inl kp2_56)), (g 9, .inl (cI, 6, .inl rf2_60))] H := hP
        have hD : va_D A [(mm, .inr (12, mo g (nI ta) (nI pa) (nI pe) pd (nI pb) pp pf pg pn rt rn (nI cd) sn (nI il) tk am at_ aa 0 0 (-1) wt wy 0 (nI rm) (nI ud2_59) (nI nu2_58) sd (nI qn) (nI qw) qo (nI qb) (nI qp) qa (nI qi) (nI oc))), (g 20, .inl (cI, 4, .inl (l4 (nI l0) (nI l1) (nI dm) (nI l3)))), (g 31, .inl (cI, 120, .inl nw2_55)), (g 54, .inl (cI, 2400, .inl kp2_56)), (g 9, .inl (cI, 6, .inl rf2_60))] := hD
        exact sk_iret hx hb hr (nbool b_57 (by omega)) hlocks hK hP hD hS (⟨Ba2_51, We2_52, U2_53, su2_54, nw2_55, kp2_56, b_57, nu2_58, ud2_59, rf2_60, hnw2_62, hkp2_63, by omega, by omega, hset_67, rfl, rfl⟩) (Nat.le_of_ble_eq_true rfl) (Nat.le_of_ble_eq_true rfl) dX12_set_43
theorem dX12_mute_0 : decode cX12_mute 0 = .ok (.aload_n 0, 1) := by decide +kernel
theorem dX12_mute_1 : decode cX12_mute 1 = .ok (.iload_n 1, 1) := by decide +kernel
theorem dX12_mute_2 : decode cX12_mute 2 = .ok (.iconst 2, 1) := by decide +kernel
theorem dX12_mute_3 : decode cX12_mute 3 = .ok (.iload_n 2, 1) := by decide +kernel
theorem dX12_mute_4 : decode cX12_mute 4 = .ok (.iload_n 2, 1) := by decide +kernel
theorem dX12_mute_5 : decode cX12_mute 5 = .ok (.i2l, 1) := by decide +kernel
theorem dX12_mute_6 : decode cX12_mute 6 = .ok (.lconst 0, 1) := by decide +kernel
theorem dX12_mute_7 : decode cX12_mute 7 = .ok (.lconst 1, 1) := by decide +kernel
theorem dX12_mute_8 : decode cX12_mute 8 = .ok (.invokestatic 238, 3) := by decide +kernel
theorem dX12_mute_11 : decode cX12_mute 11 = .ok (.invokevirtual 477, 3) := by decide +kernel
theorem dX12_mute_14 : decode cX12_mute 14 = .ok (.ireturn, 1) := by decide +kernel
theorem w_8_137 : (Cond.code yX12_mute cX12_mute 3 (some .boolean)) ∈ wsL_law := sk_mem (ck_8 _ (List.mem_of_getElem? (i := 137) rfl)) rfl
set_option maxHeartbeats 4000000 in
set_option maxRecDepth 100000 in
theorem c_nm_mute (l : Launch) (D : va_G) (cI cJ cC cZ cS : ClassId) (mm : Nat) (g : Nat → Nat) (ta : Nat) (pa : Nat) (pe : Nat) (pd : Int32) (pb : Nat) (pp : Int32) (pf : Int32) (pg : Int32) (pn : Int32) (rt : Int32) (rn : Int32) (cd : Nat) (sn : Int32) (il : Nat) (tk : Int32) (am : Int32) (at_ : Int32) (aa : Int32) (wt : Int32) (wy : Int64) (rm : Nat) (ud : Nat) (nu : Nat) (sd : Int64) (qn : Nat) (qw : Nat) (qo : Int32) (qb : Nat) (qp : Nat) (qa : Int64) (qi : Nat) (oc : Nat) (d : Int32) (o : Int32) (l0 : Nat) (l1 : Nat) (dm : Nat) (l3 : Nat) (nw : Nat → Int32) (kp : Nat → Int32) (rf : Nat → Int32) (wn : Nat) (mN : Nat) (Ba : Nat → Nat) (We : Nat → Nat) (U : Nat → Bool) (ke : Nat) (lg : KLg) (su : Nat → KN) (hdm : dm ≤ 9) (hnu : nu < 20) (hud : ud ≤ 20) (hB9 : ∀ j, Ba j ≤ 9) (hW9 : ∀ j, We j ≤ 9) (hnw : nwX wn mN Ba We U ke lg nw) (hkp : kpX ud nu su lg kp) : skM l yX12_mute cX12_mute 3 (some .boolean) 3 70 0 0 D (skT cI cJ cC cZ cS) [.ref mm, .int d, .int o] [(mm, .inr (12, mo g (nI ta) (nI pa) (nI pe) pd (nI pb) pp pf pg pn rt rn (nI cd) sn (nI il) tk am at_ aa 0 0 (-1) wt wy 0 (nI rm) (nI ud) (nI nu) sd (nI qn) (nI qw) qo (nI qb) (nI qp) qa (nI qi) (nI oc))), (g 20, .inl (cI, 4, .inl (l4 (nI l0) (nI l1) (nI dm) (nI l3)))), (g 31, .inl (cI, 120, .inl nw)), (g 54, .inl (cI, 2400, .inl kp)), (g 9, .inl (cI, 6, .inl rf))] (skI D (skT cI cJ cC cZ cS) (fun (r : Int32) (u : va_W) => ∃ (Ba2 : Nat → Nat), ∃ (We2 : Nat → Nat), ∃ (U2 : Nat → Bool), ∃ (su2 : Nat → KN), ∃ (nw2 : Nat → Int32), ∃ (kp2 : Nat → Int32), ∃ (b : Nat), ∃ (nu2 : Nat), ∃ (ud2 : Nat), ∃ (rf2 : Nat → Int32), nwX wn mN Ba2 We2 U2 ke lg nw2 ∧ kpX ud2 nu2 su2 lg kp2 ∧ nu2 < 20 ∧ ud2 ≤ 20 ∧ muteR dm (wn, mN, Ba, We, U, ke) ud su rf d o (nI b) (wn, mN, Ba2, We2, U2, ke) ud2 su2 rf2 ∧ r = nI b ∧ u = [(mm, .inr (12, mo g (nI ta) (nI pa) (nI pe) pd (nI pb) pp pf pg pn rt rn (nI cd) sn (nI il) tk am at_ aa 0 0 (-1) wt wy 0 (nI rm) (nI ud2) (nI nu2) sd (nI qn) (nI qw) qo (nI qb) (nI qp) qa (nI qi) (nI oc))), (g 20, .inl (cI, 4, .inl (l4 (nI l0) (nI l1) (nI dm) (nI l3)))), (g 31, .inl (cI, 120, .inl nw2)), (g 54, .inl (cI, 2400, .inl kp2)), (g 9, .inl (cI, 6, .inl rf2))])) := by
  refine skM_of (by decide +kernel) (Nat.le_of_ble_eq_true rfl) ?_
  intro p e s m below meth c A ls E hP hD hl
  obtain ⟨hx, hb, hr, hml, hlocks, hin, hown, hts, hK, hA⟩ := E
  have hown : s.vm.findClass RX12 = some m.cls := hown
  have hS : va_S A s.heap s.heap [] := va_S.rf
  have hl : lv_has ls 3 [(0, .ref mm), (1, .int d), (2, .int o)] := hl
  refine lv_aload_n hx hb dX12_mute_0 rfl (lv_at hl 0 rfl) ?_
  refine lv_iload_n hx hb dX12_mute_1 rfl (lv_at hl 1 rfl) ?_
  refine lv_iconst (v := 2) hx hb dX12_mute_2 (by decide) ?_
  refine lv_iload_n hx hb dX12_mute_3 rfl (lv_at hl 2 rfl) ?_
  refine lv_iload_n hx hb dX12_mute_4 rfl (lv_at hl 2 rfl) ?_
  refine lv_i2l hx hb dX12_mute_5 rfl ?_
  refine lv_lconst (v := 0) hx hb dX12_mute_6 (by decide) ?_
  refine lv_lconst (v := 1) hx hb dX12_mute_7 (by decide) ?_
  refine sk_Si (n := 3) (rest := [.int o, .int 2, .int d, .ref mm]) (wr := [(mm, .inr (12, mo g (nI ta) (nI pa) (nI pe) pd (nI pb) pp pf pg pn rt rn (nI cd) sn (nI il) tk am at_ aa 0 0 (-1) wt wy 0 (nI rm) (nI ud) (nI nu) sd (nI qn) (nI qw) qo (nI qb) (nI qp) qa (nI qi) (nI oc))), (g 20, .inl (cI, 4, .inl (l4 (nI l0) (nI l1) (nI dm) (nI l3)))), (g 31, .inl (cI, 120, .inl nw)), (g 54, .inl (cI, 2400, .inl kp)), (g 9, .inl (cI, 6, .inl rf))]) ⟨hx, hb, hml, hown, hts⟩ hl.1 (c_nm_isIn l D cI cJ cC cZ cS (Int32.toInt64 o) 0 1) w_7_0 w_7_1 w_1_14 w_7_2 (by decide +kernel) ⟨⟨(Nat.le_of_ble_eq_true rfl), (Nat.le_of_ble_eq_true rfl)⟩, (Nat.le_of_ble_eq_true rfl), (Nat.le_of_ble_eq_true rfl)⟩ hK hP hD hS hA [] [0, 1, 2, 3, 4] rfl rfl (by decide +kernel) (by decide +kernel) (by decide +kernel) rfl rfl (Nat.le_of_ble_eq_true rfl) dX12_mute_8 (fun r_2 u H locs hw hP hD hS => ?_)
  obtain ⟨b_1, hb1_3, rfl, rfl⟩ := hw
  have hP : va_P D vwCl [(mm, .inr (12, mo g (nI ta) (nI pa) (nI pe) pd (nI pb) pp pf pg pn rt rn (nI cd) sn (nI il) tk am at_ aa 0 0 (-1) wt wy 0 (nI rm) (nI ud) (nI nu) sd (nI qn) (nI qw) qo (nI qb) (nI qp) qa (nI qi) (nI oc))), (g 20, .inl (cI, 4, .inl (l4 (nI l0) (nI l1) (nI dm) (nI l3)))), (g 31, .inl (cI, 120, .inl nw)), (g 54, .inl (cI, 2400, .inl kp)), (g 9, .inl (cI, 6, .inl rf))] H := hP
  have hD : va_D A [(mm, .inr (12, mo g (nI ta) (nI pa) (nI pe) pd (nI pb) pp pf pg pn rt rn (nI cd) sn (nI il) tk am at_ aa 0 0 (-1) wt wy 0 (nI rm) (nI ud) (nI nu) sd (nI qn) (nI qw) qo (nI qb) (nI qp) qa (nI qi) (nI oc))), (g 20, .inl (cI, 4, .inl (l4 (nI l0) (nI l1) (nI dm) (nI l3)))), (g 31, .inl (cI, 120, .inl nw)), (g 54, .inl (cI, 2400, .inl kp)), (g 9, .inl (cI, 6, .inl rf))] := hD
  rcases (show b_1 = 0 ∨ b_1 = 1 by have h9 := hb1_3; omega) with rfl | rfl
  · skip
    refine sk_Vi (q0 := 0) (n := 4) (rest := []) (wr := [(g 31, .inl (cI, 120, .inl nw)), (g 54, .inl (cI, 2400, .inl kp))]) ⟨hx, hb, hml, hown, hts⟩ hl.1 (c_nm_becomes0 l D cI cJ cC cZ cS mm g ta pa pe pd pb pp pf pg pn rt rn cd sn il tk am at_ aa wt wy rm ud nu sd qn qw qo qb qp qa qi oc d 2 o l0 l1 dm l3 rf (by omega)) w_8_126 w_8_128 w_0_106 w_1_14 w_8_129 (by decide +kernel) ⟨⟨(Nat.le_of_ble_eq_true rfl), (Nat.le_of_ble_eq_true rfl)⟩, (Nat.le_of_ble_eq_true rfl), (Nat.le_of_ble_eq_true rfl)⟩ hK hP hD hS hA [0, 1, 4] [2, 3] rfl rfl (by decide +kernel) (by decide +kernel) (by decide +kernel) rfl rfl rfl rfl (Nat.le_of_ble_eq_true rfl) dX12_mute_11 (fun r_5 u H locs hw hP hD hS => ?_)
    obtain ⟨rf2_4, hrf_6, rfl, rfl⟩ := hw
    have hP : va_P D vwCl [(g 31, .inl (cI, 120, .inl nw)), (g 54, .inl (cI, 2400, .inl kp)), (mm, .inr (12, mo g (nI ta) (nI pa) (nI pe) pd (nI pb) pp pf pg pn rt rn (nI cd) sn (nI il) tk am at_ aa 0 0 (-1) wt wy 0 (nI rm) (nI ud) (nI nu) sd (nI qn) (nI qw) qo (nI qb) (nI qp) qa (nI qi) (nI oc))), (g 20, .inl (cI, 4, .inl (l4 (nI l0) (nI l1) (nI dm) (nI l3)))), (g 9, .inl (cI, 6, .inl rf2_4))] H := hP
    have hD : va_D A [(g 31, .inl (cI, 120, .inl nw)), (g 54, .inl (cI, 2400, .inl kp)), (mm, .inr (12, mo g (nI ta) (nI pa) (nI pe) pd (nI pb) pp pf pg pn rt rn (nI cd) sn (nI il) tk am at_ aa 0 0 (-1) wt wy 0 (nI rm) (nI ud) (nI nu) sd (nI qn) (nI qw) qo (nI qb) (nI qp) qa (nI qi) (nI oc))), (g 20, .inl (cI, 4, .inl (l4 (nI l0) (nI l1) (nI dm) (nI l3)))), (g 9, .inl (cI, 6, .inl rf2_4))] := hD
    have hP := hP.sub (ws' := [(mm, .inr (12, mo g (nI ta) (nI pa) (nI pe) pd (nI pb) pp pf pg pn rt rn (nI cd) sn (nI il) tk am at_ aa 0 0 (-1) wt wy 0 (nI rm) (nI ud) (nI nu) sd (nI qn) (nI qw) qo (nI qb) (nI qp) qa (nI qi) (nI oc))), (g 20, .inl (cI, 4, .inl (l4 (nI l0) (nI l1) (nI dm) (nI l3)))), (g 31, .inl (cI, 120, .inl nw)), (g 54, .inl (cI, 2400, .inl kp)), (g 9, .inl (cI, 6, .inl rf2_4))]) [2, 3, 0, 1, 4] rfl
    have hD := hD.sub (ws' := [(mm, .inr (12, mo g (nI ta) (nI pa) (nI pe) pd (nI pb) pp pf pg pn rt rn (nI cd) sn (nI il) tk am at_ aa 0 0 (-1) wt wy 0 (nI rm) (nI ud) (nI nu) sd (nI qn) (nI qw) qo (nI qb) (nI qp) qa (nI qi) (nI oc))), (g 20, .inl (cI, 4, .inl (l4 (nI l0) (nI l1) (nI dm) (nI l3)))), (g 31, .inl (cI, 120, .inl nw)), (g 54, .inl (cI, 2400, .inl kp)), (g 9, .inl (cI, 6, .inl rf2_4))]) [2, 3, 0, 1, 4] (by decide +kernel) rfl
    exact sk_iret hx hb hr rfl hlocks hK hP hD hS (⟨Ba, We, U, su, nw, kp, 0, nu, ud, rf2_4, hnw, hkp, by omega, by omega, mut_w (fun hq => rr_0 hb1_3 rfl ((kin0 (n := 2) (by decide) (by omega)).mpr hq)) hrf_6, rfl, rfl⟩) (Nat.le_of_ble_eq_true rfl) (Nat.le_of_ble_eq_true rfl) dX12_mute_14
  · obtain ⟨kj, hkj, rfl⟩ := (kin0 (n := 2) (by decide) (by omega)).mp (rr_1 hb1_3 (by decide))
    refine sk_Vi (q0 := 0) (n := 4) (rest := []) (wr := []) ⟨hx, hb, hml, hown, hts⟩ hl.1 (c_nm_becomes12 l D cI cJ cC cZ cS mm g ta pa pe pd pb pp pf pg pn rt rn cd sn il tk am at_ aa wt wy rm ud nu sd qn qw qo qb qp qa qi oc d kj l0 l1 dm l3 nw kp rf wn mN Ba We U ke lg su (by omega) (by omega) (by omega) (by omega) hB9 hW9 hnw hkp) w_8_126 w_8_128 w_0_106 w_1_14 w_8_129 (by decide +kernel) ⟨⟨(Nat.le_of_ble_eq_true rfl), (Nat.le_of_ble_eq_true rfl)⟩, (Nat.le_of_ble_eq_true rfl), (Nat.le_of_ble_eq_true rfl)⟩ hK hP hD hS hA [0, 1, 2, 3, 4] [] rfl rfl (by decide +kernel) (by decide +kernel) (by decide +kernel) rfl rfl rfl rfl (Nat.le_of_ble_eq_true rfl) dX12_mute_11 (fun r_17 u H locs hw hP hD hS => ?_)
    obtain ⟨Ba2_7, We2_8, U2_9, su2_10, nw2_11, kp2_12, b_13, nu2_14, ud2_15, rf2_16, hnw2_18, hkp2_19, hnu2_20, hud2_21, hbb_22, hset_23, rfl, rfl⟩ := hw
    have hP : va_P D vwCl [(mm, .inr (12, mo g (nI ta) (nI pa) (nI pe) pd (nI pb) pp pf pg pn rt rn (nI cd) sn (nI il) tk am at_ aa 0 0 (-1) wt wy 0 (nI rm) (nI ud2_15) (nI nu2_14) sd (nI qn) (nI qw) qo (nI qb) (nI qp) qa (nI qi) (nI oc))), (g 20, .inl (cI, 4, .inl (l4 (nI l0) (nI l1) (nI dm) (nI l3)))), (g 31, .inl (cI, 120, .inl nw2_11)), (g 54, .inl (cI, 2400, .inl kp2_12)), (g 9, .inl (cI, 6, .inl rf2_16))] H := hP
    have hD : va_D A [(mm, .inr (12, mo g (nI ta) (nI pa) (nI pe) pd (nI pb) pp pf pg pn rt rn (nI cd) sn (nI il) tk am at_ aa 0 0 (-1) wt wy 0 (nI rm) (nI ud2_15) (nI nu2_14) sd (nI qn) (nI qw) qo (nI qb) (nI qp) qa (nI qi) (nI oc))), (g 20, .inl (cI, 4, .inl (l4 (nI l0) (nI l1) (nI dm) (nI l3)))), (g 31, .inl (cI, 120, .inl nw2_11)), (g 54, .inl (cI, 2400, .inl kp2_12)), (g 9, .inl (cI, 6, .inl rf2_16))] := hD
    exact sk_iret hx hb hr (nbool b_13 (by omega)) hlocks hK hP hD hS (⟨Ba2_7, We2_8, U2_9, su2_10, nw2_11, kp2_12, b_13, nu2_14, ud2_15, rf2_16, hnw2_18, hkp2_19, by omega, by omega, hset_23, rfl, rfl⟩) (Nat.le_of_ble_eq_true rfl) (Nat.le_of_ble_eq_true rfl) dX12_mute_14
