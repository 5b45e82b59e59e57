theorem dX12_on_0 : decode cX12_on 0 = .ok (.aload_n 0, 1) := by decide +kernel
theorem dX12_on_1 : decode cX12_on 1 = .ok (.getfield 192, 3) := by decide +kernel
theorem dX12_on_4 : decode cX12_on 4 = .ok (.istore_n 1, 1) := by decide +kernel
theorem dX12_on_5 : decode cX12_on 5 = .ok (.aload_n 0, 1) := by decide +kernel
theorem dX12_on_6 : decode cX12_on 6 = .ok (.iconst 0, 1) := by decide +kernel
theorem dX12_on_7 : decode cX12_on 7 = .ok (.putfield 192, 3) := by decide +kernel
theorem dX12_on_10 : decode cX12_on 10 = .ok (.aload_n 0, 1) := by decide +kernel
theorem dX12_on_11 : decode cX12_on 11 = .ok (.iload_n 1, 1) := by decide +kernel
theorem dX12_on_12 : decode cX12_on 12 = .ok (.invokevirtual 605, 3) := by decide +kernel
theorem dX12_on_15 : decode cX12_on 15 = .ok (.ifCond .ne 15, 3) := by decide +kernel
theorem dX12_on_30 : decode cX12_on 30 = .ok (.aload_n 0, 1) := by decide +kernel
theorem dX12_on_31 : decode cX12_on 31 = .ok (.getfield 63, 3) := by decide +kernel
theorem dX12_on_34 : decode cX12_on 34 = .ok (.iconst 0, 1) := by decide +kernel
theorem dX12_on_35 : decode cX12_on 35 = .ok (.sipush 256, 3) := by decide +kernel
theorem dX12_on_38 : decode cX12_on 38 = .ok (.aload_n 0, 1) := by decide +kernel
theorem dX12_on_39 : decode cX12_on 39 = .ok (.getfield 7, 3) := by decide +kernel
theorem dX12_on_42 : decode cX12_on 42 = .ok (.iconst 0, 1) := by decide +kernel
theorem dX12_on_43 : decode cX12_on 43 = .ok (.iaload, 1) := by decide +kernel
theorem dX12_on_44 : decode cX12_on 44 = .ok (.imul, 1) := by decide +kernel
theorem dX12_on_45 : decode cX12_on 45 = .ok (.aload_n 0, 1) := by decide +kernel
theorem dX12_on_46 : decode cX12_on 46 = .ok (.getfield 7, 3) := by decide +kernel
theorem dX12_on_49 : decode cX12_on 49 = .ok (.iconst 1, 1) := by decide +kernel
theorem dX12_on_50 : decode cX12_on 50 = .ok (.iaload, 1) := by decide +kernel
theorem dX12_on_51 : decode cX12_on 51 = .ok (.iadd, 1) := by decide +kernel
theorem dX12_on_52 : decode cX12_on 52 = .ok (.iastore, 1) := by decide +kernel
theorem dX12_on_53 : decode cX12_on 53 = .ok (.aload_n 0, 1) := by decide +kernel
theorem dX12_on_54 : decode cX12_on 54 = .ok (.getfield 63, 3) := by decide +kernel
theorem dX12_on_57 : decode cX12_on 57 = .ok (.iconst 1, 1) := by decide +kernel
theorem dX12_on_58 : decode cX12_on 58 = .ok (.aload_n 0, 1) := by decide +kernel
theorem dX12_on_59 : decode cX12_on 59 = .ok (.getfield 7, 3) := by decide +kernel
theorem dX12_on_62 : decode cX12_on 62 = .ok (.iconst 2, 1) := by decide +kernel
theorem dX12_on_63 : decode cX12_on 63 = .ok (.iaload, 1) := by decide +kernel
theorem dX12_on_64 : decode cX12_on 64 = .ok (.iastore, 1) := by decide +kernel
theorem dX12_on_65 : decode cX12_on 65 = .ok (.iconst 0, 1) := by decide +kernel
theorem dX12_on_66 : decode cX12_on 66 = .ok (.istore_n 2, 1) := by decide +kernel
theorem dX12_on_67 : decode cX12_on 67 = .ok (.iload_n 2, 1) := by decide +kernel
theorem dX12_on_68 : decode cX12_on 68 = .ok (.iconst 3, 1) := by decide +kernel
theorem dX12_on_69 : decode cX12_on 69 = .ok (.aload_n 0, 1) := by decide +kernel
theorem dX12_on_70 : decode cX12_on 70 = .ok (.invokevirtual 315, 3) := by decide +kernel
theorem dX12_on_73 : decode cX12_on 73 = .ok (.imul, 1) := by decide +kernel
theorem dX12_on_74 : decode cX12_on 74 = .ok (.if_icmp .ge 25, 3) := by decide +kernel
theorem dX12_on_99 : decode cX12_on 99 = .ok (.aload_n 0, 1) := by decide +kernel
theorem dX12_on_100 : decode cX12_on 100 = .ok (.getfield 63, 3) := by decide +kernel
theorem dX12_on_103 : decode cX12_on 103 = .ok (.bipush 29, 2) := by decide +kernel
theorem dX12_on_105 : decode cX12_on 105 = .ok (.iconst 0, 1) := by decide +kernel
theorem dX12_on_106 : decode cX12_on 106 = .ok (.iastore, 1) := by decide +kernel
theorem dX12_on_107 : decode cX12_on 107 = .ok (.aload_n 0, 1) := by decide +kernel
theorem dX12_on_108 : decode cX12_on 108 = .ok (.iconst 0, 1) := by decide +kernel
theorem dX12_on_109 : decode cX12_on 109 = .ok (.putfield 309, 3) := by decide +kernel
theorem dX12_on_112 : decode cX12_on 112 = .ok (.iconst 1, 1) := by decide +kernel
theorem dX12_on_113 : decode cX12_on 113 = .ok (.ireturn, 1) := by decide +kernel
theorem dX12_on_77 : decode cX12_on 77 = .ok (.aload_n 0, 1) := by decide +kernel
theorem dX12_on_78 : decode cX12_on 78 = .ok (.getfield 63, 3) := by decide +kernel
theorem dX12_on_81 : decode cX12_on 81 = .ok (.iconst 2, 1) := by decide +kernel
theorem dX12_on_82 : decode cX12_on 82 = .ok (.iload_n 2, 1) := by decide +kernel
theorem dX12_on_83 : decode cX12_on 83 = .ok (.iadd, 1) := by decide +kernel
theorem dX12_on_84 : decode cX12_on 84 = .ok (.aload_n 0, 1) := by decide +kernel
theorem dX12_on_85 : decode cX12_on 85 = .ok (.getfield 7, 3) := by decide +kernel
theorem dX12_on_88 : decode cX12_on 88 = .ok (.iconst 3, 1) := by decide +kernel
theorem dX12_on_89 : decode cX12_on 89 = .ok (.iload_n 2, 1) := by decide +kernel
theorem dX12_on_90 : decode cX12_on 90 = .ok (.iadd, 1) := by decide +kernel
theorem dX12_on_91 : decode cX12_on 91 = .ok (.iaload, 1) := by decide +kernel
theorem dX12_on_92 : decode cX12_on 92 = .ok (.iastore, 1) := by decide +kernel
theorem dX12_on_93 : decode cX12_on 93 = .ok (.iinc 2 1, 3) := by decide +kernel
theorem dX12_on_96 : decode cX12_on 96 = .ok (.goto (-29), 3) := by decide +kernel
theorem dX12_on_18 : decode cX12_on 18 = .ok (.aload_n 0, 1) := by decide +kernel
theorem dX12_on_19 : decode cX12_on 19 = .ok (.getfield 17, 3) := by decide +kernel
theorem dX12_on_22 : decode cX12_on 22 = .ok (.iconst 5, 1) := by decide +kernel
theorem dX12_on_23 : decode cX12_on 23 = .ok (.dup2, 1) := by decide +kernel
theorem dX12_on_24 : decode cX12_on 24 = .ok (.iaload, 1) := by decide +kernel
theorem dX12_on_25 : decode cX12_on 25 = .ok (.iconst 1, 1) := by decide +kernel
theorem dX12_on_26 : decode cX12_on 26 = .ok (.iadd, 1) := by decide +kernel
theorem dX12_on_27 : decode cX12_on 27 = .ok (.iastore, 1) := by decide +kernel
theorem dX12_on_28 : decode cX12_on 28 = .ok (.iconst 0, 1) := by decide +kernel
theorem dX12_on_29 : decode cX12_on 29 = .ok (.ireturn, 1) := by decide +kernel
theorem w_8_222 : (Cond.methodLink RX12 605 yX12_isImage) ∈ wsL_law := sk_mem (ck_8 _ (List.mem_of_getElem? (i := 222) rfl)) rfl
theorem w_8_224 : (Cond.instanceMethod yX12_isImage) ∈ wsL_law := sk_mem (ck_8 _ (List.mem_of_getElem? (i := 224) rfl)) rfl
theorem w_0_120 : (Cond.selects RX12 yX12_isImage yX12_isImage) ∈ wsL_law := sk_mem (ck_0 _ (List.mem_of_getElem? (i := 120) rfl)) rfl
theorem w_8_221 : (Cond.code yX12_on cX12_on 3 (some .boolean)) ∈ wsL_law := sk_mem (ck_8 _ (List.mem_of_getElem? (i := 221) rfl)) rfl
set_option maxHeartbeats 4000000 in
set_option maxRecDepth 100000 in
theorem c_nm_on (l : Launch) (D : va_G) (cI cJ cC cZ cS : ClassId) (mm : Nat) (g : Nat → Nat) (ta : Nat) (pa : Nat) (pe : Nat) (pd : Int32) (pb : Nat) (pp : Int32) (pf : Int32) (pg : Int32) (pn : Int32) (rt : Int32) (rn : Int32) (cd : Nat) (sn : Int32) (il : Nat) (tk : Int32) (am : Int32) (at_ : Int32) (aa : Int32) (wt : Int32) (wy : Int64) (rm : Nat) (ud : Nat) (nu : Nat) (sd : Int64) (qn : Nat) (qw : Nat) (qo : Int32) (qb : Nat) (qp : Nat) (qa : Int64) (qi : Nat) (oc : Nat) (l0 : Nat) (l1 : Nat) (dm : Nat) (l3 : Nat) (nw : Nat → Int32) (tb : Nat → Nat) (kp : Nat → Int32) (rf : Nat → Int32) (wn : Nat) (mN : Nat) (Ba : Nat → Nat) (We : Nat → Nat) (U : Nat → Bool) (ke : Nat) (lg : KLg) (su : Nat → KN) (hil : il ≤ 1) (hild : il = 1 → 1 ≤ dm) (hilb : 1 ≤ dm → il = 1) (hdm : dm ≤ 9) (hta : ta ≤ 1600) (hnu : nu < 20) (hud : ud ≤ 20) (hUd : ∀ j, U j = true → j < dm) (hnw : nwX wn mN Ba We U ke lg nw) (htb : ∀ j, tb j ≤ 255) (hkp : kpX ud nu su lg kp) : skM l yX12_on cX12_on 3 (some .boolean) 2 45 0 0 D (skT cI cJ cC cZ cS) [.ref mm] [(mm, .inr (12, mo g (nI ta) (nI pa) (nI pe) pd (nI pb) pp pf pg pn rt rn (nI cd) sn (nI il) tk am at_ aa 0 0 (-1) wt wy 0 (nI rm) (nI ud) (nI nu) sd (nI qn) (nI qw) qo (nI qb) (nI qp) qa (nI qi) (nI oc))), (g 20, .inl (cI, 4, .inl (l4 (nI l0) (nI l1) (nI dm) (nI l3)))), (g 31, .inl (cI, 120, .inl nw)), (g 0, .inl (cI, 1600, .inl (fun j => nI (tb j)))), (g 54, .inl (cI, 2400, .inl kp)), (g 9, .inl (cI, 6, .inl rf))] (skI D (skT cI cJ cC cZ cS) (fun (r : Int32) (u : va_W) => ∃ (wn2 : Nat), ∃ (mo2 : Nat), ∃ (Ba2 : Nat → Nat), ∃ (We2 : Nat → Nat), ∃ (U2 : Nat → Bool), ∃ (ke2 : Nat), ∃ (b : Nat), ∃ (nw2 : Nat → Int32), ∃ (kp2 : Nat → Int32), ∃ (ud2 : Nat), ∃ (rf2 : Nat → Int32), nwX wn2 mo2 Ba2 We2 U2 ke2 lg nw2 ∧ kpX ud2 nu su lg kp2 ∧ ud2 ≤ 20 ∧ onR dm tb ta (wn, mN, Ba, We, U, ke) ud rf (nI b) (wn2, mo2, Ba2, We2, U2, ke2) ud2 rf2 ∧ r = nI b ∧ u = [(mm, .inr (12, mo g 0 (nI pa) (nI pe) pd (nI pb) pp pf pg pn rt rn (nI cd) sn (nI il) tk am at_ aa 0 0 (-1) wt wy 0 (nI rm) (nI ud2) (nI nu) sd (nI qn) (nI qw) qo (nI qb) (nI qp) qa (nI qi) (nI oc))), (g 20, .inl (cI, 4, .inl (l4 (nI l0) (nI l1) (nI dm) (nI l3)))), (g 31, .inl (cI, 120, .inl nw2)), (g 0, .inl (cI, 1600, .inl (fun j => nI (tb j)))), (g 54, .inl (cI, 2400, .inl kp2)), (g 9, .inl (cI, 6, .inl rf2))])) := by
  refine skM_of (by decide +kernel) (Nat.le_of_ble_eq_true rfl) ?_
  intro p e s m below meth c A ls E hP hD hl
  obtain ⟨hx, hb, hr, hml, hlocks, hin, hown, hts, hK, hA⟩ := E
  have hown : s.vm.findClass RX12 = some m.cls := hown
  have hS : va_S A s.heap s.heap [] := va_S.rf
  have hl : lv_has ls 3 [(0, .ref mm)] := hl
  refine lv_aload_n hx hb dX12_on_0 rfl (lv_at hl 0 rfl) ?_
  refine sk_get (v := .int (nI ta)) (C := RX12) (T := TX12) (N := 92) hx hb hts inlX12 hown hK hP 0 rfl rfl 1 (by decide) w_5_156 rfl dX12_on_1 ?_
  refine lv_istore_n (lv' := [(1, .int (nI ta)), (0, .ref mm)]) hx hb dX12_on_4 rfl hl (by decide) rfl (fun ls hl => ?_)
  refine lv_aload_n hx hb dX12_on_5 rfl (lv_at hl 1 rfl) ?_
  refine lv_iconst (v := 0) hx hb dX12_on_6 (by decide) ?_
  refine sk_put (ws' := [(mm, .inr (12, mo g 0 (nI pa) (nI pe) pd (nI pb) pp pf pg pn rt rn (nI cd) sn (nI il) tk am at_ aa 0 0 (-1) wt wy 0 (nI rm) (nI ud) (nI nu) sd (nI qn) (nI qw) qo (nI qb) (nI qp) qa (nI qi) (nI oc))), (g 20, .inl (cI, 4, .inl (l4 (nI l0) (nI l1) (nI dm) (nI l3)))), (g 31, .inl (cI, 120, .inl nw)), (g 0, .inl (cI, 1600, .inl (fun j => nI (tb j)))), (g 54, .inl (cI, 2400, .inl kp)), (g 9, .inl (cI, 6, .inl rf))]) (C := RX12) (T := TX12) (N := 92) (v := .int 0) hx hb hts inlX12 tyX12 tyX12_ok nmX12 hown hK hP hD hS 0 rfl rfl 1 (by decide) w_5_156 rfl rfl rfl (Nat.le_of_ble_eq_true rfl) rfl dX12_on_7 (fun H locs hP hD hS => ?_)
  refine lv_aload_n hx hb dX12_on_10 rfl (lv_at hl 1 rfl) ?_
  refine lv_iload_n hx hb dX12_on_11 rfl (lv_at hl 0 rfl) ?_
  refine sk_Vi (q0 := 0) (n := 1) (rest := []) (wr := [(g 31, .inl (cI, 120, .inl nw)), (g 54, .inl (cI, 2400, .inl kp)), (g 9, .inl (cI, 6, .inl rf))]) ⟨hx, hb, hml, hown, hts⟩ hl.1 (c_m_isImage l D cI cJ cC cZ cS mm g 0 pa pe pd pb pp pf pg pn rt rn cd sn il tk am at_ aa wt wy rm ud nu sd qn qw qo qb qp qa qi oc ta l0 l1 dm l3 tb (by omega) (by omega) (by omega) (by omega) htb) w_8_222 w_8_224 w_0_120 w_1_14 w_8_225 (by decide +kernel) ⟨⟨(Nat.le_of_ble_eq_true rfl), (Nat.le_of_ble_eq_true rfl)⟩, (Nat.le_of_ble_eq_true rfl), (Nat.le_of_ble_eq_true rfl)⟩ hK hP hD hS hA [0, 1, 3] [2, 4, 5] rfl rfl (by decide +kernel) (by decide +kernel) (by decide +kernel) rfl rfl rfl rfl (Nat.le_of_ble_eq_true rfl) dX12_on_12 (fun r_2 u H locs hw hP hD hS => ?_)
  obtain ⟨b_1, hb1_3, himg_4, rfl, rfl⟩ := hw
  have hP : va_P D vwCl [(g 31, .inl (cI, 120, .inl nw)), (g 54, .inl (cI, 2400, .inl kp)), (g 9, .inl (cI, 6, .inl rf)), (mm, .inr (12, mo g 0 (nI pa) (nI pe) pd (nI pb) pp pf pg pn rt rn (nI cd) sn (nI il) tk am at_ aa 0 0 (-1) wt wy 0 (nI rm) (nI ud) (nI nu) sd (nI qn) (nI qw) qo (nI qb) (nI qp) qa (nI qi) (nI oc))), (g 20, .inl (cI, 4, .inl (l4 (nI l0) (nI l1) (nI dm) (nI l3)))), (g 0, .inl (cI, 1600, .inl (fun j => nI (tb j))))] H := hP
  have hD : va_D A [(g 31, .inl (cI, 120, .inl nw)), (g 54, .inl (cI, 2400, .inl kp)), (g 9, .inl (cI, 6, .inl rf)), (mm, .inr (12, mo g 0 (nI pa) (nI pe) pd (nI pb) pp pf pg pn rt rn (nI cd) sn (nI il) tk am at_ aa 0 0 (-1) wt wy 0 (nI rm) (nI ud) (nI nu) sd (nI qn) (nI qw) qo (nI qb) (nI qp) qa (nI qi) (nI oc))), (g 20, .inl (cI, 4, .inl (l4 (nI l0) (nI l1) (nI dm) (nI l3)))), (g 0, .inl (cI, 1600, .inl (fun j => nI (tb j))))] := hD
  refine lv_if_ne (tgt := 30) hx hb dX12_on_15 (by decide) (fun c_5 => ?_) (fun c_5 => ?_)
  · have c_5 : ¬ (b_1 = 0) := fun h => c_5 ((neq b_1 0 (by omega) (by omega)).mpr h)
    have hcc := rr_1 himg_4 (by omega)
    refine lv_aload_n hx hb dX12_on_30 rfl (lv_at hl 1 rfl) ?_
    refine sk_get (v := .ref (g 31)) (C := RX12) (T := TX12) (N := 92) hx hb hts inlX12 hown hK hP 3 rfl rfl 31 (by decide) w_5_186 rfl dX12_on_31 ?_
    refine lv_iconst (v := 0) hx hb dX12_on_34 (by decide) ?_
    refine lv_sipush (v := 256) hx hb dX12_on_35 (by decide) ?_
    refine lv_aload_n hx hb dX12_on_38 rfl (lv_at hl 1 rfl) ?_
    refine sk_get (v := .ref (g 0)) (C := RX12) (T := TX12) (N := 92) hx hb hts inlX12 hown hK hP 3 rfl rfl 0 (by decide) w_5_155 rfl dX12_on_39 ?_
    refine lv_iconst (v := 0) hx hb dX12_on_42 (by decide) ?_
    refine va_iald hx hb hK.1 hP 5 0 rfl rfl (by unfold vp_in; decide) dX12_on_43 ?_
    refine sk_top (nI (tb 0)) (nrd tb 0 (by omega)) ?_
    have hb_6 := htb 0
    refine lv_imul hx hb dX12_on_44 ?_
    refine sk_top (nI (256 * (tb 0))) (nmul 256 (tb 0)) ?_
    refine lv_aload_n hx hb dX12_on_45 rfl (lv_at hl 1 rfl) ?_
    refine sk_get (v := .ref (g 0)) (C := RX12) (T := TX12) (N := 92) hx hb hts inlX12 hown hK hP 3 rfl rfl 0 (by decide) w_5_155 rfl dX12_on_46 ?_
    refine lv_iconst (v := 1) hx hb dX12_on_49 (by decide) ?_
    refine va_iald hx hb hK.1 hP 5 0 rfl rfl (by unfold vp_in; decide) dX12_on_50 ?_
    refine sk_top (nI (tb 1)) (nrd tb 1 (by omega)) ?_
    have hb_7 := htb 1
    refine lv_iadd hx hb dX12_on_51 ?_
    refine sk_top (nI (256 * (tb 0) + (tb 1))) (nI_add (256 * (tb 0)) (tb 1)) ?_
    refine sk_iastE (k := 0) (x := (nI (256 * (tb 0) + (tb 1)))) (ws' := fun f_8 => [(g 31, .inl (cI, 120, .inl f_8)), (g 54, .inl (cI, 2400, .inl kp)), (g 9, .inl (cI, 6, .inl rf)), (mm, .inr (12, mo g 0 (nI pa) (nI pe) pd (nI pb) pp pf pg pn rt rn (nI cd) sn (nI il) tk am at_ aa 0 0 (-1) wt wy 0 (nI rm) (nI ud) (nI nu) sd (nI qn) (nI qw) qo (nI qb) (nI qp) qa (nI qi) (nI oc))), (g 20, .inl (cI, 4, .inl (l4 (nI l0) (nI l1) (nI dm) (nI l3)))), (g 0, .inl (cI, 1600, .inl (fun j => nI (tb j))))]) hx hb hK hP hD hS 0 0 rfl rfl (by omega) (by omega) (fun _ => rfl) dX12_on_52 (fun f_8 H locs ef_9 hP hD hS => ?_)
    have hq0 := nwX_up0 hnw ef_9
    refine lv_aload_n hx hb dX12_on_53 rfl (lv_at hl 1 rfl) ?_
    refine sk_get (v := .ref (g 31)) (C := RX12) (T := TX12) (N := 92) hx hb hts inlX12 hown hK hP 3 rfl rfl 31 (by decide) w_5_186 rfl dX12_on_54 ?_
    refine lv_iconst (v := 1) hx hb dX12_on_57 (by decide) ?_
    refine lv_aload_n hx hb dX12_on_58 rfl (lv_at hl 1 rfl) ?_
    refine sk_get (v := .ref (g 0)) (C := RX12) (T := TX12) (N := 92) hx hb hts inlX12 hown hK hP 3 rfl rfl 0 (by decide) w_5_155 rfl dX12_on_59 ?_
    refine lv_iconst (v := 2) hx hb dX12_on_62 (by decide) ?_
    refine va_iald hx hb hK.1 hP 5 0 rfl rfl (by unfold vp_in; decide) dX12_on_63 ?_
    refine sk_top (nI (tb 2)) (nrd tb 2 (by omega)) ?_
    have hb_10 := htb 2
    refine sk_iastE (k := 1) (x := (nI (tb 2))) (ws' := fun f_11 => [(g 31, .inl (cI, 120, .inl f_11)), (g 54, .inl (cI, 2400, .inl kp)), (g 9, .inl (cI, 6, .inl rf)), (mm, .inr (12, mo g 0 (nI pa) (nI pe) pd (nI pb) pp pf pg pn rt rn (nI cd) sn (nI il) tk am at_ aa 0 0 (-1) wt wy 0 (nI rm) (nI ud) (nI nu) sd (nI qn) (nI qw) qo (nI qb) (nI qp) qa (nI qi) (nI oc))), (g 20, .inl (cI, 4, .inl (l4 (nI l0) (nI l1) (nI dm) (nI l3)))), (g 0, .inl (cI, 1600, .inl (fun j => nI (tb j))))]) hx hb hK hP hD hS 0 0 rfl rfl (by omega) (by omega) (fun _ => rfl) dX12_on_64 (fun f_11 H locs ef_12 hP hD hS => ?_)
    have hq1 := nwX_up1 hq0 ef_12 (by have h9 := (hcc.2.2.2.2 2 (by omega) (by omega)).1; omega)
    refine lv_iconst (v := 0) hx hb dX12_on_65 (by decide) ?_
    refine lv_istore_n (lv' := [(2, .int 0), (1, .int (nI ta)), (0, .ref mm)]) hx hb dX12_on_66 rfl hl (by decide) rfl (fun ls hl => ?_)
    have lp_13 : ∀ (n_14 : Nat) (i : Nat) (zn : Nat → Int32) (H : Heap) (locs : List Loc) (ls : Array Slot), 3 * dm - i < n_14 → (i ≤ 3 * dm) → (oiR tb i f_11 zn) → va_P D vwCl [(g 31, .inl (cI, 120, .inl zn)), (g 54, .inl (cI, 2400, .inl kp)), (g 9, .inl (cI, 6, .inl rf)), (mm, .inr (12, mo g 0 (nI pa) (nI pe) pd (nI pb) pp pf pg pn rt rn (nI cd) sn (nI il) tk am at_ aa 0 0 (-1) wt wy 0 (nI rm) (nI ud) (nI nu) sd (nI qn) (nI qw) qo (nI qb) (nI qp) qa (nI qi) (nI oc))), (g 20, .inl (cI, 4, .inl (l4 (nI l0) (nI l1) (nI dm) (nI l3)))), (g 0, .inl (cI, 1600, .inl (fun j => nI (tb j))))] H → va_D A [(g 31, .inl (cI, 120, .inl zn)), (g 54, .inl (cI, 2400, .inl kp)), (g 9, .inl (cI, 6, .inl rf)), (mm, .inr (12, mo g 0 (nI pa) (nI pe) pd (nI pb) pp pf pg pn rt rn (nI cd) sn (nI il) tk am at_ aa 0 0 (-1) wt wy 0 (nI rm) (nI ud) (nI nu) sd (nI qn) (nI qw) qo (nI qb) (nI qp) qa (nI qi) (nI oc))), (g 20, .inl (cI, 4, .inl (l4 (nI l0) (nI l1) (nI dm) (nI l3)))), (g 0, .inl (cI, 1600, .inl (fun j => nI (tb j))))] → va_S A s.heap H locs → lv_has ls 3 [(2, .int (nI i)), (1, .int (nI ta)), (0, .ref mm)] → W p l e { frames := 2, cells := 0, slots := 0, locals := 45 } s m ([.ref mm] : List Value).toArray below meth c H locs 0 0 (MQ below (skI D (skT cI cJ cC cZ cS) (fun (r : Int32) (u : va_W) => ∃ (wn2 : Nat), ∃ (mo2 : Nat), ∃ (Ba2 : Nat → Nat), ∃ (We2 : Nat → Nat), ∃ (U2 : Nat → Bool), ∃ (ke2 : Nat), ∃ (b : Nat), ∃ (nw2 : Nat → Int32), ∃ (kp2 : Nat → Int32), ∃ (ud2 : Nat), ∃ (rf2 : Nat → Int32), nwX wn2 mo2 Ba2 We2 U2 ke2 lg nw2 ∧ kpX ud2 nu su lg kp2 ∧ ud2 ≤ 20 ∧ onR dm tb ta (wn, mN, Ba, We, U, ke) ud rf (nI b) (wn2, mo2, Ba2, We2, U2, ke2) ud2 rf2 ∧ r = nI b ∧ u = [(mm, .inr (12, mo g 0 (nI pa) (nI pe) pd (nI pb) pp pf pg pn rt rn (nI cd) sn (nI il) tk am at_ aa 0 0 (-1) wt wy 0 (nI rm) (nI ud2) (nI nu) sd (nI qn) (nI qw) qo (nI qb) (nI qp) qa (nI qi) (nI oc))), (g 20, .inl (cI, 4, .inl (l4 (nI l0) (nI l1) (nI dm) (nI l3)))), (g 31, .inl (cI, 120, .inl nw2)), (g 0, .inl (cI, 1600, .inl (fun j => nI (tb j)))), (g 54, .inl (cI, 2400, .inl kp2)), (g 9, .inl (cI, 6, .inl rf2))]) A) ([.ref mm] : List Value).toArray s 0 0 A) (F0 m 67 ls []) := by
      intro n_14
      induction n_14 with
      | zero => intro i zn H locs ls hm; exact absurd hm (Nat.not_lt_zero _)
      | succ n_14 ih_lp_13 =>
        intro i zn H locs ls hm hi hoi hP hD hS hl
        refine lv_iload_n hx hb dX12_on_67 rfl (lv_at hl 0 rfl) ?_
        refine lv_iconst (v := 3) hx hb dX12_on_68 (by decide) ?_
        refine lv_aload_n hx hb dX12_on_69 rfl (lv_at hl 2 rfl) ?_
        refine sk_Vi (q0 := 0) (n := 0) (rest := [.int 3, .int (nI i)]) (wr := [(g 31, .inl (cI, 120, .inl zn)), (g 54, .inl (cI, 2400, .inl kp)), (g 9, .inl (cI, 6, .inl rf)), (g 0, .inl (cI, 1600, .inl (fun j => nI (tb j))))]) ⟨hx, hb, hml, hown, hts⟩ hl.1 (c_m_dayMany l D cI cJ cC cZ cS mm g 0 pa pe pd pb pp pf pg pn rt rn cd sn il tk am at_ aa 0 0 (-1) wt wy 0 rm ud nu sd qn qw qo qb qp qa qi oc l0 l1 dm l3) w_7_98 w_7_100 w_0_69 w_1_14 w_7_101 (by decide +kernel) ⟨⟨(Nat.le_of_ble_eq_true rfl), (Nat.le_of_ble_eq_true rfl)⟩, (Nat.le_of_ble_eq_true rfl), (Nat.le_of_ble_eq_true rfl)⟩ hK hP hD hS hA [3, 4] [0, 1, 2, 5] rfl rfl (by decide +kernel) (by decide +kernel) (by decide +kernel) rfl rfl rfl rfl (Nat.le_of_ble_eq_true rfl) dX12_on_70 (fun r_15 u H locs hw hP hD hS => ?_)
        obtain ⟨rfl, rfl⟩ := hw
        have hP : va_P D vwCl [(g 31, .inl (cI, 120, .inl zn)), (g 54, .inl (cI, 2400, .inl kp)), (g 9, .inl (cI, 6, .inl rf)), (g 0, .inl (cI, 1600, .inl (fun j => nI (tb j)))), (mm, .inr (12, mo g 0 (nI pa) (nI pe) pd (nI pb) pp pf pg pn rt rn (nI cd) sn (nI il) tk am at_ aa 0 0 (-1) wt wy 0 (nI rm) (nI ud) (nI nu) sd (nI qn) (nI qw) qo (nI qb) (nI qp) qa (nI qi) (nI oc))), (g 20, .inl (cI, 4, .inl (l4 (nI l0) (nI l1) (nI dm) (nI l3))))] H := hP
        have hD : va_D A [(g 31, .inl (cI, 120, .inl zn)), (g 54, .inl (cI, 2400, .inl kp)), (g 9, .inl (cI, 6, .inl rf)), (g 0, .inl (cI, 1600, .inl (fun j => nI (tb j)))), (mm, .inr (12, mo g 0 (nI pa) (nI pe) pd (nI pb) pp pf pg pn rt rn (nI cd) sn (nI il) tk am at_ aa 0 0 (-1) wt wy 0 (nI rm) (nI ud) (nI nu) sd (nI qn) (nI qw) qo (nI qb) (nI qp) qa (nI qi) (nI oc))), (g 20, .inl (cI, 4, .inl (l4 (nI l0) (nI l1) (nI dm) (nI l3))))] := hD
        refine lv_imul hx hb dX12_on_73 ?_
        refine sk_top (nI (3 * dm)) (nmul 3 dm) ?_
        refine lv_icmp_ge (tgt := 99) hx hb dX12_on_74 (by decide) (fun c_16 => ?_) (fun c_16 => ?_)
        · have c_16 : 3 * dm ≤ i := (nle (3 * dm) i (by omega) (by omega)).mp c_16
          refine lv_aload_n hx hb dX12_on_99 rfl (lv_at hl 2 rfl) ?_
          refine sk_get (v := .ref (g 31)) (C := RX12) (T := TX12) (N := 92) hx hb hts inlX12 hown hK hP 4 rfl rfl 31 (by decide) w_5_186 rfl dX12_on_100 ?_
          refine lv_bipush (v := 29) hx hb dX12_on_103 (by decide) ?_
          refine lv_iconst (v := 0) hx hb dX12_on_105 (by decide) ?_
          refine sk_iastE (k := 29) (x := 0) (ws' := fun f_17 => [(g 31, .inl (cI, 120, .inl f_17)), (g 54, .inl (cI, 2400, .inl kp)), (g 9, .inl (cI, 6, .inl rf)), (g 0, .inl (cI, 1600, .inl (fun j => nI (tb j)))), (mm, .inr (12, mo g 0 (nI pa) (nI pe) pd (nI pb) pp pf pg pn rt rn (nI cd) sn (nI il) tk am at_ aa 0 0 (-1) wt wy 0 (nI rm) (nI ud) (nI nu) sd (nI qn) (nI qw) qo (nI qb) (nI qp) qa (nI qi) (nI oc))), (g 20, .inl (cI, 4, .inl (l4 (nI l0) (nI l1) (nI dm) (nI l3))))]) hx hb hK hP hD hS 0 0 rfl rfl (by omega) (by omega) (fun _ => rfl) dX12_on_106 (fun f_17 H locs ef_18 hP hD hS => ?_)
          have hnN : nwX (256 * tb 0 + tb 1) (tb 2) (onB tb Ba 3 dm) (onB tb We 4 dm) (onU tb dm) 0 lg f_17 := oiR_X hq1 (show oiR tb (3 * dm) f_11 zn by rw [show 3 * dm = i by omega]; exact hoi) ef_18 (by omega) hcc.2 hUd
          refine lv_aload_n hx hb dX12_on_107 rfl (lv_at hl 2 rfl) ?_
          refine lv_iconst (v := 0) hx hb dX12_on_108 (by decide) ?_
          refine sk_put (ws' := [(g 31, .inl (cI, 120, .inl f_17)), (g 54, .inl (cI, 2400, .inl kp)), (g 9, .inl (cI, 6, .inl rf)), (g 0, .inl (cI, 1600, .inl (fun j => nI (tb j)))), (mm, .inr (12, mo g 0 (nI pa) (nI pe) pd (nI pb) pp pf pg pn rt rn (nI cd) sn (nI il) tk am at_ aa 0 0 (-1) wt wy 0 (nI rm) 0 (nI nu) sd (nI qn) (nI qw) qo (nI qb) (nI qp) qa (nI qi) (nI oc))), (g 20, .inl (cI, 4, .inl (l4 (nI l0) (nI l1) (nI dm) (nI l3))))]) (C := RX12) (T := TX12) (N := 92) (v := .int 0) hx hb hts inlX12 tyX12 tyX12_ok nmX12 hown hK hP hD hS 4 rfl rfl 55 (by decide) w_5_210 rfl rfl rfl (Nat.le_of_ble_eq_true rfl) rfl dX12_on_109 (fun H locs hP hD hS => ?_)
          refine lv_iconst (v := 1) hx hb dX12_on_112 (by decide) ?_
          have hP := hP.sub (ws' := [(mm, .inr (12, mo g 0 (nI pa) (nI pe) pd (nI pb) pp pf pg pn rt rn (nI cd) sn (nI il) tk am at_ aa 0 0 (-1) wt wy 0 (nI rm) 0 (nI nu) sd (nI qn) (nI qw) qo (nI qb) (nI qp) qa (nI qi) (nI oc))), (g 20, .inl (cI, 4, .inl (l4 (nI l0) (nI l1) (nI dm) (nI l3)))), (g 31, .inl (cI, 120, .inl f_17)), (g 0, .inl (cI, 1600, .inl (fun j => nI (tb j)))), (g 54, .inl (cI, 2400, .inl kp)), (g 9, .inl (cI, 6, .inl rf))]) [4, 5, 0, 3, 1, 2] rfl
          have hD := hD.sub (ws' := [(mm, .inr (12, mo g 0 (nI pa) (nI pe) pd (nI pb) pp pf pg pn rt rn (nI cd) sn (nI il) tk am at_ aa 0 0 (-1) wt wy 0 (nI rm) 0 (nI nu) sd (nI qn) (nI qw) qo (nI qb) (nI qp) qa (nI qi) (nI oc))), (g 20, .inl (cI, 4, .inl (l4 (nI l0) (nI l1) (nI dm) (nI l3)))), (g 31, .inl (cI, 120, .inl f_17)), (g 0, .inl (cI, 1600, .inl (fun j => nI (tb j)))), (g 54, .inl (cI, 2400, .inl kp)), (g 9, .inl (cI, 6, .inl rf))]) [4, 5, 0, 3, 1, 2] (by decide +kernel) rfl
          exact sk_iret hx hb hr rfl hlocks hK hP hD hS (⟨(256 * tb 0 + tb 1), (tb 2), (onB tb Ba 3 dm), (onB tb We 4 dm), (onU tb dm), 0, 1, f_17, kp, 0, rf, hnN, (kpX_0 nu su lg _), by omega, (by rw [show 256 * tb 0 + tb 1 = tb 0 * 256 + tb 1 by omega]; exact on_y (n := (wn, mN, Ba, We, U, ke)) ⟨by omega, hcc.2⟩ rfl), rfl, rfl⟩) (Nat.le_of_ble_eq_true rfl) (Nat.le_of_ble_eq_true rfl) dX12_on_113
        · have c_16 : ¬ (3 * dm ≤ i) := fun h => c_16 ((nle (3 * dm) i (by omega) (by omega)).mpr h)
          refine lv_aload_n hx hb dX12_on_77 rfl (lv_at hl 2 rfl) ?_
          refine sk_get (v := .ref (g 31)) (C := RX12) (T := TX12) (N := 92) hx hb hts inlX12 hown hK hP 4 rfl rfl 31 (by decide) w_5_186 rfl dX12_on_78 ?_
          refine lv_iconst (v := 2) hx hb dX12_on_81 (by decide) ?_
          refine lv_iload_n hx hb dX12_on_82 rfl (lv_at hl 0 rfl) ?_
          refine lv_iadd hx hb dX12_on_83 ?_
          refine sk_top (nI (2 + i)) (nI_add 2 i) ?_
          refine lv_aload_n hx hb dX12_on_84 rfl (lv_at hl 2 rfl) ?_
          refine sk_get (v := .ref (g 0)) (C := RX12) (T := TX12) (N := 92) hx hb hts inlX12 hown hK hP 4 rfl rfl 0 (by decide) w_5_155 rfl dX12_on_85 ?_
          refine lv_iconst (v := 3) hx hb dX12_on_88 (by decide) ?_
          refine lv_iload_n hx hb dX12_on_89 rfl (lv_at hl 0 rfl) ?_
          refine lv_iadd hx hb dX12_on_90 ?_
          refine sk_top (nI (3 + i)) (nI_add 3 i) ?_
          refine va_iald hx hb hK.1 hP 3 0 rfl rfl (vin (3 + i) 1600 (by omega) (by omega)) dX12_on_91 ?_
          refine sk_top (nI (tb (3 + i))) (nrd tb (3 + i) (by omega)) ?_
          have hb_19 := htb (3 + i)
          refine sk_iastE (k := (2 + i)) (x := (nI (tb (3 + i)))) (ws' := fun f_20 => [(g 31, .inl (cI, 120, .inl f_20)), (g 54, .inl (cI, 2400, .inl kp)), (g 9, .inl (cI, 6, .inl rf)), (g 0, .inl (cI, 1600, .inl (fun j => nI (tb j)))), (mm, .inr (12, mo g 0 (nI pa) (nI pe) pd (nI pb) pp pf pg pn rt rn (nI cd) sn (nI il) tk am at_ aa 0 0 (-1) wt wy 0 (nI rm) (nI ud) (nI nu) sd (nI qn) (nI qw) qo (nI qb) (nI qp) qa (nI qi) (nI oc))), (g 20, .inl (cI, 4, .inl (l4 (nI l0) (nI l1) (nI dm) (nI l3))))]) hx hb hK hP hD hS 0 0 rfl rfl (by omega) (by omega) (fun _ => rfl) dX12_on_92 (fun f_20 H locs ef_21 hP hD hS => ?_)
          refine lv_iinc (v := nI (i + 1)) (lv' := [(2, .int (nI (i + 1))), (1, .int (nI ta)), (0, .ref mm)]) hx hb dX12_on_93 hl (k := 0) rfl (ninc i 1 (by decide)) (by decide) rfl (fun ls hl => ?_)
          refine lv_goto (tgt := 67) hx hb dX12_on_96 (by decide) ?_
          have hP := hP.sub (ws' := [(g 31, .inl (cI, 120, .inl f_20)), (g 54, .inl (cI, 2400, .inl kp)), (g 9, .inl (cI, 6, .inl rf)), (mm, .inr (12, mo g 0 (nI pa) (nI pe) pd (nI pb) pp pf pg pn rt rn (nI cd) sn (nI il) tk am at_ aa 0 0 (-1) wt wy 0 (nI rm) (nI ud) (nI nu) sd (nI qn) (nI qw) qo (nI qb) (nI qp) qa (nI qi) (nI oc))), (g 20, .inl (cI, 4, .inl (l4 (nI l0) (nI l1) (nI dm) (nI l3)))), (g 0, .inl (cI, 1600, .inl (fun j => nI (tb j))))]) [0, 1, 2, 4, 5, 3] rfl
          have hD := hD.sub (ws' := [(g 31, .inl (cI, 120, .inl f_20)), (g 54, .inl (cI, 2400, .inl kp)), (g 9, .inl (cI, 6, .inl rf)), (mm, .inr (12, mo g 0 (nI pa) (nI pe) pd (nI pb) pp pf pg pn rt rn (nI cd) sn (nI il) tk am at_ aa 0 0 (-1) wt wy 0 (nI rm) (nI ud) (nI nu) sd (nI qn) (nI qw) qo (nI qb) (nI qp) qa (nI qi) (nI oc))), (g 20, .inl (cI, 4, .inl (l4 (nI l0) (nI l1) (nI dm) (nI l3)))), (g 0, .inl (cI, 1600, .inl (fun j => nI (tb j))))]) [0, 1, 2, 4, 5, 3] (by decide +kernel) rfl
          exact ih_lp_13 (i + 1) f_20 _ _ _ (by omega) (by omega) (oiR_s hoi ef_21 rfl) hP hD hS (lv_sub hl [0, 1, 2] rfl)
    exact lp_13 (3 * dm - 0 + 1) 0 f_11 _ _ _ (Nat.lt_succ_self _) (by omega) (oiR_0 _ _) hP hD hS (lv_sub hl [0, 1, 2] rfl)
  · have c_5 : b_1 = 0 := (neq b_1 0 (by omega) (by omega)).mp c_5
    refine lv_aload_n hx hb dX12_on_18 rfl (lv_at hl 1 rfl) ?_
    refine sk_get (v := .ref (g 9)) (C := RX12) (T := TX12) (N := 92) hx hb hts inlX12 hown hK hP 3 rfl rfl 9 (by decide) w_5_164 rfl dX12_on_19 ?_
    refine lv_iconst (v := 5) hx hb dX12_on_22 (by decide) ?_
    refine lv_dup2_11 hx hb dX12_on_23 rfl rfl ?_
    refine va_iald hx hb hK.1 hP 2 0 rfl rfl (by unfold vp_in; decide) dX12_on_24 ?_
    refine sk_top (rf 5) (rfl) ?_
    refine lv_iconst (v := 1) hx hb dX12_on_25 (by decide) ?_
    refine lv_iadd hx hb dX12_on_26 ?_
    refine sk_iastE (k := 5) (ws' := fun f_22 => [(g 31, .inl (cI, 120, .inl nw)), (g 54, .inl (cI, 2400, .inl kp)), (g 9, .inl (cI, 6, .inl f_22)), (mm, .inr (12, mo g 0 (nI pa) (nI pe) pd (nI pb) pp pf pg pn rt rn (nI cd) sn (nI il) tk am at_ aa 0 0 (-1) wt wy 0 (nI rm) (nI ud) (nI nu) sd (nI qn) (nI qw) qo (nI qb) (nI qp) qa (nI qi) (nI oc))), (g 20, .inl (cI, 4, .inl (l4 (nI l0) (nI l1) (nI dm) (nI l3)))), (g 0, .inl (cI, 1600, .inl (fun j => nI (tb j))))]) hx hb hK hP hD hS 2 0 rfl rfl (by omega) (by omega) (fun _ => rfl) dX12_on_27 (fun f_22 H locs ef_23 hP hD hS => ?_)
    refine lv_iconst (v := 0) hx hb dX12_on_28 (by decide) ?_
    have hP := hP.sub (ws' := [(mm, .inr (12, mo g 0 (nI pa) (nI pe) pd (nI pb) pp pf pg pn rt rn (nI cd) sn (nI il) tk am at_ aa 0 0 (-1) wt wy 0 (nI rm) (nI ud) (nI nu) sd (nI qn) (nI qw) qo (nI qb) (nI qp) qa (nI qi) (nI oc))), (g 20, .inl (cI, 4, .inl (l4 (nI l0) (nI l1) (nI dm) (nI l3)))), (g 31, .inl (cI, 120, .inl nw)), (g 0, .inl (cI, 1600, .inl (fun j => nI (tb j)))), (g 54, .inl (cI, 2400, .inl kp)), (g 9, .inl (cI, 6, .inl f_22))]) [3, 4, 0, 5, 1, 2] rfl
    have hD := hD.sub (ws' := [(mm, .inr (12, mo g 0 (nI pa) (nI pe) pd (nI pb) pp pf pg pn rt rn (nI cd) sn (nI il) tk am at_ aa 0 0 (-1) wt wy 0 (nI rm) (nI ud) (nI nu) sd (nI qn) (nI qw) qo (nI qb) (nI qp) qa (nI qi) (nI oc))), (g 20, .inl (cI, 4, .inl (l4 (nI l0) (nI l1) (nI dm) (nI l3)))), (g 31, .inl (cI, 120, .inl nw)), (g 0, .inl (cI, 1600, .inl (fun j => nI (tb j)))), (g 54, .inl (cI, 2400, .inl kp)), (g 9, .inl (cI, 6, .inl f_22))]) [3, 4, 0, 5, 1, 2] (by decide +kernel) rfl
    exact sk_iret hx hb hr rfl hlocks hK hP hD hS (⟨wn, mN, Ba, We, U, ke, 0, nw, kp, ud, f_22, hnw, hkp, by omega, (on_n (fun hq => rr_0 himg_4 (by omega) ⟨Nat.le_of_eq (hilb hq.1).symm, hq.2⟩) ef_23), rfl, rfl⟩) (Nat.le_of_ble_eq_true rfl) (Nat.le_of_ble_eq_true rfl) dX12_on_29
set_option maxHeartbeats 4000000 in
set_option maxRecDepth 100000 in
theorem c_nm_canBeToldN (l : Launch) (D : va_G) (cI cJ cC cZ cS : ClassId) (mm : Nat) (g : Nat → Nat) (ta : Nat) (pa : Nat) (pe : Nat) (pd : Int32) (pb : Nat) (pp : Int32) (pf : Int32) (pg : Int32) (pn : Int32) (rt : Int32) (rn : Int32) (cd : Nat) (sn : Int32) (il : Nat) (tk : Int32) (am : Int32) (at_ : Int32) (aa : Int32) (wt : Int32) (wy : Int64) (rm : Nat) (ud : Nat) (nu : Nat) (sd : Int64) (qn : Nat) (qw : Nat) (qo : Int32) (qb : Nat) (qp : Nat) (qa : Int64) (qi : Nat) (oc : Nat) (aw : Nat) (cw : Nat) (l0 : Nat) (l1 : Nat) (dm : Nat) (l3 : Nat) (nw : Nat → Int32) (wn : Nat) (mN : Nat) (Ba : Nat → Nat) (We : Nat → Nat) (U : Nat → Bool) (ke : Nat) (lg : KLg) (hdm : dm ≤ 9) (ha9 : aw ≤ 255) (hc9 : cw ≤ 255) (hnw : nwX wn mN Ba We U ke lg nw) : skM l yX12_canBeTold cX12_canBeTold 3 (some .boolean) 2 46 0 0 D (skT cI cJ cC cZ cS) [.ref mm, .int (nI aw), .int (nI cw)] [(mm, .inr (12, mo g (nI ta) (nI pa) (nI pe) pd (nI pb) pp pf pg pn rt rn (nI cd) sn (nI il) tk am at_ aa 0 0 (-1) wt wy 0 (nI rm) (nI ud) (nI nu) sd (nI qn) (nI qw) qo (nI qb) (nI qp) qa (nI qi) (nI oc))), (g 20, .inl (cI, 4, .inl (l4 (nI l0) (nI l1) (nI dm) (nI l3)))), (g 31, .inl (cI, 120, .inl nw))] (skI D (skT cI cJ cC cZ cS) (fun (r : Int32) (u : va_W) => ∃ (b : Nat), ((b = 0 ∧ ¬ (aw < dm ∧ ¬ U aw = true ∧ cw < 10)) ∨ (b = 1 ∧ aw < dm ∧ ¬ U aw = true ∧ cw < 10)) ∧ r = nI b ∧ u = [(mm, .inr (12, mo g (nI ta) (nI pa) (nI pe) pd (nI pb) pp pf pg pn rt rn (nI cd) sn (nI il) tk am at_ aa 0 0 (-1) wt wy 0 (nI rm) (nI ud) (nI nu) sd (nI qn) (nI qw) qo (nI qb) (nI qp) qa (nI qi) (nI oc))), (g 20, .inl (cI, 4, .inl (l4 (nI l0) (nI l1) (nI dm) (nI l3)))), (g 31, .inl (cI, 120, .inl nw))])) := by
  refine skM_of (by decide +kernel) (Nat.le_of_ble_eq_true rfl) ?_
  intro p e s m below meth c A ls E hP hD hl
  obtain ⟨hx, hb, hr, hml, hlocks, hin, hown, hts, hK, hA⟩ := E
  have hown : s.vm.findClass RX12 = some m.cls := hown
  have hS : va_S A s.heap s.heap [] := va_S.rf
  have hl : lv_has ls 3 [(0, .ref mm), (1, .int (nI aw)), (2, .int (nI cw))] := hl
  refine lv_aload_n hx hb dX12_canBeTold_0 rfl (lv_at hl 0 rfl) ?_
  refine lv_iload_n hx hb dX12_canBeTold_1 rfl (lv_at hl 1 rfl) ?_
  refine sk_Vi (q0 := 0) (n := 1) (rest := []) (wr := [(g 31, .inl (cI, 120, .inl nw))]) ⟨hx, hb, hml, hown, hts⟩ hl.1 (c_nm_isDay l D cI cJ cC cZ cS mm g ta pa pe pd pb pp pf pg pn rt rn cd sn il tk am at_ aa wt wy rm ud nu sd qn qw qo qb qp qa qi oc (nI aw) l0 l1 dm l3 (by omega)) w_7_117 w_7_119 w_0_72 w_1_14 w_7_120 (by decide +kernel) ⟨⟨(Nat.le_of_ble_eq_true rfl), (Nat.le_of_ble_eq_true rfl)⟩, (Nat.le_of_ble_eq_true rfl), (Nat.le_of_ble_eq_true rfl)⟩ hK hP hD hS hA [0, 1] [2] rfl rfl (by decide +kernel) (by decide +kernel) (by decide +kernel) rfl rfl rfl rfl (Nat.le_of_ble_eq_true rfl) dX12_canBeTold_2 (fun r_2 u H locs hw hP hD hS => ?_)
  obtain ⟨b_1, hb1_3, rfl, rfl⟩ := hw
  have hP : va_P D vwCl [(g 31, .inl (cI, 120, .inl nw)), (mm, .inr (12, mo g (nI ta) (nI pa) (nI pe) pd (nI pb) pp pf pg pn rt rn (nI cd) sn (nI il) tk am at_ aa 0 0 (-1) wt wy 0 (nI rm) (nI ud) (nI nu) sd (nI qn) (nI qw) qo (nI qb) (nI qp) qa (nI qi) (nI oc))), (g 20, .inl (cI, 4, .inl (l4 (nI l0) (nI l1) (nI dm) (nI l3))))] H := hP
  have hD : va_D A [(g 31, .inl (cI, 120, .inl nw)), (mm, .inr (12, mo g (nI ta) (nI pa) (nI pe) pd (nI pb) pp pf pg pn rt rn (nI cd) sn (nI il) tk am at_ aa 0 0 (-1) wt wy 0 (nI rm) (nI ud) (nI nu) sd (nI qn) (nI qw) qo (nI qb) (nI qp) qa (nI qi) (nI oc))), (g 20, .inl (cI, 4, .inl (l4 (nI l0) (nI l1) (nI dm) (nI l3))))] := hD
  refine lv_if_eq (tgt := 28) hx hb dX12_canBeTold_5 (by decide) (fun c_4 => ?_) (fun c_4 => ?_)
  · have c_4 : b_1 = 0 := (neq b_1 0 (by omega) (by omega)).mp c_4
    refine lv_iconst (v := 0) hx hb dX12_canBeTold_28 (by decide) ?_
    have hP := hP.sub (ws' := [(mm, .inr (12, mo g (nI ta) (nI pa) (nI pe) pd (nI pb) pp pf pg pn rt rn (nI cd) sn (nI il) tk am at_ aa 0 0 (-1) wt wy 0 (nI rm) (nI ud) (nI nu) sd (nI qn) (nI qw) qo (nI qb) (nI qp) qa (nI qi) (nI oc))), (g 20, .inl (cI, 4, .inl (l4 (nI l0) (nI l1) (nI dm) (nI l3)))), (g 31, .inl (cI, 120, .inl nw))]) [1, 2, 0] rfl
    have hD := hD.sub (ws' := [(mm, .inr (12, mo g (nI ta) (nI pa) (nI pe) pd (nI pb) pp pf pg pn rt rn (nI cd) sn (nI il) tk am at_ aa 0 0 (-1) wt wy 0 (nI rm) (nI ud) (nI nu) sd (nI qn) (nI qw) qo (nI qb) (nI qp) qa (nI qi) (nI oc))), (g 20, .inl (cI, 4, .inl (l4 (nI l0) (nI l1) (nI dm) (nI l3)))), (g 31, .inl (cI, 120, .inl nw))]) [1, 2, 0] (by decide +kernel) rfl
    exact sk_iret hx hb hr rfl hlocks hK hP hD hS (⟨0, Or.inl ⟨rfl, fun hq => (rr_0 hb1_3 (by omega)) ⟨aw, hq.1, rfl⟩⟩, rfl, rfl⟩) (Nat.le_of_ble_eq_true rfl) (Nat.le_of_ble_eq_true rfl) dX12_canBeTold_29
  · have c_4 : ¬ (b_1 = 0) := fun h => c_4 ((neq b_1 0 (by omega) (by omega)).mpr h)
    obtain ⟨kd_5, hkd_5, ekd_5⟩ := rr_1 hb1_3 (by omega)
    have ekd_5 := (neq aw kd_5 (by omega) (by omega)).mp ekd_5
    refine lv_aload_n hx hb dX12_canBeTold_8 rfl (lv_at hl 0 rfl) ?_
    refine lv_iload_n hx hb dX12_canBeTold_9 rfl (lv_at hl 1 rfl) ?_
    refine sk_Vi (q0 := 0) (n := 1) (rest := []) (wr := [(g 20, .inl (cI, 4, .inl (l4 (nI l0) (nI l1) (nI dm) (nI l3))))]) ⟨hx, hb, hml, hown, hts⟩ hl.1 (c_nm_isMute l D cI cJ cC cZ cS mm g ta pa pe pd pb pp pf pg pn rt rn cd sn il tk am at_ aa wt wy rm ud nu sd qn qw qo qb qp qa qi oc aw nw wn mN Ba We U ke lg (by omega) hnw) w_7_106 w_7_108 w_0_71 w_1_14 w_7_109 (by decide +kernel) ⟨⟨(Nat.le_of_ble_eq_true rfl), (Nat.le_of_ble_eq_true rfl)⟩, (Nat.le_of_ble_eq_true rfl), (Nat.le_of_ble_eq_true rfl)⟩ hK hP hD hS hA [1, 0] [2] rfl rfl (by decide +kernel) (by decide +kernel) (by decide +kernel) rfl rfl rfl rfl (Nat.le_of_ble_eq_true rfl) dX12_canBeTold_10 (fun r_7 u H locs hw hP hD hS => ?_)
    obtain ⟨b_6, hb1_8, rfl, rfl⟩ := hw
    have hP : va_P D vwCl [(g 20, .inl (cI, 4, .inl (l4 (nI l0) (nI l1) (nI dm) (nI l3)))), (mm, .inr (12, mo g (nI ta) (nI pa) (nI pe) pd (nI pb) pp pf pg pn rt rn (nI cd) sn (nI il) tk am at_ aa 0 0 (-1) wt wy 0 (nI rm) (nI ud) (nI nu) sd (nI qn) (nI qw) qo (nI qb) (nI qp) qa (nI qi) (nI oc))), (g 31, .inl (cI, 120, .inl nw))] H := hP
    have hD : va_D A [(g 20, .inl (cI, 4, .inl (l4 (nI l0) (nI l1) (nI dm) (nI l3)))), (mm, .inr (12, mo g (nI ta) (nI pa) (nI pe) pd (nI pb) pp pf pg pn rt rn (nI cd) sn (nI il) tk am at_ aa 0 0 (-1) wt wy 0 (nI rm) (nI ud) (nI nu) sd (nI qn) (nI qw) qo (nI qb) (nI qp) qa (nI qi) (nI oc))), (g 31, .inl (cI, 120, .inl nw))] := hD
    refine lv_if_ne (tgt := 28) hx hb dX12_canBeTold_13 (by decide) (fun c_9 => ?_) (fun c_9 => ?_)
    · have c_9 : ¬ (b_6 = 0) := fun h => c_9 ((neq b_6 0 (by omega) (by omega)).mpr h)
      refine lv_iconst (v := 0) hx hb dX12_canBeTold_28 (by decide) ?_
      have hP := hP.sub (ws' := [(mm, .inr (12, mo g (nI ta) (nI pa) (nI pe) pd (nI pb) pp pf pg pn rt rn (nI cd) sn (nI il) tk am at_ aa 0 0 (-1) wt wy 0 (nI rm) (nI ud) (nI nu) sd (nI qn) (nI qw) qo (nI qb) (nI qp) qa (nI qi) (nI oc))), (g 20, .inl (cI, 4, .inl (l4 (nI l0) (nI l1) (nI dm) (nI l3)))), (g 31, .inl (cI, 120, .inl nw))]) [1, 0, 2] rfl
      have hD := hD.sub (ws' := [(mm, .inr (12, mo g (nI ta) (nI pa) (nI pe) pd (nI pb) pp pf pg pn rt rn (nI cd) sn (nI il) tk am at_ aa 0 0 (-1) wt wy 0 (nI rm) (nI ud) (nI nu) sd (nI qn) (nI qw) qo (nI qb) (nI qp) qa (nI qi) (nI oc))), (g 20, .inl (cI, 4, .inl (l4 (nI l0) (nI l1) (nI dm) (nI l3)))), (g 31, .inl (cI, 120, .inl nw))]) [1, 0, 2] (by decide +kernel) rfl
      exact sk_iret hx hb hr rfl hlocks hK hP hD hS (⟨0, Or.inl ⟨rfl, fun hq => hq.2.1 (km_1 hb1_8 (by omega))⟩, rfl, rfl⟩) (Nat.le_of_ble_eq_true rfl) (Nat.le_of_ble_eq_true rfl) dX12_canBeTold_29
    · have c_9 : b_6 = 0 := (neq b_6 0 (by omega) (by omega)).mp c_9
      refine lv_aload_n hx hb dX12_canBeTold_16 rfl (lv_at hl 0 rfl) ?_
      refine lv_iload_n hx hb dX12_canBeTold_17 rfl (lv_at hl 2 rfl) ?_
      refine sk_Vi (q0 := 0) (n := 1) (rest := []) (wr := [(g 20, .inl (cI, 4, .inl (l4 (nI l0) (nI l1) (nI dm) (nI l3)))), (g 31, .inl (cI, 120, .inl nw))]) ⟨hx, hb, hml, hown, hts⟩ hl.1 (c_nm_isMood l D cI cJ cC cZ cS mm g ta pa pe pd pb pp pf pg pn rt rn cd sn il tk am at_ aa wt wy rm ud nu sd qn qw qo qb qp qa qi oc (nI cw)) w_7_126 w_7_128 w_0_73 w_1_14 w_7_129 (by decide +kernel) ⟨⟨(Nat.le_of_ble_eq_true rfl), (Nat.le_of_ble_eq_true rfl)⟩, (Nat.le_of_ble_eq_true rfl), (Nat.le_of_ble_eq_true rfl)⟩ hK hP hD hS hA [1] [0, 2] rfl rfl (by decide +kernel) (by decide +kernel) (by decide +kernel) rfl rfl rfl rfl (Nat.le_of_ble_eq_true rfl) dX12_canBeTold_18 (fun r_11 u H locs hw hP hD hS => ?_)
      obtain ⟨b_10, hb1_12, rfl, rfl⟩ := hw
      have hP : va_P D vwCl [(g 20, .inl (cI, 4, .inl (l4 (nI l0) (nI l1) (nI dm) (nI l3)))), (g 31, .inl (cI, 120, .inl nw)), (mm, .inr (12, mo g (nI ta) (nI pa) (nI pe) pd (nI pb) pp pf pg pn rt rn (nI cd) sn (nI il) tk am at_ aa 0 0 (-1) wt wy 0 (nI rm) (nI ud) (nI nu) sd (nI qn) (nI qw) qo (nI qb) (nI qp) qa (nI qi) (nI oc)))] H := hP
      have hD : va_D A [(g 20, .inl (cI, 4, .inl (l4 (nI l0) (nI l1) (nI dm) (nI l3)))), (g 31, .inl (cI, 120, .inl nw)), (mm, .inr (12, mo g (nI ta) (nI pa) (nI pe) pd (nI pb) pp pf pg pn rt rn (nI cd) sn (nI il) tk am at_ aa 0 0 (-1) wt wy 0 (nI rm) (nI ud) (nI nu) sd (nI qn) (nI qw) qo (nI qb) (nI qp) qa (nI qi) (nI oc)))] := hD
      refine lv_if_eq (tgt := 28) hx hb dX12_canBeTold_21 (by decide) (fun c_13 => ?_) (fun c_13 => ?_)
      · have c_13 : b_10 = 0 := (neq b_10 0 (by omega) (by omega)).mp c_13
        refine lv_iconst (v := 0) hx hb dX12_canBeTold_28 (by decide) ?_
        have hP := hP.sub (ws' := [(mm, .inr (12, mo g (nI ta) (nI pa) (nI pe) pd (nI pb) pp pf pg pn rt rn (nI cd) sn (nI il) tk am at_ aa 0 0 (-1) wt wy 0 (nI rm) (nI ud) (nI nu) sd (nI qn) (nI qw) qo (nI qb) (nI qp) qa (nI qi) (nI oc))), (g 20, .inl (cI, 4, .inl (l4 (nI l0) (nI l1) (nI dm) (nI l3)))), (g 31, .inl (cI, 120, .inl nw))]) [2, 0, 1] rfl
        have hD := hD.sub (ws' := [(mm, .inr (12, mo g (nI ta) (nI pa) (nI pe) pd (nI pb) pp pf pg pn rt rn (nI cd) sn (nI il) tk am at_ aa 0 0 (-1) wt wy 0 (nI rm) (nI ud) (nI nu) sd (nI qn) (nI qw) qo (nI qb) (nI qp) qa (nI qi) (nI oc))), (g 20, .inl (cI, 4, .inl (l4 (nI l0) (nI l1) (nI dm) (nI l3)))), (g 31, .inl (cI, 120, .inl nw))]) [2, 0, 1] (by decide +kernel) rfl
        exact sk_iret hx hb hr rfl hlocks hK hP hD hS (⟨0, Or.inl ⟨rfl, fun hq => (rr_0 hb1_12 (by omega)) ⟨cw, hq.2.2, rfl⟩⟩, rfl, rfl⟩) (Nat.le_of_ble_eq_true rfl) (Nat.le_of_ble_eq_true rfl) dX12_canBeTold_29
      · have c_13 : ¬ (b_10 = 0) := fun h => c_13 ((neq b_10 0 (by omega) (by omega)).mpr h)
        obtain ⟨kd_14, hkd_14, ekd_14⟩ := rr_1 hb1_12 (by omega)
        have ekd_14 := (neq cw kd_14 (by omega) (by omega)).mp ekd_14
        refine lv_iconst (v := 1) hx hb dX12_canBeTold_24 (by decide) ?_
        refine lv_goto (tgt := 29) hx hb dX12_canBeTold_25 (by decide) ?_
        have hP := hP.sub (ws' := [(mm, .inr (12, mo g (nI ta) (nI pa) (nI pe) pd (nI pb) pp pf pg pn rt rn (nI cd) sn (nI il) tk am at_ aa 0 0 (-1) wt wy 0 (nI rm) (nI ud) (nI nu) sd (nI qn) (nI qw) qo (nI qb) (nI qp) qa (nI qi) (nI oc))), (g 20, .inl (cI, 4, .inl (l4 (nI l0) (nI l1) (nI dm) (nI l3)))), (g 31, .inl (cI, 120, .inl nw))]) [2, 0, 1] rfl
        have hD := hD.sub (ws' := [(mm, .inr (12, mo g (nI ta) (nI pa) (nI pe) pd (nI pb) pp pf pg pn rt rn (nI cd) sn (nI il) tk am at_ aa 0 0 (-1) wt wy 0 (nI rm) (nI ud) (nI nu) sd (nI qn) (nI qw) qo (nI qb) (nI qp) qa (nI qi) (nI oc))), (g 20, .inl (cI, 4, .inl (l4 (nI l0) (nI l1) (nI dm) (nI l3)))), (g 31, .inl (cI, 120, .inl nw))]) [2, 0, 1] (by decide +kernel) rfl
        exact sk_iret hx hb hr rfl hlocks hK hP hD hS (⟨1, Or.inr ⟨rfl, by omega, km_0 hb1_8 (by omega), by omega⟩, rfl, rfl⟩) (Nat.le_of_ble_eq_true rfl) (Nat.le_of_ble_eq_true rfl) dX12_canBeTold_29
theorem hr_rows {dm ta : Nat} {U : Nat → Bool} {tb : Nat → Nat} {f : Nat → Int32} (h : ∀ k, k < ta → f k = nI (tb k)) (hc : hearC dm U tb ta) : ∀ j, j < ta / 2 → f (2 * j) = nI (hrR tb j / 10) ∧ f (2 * j + 1) = nI (hrR tb j % 10) := fun j hj => by
  have h1 := hc.2.2.2.2 j (by omega)
  rw [h _ (by omega), h _ (by omega)]
  unfold hrR
  rw [show (tb (2 * j) * 10 + tb (2 * j + 1)) / 10 = tb (2 * j) by omega, show (tb (2 * j) * 10 + tb (2 * j + 1)) % 10 = tb (2 * j + 1) by omega]
  exact ⟨rfl, rfl⟩
theorem kc_n {tb : Nat → Nat} {i : Nat} {f g : Nat → Int32} (h : ∀ k, k < i → f k = nI (tb k)) (e : g = upd f i (nI (tb i))) : ∀ k, k < i + 1 → g k = nI (tb k) := fun k hk => by
  by_cases q : k = i
  · subst q; rw [kui_s e]
  · rw [kui_n e q]; exact h k (by omega)
theorem dX12_hear_0 : decode cX12_hear 0 = .ok (.aload_n 0, 1) := by decide +kernel
theorem dX12_hear_1 : decode cX12_hear 1 = .ok (.getfield 192, 3) := by decide +kernel
theorem dX12_hear_4 : decode cX12_hear 4 = .ok (.istore_n 1, 1) := by decide +kernel
theorem dX12_hear_5 : decode cX12_hear 5 = .ok (.aload_n 0, 1) := by decide +kernel
theorem dX12_hear_6 : decode cX12_hear 6 = .ok (.iconst 0, 1) := by decide +kernel
theorem dX12_hear_7 : decode cX12_hear 7 = .ok (.putfield 192, 3) := by decide +kernel
theorem dX12_hear_40 : decode cX12_hear 40 = .ok (.istore_n 2, 1) := by decide +kernel
theorem dX12_hear_41 : decode cX12_hear 41 = .ok (.iconst 0, 1) := by decide +kernel
theorem dX12_hear_42 : decode cX12_hear 42 = .ok (.istore_n 3, 1) := by decide +kernel
theorem dX12_hear_43 : decode cX12_hear 43 = .ok (.iload_n 3, 1) := by decide +kernel
theorem dX12_hear_44 : decode cX12_hear 44 = .ok (.iload_n 1, 1) := by decide +kernel
theorem dX12_hear_45 : decode cX12_hear 45 = .ok (.if_icmp .ge 32, 3) := by decide +kernel
theorem dX12_hear_77 : decode cX12_hear 77 = .ok (.iload_n 2, 1) := by decide +kernel
theorem dX12_hear_78 : decode cX12_hear 78 = .ok (.ifCond .ne 9, 3) := by decide +kernel
theorem dX12_hear_87 : decode cX12_hear 87 = .ok (.iconst 0, 1) := by decide +kernel
theorem dX12_hear_88 : decode cX12_hear 88 = .ok (.istore_n 3, 1) := by decide +kernel
theorem dX12_hear_89 : decode cX12_hear 89 = .ok (.iload_n 3, 1) := by decide +kernel
theorem dX12_hear_90 : decode cX12_hear 90 = .ok (.iload_n 1, 1) := by decide +kernel
theorem dX12_hear_91 : decode cX12_hear 91 = .ok (.if_icmp .ge 21, 3) := by decide +kernel
theorem dX12_hear_112 : decode cX12_hear 112 = .ok (.aload_n 0, 1) := by decide +kernel
theorem dX12_hear_113 : decode cX12_hear 113 = .ok (.iload_n 1, 1) := by decide +kernel
theorem dX12_hear_114 : decode cX12_hear 114 = .ok (.iconst 2, 1) := by decide +kernel
theorem dX12_hear_115 : decode cX12_hear 115 = .ok (.idiv, 1) := by decide +kernel
theorem dX12_hear_116 : decode cX12_hear 116 = .ok (.putfield 312, 3) := by decide +kernel
theorem dX12_hear_119 : decode cX12_hear 119 = .ok (.aload_n 0, 1) := by decide +kernel
theorem dX12_hear_120 : decode cX12_hear 120 = .ok (.getfield 312, 3) := by decide +kernel
theorem dX12_hear_123 : decode cX12_hear 123 = .ok (.ireturn, 1) := by decide +kernel
theorem dX12_hear_94 : decode cX12_hear 94 = .ok (.aload_n 0, 1) := by decide +kernel
theorem dX12_hear_95 : decode cX12_hear 95 = .ok (.getfield 104, 3) := by decide +kernel
theorem dX12_hear_98 : decode cX12_hear 98 = .ok (.iload_n 3, 1) := by decide +kernel
theorem dX12_hear_99 : decode cX12_hear 99 = .ok (.aload_n 0, 1) := by decide +kernel
theorem dX12_hear_100 : decode cX12_hear 100 = .ok (.getfield 7, 3) := by decide +kernel
theorem dX12_hear_103 : decode cX12_hear 103 = .ok (.iload_n 3, 1) := by decide +kernel
theorem dX12_hear_104 : decode cX12_hear 104 = .ok (.iaload, 1) := by decide +kernel
theorem dX12_hear_105 : decode cX12_hear 105 = .ok (.iastore, 1) := by decide +kernel
theorem dX12_hear_106 : decode cX12_hear 106 = .ok (.iinc 3 1, 3) := by decide +kernel
theorem dX12_hear_109 : decode cX12_hear 109 = .ok (.goto (-20), 3) := by decide +kernel
theorem dX12_hear_81 : decode cX12_hear 81 = .ok (.aload_n 0, 1) := by decide +kernel
theorem dX12_hear_82 : decode cX12_hear 82 = .ok (.iconst 1, 1) := by decide +kernel
theorem dX12_hear_83 : decode cX12_hear 83 = .ok (.invokevirtual 463, 3) := by decide +kernel
theorem dX12_hear_86 : decode cX12_hear 86 = .ok (.ireturn, 1) := by decide +kernel
theorem dX12_hear_48 : decode cX12_hear 48 = .ok (.iload_n 2, 1) := by decide +kernel
theorem dX12_hear_49 : decode cX12_hear 49 = .ok (.ifCond .eq 28, 3) := by decide +kernel
theorem dX12_hear_52 : decode cX12_hear 52 = .ok (.aload_n 0, 1) := by decide +kernel
theorem dX12_hear_53 : decode cX12_hear 53 = .ok (.aload_n 0, 1) := by decide +kernel
theorem dX12_hear_54 : decode cX12_hear 54 = .ok (.getfield 7, 3) := by decide +kernel
theorem dX12_hear_57 : decode cX12_hear 57 = .ok (.iload_n 3, 1) := by decide +kernel
theorem dX12_hear_58 : decode cX12_hear 58 = .ok (.iaload, 1) := by decide +kernel
theorem dX12_hear_59 : decode cX12_hear 59 = .ok (.aload_n 0, 1) := by decide +kernel
theorem dX12_hear_60 : decode cX12_hear 60 = .ok (.getfield 7, 3) := by decide +kernel
theorem dX12_hear_63 : decode cX12_hear 63 = .ok (.iload_n 3, 1) := by decide +kernel
theorem dX12_hear_64 : decode cX12_hear 64 = .ok (.iconst 1, 1) := by decide +kernel
theorem dX12_hear_65 : decode cX12_hear 65 = .ok (.iadd, 1) := by decide +kernel
theorem dX12_hear_66 : decode cX12_hear 66 = .ok (.iaload, 1) := by decide +kernel
theorem dX12_hear_67 : decode cX12_hear 67 = .ok (.invokevirtual 454, 3) := by decide +kernel
theorem dX12_hear_70 : decode cX12_hear 70 = .ok (.istore_n 2, 1) := by decide +kernel
theorem dX12_hear_71 : decode cX12_hear 71 = .ok (.iinc 3 2, 3) := by decide +kernel
theorem dX12_hear_74 : decode cX12_hear 74 = .ok (.goto (-31), 3) := by decide +kernel
theorem dX12_hear_10 : decode cX12_hear 10 = .ok (.aload_n 0, 1) := by decide +kernel
theorem dX12_hear_11 : decode cX12_hear 11 = .ok (.getfield 302, 3) := by decide +kernel
theorem dX12_hear_14 : decode cX12_hear 14 = .ok (.ifCond .eq 25, 3) := by decide +kernel
theorem dX12_hear_39 : decode cX12_hear 39 = .ok (.iconst 0, 1) := by decide +kernel
theorem dX12_hear_17 : decode cX12_hear 17 = .ok (.iload_n 1, 1) := by decide +kernel
theorem dX12_hear_18 : decode cX12_hear 18 = .ok (.ifCond .le 21, 3) := by decide +kernel
theorem dX12_hear_21 : decode cX12_hear 21 = .ok (.iload_n 1, 1) := by decide +kernel
theorem dX12_hear_22 : decode cX12_hear 22 = .ok (.iconst 2, 1) := by decide +kernel
theorem dX12_hear_23 : decode cX12_hear 23 = .ok (.irem, 1) := by decide +kernel
theorem dX12_hear_24 : decode cX12_hear 24 = .ok (.ifCond .ne 15, 3) := by decide +kernel
theorem dX12_hear_27 : decode cX12_hear 27 = .ok (.iload_n 1, 1) := by decide +kernel
theorem dX12_hear_28 : decode cX12_hear 28 = .ok (.iconst 2, 1) := by decide +kernel
theorem dX12_hear_29 : decode cX12_hear 29 = .ok (.idiv, 1) := by decide +kernel
theorem dX12_hear_30 : decode cX12_hear 30 = .ok (.bipush 16, 2) := by decide +kernel
theorem dX12_hear_32 : decode cX12_hear 32 = .ok (.if_icmp .gt 7, 3) := by decide +kernel
theorem dX12_hear_35 : decode cX12_hear 35 = .ok (.iconst 1, 1) := by decide +kernel
theorem dX12_hear_36 : decode cX12_hear 36 = .ok (.goto 4, 3) := by decide +kernel
theorem w_8_96 : (Cond.code yX12_hear cX12_hear 4 (some .int)) ∈ wsL_law := sk_mem (ck_8 _ (List.mem_of_getElem? (i := 96) rfl)) rfl
set_option maxHeartbeats 4000000 in
set_option maxRecDepth 100000 in
theorem c_nm_hear (l : Launch) (D : va_G) (cI cJ cC cZ cS : ClassId) (mm : Nat) (g : Nat → Nat) (ta : Nat) (pa : Nat) (pe : Nat) (pd : Int32) (pb : Nat) (pp : Int32) (pf : Int32) (pg : Int32) (pn : Int32) (rt : Int32) (rn : Int32) (cd : Nat) (sn : Int32) (il : Nat) (tk : Int32) (am : Int32) (at_ : Int32) (aa : Int32) (wt : Int32) (wy : Int64) (rm : Nat) (ud : Nat) (nu : Nat) (sd : Int64) (qn : Nat) (qw : Nat) (qo : Int32) (qb : Nat) (qp : Nat) (qa : Int64) (qi : Nat) (oc : Nat) (l0 : Nat) (l1 : Nat) (dm : Nat) (l3 : Nat) (nw : Nat → Int32) (tb : Nat → Nat) (rw_ : Nat → Int32) (rf : Nat → Int32) (wn : Nat) (mN : Nat) (Ba : Nat → Nat) (We : Nat → Nat) (U : Nat → Bool) (ke : Nat) (lg : KLg) (hR : Nat → Nat) (hil : il ≤ 1) (hild : il = 1 → 1 ≤ dm) (hilb : 1 ≤ dm → il = 1) (hdm : dm ≤ 9) (hta : ta ≤ 1600) (hrm : rm ≤ 16) (hhr : ∀ j, j < rm → rw_ (2 * j) = nI (hR j / 10) ∧ rw_ (2 * j + 1) = nI (hR j % 10)) (hnw : nwX wn mN Ba We U ke lg nw) (htb : ∀ j, tb j ≤ 255) : skM l yX12_hear cX12_hear 4 (some .int) 3 68 0 0 D (skT cI cJ cC cZ cS) [.ref mm] [(mm, .inr (12, mo g (nI ta) (nI pa) (nI pe) pd (nI pb) pp pf pg pn rt rn (nI cd) sn (nI il) tk am at_ aa 0 0 (-1) wt wy 0 (nI rm) (nI ud) (nI nu) sd (nI qn) (nI qw) qo (nI qb) (nI qp) qa (nI qi) (nI oc))), (g 20, .inl (cI, 4, .inl (l4 (nI l0) (nI l1) (nI dm) (nI l3)))), (g 31, .inl (cI, 120, .inl nw)), (g 0, .inl (cI, 1600, .inl (fun j => nI (tb j)))), (g 53, .inl (cI, 32, .inl rw_)), (g 9, .inl (cI, 6, .inl rf))] (skI D (skT cI cJ cC cZ cS) (fun (r : Int32) (u : va_W) => ∃ (hR2 : Nat → Nat), ∃ (rm2 : Nat), ∃ (rw_2 : Nat → Int32), ∃ (rf2 : Nat → Int32), rm2 ≤ 16 ∧ (∀ j, j < rm2 → rw_2 (2 * j) = nI (hR2 j / 10) ∧ rw_2 (2 * j + 1) = nI (hR2 j % 10)) ∧ hearR dm U tb ta rm hR rf r rm2 hR2 rf2 ∧ u = [(mm, .inr (12, mo g 0 (nI pa) (nI pe) pd (nI pb) pp pf pg pn rt rn (nI cd) sn (nI il) tk am at_ aa 0 0 (-1) wt wy 0 (nI rm2) (nI ud) (nI nu) sd (nI qn) (nI qw) qo (nI qb) (nI qp) qa (nI qi) (nI oc))), (g 20, .inl (cI, 4, .inl (l4 (nI l0) (nI l1) (nI dm) (nI l3)))), (g 31, .inl (cI, 120, .inl nw)), (g 0, .inl (cI, 1600, .inl (fun j => nI (tb j)))), (g 53, .inl (cI, 32, .inl rw_2)), (g 9, .inl (cI, 6, .inl rf2))])) := by
  refine skM_of (by decide +kernel) (Nat.le_of_ble_eq_true rfl) ?_
  intro p e s m below meth c A ls E hP hD hl
  obtain ⟨hx, hb, hr, hml, hlocks, hin, hown, hts, hK, hA⟩ := E
  have hown : s.vm.findClass RX12 = some m.cls := hown
  have hS : va_S A s.heap s.heap [] := va_S.rf
  have hl : lv_has ls 4 [(0, .ref mm)] := hl
  refine lv_aload_n hx hb dX12_hear_0 rfl (lv_at hl 0 rfl) ?_
  refine sk_get (v := .int (nI ta)) (C := RX12) (T := TX12) (N := 92) hx hb hts inlX12 hown hK hP 0 rfl rfl 1 (by decide) w_5_156 rfl dX12_hear_1 ?_
  refine lv_istore_n (lv' := [(1, .int (nI ta)), (0, .ref mm)]) hx hb dX12_hear_4 rfl hl (by decide) rfl (fun ls hl => ?_)
  refine lv_aload_n hx hb dX12_hear_5 rfl (lv_at hl 1 rfl) ?_
  refine lv_iconst (v := 0) hx hb dX12_hear_6 (by decide) ?_
  refine sk_put (ws' := [(mm, .inr (12, mo g 0 (nI pa) (nI pe) pd (nI pb) pp pf pg pn rt rn (nI cd) sn (nI il) tk am at_ aa 0 0 (-1) wt wy 0 (nI rm) (nI ud) (nI nu) sd (nI qn) (nI qw) qo (nI qb) (nI qp) qa (nI qi) (nI oc))), (g 20, .inl (cI, 4, .inl (l4 (nI l0) (nI l1) (nI dm) (nI l3)))), (g 31, .inl (cI, 120, .inl nw)), (g 0, .inl (cI, 1600, .inl (fun j => nI (tb j)))), (g 53, .inl (cI, 32, .inl rw_)), (g 9, .inl (cI, 6, .inl rf))]) (C := RX12) (T := TX12) (N := 92) (v := .int 0) hx hb hts inlX12 tyX12 tyX12_ok nmX12 hown hK hP hD hS 0 rfl rfl 1 (by decide) w_5_156 rfl rfl rfl (Nat.le_of_ble_eq_true rfl) rfl dX12_hear_7 (fun H locs hP hD hS => ?_)
  have jn_1 : ∀ (bq : Nat) (H : Heap) (locs : List Loc) (ls : Array Slot), (bq ≤ 1) → ((bq = 0 ∧ ¬ hearC dm U tb ta) ∨ (bq = 1 ∧ 1 ≤ dm ∧ 2 ≤ ta ∧ ta ≤ 32 ∧ ta % 2 = 0)) → va_P D vwCl [(mm, .inr (12, mo g 0 (nI pa) (nI pe) pd (nI pb) pp pf pg pn rt rn (nI cd) sn (nI il) tk am at_ aa 0 0 (-1) wt wy 0 (nI rm) (nI ud) (nI nu) sd (nI qn) (nI qw) qo (nI qb) (nI qp) qa (nI qi) (nI oc))), (g 20, .inl (cI, 4, .inl (l4 (nI l0) (nI l1) (nI dm) (nI l3)))), (g 31, .inl (cI, 120, .inl nw)), (g 0, .inl (cI, 1600, .inl (fun j => nI (tb j)))), (g 53, .inl (cI, 32, .inl rw_)), (g 9, .inl (cI, 6, .inl rf))] H → va_D A [(mm, .inr (12, mo g 0 (nI pa) (nI pe) pd (nI pb) pp pf pg pn rt rn (nI cd) sn (nI il) tk am at_ aa 0 0 (-1) wt wy 0 (nI rm) (nI ud) (nI nu) sd (nI qn) (nI qw) qo (nI qb) (nI qp) qa (nI qi) (nI oc))), (g 20, .inl (cI, 4, .inl (l4 (nI l0) (nI l1) (nI dm) (nI l3)))), (g 31, .inl (cI, 120, .inl nw)), (g 0, .inl (cI, 1600, .inl (fun j => nI (tb j)))), (g 53, .inl (cI, 32, .inl rw_)), (g 9, .inl (cI, 6, .inl rf))] → va_S A s.heap H locs → lv_has ls 4 [(1, .int (nI ta)), (0, .ref mm)] → W p l e { frames := 3, cells := 0, slots := 0, locals := 68 } s m ([.ref mm] : List Value).toArray below meth c H locs 0 0 (MQ below (skI D (skT cI cJ cC cZ cS) (fun (r : Int32) (u : va_W) => ∃ (hR2 : Nat → Nat), ∃ (rm2 : Nat), ∃ (rw_2 : Nat → Int32), ∃ (rf2 : Nat → Int32), rm2 ≤ 16 ∧ (∀ j, j < rm2 → rw_2 (2 * j) = nI (hR2 j / 10) ∧ rw_2 (2 * j + 1) = nI (hR2 j % 10)) ∧ hearR dm U tb ta rm hR rf r rm2 hR2 rf2 ∧ u = [(mm, .inr (12, mo g 0 (nI pa) (nI pe) pd (nI pb) pp pf pg pn rt rn (nI cd) sn (nI il) tk am at_ aa 0 0 (-1) wt wy 0 (nI rm2) (nI ud) (nI nu) sd (nI qn) (nI qw) qo (nI qb) (nI qp) qa (nI qi) (nI oc))), (g 20, .inl (cI, 4, .inl (l4 (nI l0) (nI l1) (nI dm) (nI l3)))), (g 31, .inl (cI, 120, .inl nw)), (g 0, .inl (cI, 1600, .inl (fun j => nI (tb j)))), (g 53, .inl (cI, 32, .inl rw_2)), (g 9, .inl (cI, 6, .inl rf2))]) A) ([.ref mm] : List Value).toArray s 0 0 A) (F0 m 40 ls [.int (nI bq)]) := by
    intro bq H locs ls hbq1 hbq hP hD hS hl
    refine lv_istore_n (lv' := [(2, .int (nI bq)), (1, .int (nI ta)), (0, .ref mm)]) hx hb dX12_hear_40 rfl hl (by decide) rfl (fun ls hl => ?_)
    refine lv_iconst (v := 0) hx hb dX12_hear_41 (by decide) ?_
    refine lv_istore_n (lv' := [(3, .int 0), (2, .int (nI bq)), (1, .int (nI ta)), (0, .ref mm)]) hx hb dX12_hear_42 rfl hl (by decide) rfl (fun ls hl => ?_)
    have lp_2 : ∀ (n_3 : Nat) (i : Nat) (gb : Nat) (H : Heap) (locs : List Loc) (ls : Array Slot), ta + 2 - i < n_3 → (i ≤ ta + 1) → (gb = 0 ∨ (i % 2 = 0 ∧ ta % 2 = 0 ∧ i ≤ ta)) → (gb ≤ 1) → ((gb = 0 ∧ ¬ hearC dm U tb ta) ∨ (gb = 1 ∧ 1 ≤ dm ∧ 2 ≤ ta ∧ ta ≤ 32 ∧ ta % 2 = 0 ∧ hrC dm U tb i)) → va_P D vwCl [(mm, .inr (12, mo g 0 (nI pa) (nI pe) pd (nI pb) pp pf pg pn rt rn (nI cd) sn (nI il) tk am at_ aa 0 0 (-1) wt wy 0 (nI rm) (nI ud) (nI nu) sd (nI qn) (nI qw) qo (nI qb) (nI qp) qa (nI qi) (nI oc))), (g 20, .inl (cI, 4, .inl (l4 (nI l0) (nI l1) (nI dm) (nI l3)))), (g 31, .inl (cI, 120, .inl nw)), (g 0, .inl (cI, 1600, .inl (fun j => nI (tb j)))), (g 53, .inl (cI, 32, .inl rw_)), (g 9, .inl (cI, 6, .inl rf))] H → va_D A [(mm, .inr (12, mo g 0 (nI pa) (nI pe) pd (nI pb) pp pf pg pn rt rn (nI cd) sn (nI il) tk am at_ aa 0 0 (-1) wt wy 0 (nI rm) (nI ud) (nI nu) sd (nI qn) (nI qw) qo (nI qb) (nI qp) qa (nI qi) (nI oc))), (g 20, .inl (cI, 4, .inl (l4 (nI l0) (nI l1) (nI dm) (nI l3)))), (g 31, .inl (cI, 120, .inl nw)), (g 0, .inl (cI, 1600, .inl (fun j => nI (tb j)))), (g 53, .inl (cI, 32, .inl rw_)), (g 9, .inl (cI, 6, .inl rf))] → va_S A s.heap H locs → lv_has ls 4 [(3, .int (nI i)), (2, .int (nI gb)), (1, .int (nI ta)), (0, .ref mm)] → W p l e { frames := 3, cells := 0, slots := 0, locals := 68 } s m ([.ref mm] : List Value).toArray below meth c H locs 0 0 (MQ below (skI D (skT cI cJ cC cZ cS) (fun (r : Int32) (u : va_W) => ∃ (hR2 : Nat → Nat), ∃ (rm2 : Nat), ∃ (rw_2 : Nat → Int32), ∃ (rf2 : Nat → Int32), rm2 ≤ 16 ∧ (∀ j, j < rm2 → rw_2 (2 * j) = nI (hR2 j / 10) ∧ rw_2 (2 * j + 1) = nI (hR2 j % 10)) ∧ hearR dm U tb ta rm hR rf r rm2 hR2 rf2 ∧ u = [(mm, .inr (12, mo g 0 (nI pa) (nI pe) pd (nI pb) pp pf pg pn rt rn (nI cd) sn (nI il) tk am at_ aa 0 0 (-1) wt wy 0 (nI rm2) (nI ud) (nI nu) sd (nI qn) (nI qw) qo (nI qb) (nI qp) qa (nI qi) (nI oc))), (g 20, .inl (cI, 4, .inl (l4 (nI l0) (nI l1) (nI dm) (nI l3)))), (g 31, .inl (cI, 120, .inl nw)), (g 0, .inl (cI, 1600, .inl (fun j => nI (tb j)))), (g 53, .inl (cI, 32, .inl rw_2)), (g 9, .inl (cI, 6, .inl rf2))]) A) ([.ref mm] : List Value).toArray s 0 0 A) (F0 m 43 ls []) := by
      intro n_3
      induction n_3 with
      | zero => intro i gb H locs ls hm; exact absurd hm (Nat.not_lt_zero _)
      | succ n_3 ih_lp_2 =>
        intro i gb H locs ls hm hi hi2 hgb1 hgb hP hD hS hl
        refine lv_iload_n hx hb dX12_hear_43 rfl (lv_at hl 0 rfl) ?_
        refine lv_iload_n hx hb dX12_hear_44 rfl (lv_at hl 2 rfl) ?_
        refine lv_icmp_ge (tgt := 77) hx hb dX12_hear_45 (by decide) (fun c_4 => ?_) (fun c_4 => ?_)
        · have c_4 : ta ≤ i := (nle ta i (by omega) (by omega)).mp c_4
          refine lv_iload_n hx hb dX12_hear_77 rfl (lv_at hl 1 rfl) ?_
          refine lv_if_ne (tgt := 87) hx hb dX12_hear_78 (by decide) (fun c_5 => ?_) (fun c_5 => ?_)
          · have c_5 : ¬ (gb = 0) := fun h => c_5 ((neq gb 0 (by omega) (by omega)).mpr h)
            have hcc : hearC dm U tb ta := (by obtain ⟨h1, h2, h3, h4, h5, h6⟩ := hgb.resolve_left (fun q => absurd q.1 (by omega)); exact ⟨h2, h3, h4, h5, hrC_e h6 (by omega)⟩)
            have hl32 := hcc.2.2.1
            refine lv_iconst (v := 0) hx hb dX12_hear_87 (by decide) ?_
            refine lv_istore_n (lv' := [(3, .int 0), (2, .int (nI gb)), (1, .int (nI ta)), (0, .ref mm)]) hx hb dX12_hear_88 rfl hl (by decide) rfl (fun ls hl => ?_)
            have lp_6 : ∀ (n_7 : Nat) (i : Nat) (zr : Nat → Int32) (H : Heap) (locs : List Loc) (ls : Array Slot), ta - i < n_7 → (i ≤ ta) → (∀ k, k < i → zr k = nI (tb k)) → va_P D vwCl [(mm, .inr (12, mo g 0 (nI pa) (nI pe) pd (nI pb) pp pf pg pn rt rn (nI cd) sn (nI il) tk am at_ aa 0 0 (-1) wt wy 0 (nI rm) (nI ud) (nI nu) sd (nI qn) (nI qw) qo (nI qb) (nI qp) qa (nI qi) (nI oc))), (g 20, .inl (cI, 4, .inl (l4 (nI l0) (nI l1) (nI dm) (nI l3)))), (g 31, .inl (cI, 120, .inl nw)), (g 0, .inl (cI, 1600, .inl (fun j => nI (tb j)))), (g 53, .inl (cI, 32, .inl zr)), (g 9, .inl (cI, 6, .inl rf))] H → va_D A [(mm, .inr (12, mo g 0 (nI pa) (nI pe) pd (nI pb) pp pf pg pn rt rn (nI cd) sn (nI il) tk am at_ aa 0 0 (-1) wt wy 0 (nI rm) (nI ud) (nI nu) sd (nI qn) (nI qw) qo (nI qb) (nI qp) qa (nI qi) (nI oc))), (g 20, .inl (cI, 4, .inl (l4 (nI l0) (nI l1) (nI dm) (nI l3)))), (g 31, .inl (cI, 120, .inl nw)), (g 0, .inl (cI, 1600, .inl (fun j => nI (tb j)))), (g 53, .inl (cI, 32, .inl zr)), (g 9, .inl (cI, 6, .inl rf))] → va_S A s.heap H locs → lv_has ls 4 [(3, .int (nI i)), (2, .int (nI gb)), (1, .int (nI ta)), (0, .ref mm)] → W p l e { frames := 3, cells := 0, slots := 0, locals := 68 } s m ([.ref mm] : List Value).toArray below meth c H locs 0 0 (MQ below (skI D (skT cI cJ cC cZ cS) (fun (r : Int32) (u : va_W) => ∃ (hR2 : Nat → Nat), ∃ (rm2 : Nat), ∃ (rw_2 : Nat → Int32), ∃ (rf2 : Nat → Int32), rm2 ≤ 16 ∧ (∀ j, j < rm2 → rw_2 (2 * j) = nI (hR2 j / 10) ∧ rw_2 (2 * j + 1) = nI (hR2 j % 10)) ∧ hearR dm U tb ta rm hR rf r rm2 hR2 rf2 ∧ u = [(mm, .inr (12, mo g 0 (nI pa) (nI pe) pd (nI pb) pp pf pg pn rt rn (nI cd) sn (nI il) tk am at_ aa 0 0 (-1) wt wy 0 (nI rm2) (nI ud) (nI nu) sd (nI qn) (nI qw) qo (nI qb) (nI qp) qa (nI qi) (nI oc))), (g 20, .inl (cI, 4, .inl (l4 (nI l0) (nI l1) (nI dm) (nI l3)))), (g 31, .inl (cI, 120, .inl nw)), (g 0, .inl (cI, 1600, .inl (fun j => nI (tb j)))), (g 53, .inl (cI, 32, .inl rw_2)), (g 9, .inl (cI, 6, .inl rf2))]) A) ([.ref mm] : List Value).toArray s 0 0 A) (F0 m 89 ls []) := by
              intro n_7
              induction n_7 with
              | zero => intro i zr H locs ls hm; exact absurd hm (Nat.not_lt_zero _)
              | succ n_7 ih_lp_6 =>
                intro i zr H locs ls hm hi hrw hP hD hS hl
                refine lv_iload_n hx hb dX12_hear_89 rfl (lv_at hl 0 rfl) ?_
                refine lv_iload_n hx hb dX12_hear_90 rfl (lv_at hl 2 rfl) ?_
                refine lv_icmp_ge (tgt := 112) hx hb dX12_hear_91 (by decide) (fun c_8 => ?_) (fun c_8 => ?_)
                · have c_8 : ta ≤ i := (nle ta i (by omega) (by omega)).mp c_8
                  refine lv_aload_n hx hb dX12_hear_112 rfl (lv_at hl 3 rfl) ?_
                  refine lv_iload_n hx hb dX12_hear_113 rfl (lv_at hl 2 rfl) ?_
                  refine lv_iconst (v := 2) hx hb dX12_hear_114 (by decide) ?_
                  refine lv_idiv hx hb dX12_hear_115 (by decide) ?_
                  refine sk_top (nI (ta / 2)) (ndiv ta 2 (by omega) (by omega) (by omega)) ?_
                  refine sk_put (ws' := [(mm, .inr (12, mo g 0 (nI pa) (nI pe) pd (nI pb) pp pf pg pn rt rn (nI cd) sn (nI il) tk am at_ aa 0 0 (-1) wt wy 0 (nI (ta / 2)) (nI ud) (nI nu) sd (nI qn) (nI qw) qo (nI qb) (nI qp) qa (nI qi) (nI oc))), (g 20, .inl (cI, 4, .inl (l4 (nI l0) (nI l1) (nI dm) (nI l3)))), (g 31, .inl (cI, 120, .inl nw)), (g 0, .inl (cI, 1600, .inl (fun j => nI (tb j)))), (g 53, .inl (cI, 32, .inl zr)), (g 9, .inl (cI, 6, .inl rf))]) (C := RX12) (T := TX12) (N := 92) (v := .int (nI (ta / 2))) hx hb hts inlX12 tyX12 tyX12_ok nmX12 hown hK hP hD hS 0 rfl rfl 52 (by decide) w_5_207 rfl rfl rfl (Nat.le_of_ble_eq_true rfl) rfl dX12_hear_116 (fun H locs hP hD hS => ?_)
                  refine lv_aload_n hx hb dX12_hear_119 rfl (lv_at hl 3 rfl) ?_
                  refine sk_get (v := .int (nI (ta / 2))) (C := RX12) (T := TX12) (N := 92) hx hb hts inlX12 hown hK hP 0 rfl rfl 52 (by decide) w_5_207 rfl dX12_hear_120 ?_
                  exact sk_iret hx hb hr rfl hlocks hK hP hD hS (⟨(hrR tb), ta / 2, zr, rf, by omega, (hr_rows (fun k hk => hrw k (by omega)) hcc), kB_1 hcc ⟨rfl, rfl, rfl, rfl⟩, rfl⟩) (Nat.le_of_ble_eq_true rfl) (Nat.le_of_ble_eq_true rfl) dX12_hear_123
                · have c_8 : ¬ (ta ≤ i) := fun h => c_8 ((nle ta i (by omega) (by omega)).mpr h)
                  refine lv_aload_n hx hb dX12_hear_94 rfl (lv_at hl 3 rfl) ?_
                  refine sk_get (v := .ref (g 53)) (C := RX12) (T := TX12) (N := 92) hx hb hts inlX12 hown hK hP 0 rfl rfl 53 (by decide) w_5_208 rfl dX12_hear_95 ?_
                  refine lv_iload_n hx hb dX12_hear_98 rfl (lv_at hl 0 rfl) ?_
                  refine lv_aload_n hx hb dX12_hear_99 rfl (lv_at hl 3 rfl) ?_
                  refine sk_get (v := .ref (g 0)) (C := RX12) (T := TX12) (N := 92) hx hb hts inlX12 hown hK hP 0 rfl rfl 0 (by decide) w_5_155 rfl dX12_hear_100 ?_
                  refine lv_iload_n hx hb dX12_hear_103 rfl (lv_at hl 0 rfl) ?_
                  refine va_iald hx hb hK.1 hP 3 0 rfl rfl (vin i 1600 (by omega) (by omega)) dX12_hear_104 ?_
                  refine sk_top (nI (tb i)) (nrd tb i (by omega)) ?_
                  have hb_9 := htb i
                  refine sk_iastE (k := i) (ws' := fun f_10 => [(mm, .inr (12, mo g 0 (nI pa) (nI pe) pd (nI pb) pp pf pg pn rt rn (nI cd) sn (nI il) tk am at_ aa 0 0 (-1) wt wy 0 (nI rm) (nI ud) (nI nu) sd (nI qn) (nI qw) qo (nI qb) (nI qp) qa (nI qi) (nI oc))), (g 20, .inl (cI, 4, .inl (l4 (nI l0) (nI l1) (nI dm) (nI l3)))), (g 31, .inl (cI, 120, .inl nw)), (g 0, .inl (cI, 1600, .inl (fun j => nI (tb j)))), (g 53, .inl (cI, 32, .inl f_10)), (g 9, .inl (cI, 6, .inl rf))]) hx hb hK hP hD hS 4 0 rfl rfl (by omega) (by omega) (fun _ => rfl) dX12_hear_105 (fun f_10 H locs ef_11 hP hD hS => ?_)
                  refine lv_iinc (v := nI (i + 1)) (lv' := [(3, .int (nI (i + 1))), (2, .int (nI gb)), (1, .int (nI ta)), (0, .ref mm)]) hx hb dX12_hear_106 hl (k := 0) rfl (ninc i 1 (by decide)) (by decide) rfl (fun ls hl => ?_)
                  refine lv_goto (tgt := 89) hx hb dX12_hear_109 (by decide) ?_
                  exact ih_lp_6 (i + 1) f_10 _ _ _ (by omega) (by omega) (kc_n hrw ef_11) hP hD hS (lv_sub hl [0, 1, 2, 3] rfl)
            exact lp_6 (ta - 0 + 1) 0 rw_ _ _ _ (Nat.lt_succ_self _) (by omega) (fun k hk => absurd hk (Nat.not_lt_zero k)) hP hD hS (lv_sub hl [0, 1, 2, 3] rfl)
          · have c_5 : gb = 0 := (neq gb 0 (by omega) (by omega)).mp c_5
            refine lv_aload_n hx hb dX12_hear_81 rfl (lv_at hl 3 rfl) ?_
            refine lv_iconst (v := 1) hx hb dX12_hear_82 (by decide) ?_
            refine sk_Vi (q0 := 0) (n := 1) (rest := []) (wr := [(g 20, .inl (cI, 4, .inl (l4 (nI l0) (nI l1) (nI dm) (nI l3)))), (g 31, .inl (cI, 120, .inl nw)), (g 0, .inl (cI, 1600, .inl (fun j => nI (tb j)))), (g 53, .inl (cI, 32, .inl rw_))]) ⟨hx, hb, hml, hown, hts⟩ hl.1 (c_nm_refuses l D cI cJ cC cZ cS mm g 0 pa pe pd pb pp pf pg pn rt rn cd sn il tk am at_ aa wt wy rm ud nu sd qn qw qo qb qp qa qi oc 1 rf (by omega)) w_8_97 w_8_99 w_0_104 w_1_14 w_8_100 (by decide +kernel) ⟨⟨(Nat.le_of_ble_eq_true rfl), (Nat.le_of_ble_eq_true rfl)⟩, (Nat.le_of_ble_eq_true rfl), (Nat.le_of_ble_eq_true rfl)⟩ hK hP hD hS hA [0, 5] [1, 2, 3, 4] rfl rfl (by decide +kernel) (by decide +kernel) (by decide +kernel) rfl rfl rfl rfl (Nat.le_of_ble_eq_true rfl) dX12_hear_83 (fun r_13 u H locs hw hP hD hS => ?_)
            obtain ⟨rf2_12, hrf_14, rfl, rfl⟩ := hw
            have hP : va_P D vwCl [(g 20, .inl (cI, 4, .inl (l4 (nI l0) (nI l1) (nI dm) (nI l3)))), (g 31, .inl (cI, 120, .inl nw)), (g 0, .inl (cI, 1600, .inl (fun j => nI (tb j)))), (g 53, .inl (cI, 32, .inl rw_)), (mm, .inr (12, mo g 0 (nI pa) (nI pe) pd (nI pb) pp pf pg pn rt rn (nI cd) sn (nI il) tk am at_ aa 0 0 (-1) wt wy 0 (nI rm) (nI ud) (nI nu) sd (nI qn) (nI qw) qo (nI qb) (nI qp) qa (nI qi) (nI oc))), (g 9, .inl (cI, 6, .inl rf2_12))] H := hP
            have hD : va_D A [(g 20, .inl (cI, 4, .inl (l4 (nI l0) (nI l1) (nI dm) (nI l3)))), (g 31, .inl (cI, 120, .inl nw)), (g 0, .inl (cI, 1600, .inl (fun j => nI (tb j)))), (g 53, .inl (cI, 32, .inl rw_)), (mm, .inr (12, mo g 0 (nI pa) (nI pe) pd (nI pb) pp pf pg pn rt rn (nI cd) sn (nI il) tk am at_ aa 0 0 (-1) wt wy 0 (nI rm) (nI ud) (nI nu) sd (nI qn) (nI qw) qo (nI qb) (nI qp) qa (nI qi) (nI oc))), (g 9, .inl (cI, 6, .inl rf2_12))] := hD
            have hP := hP.sub (ws' := [(mm, .inr (12, mo g 0 (nI pa) (nI pe) pd (nI pb) pp pf pg pn rt rn (nI cd) sn (nI il) tk am at_ aa 0 0 (-1) wt wy 0 (nI rm) (nI ud) (nI nu) sd (nI qn) (nI qw) qo (nI qb) (nI qp) qa (nI qi) (nI oc))), (g 20, .inl (cI, 4, .inl (l4 (nI l0) (nI l1) (nI dm) (nI l3)))), (g 31, .inl (cI, 120, .inl nw)), (g 0, .inl (cI, 1600, .inl (fun j => nI (tb j)))), (g 53, .inl (cI, 32, .inl rw_)), (g 9, .inl (cI, 6, .inl rf2_12))]) [4, 0, 1, 2, 3, 5] rfl
            have hD := hD.sub (ws' := [(mm, .inr (12, mo g 0 (nI pa) (nI pe) pd (nI pb) pp pf pg pn rt rn (nI cd) sn (nI il) tk am at_ aa 0 0 (-1) wt wy 0 (nI rm) (nI ud) (nI nu) sd (nI qn) (nI qw) qo (nI qb) (nI qp) qa (nI qi) (nI oc))), (g 20, .inl (cI, 4, .inl (l4 (nI l0) (nI l1) (nI dm) (nI l3)))), (g 31, .inl (cI, 120, .inl nw)), (g 0, .inl (cI, 1600, .inl (fun j => nI (tb j)))), (g 53, .inl (cI, 32, .inl rw_)), (g 9, .inl (cI, 6, .inl rf2_12))]) [4, 0, 1, 2, 3, 5] (by decide +kernel) rfl
            exact sk_iret hx hb hr rfl hlocks hK hP hD hS (⟨hR, rm, rw_, rf2_12, by omega, hhr, kB_0 (by obtain ⟨h1, h2⟩ := hgb.resolve_right (fun q => absurd q.1 (by omega)); exact h2) ⟨rfl, rfl, rfl, hrf_14⟩, rfl⟩) (Nat.le_of_ble_eq_true rfl) (Nat.le_of_ble_eq_true rfl) dX12_hear_86
        · have c_4 : ¬ (ta ≤ i) := fun h => c_4 ((nle ta i (by omega) (by omega)).mpr h)
          refine lv_iload_n hx hb dX12_hear_48 rfl (lv_at hl 1 rfl) ?_
          refine lv_if_eq (tgt := 77) hx hb dX12_hear_49 (by decide) (fun c_15 => ?_) (fun c_15 => ?_)
          · have c_15 : gb = 0 := (neq gb 0 (by omega) (by omega)).mp c_15
            refine lv_iload_n hx hb dX12_hear_77 rfl (lv_at hl 1 rfl) ?_
            refine lv_if_ne (tgt := 87) hx hb dX12_hear_78 (by decide) (fun c_16 => ?_) (fun c_16 => ?_)
            · have c_16 : ¬ (gb = 0) := fun h => c_16 ((neq gb 0 (by omega) (by omega)).mpr h)
              have hcc : hearC dm U tb ta := (by obtain ⟨h1, h2, h3, h4, h5, h6⟩ := hgb.resolve_left (fun q => absurd q.1 (by omega)); exact ⟨h2, h3, h4, h5, hrC_e h6 (by omega)⟩)
              have hl32 := hcc.2.2.1
              refine lv_iconst (v := 0) hx hb dX12_hear_87 (by decide) ?_
              refine lv_istore_n (lv' := [(3, .int 0), (2, .int (nI gb)), (1, .int (nI ta)), (0, .ref mm)]) hx hb dX12_hear_88 rfl hl (by decide) rfl (fun ls hl => ?_)
              have lp_17 : ∀ (n_18 : Nat) (i : Nat) (zr : Nat → Int32) (H : Heap) (locs : List Loc) (ls : Array Slot), ta - i < n_18 → (i ≤ ta) → (∀ k, k < i → zr k = nI (tb k)) → va_P D vwCl [(mm, .inr (12, mo g 0 (nI pa) (nI pe) pd (nI pb) pp pf pg pn rt rn (nI cd) sn (nI il) tk am at_ aa 0 0 (-1) wt wy 0 (nI rm) (nI ud) (nI nu) sd (nI qn) (nI qw) qo (nI qb) (nI qp) qa (nI qi) (nI oc))), (g 20, .inl (cI, 4, .inl (l4 (nI l0) (nI l1) (nI dm) (nI l3)))), (g 31, .inl (cI, 120, .inl nw)), (g 0, .inl (cI, 1600, .inl (fun j => nI (tb j)))), (g 53, .inl (cI, 32, .inl zr)), (g 9, .inl (cI, 6, .inl rf))] H → va_D A [(mm, .inr (12, mo g 0 (nI pa) (nI pe) pd (nI pb) pp pf pg pn rt rn (nI cd) sn (nI il) tk am at_ aa 0 0 (-1) wt wy 0 (nI rm) (nI ud) (nI nu) sd (nI qn) (nI qw) qo (nI qb) (nI qp) qa (nI qi) (nI oc))), (g 20, .inl (cI, 4, .inl (l4 (nI l0) (nI l1) (nI dm) (nI l3)))), (g 31, .inl (cI, 120, .inl nw)), (g 0, .inl (cI, 1600, .inl (fun j => nI (tb j)))), (g 53, .inl (cI, 32, .inl zr)), (g 9, .inl (cI, 6, .inl rf))] → va_S A s.heap H locs → lv_has ls 4 [(3, .int (nI i)), (2, .int (nI gb)), (1, .int (nI ta)), (0, .ref mm)] → W p l e { frames := 3, cells := 0, slots := 0, locals := 68 } s m ([.ref mm] : List Value).toArray below meth c H locs 0 0 (MQ below (skI D (skT cI cJ cC cZ cS) (fun (r : Int32) (u : va_W) => ∃ (hR2 : Nat → Nat), ∃ (rm2 : Nat), ∃ (rw_2 : Nat → Int32), ∃ (rf2 : Nat → Int32), rm2 ≤ 16 ∧ (∀ j, j < rm2 → rw_2 (2 * j) = nI (hR2 j / 10) ∧ rw_2 (2 * j + 1) = nI (hR2 j % 10)) ∧ hearR dm U tb ta rm hR rf r rm2 hR2 rf2 ∧ u = [(mm, .inr (12, mo g 0 (nI pa) (nI pe) pd (nI pb) pp pf pg pn rt rn (nI cd) sn (nI il) tk am at_ aa 0 0 (-1) wt wy 0 (nI rm2) (nI ud) (nI nu) sd (nI qn) (nI qw) qo (nI qb) (nI qp) qa (nI qi) (nI oc))), (g 20, .inl (cI, 4, .inl (l4 (nI l0) (nI l1) (nI dm) (nI l3)))), (g 31, .inl (cI, 120, .inl nw)), (g 0, .inl (cI, 1600, .inl (fun j => nI (tb j)))), (g 53, .inl (cI, 32, .inl rw_2)), (g 9, .inl (cI, 6, .inl rf2))]) A) ([.ref mm] : List Value).toArray s 0 0 A) (F0 m 89 ls []) := by
                intro n_18
                induction n_18 with
                | zero => intro i zr H locs ls hm; exact absurd hm (Nat.not_lt_zero _)
                | succ n_18 ih_lp_17 =>
                  intro i zr H locs ls hm hi hrw hP hD hS hl
                  refine lv_iload_n hx hb dX12_hear_89 rfl (lv_at hl 0 rfl) ?_
                  refine lv_iload_n hx hb dX12_hear_90 rfl (lv_at hl 2 rfl) ?_
                  refine lv_icmp_ge (tgt := 112) hx hb dX12_hear_91 (by decide) (fun c_19 => ?_) (fun c_19 => ?_)
                  · have c_19 : ta ≤ i := (nle ta i (by omega) (by omega)).mp c_19
                    refine lv_aload_n hx hb dX12_hear_112 rfl (lv_at hl 3 rfl) ?_
                    refine lv_iload_n hx hb dX12_hear_113 rfl (lv_at hl 2 rfl) ?_
                    refine lv_iconst (v := 2) hx hb dX12_hear_114 (by decide) ?_
                    refine lv_idiv hx hb dX12_hear_115 (by decide) ?_
                    refine sk_top (nI (ta / 2)) (ndiv ta 2 (by omega) (by omega) (by omega)) ?_
                    refine sk_put (ws' := [(mm, .inr (12, mo g 0 (nI pa) (nI pe) pd (nI pb) pp pf pg pn rt rn (nI cd) sn (nI il) tk am at_ aa 0 0 (-1) wt wy 0 (nI (ta / 2)) (nI ud) (nI nu) sd (nI qn) (nI qw) qo (nI qb) (nI qp) qa (nI qi) (nI oc))), (g 20, .inl (cI, 4, .inl (l4 (nI l0) (nI l1) (nI dm) (nI l3)))), (g 31, .inl (cI, 120, .inl nw)), (g 0, .inl (cI, 1600, .inl (fun j => nI (tb j)))), (g 53, .inl (cI, 32, .inl zr)), (g 9, .inl (cI, 6, .inl rf))]) (C := RX12) (T := TX12) (N := 92) (v := .int (nI (ta / 2))) hx hb hts inlX12 tyX12 tyX12_ok nmX12 hown hK hP hD hS 0 rfl rfl 52 (by decide) w_5_207 rfl rfl rfl (Nat.le_of_ble_eq_true rfl) rfl dX12_hear_116 (fun H locs hP hD hS => ?_)
                    refine lv_aload_n hx hb dX12_hear_119 rfl (lv_at hl 3 rfl) ?_
                    refine sk_get (v := .int (nI (ta / 2))) (C := RX12) (T := TX12) (N := 92) hx hb hts inlX12 hown hK hP 0 rfl rfl 52 (by decide) w_5_207 rfl dX12_hear_120 ?_
                    exact sk_iret hx hb hr rfl hlocks hK hP hD hS (⟨(hrR tb), ta / 2, zr, rf, by omega, (hr_rows (fun k hk => hrw k (by omega)) hcc), kB_1 hcc ⟨rfl, rfl, rfl, rfl⟩, rfl⟩) (Nat.le_of_ble_eq_true rfl) (Nat.le_of_ble_eq_true rfl) dX12_hear_123
                  · have c_19 : ¬ (ta ≤ i) := fun h => c_19 ((nle ta i (by omega) (by omega)).mpr h)
                    refine lv_aload_n hx hb dX12_hear_94 rfl (lv_at hl 3 rfl) ?_
                    refine sk_get (v := .ref (g 53)) (C := RX12) (T := TX12) (N := 92) hx hb hts inlX12 hown hK hP 0 rfl rfl 53 (by decide) w_5_208 rfl dX12_hear_95 ?_
                    refine lv_iload_n hx hb dX12_hear_98 rfl (lv_at hl 0 rfl) ?_
                    refine lv_aload_n hx hb dX12_hear_99 rfl (lv_at hl 3 rfl) ?_
                    refine sk_get (v := .ref (g 0)) (C := RX12) (T := TX12) (N := 92) hx hb hts inlX12 hown hK hP 0 rfl rfl 0 (by decide) w_5_155 rfl dX12_hear_100 ?_
                    refine lv_iload_n hx hb dX12_hear_103 rfl (lv_at hl 0 rfl) ?_
                    refine va_iald hx hb hK.1 hP 3 0 rfl rfl (vin i 1600 (by omega) (by omega)) dX12_hear_104 ?_
                    refine sk_top (nI (tb i)) (nrd tb i (by omega)) ?_
                    have hb_20 := htb i
                    refine sk_iastE (k := i) (ws' := fun f_21 => [(mm, .inr (12, mo g 0 (nI pa) (nI pe) pd (nI pb) pp pf pg pn rt rn (nI cd) sn (nI il) tk am at_ aa 0 0 (-1) wt wy 0 (nI rm) (nI ud) (nI nu) sd (nI qn) (nI qw) qo (nI qb) (nI qp) qa (nI qi) (nI oc))), (g 20, .inl (cI, 4, .inl (l4 (nI l0) (nI l1) (nI dm) (nI l3)))), (g 31, .inl (cI, 120, .inl nw)), (g 0, .inl (cI, 1600, .inl (fun j => nI (tb j)))), (g 53, .inl (cI, 32, .inl f_21)), (g 9, .inl (cI, 6, .inl rf))]) hx hb hK hP hD hS 4 0 rfl rfl (by omega) (by omega) (fun _ => rfl) dX12_hear_105 (fun f_21 H locs ef_22 hP hD hS => ?_)
                    refine lv_iinc (v := nI (i + 1)) (lv' := [(3, .int (nI (i + 1))), (2, .int (nI gb)), (1, .int (nI ta)), (0, .ref mm)]) hx hb dX12_hear_106 hl (k := 0) rfl (ninc i 1 (by decide)) (by decide) rfl (fun ls hl => ?_)
                    refine lv_goto (tgt := 89) hx hb dX12_hear_109 (by decide) ?_
                    exact ih_lp_17 (i + 1) f_21 _ _ _ (by omega) (by omega) (kc_n hrw ef_22) hP hD hS (lv_sub hl [0, 1, 2, 3] rfl)
              exact lp_17 (ta - 0 + 1) 0 rw_ _ _ _ (Nat.lt_succ_self _) (by omega) (fun k hk => absurd hk (Nat.not_lt_zero k)) hP hD hS (lv_sub hl [0, 1, 2, 3] rfl)
            · have c_16 : gb = 0 := (neq gb 0 (by omega) (by omega)).mp c_16
              refine lv_aload_n hx hb dX12_hear_81 rfl (lv_at hl 3 rfl) ?_
              refine lv_iconst (v := 1) hx hb dX12_hear_82 (by decide) ?_
              refine sk_Vi (q0 := 0) (n := 1) (rest := []) (wr := [(g 20, .inl (cI, 4, .inl (l4 (nI l0) (nI l1) (nI dm) (nI l3)))), (g 31, .inl (cI, 120, .inl nw)), (g 0, .inl (cI, 1600, .inl (fun j => nI (tb j)))), (g 53, .inl (cI, 32, .inl rw_))]) ⟨hx, hb, hml, hown, hts⟩ hl.1 (c_nm_refuses l D cI cJ cC cZ cS mm g 0 pa pe pd pb pp pf pg pn rt rn cd sn il tk am at_ aa wt wy rm ud nu sd qn qw qo qb qp qa qi oc 1 rf (by omega)) w_8_97 w_8_99 w_0_104 w_1_14 w_8_100 (by decide +kernel) ⟨⟨(Nat.le_of_ble_eq_true rfl), (Nat.le_of_ble_eq_true rfl)⟩, (Nat.le_of_ble_eq_true rfl), (Nat.le_of_ble_eq_true rfl)⟩ hK hP hD hS hA [0, 5] [1, 2, 3, 4] rfl rfl (by decide +kernel) (by decide +kernel) (by decide +kernel) rfl rfl rfl rfl (Nat.le_of_ble_eq_true rfl) dX12_hear_83 (fun r_24 u H locs hw hP hD hS => ?_)
              obtain ⟨rf2_23, hrf_25, rfl, rfl⟩ := hw
              have hP : va_P D vwCl [(g 20, .inl (cI, 4, .inl (l4 (nI l0) (nI l1) (nI dm) (nI l3)))), (g 31, .inl (cI, 120, .inl nw)), (g 0, .inl (cI, 1600, .inl (fun j => nI (tb j)))), (g 53, .inl (cI, 32, .inl rw_)), (mm, .inr (12, mo g 0 (nI pa) (nI pe) pd (nI pb) pp pf pg pn rt rn (nI cd) sn (nI il) tk am at_ aa 0 0 (-1) wt wy 0 (nI rm) (nI ud) (nI nu) sd (nI qn) (nI qw) qo (nI qb) (nI qp) qa (nI qi) (nI oc))), (g 9, .inl (cI, 6, .inl rf2_23))] H := hP
              have hD : va_D A [(g 20, .inl (cI, 4, .inl (l4 (nI l0) (nI l1) (nI dm) (nI l3)))), (g 31, .inl (cI, 120, .inl nw)), (g 0, .inl (cI, 1600, .inl (fun j => nI (tb j)))), (g 53, .inl (cI, 32, .inl rw_)), (mm, .inr (12, mo g 0 (nI pa) (nI pe) pd (nI pb) pp pf pg pn rt rn (nI cd) sn (nI il) tk am at_ aa 0 0 (-1) wt wy 0 (nI rm) (nI ud) (nI nu) sd (nI qn) (nI qw) qo (nI qb) (nI qp) qa (nI qi) (nI oc))), (g 9, .inl (cI, 6, .inl rf2_23))] := hD
              have hP := hP.sub (ws' := [(mm, .inr (12, mo g 0 (nI pa) (nI pe) pd (nI pb) pp pf pg pn rt rn (nI cd) sn (nI il) tk am at_ aa 0 0 (-1) wt wy 0 (nI rm) (nI ud) (nI nu) sd (nI qn) (nI qw) qo (nI qb) (nI qp) qa (nI qi) (nI oc))), (g 20, .inl (cI, 4, .inl (l4 (nI l0) (nI l1) (nI dm) (nI l3)))), (g 31, .inl (cI, 120, .inl nw)), (g 0, .inl (cI, 1600, .inl (fun j => nI (tb j)))), (g 53, .inl (cI, 32, .inl rw_)), (g 9, .inl (cI, 6, .inl rf2_23))]) [4, 0, 1, 2, 3, 5] rfl
              have hD := hD.sub (ws' := [(mm, .inr (12, mo g 0 (nI pa) (nI pe) pd (nI pb) pp pf pg pn rt rn (nI cd) sn (nI il) tk am at_ aa 0 0 (-1) wt wy 0 (nI rm) (nI ud) (nI nu) sd (nI qn) (nI qw) qo (nI qb) (nI qp) qa (nI qi) (nI oc))), (g 20, .inl (cI, 4, .inl (l4 (nI l0) (nI l1) (nI dm) (nI l3)))), (g 31, .inl (cI, 120, .inl nw)), (g 0, .inl (cI, 1600, .inl (fun j => nI (tb j)))), (g 53, .inl (cI, 32, .inl rw_)), (g 9, .inl (cI, 6, .inl rf2_23))]) [4, 0, 1, 2, 3, 5] (by decide +kernel) rfl
              exact sk_iret hx hb hr rfl hlocks hK hP hD hS (⟨hR, rm, rw_, rf2_23, by omega, hhr, kB_0 (by obtain ⟨h1, h2⟩ := hgb.resolve_right (fun q => absurd q.1 (by omega)); exact h2) ⟨rfl, rfl, rfl, hrf_25⟩, rfl⟩) (Nat.le_of_ble_eq_true rfl) (Nat.le_of_ble_eq_true rfl) dX12_hear_86
          · have c_15 : ¬ (gb = 0) := fun h => c_15 ((neq gb 0 (by omega) (by omega)).mpr h)
            refine lv_aload_n hx hb dX12_hear_52 rfl (lv_at hl 3 rfl) ?_
            refine lv_aload_n hx hb dX12_hear_53 rfl (lv_at hl 3 rfl) ?_
            refine sk_get (v := .ref (g 0)) (C := RX12) (T := TX12) (N := 92) hx hb hts inlX12 hown hK hP 0 rfl rfl 0 (by decide) w_5_155 rfl dX12_hear_54 ?_
            refine lv_iload_n hx hb dX12_hear_57 rfl (lv_at hl 0 rfl) ?_
            refine va_iald hx hb hK.1 hP 3 0 rfl rfl (vin i 1600 (by omega) (by omega)) dX12_hear_58 ?_
            refine sk_top (nI (tb i)) (nrd tb i (by omega)) ?_
            have hb_26 := htb i
            refine lv_aload_n hx hb dX12_hear_59 rfl (lv_at hl 3 rfl) ?_
            refine sk_get (v := .ref (g 0)) (C := RX12) (T := TX12) (N := 92) hx hb hts inlX12 hown hK hP 0 rfl rfl 0 (by decide) w_5_155 rfl dX12_hear_60 ?_
            refine lv_iload_n hx hb dX12_hear_63 rfl (lv_at hl 0 rfl) ?_
            refine lv_iconst (v := 1) hx hb dX12_hear_64 (by decide) ?_
            refine lv_iadd hx hb dX12_hear_65 ?_
            refine sk_top (nI (i + 1)) (nI_add i 1) ?_
            refine va_iald hx hb hK.1 hP 3 0 rfl rfl (vin (i + 1) 1600 (by omega) (by omega)) dX12_hear_66 ?_
            refine sk_top (nI (tb (i + 1))) (nrd tb (i + 1) (by omega)) ?_
            have hb_27 := htb (i + 1)
            refine sk_Vi (q0 := 0) (n := 2) (rest := []) (wr := [(g 0, .inl (cI, 1600, .inl (fun j => nI (tb j)))), (g 53, .inl (cI, 32, .inl rw_)), (g 9, .inl (cI, 6, .inl rf))]) ⟨hx, hb, hml, hown, hts⟩ hl.1 (c_nm_canBeToldN l D cI cJ cC cZ cS mm g 0 pa pe pd pb pp pf pg pn rt rn cd sn il tk am at_ aa wt wy rm ud nu sd qn qw qo qb qp qa qi oc (tb i) (tb (i + 1)) l0 l1 dm l3 nw wn mN Ba We U ke lg (by omega) (by omega) (by omega) hnw) w_8_77 w_8_79 w_0_101 w_1_14 w_8_80 (by decide +kernel) ⟨⟨(Nat.le_of_ble_eq_true rfl), (Nat.le_of_ble_eq_true rfl)⟩, (Nat.le_of_ble_eq_true rfl), (Nat.le_of_ble_eq_true rfl)⟩ hK hP hD hS hA [0, 1, 2] [3, 4, 5] rfl rfl (by decide +kernel) (by decide +kernel) (by decide +kernel) rfl rfl rfl rfl (Nat.le_of_ble_eq_true rfl) dX12_hear_67 (fun r_29 u H locs hw hP hD hS => ?_)
            obtain ⟨b_28, hcb_30, rfl, rfl⟩ := hw
            have hP : va_P D vwCl [(g 0, .inl (cI, 1600, .inl (fun j => nI (tb j)))), (g 53, .inl (cI, 32, .inl rw_)), (g 9, .inl (cI, 6, .inl rf)), (mm, .inr (12, mo g 0 (nI pa) (nI pe) pd (nI pb) pp pf pg pn rt rn (nI cd) sn (nI il) tk am at_ aa 0 0 (-1) wt wy 0 (nI rm) (nI ud) (nI nu) sd (nI qn) (nI qw) qo (nI qb) (nI qp) qa (nI qi) (nI oc))), (g 20, .inl (cI, 4, .inl (l4 (nI l0) (nI l1) (nI dm) (nI l3)))), (g 31, .inl (cI, 120, .inl nw))] H := hP
            have hD : va_D A [(g 0, .inl (cI, 1600, .inl (fun j => nI (tb j)))), (g 53, .inl (cI, 32, .inl rw_)), (g 9, .inl (cI, 6, .inl rf)), (mm, .inr (12, mo g 0 (nI pa) (nI pe) pd (nI pb) pp pf pg pn rt rn (nI cd) sn (nI il) tk am at_ aa 0 0 (-1) wt wy 0 (nI rm) (nI ud) (nI nu) sd (nI qn) (nI qw) qo (nI qb) (nI qp) qa (nI qi) (nI oc))), (g 20, .inl (cI, 4, .inl (l4 (nI l0) (nI l1) (nI dm) (nI l3)))), (g 31, .inl (cI, 120, .inl nw))] := hD
            refine lv_istore_n (lv' := [(2, .int (nI b_28)), (3, .int (nI i)), (1, .int (nI ta)), (0, .ref mm)]) hx hb dX12_hear_70 rfl hl (by decide) rfl (fun ls hl => ?_)
            refine lv_iinc (v := nI (i + 2)) (lv' := [(3, .int (nI (i + 2))), (2, .int (nI b_28)), (1, .int (nI ta)), (0, .ref mm)]) hx hb dX12_hear_71 hl (k := 1) rfl (ninc i 2 (by decide)) (by decide) rfl (fun ls hl => ?_)
            refine lv_goto (tgt := 43) hx hb dX12_hear_74 (by decide) ?_
            have hP := hP.sub (ws' := [(mm, .inr (12, mo g 0 (nI pa) (nI pe) pd (nI pb) pp pf pg pn rt rn (nI cd) sn (nI il) tk am at_ aa 0 0 (-1) wt wy 0 (nI rm) (nI ud) (nI nu) sd (nI qn) (nI qw) qo (nI qb) (nI qp) qa (nI qi) (nI oc))), (g 20, .inl (cI, 4, .inl (l4 (nI l0) (nI l1) (nI dm) (nI l3)))), (g 31, .inl (cI, 120, .inl nw)), (g 0, .inl (cI, 1600, .inl (fun j => nI (tb j)))), (g 53, .inl (cI, 32, .inl rw_)), (g 9, .inl (cI, 6, .inl rf))]) [3, 4, 5, 0, 1, 2] rfl
            have hD := hD.sub (ws' := [(mm, .inr (12, mo g 0 (nI pa) (nI pe) pd (nI pb) pp pf pg pn rt rn (nI cd) sn (nI il) tk am at_ aa 0 0 (-1) wt wy 0 (nI rm) (nI ud) (nI nu) sd (nI qn) (nI qw) qo (nI qb) (nI qp) qa (nI qi) (nI oc))), (g 20, .inl (cI, 4, .inl (l4 (nI l0) (nI l1) (nI dm) (nI l3)))), (g 31, .inl (cI, 120, .inl nw)), (g 0, .inl (cI, 1600, .inl (fun j => nI (tb j)))), (g 53, .inl (cI, 32, .inl rw_)), (g 9, .inl (cI, 6, .inl rf))]) [3, 4, 5, 0, 1, 2] (by decide +kernel) rfl
            exact ih_lp_2 (i + 2) b_28 _ _ _ (by omega) (by omega) (by omega) (by omega) (by obtain ⟨h1, h2, h3, h4, h5, h6⟩ := hgb.resolve_left (fun q => absurd q.1 (by omega)); rcases hcb_30 with ⟨q1, q2⟩ | ⟨q1, q2⟩; exact Or.inl ⟨q1, fun hq => hrC_n (by omega) (by omega) q2 hq.2.2.2.2⟩; exact Or.inr ⟨q1, h2, h3, h4, h5, hrC_s h6 (by omega) q2⟩) hP hD hS (lv_sub hl [0, 1, 2, 3] rfl)
    exact lp_2 (ta + 2 - 0 + 1) 0 bq _ _ _ (Nat.lt_succ_self _) (by omega) (by omega) (by omega) (by rcases hbq with ⟨h1, h2⟩ | ⟨h1, h2, h3, h4, h5⟩; exact Or.inl ⟨h1, h2⟩; exact Or.inr ⟨h1, h2, h3, h4, h5, hrC_0 _ _ _⟩) hP hD hS (lv_sub hl [0, 1, 2, 3] rfl)
  refine lv_aload_n hx hb dX12_hear_10 rfl (lv_at hl 1 rfl) ?_
  refine sk_get (v := .int (nI il)) (C := RX12) (T := TX12) (N := 92) hx hb hts inlX12 hown hK hP 0 rfl rfl 29 (by decide) w_5_184 rfl dX12_hear_11 ?_
  refine lv_if_eq (tgt := 39) hx hb dX12_hear_14 (by decide) (fun c_31 => ?_) (fun c_31 => ?_)
  · have c_31 : il = 0 := (neq il 0 (by omega) (by omega)).mp c_31
    refine lv_iconst (v := 0) hx hb dX12_hear_39 (by decide) ?_
    exact jn_1 0 _ _ _ (by omega) (Or.inl ⟨rfl, fun hq => by obtain ⟨h1, h2, h3, h4, h5⟩ := hq; have h6 := hilb h1; omega⟩) hP hD hS (lv_sub hl [0, 1] rfl)
  · have c_31 : ¬ (il = 0) := fun h => c_31 ((neq il 0 (by omega) (by omega)).mpr h)
    refine lv_iload_n hx hb dX12_hear_17 rfl (lv_at hl 0 rfl) ?_
    refine lv_if_le (tgt := 39) hx hb dX12_hear_18 (by decide) (fun c_32 => ?_) (fun c_32 => ?_)
    · have c_32 : ta ≤ 0 := (nle ta 0 (by omega) (by omega)).mp c_32
      refine lv_iconst (v := 0) hx hb dX12_hear_39 (by decide) ?_
      exact jn_1 0 _ _ _ (by omega) (Or.inl ⟨rfl, fun hq => by obtain ⟨h1, h2, h3, h4, h5⟩ := hq; have h6 := hilb h1; omega⟩) hP hD hS (lv_sub hl [0, 1] rfl)
    · have c_32 : ¬ (ta ≤ 0) := fun h => c_32 ((nle ta 0 (by omega) (by omega)).mpr h)
      refine lv_iload_n hx hb dX12_hear_21 rfl (lv_at hl 0 rfl) ?_
      refine lv_iconst (v := 2) hx hb dX12_hear_22 (by decide) ?_
      refine lv_irem hx hb dX12_hear_23 (by decide) ?_
      refine sk_top (nI (ta % 2)) (nrem ta 2 (by omega) (by omega) (by omega)) ?_
      refine lv_if_ne (tgt := 39) hx hb dX12_hear_24 (by decide) (fun c_33 => ?_) (fun c_33 => ?_)
      · have c_33 : ¬ (ta % 2 = 0) := fun h => c_33 ((neq (ta % 2) 0 (by omega) (by omega)).mpr h)
        refine lv_iconst (v := 0) hx hb dX12_hear_39 (by decide) ?_
        exact jn_1 0 _ _ _ (by omega) (Or.inl ⟨rfl, fun hq => by obtain ⟨h1, h2, h3, h4, h5⟩ := hq; have h6 := hilb h1; omega⟩) hP hD hS (lv_sub hl [0, 1] rfl)
      · have c_33 : ta % 2 = 0 := (neq (ta % 2) 0 (by omega) (by omega)).mp c_33
        refine lv_iload_n hx hb dX12_hear_27 rfl (lv_at hl 0 rfl) ?_
        refine lv_iconst (v := 2) hx hb dX12_hear_28 (by decide) ?_
        refine lv_idiv hx hb dX12_hear_29 (by decide) ?_
        refine sk_top (nI (ta / 2)) (ndiv ta 2 (by omega) (by omega) (by omega)) ?_
        refine lv_bipush (v := 16) hx hb dX12_hear_30 (by decide) ?_
        refine lv_icmp_gt (tgt := 39) hx hb dX12_hear_32 (by decide) (fun c_34 => ?_) (fun c_34 => ?_)
        · have c_34 : 16 < ta / 2 := (nlt 16 (ta / 2) (by omega) (by omega)).mp c_34
          refine lv_iconst (v := 0) hx hb dX12_hear_39 (by decide) ?_
          exact jn_1 0 _ _ _ (by omega) (Or.inl ⟨rfl, fun hq => by obtain ⟨h1, h2, h3, h4, h5⟩ := hq; have h6 := hilb h1; omega⟩) hP hD hS (lv_sub hl [0, 1] rfl)
        · have c_34 : ¬ (16 < ta / 2) := fun h => c_34 ((nlt 16 (ta / 2) (by omega) (by omega)).mpr h)
          refine lv_iconst (v := 1) hx hb dX12_hear_35 (by decide) ?_
          refine lv_goto (tgt := 40) hx hb dX12_hear_36 (by decide) ?_
          exact jn_1 1 _ _ _ (by omega) (Or.inr ⟨rfl, by omega, by omega, by omega, by omega⟩) hP hD hS (lv_sub hl [0, 1] rfl)
