theorem dX12_image_0 : decode cX12_image 0 = .ok (.aload_n 0, 1) := q_aload_n0 (bat_get dg_X12_image_0_0 0 rfl rfl)
theorem dX12_image_1 : decode cX12_image 1 = .ok (.iconst 0, 1) := q_iconst0 (bat_get dg_X12_image_0_0 1 rfl rfl)
theorem dX12_image_2 : decode cX12_image 2 = .ok (.putfield 595, 3) := q_putfield (bat_get dg_X12_image_0_0 2 rfl rfl) rfl
theorem dX12_image_5 : decode cX12_image 5 = .ok (.aload_n 0, 1) := q_aload_n0 (bat_get dg_X12_image_0_0 3 rfl rfl)
theorem dX12_image_6 : decode cX12_image 6 = .ok (.aload_n 0, 1) := q_aload_n0 (bat_get dg_X12_image_0_0 4 rfl rfl)
theorem dX12_image_7 : decode cX12_image 7 = .ok (.getfield 63, 3) := q_getfield (bat_get dg_X12_image_0_0 5 rfl rfl) rfl
theorem dX12_image_10 : decode cX12_image 10 = .ok (.iconst 0, 1) := q_iconst0 (bat_get dg_X12_image_0_0 6 rfl rfl)
theorem dX12_image_11 : decode cX12_image 11 = .ok (.iaload, 1) := q_iaload (bat_get dg_X12_image_0_0 7 rfl rfl)
theorem dX12_image_12 : decode cX12_image 12 = .ok (.sipush 256, 3) := q_sipush (bat_get dg_X12_image_0_0 8 rfl rfl) rfl
theorem dX12_image_15 : decode cX12_image 15 = .ok (.idiv, 1) := q_idiv (bat_get dg_X12_image_0_0 9 rfl rfl)
theorem dX12_image_16 : decode cX12_image 16 = .ok (.invokevirtual 598, 3) := q_invokevirtual (bat_get dg_X12_image_0_0 10 rfl rfl) rfl
theorem dX12_image_19 : decode cX12_image 19 = .ok (.aload_n 0, 1) := q_aload_n0 (bat_get dg_X12_image_0_0 11 rfl rfl)
theorem dX12_image_20 : decode cX12_image 20 = .ok (.aload_n 0, 1) := q_aload_n0 (bat_get dg_X12_image_0_0 12 rfl rfl)
theorem dX12_image_21 : decode cX12_image 21 = .ok (.getfield 63, 3) := q_getfield (bat_get dg_X12_image_0_0 13 rfl rfl) rfl
theorem dX12_image_24 : decode cX12_image 24 = .ok (.iconst 0, 1) := q_iconst0 (bat_get dg_X12_image_0_0 14 rfl rfl)
theorem dX12_image_25 : decode cX12_image 25 = .ok (.iaload, 1) := q_iaload (bat_get dg_X12_image_0_0 15 rfl rfl)
theorem dX12_image_26 : decode cX12_image 26 = .ok (.sipush 256, 3) := q_sipush (bat_get dg_X12_image_0_0 16 rfl rfl) rfl
theorem dX12_image_29 : decode cX12_image 29 = .ok (.irem, 1) := q_irem (bat_get dg_X12_image_0_0 17 rfl rfl)
theorem dX12_image_30 : decode cX12_image 30 = .ok (.invokevirtual 598, 3) := q_invokevirtual (bat_get dg_X12_image_0_0 18 rfl rfl) rfl
theorem dX12_image_33 : decode cX12_image 33 = .ok (.aload_n 0, 1) := q_aload_n0 (bat_get dg_X12_image_0_0 19 rfl rfl)
theorem dX12_image_34 : decode cX12_image 34 = .ok (.aload_n 0, 1) := q_aload_n0 (bat_get dg_X12_image_0_0 20 rfl rfl)
theorem dX12_image_35 : decode cX12_image 35 = .ok (.getfield 63, 3) := q_getfield (bat_get dg_X12_image_0_0 21 rfl rfl) rfl
theorem dX12_image_38 : decode cX12_image 38 = .ok (.iconst 1, 1) := q_iconst1 (bat_get dg_X12_image_0_0 22 rfl rfl)
theorem dX12_image_39 : decode cX12_image 39 = .ok (.iaload, 1) := q_iaload (bat_get dg_X12_image_0_0 23 rfl rfl)
theorem dX12_image_40 : decode cX12_image 40 = .ok (.invokevirtual 598, 3) := q_invokevirtual (bat_get dg_X12_image_0_0 24 rfl rfl) rfl
theorem dX12_image_43 : decode cX12_image 43 = .ok (.iconst 0, 1) := q_iconst0 (bat_get dg_X12_image_0_0 25 rfl rfl)
theorem dX12_image_44 : decode cX12_image 44 = .ok (.istore_n 1, 1) := q_istore_n1 (bat_get dg_X12_image_0_0 26 rfl rfl)
theorem dX12_image_45 : decode cX12_image 45 = .ok (.iload_n 1, 1) := q_iload_n1 (bat_get dg_X12_image_0_0 27 rfl rfl)
theorem dX12_image_46 : decode cX12_image 46 = .ok (.iconst 3, 1) := q_iconst3 (bat_get dg_X12_image_0_0 28 rfl rfl)
theorem dX12_image_47 : decode cX12_image 47 = .ok (.aload_n 0, 1) := q_aload_n0 (bat_get dg_X12_image_0_0 29 rfl rfl)
theorem dX12_image_48 : decode cX12_image 48 = .ok (.invokevirtual 315, 3) := q_invokevirtual (bat_get dg_X12_image_0_0 30 rfl rfl) rfl
theorem dX12_image_51 : decode cX12_image 51 = .ok (.imul, 1) := q_imul (bat_get dg_X12_image_0_0 31 rfl rfl)
theorem dX12_image_52 : decode cX12_image 52 = .ok (.if_icmp .ge 21, 3) := q_if_icmp_ge (bat_get dg_X12_image_0_0 32 rfl rfl) rfl
theorem dX12_image_73 : decode cX12_image 73 = .ok (.aload_n 0, 1) := q_aload_n0 (bat_get dg_X12_image_0_0 33 rfl rfl)
theorem dX12_image_74 : decode cX12_image 74 = .ok (.aload_n 0, 1) := q_aload_n0 (bat_get dg_X12_image_0_0 34 rfl rfl)
theorem dX12_image_75 : decode cX12_image 75 = .ok (.getfield 189, 3) := q_getfield (bat_get dg_X12_image_0_0 35 rfl rfl) rfl
theorem dX12_image_78 : decode cX12_image 78 = .ok (.aload_n 0, 1) := q_aload_n0 (bat_get dg_X12_image_0_0 36 rfl rfl)
theorem dX12_image_79 : decode cX12_image 79 = .ok (.getfield 595, 3) := q_getfield (bat_get dg_X12_image_0_0 37 rfl rfl) rfl
theorem dX12_image_82 : decode cX12_image 82 = .ok (.invokestatic 601, 3) := q_invokestatic (bat_get dg_X12_image_0_0 38 rfl rfl) rfl
theorem dX12_image_85 : decode cX12_image 85 = .ok (.invokevirtual 598, 3) := q_invokevirtual (bat_get dg_X12_image_0_0 39 rfl rfl) rfl
theorem dg_X12_image_55_88 : bqL cX12_image 55 [(33, [42]), (34, [180, 2, 83]), (37, [172]), (0, [42]), (1, [42]), (2, [180, 0, 63]), (5, [5]), (6, [27]), (7, [96]), (8, [46]), (9, [182, 2, 86]), (12, [132, 1, 1]), (15, [167, 255, 231])] = true := by decide +kernel
theorem dX12_image_88 : decode cX12_image 88 = .ok (.aload_n 0, 1) := q_aload_n0 (bat_get dg_X12_image_55_88 0 rfl rfl)
theorem dX12_image_89 : decode cX12_image 89 = .ok (.getfield 595, 3) := q_getfield (bat_get dg_X12_image_55_88 1 rfl rfl) rfl
theorem dX12_image_92 : decode cX12_image 92 = .ok (.ireturn, 1) := q_ireturn (bat_get dg_X12_image_55_88 2 rfl rfl)
theorem dX12_image_55 : decode cX12_image 55 = .ok (.aload_n 0, 1) := q_aload_n0 (bat_get dg_X12_image_55_88 3 rfl rfl)
theorem dX12_image_56 : decode cX12_image 56 = .ok (.aload_n 0, 1) := q_aload_n0 (bat_get dg_X12_image_55_88 4 rfl rfl)
theorem dX12_image_57 : decode cX12_image 57 = .ok (.getfield 63, 3) := q_getfield (bat_get dg_X12_image_55_88 5 rfl rfl) rfl
theorem dX12_image_60 : decode cX12_image 60 = .ok (.iconst 2, 1) := q_iconst2 (bat_get dg_X12_image_55_88 6 rfl rfl)
theorem dX12_image_61 : decode cX12_image 61 = .ok (.iload_n 1, 1) := q_iload_n1 (bat_get dg_X12_image_55_88 7 rfl rfl)
theorem dX12_image_62 : decode cX12_image 62 = .ok (.iadd, 1) := q_iadd (bat_get dg_X12_image_55_88 8 rfl rfl)
theorem dX12_image_63 : decode cX12_image 63 = .ok (.iaload, 1) := q_iaload (bat_get dg_X12_image_55_88 9 rfl rfl)
theorem dX12_image_64 : decode cX12_image 64 = .ok (.invokevirtual 598, 3) := q_invokevirtual (bat_get dg_X12_image_55_88 10 rfl rfl) rfl
theorem dX12_image_67 : decode cX12_image 67 = .ok (.iinc 1 1, 3) := q_iinc (bat_get dg_X12_image_55_88 11 rfl rfl) rfl
theorem dX12_image_70 : decode cX12_image 70 = .ok (.goto (-25), 3) := q_goto (bat_get dg_X12_image_55_88 12 rfl rfl) rfl
theorem w_8_207 : (Cond.methodLink RX12 598 yX12_writes) ∈ wsL_law := sk_mem (ck_8 _ (List.mem_of_getElem? (i := 207) rfl)) rfl
theorem w_8_209 : (Cond.instanceMethod yX12_writes) ∈ wsL_law := sk_mem (ck_8 _ (List.mem_of_getElem? (i := 209) rfl)) rfl
theorem w_0_119 : (Cond.selects RX12 yX12_writes yX12_writes) ∈ wsL_law := sk_mem (ck_0 _ (List.mem_of_getElem? (i := 119) rfl)) rfl
theorem w_8_206 : (Cond.code yX12_image cX12_image 2 (some .int)) ∈ wsL_law := sk_mem (ck_8 _ (List.mem_of_getElem? (i := 206) rfl)) rfl
theorem hd_X12_writes_1 : skD yX12_writes 1 := by decide +kernel
set_option maxHeartbeats 4000000 in
set_option maxRecDepth 100000 in
theorem c_nm_image (l : Launch) (D : va_G) (cI cJ cC cZ cS : ClassId) (mm : Nat) (g : Nat → Nat) (ta : Nat) (pa : Nat) (pe : Nat) (pd : Int32) (pb : Nat) (pp : Int32) (pf : Int32) (pg : Int32) (pn : Int32) (rt : Int32) (rn : Int32) (cd : Nat) (sn : Int32) (il : Nat) (tk : Int32) (am : Int32) (at_ : Int32) (aa : Int32) (wt : Int32) (wy : Int64) (rm : Nat) (ud : Nat) (nu : Nat) (sd : Int64) (qn : Nat) (qw : Nat) (qo : Int32) (qb : Nat) (qp : Nat) (qa : Int64) (qi : Nat) (oc : Nat) (l0 : Nat) (l1 : Nat) (dm : Nat) (l3 : Nat) (nw : Nat → Int32) (oc_ : Nat → Int32) (wn : Nat) (mN : Nat) (Ba : Nat → Nat) (We : Nat → Nat) (U : Nat → Bool) (ke : Nat) (lg : KLg) (hdm : dm ≤ 9) (hB9 : ∀ j, Ba j ≤ 9) (hW9 : ∀ j, We j ≤ 9) (hwk : wn ≤ 999) (hnw : nwX wn mN Ba We U ke lg nw) : skM l yX12_image cX12_image 2 (some .int) 1 23 0 0 D (skT cI cJ cC cZ cS) [.ref mm] [(mm, .inr (12, mo g (nI ta) (nI pa) (nI pe) pd (nI pb) pp pf pg pn rt rn (nI cd) sn (nI il) tk am at_ aa 0 0 (-1) wt wy 0 (nI rm) (nI ud) (nI nu) sd (nI qn) (nI qw) qo (nI qb) (nI qp) qa (nI qi) (nI oc))), (g 20, .inl (cI, 4, .inl (l4 (nI l0) (nI l1) (nI dm) (nI l3)))), (g 31, .inl (cI, 120, .inl nw)), (g 90, .inl (cI, 31, .inl oc_))] (skI D (skT cI cJ cC cZ cS) (fun (r : Int32) (u : va_W) => ∃ (oc2 : Nat), ∃ (oc_2 : Nat → Int32), oc2 = 4 + 3 * dm ∧ (∀ j, j < 4 + 3 * dm → oc_2 j = nI (imgB (wn, mN, Ba, We, U, ke) dm j)) ∧ r = nI (4 + 3 * dm) ∧ u = [(mm, .inr (12, mo g (nI ta) (nI pa) (nI pe) pd (nI pb) pp pf pg pn rt rn (nI cd) sn (nI il) tk am at_ aa 0 0 (-1) wt wy 0 (nI rm) (nI ud) (nI nu) sd (nI qn) (nI qw) qo (nI qb) (nI qp) qa (nI qi) (nI oc2))), (g 20, .inl (cI, 4, .inl (l4 (nI l0) (nI l1) (nI dm) (nI l3)))), (g 31, .inl (cI, 120, .inl nw)), (g 90, .inl (cI, 31, .inl oc_2))])) := by
  refine skM_of pf_X12_image (Nat.le_of_ble_eq_true rfl) ?_
  intro p e s m below meth c A ls E hP hD hl
  refine skE_el E (fun hx hb hr hml hlocks hin hown hts hK hA => ?_)
  have hown : s.vm.findClass RX12 = some m.cls := hown
  have hS : va_S A s.heap s.heap [] := va_S.rf
  have hl : lv_has ls 2 [(0, .ref mm)] := hl
  refine lv_aload_n hx hb dX12_image_0 rfl (lv_at hl 0 rfl) ?_
  refine lv_iconst (v := 0) hx hb dX12_image_1 (by decide) ?_
  refine sk_put (ws' := [(mm, .inr (12, mo g (nI ta) (nI pa) (nI pe) pd (nI pb) pp pf pg pn rt rn (nI cd) sn (nI il) tk am at_ aa 0 0 (-1) wt wy 0 (nI rm) (nI ud) (nI nu) sd (nI qn) (nI qw) qo (nI qb) (nI qp) qa (nI qi) 0)), (g 20, .inl (cI, 4, .inl (l4 (nI l0) (nI l1) (nI dm) (nI l3)))), (g 31, .inl (cI, 120, .inl nw)), (g 90, .inl (cI, 31, .inl oc_))]) (C := RX12) (T := TX12) (N := 92) (v := .int 0) hx hb hts inlX12 tyX12 tyX12_ok nmX12 hown hK hP hD hS 0 rfl rfl 91 (by decide) w_6_6 rfl rfl rfl (Nat.le_of_ble_eq_true rfl) rfl dX12_image_2 (fun H locs hP hD hS => ?_)
  have hi0 := imR_0 (wn, mN, Ba, We, U, ke) oc_
  refine lv_aload_n hx hb dX12_image_5 rfl (lv_at hl 0 rfl) ?_
  refine lv_aload_n hx hb dX12_image_6 rfl (lv_at hl 0 rfl) ?_
  refine sk_get (v := .ref (g 31)) (C := RX12) (T := TX12) (N := 92) hx hb hts inlX12 hown hK hP 0 rfl rfl 31 (by decide) w_5_186 rfl dX12_image_7 ?_
  refine lv_iconst (v := 0) hx hb dX12_image_10 (by decide) ?_
  refine va_iald hx hb hK.1 hP 2 0 rfl rfl (by unfold vp_in; decide) dX12_image_11 ?_
  refine sk_top (nI wn) (nwX_0 hnw) ?_
  refine lv_sipush (v := 256) hx hb dX12_image_12 (by decide) ?_
  refine lv_idiv hx hb dX12_image_15 (by decide) ?_
  refine sk_top (nI (wn / 256)) (ndiv wn 256 (by omega) (by omega) (by omega)) ?_
  refine sk_Vv (q0 := 0) (n := 1) (rest := []) (wr := fmR om_4_9 _) ⟨hx, hb, hml, hown, hts⟩ hl.1 (c_nm_writes l D cI cJ cC cZ cS mm g ta pa pe pd pb pp pf pg pn rt rn cd sn il tk am at_ aa wt wy rm ud nu sd qn qw qo qb qp qa qi 0 (nI (wn / 256)) oc_ (by omega)) w_8_207 w_8_209 w_0_119 w_1_14 w_8_210 hd_X12_writes_1 ⟨⟨(Nat.le_of_ble_eq_true rfl), (Nat.le_of_ble_eq_true rfl)⟩, (Nat.le_of_ble_eq_true rfl), (Nat.le_of_ble_eq_true rfl)⟩ hK hP hD hS hA (fmT om_4_9 0) (fmF om_4_9 0) (fm_C1 rfl rfl) (fm_R rfl rfl) (fm_nT om_4_9 0) (fm_nF om_4_9 0) (fm_di om_4_9 0) rfl rfl rfl rfl (Nat.le_of_ble_eq_true rfl) dX12_image_16 (fun u H locs hw hP hD hS => ?_)
  refine exE hw (fun oc_2_1 hw1 => anE hw1 (fun hoe_2 eu_3 => ?_))
  clear hw hw1
  refine o_mgE (ws' := [(mm, .inr (12, mo g (nI ta) (nI pa) (nI pe) pd (nI pb) pp pf pg pn rt rn (nI cd) sn (nI il) tk am at_ aa 0 0 (-1) wt wy 0 (nI rm) (nI ud) (nI nu) sd (nI qn) (nI qw) qo (nI qb) (nI qp) qa (nI qi) 1)), (g 20, .inl (cI, 4, .inl (l4 (nI l0) (nI l1) (nI dm) (nI l3)))), (g 31, .inl (cI, 120, .inl nw)), (g 90, .inl (cI, 31, .inl oc_2_1))]) eu_3 hP hD rfl (fun hP hD => ?_)
  have hi_4 : imR (wn, mN, Ba, We, U, ke) (0 + 1) oc_2_1 := imR_s hi0 hoe_2 rfl
  refine lv_aload_n hx hb dX12_image_19 rfl (lv_at hl 0 rfl) ?_
  refine lv_aload_n hx hb dX12_image_20 rfl (lv_at hl 0 rfl) ?_
  refine sk_get (v := .ref (g 31)) (C := RX12) (T := TX12) (N := 92) hx hb hts inlX12 hown hK hP 0 rfl rfl 31 (by decide) w_5_186 rfl dX12_image_21 ?_
  refine lv_iconst (v := 0) hx hb dX12_image_24 (by decide) ?_
  refine va_iald hx hb hK.1 hP 2 0 rfl rfl (by unfold vp_in; decide) dX12_image_25 ?_
  refine sk_top (nI wn) (nwX_0 hnw) ?_
  refine lv_sipush (v := 256) hx hb dX12_image_26 (by decide) ?_
  refine lv_irem hx hb dX12_image_29 (by decide) ?_
  refine sk_top (nI (wn % 256)) (nrem wn 256 (by omega) (by omega) (by omega)) ?_
  refine sk_Vv (q0 := 0) (n := 1) (rest := []) (wr := fmR om_4_9 _) ⟨hx, hb, hml, hown, hts⟩ hl.1 (c_nm_writes l D cI cJ cC cZ cS mm g ta pa pe pd pb pp pf pg pn rt rn cd sn il tk am at_ aa wt wy rm ud nu sd qn qw qo qb qp qa qi 1 (nI (wn % 256)) oc_2_1 (by omega)) w_8_207 w_8_209 w_0_119 w_1_14 w_8_210 hd_X12_writes_1 ⟨⟨(Nat.le_of_ble_eq_true rfl), (Nat.le_of_ble_eq_true rfl)⟩, (Nat.le_of_ble_eq_true rfl), (Nat.le_of_ble_eq_true rfl)⟩ hK hP hD hS hA (fmT om_4_9 0) (fmF om_4_9 0) (fm_C1 rfl rfl) (fm_R rfl rfl) (fm_nT om_4_9 0) (fm_nF om_4_9 0) (fm_di om_4_9 0) rfl rfl rfl rfl (Nat.le_of_ble_eq_true rfl) dX12_image_30 (fun u H locs hw hP hD hS => ?_)
  refine exE hw (fun oc_2_5 hw1 => anE hw1 (fun hoe_6 eu_7 => ?_))
  clear hw hw1
  refine o_mgE (ws' := [(mm, .inr (12, mo g (nI ta) (nI pa) (nI pe) pd (nI pb) pp pf pg pn rt rn (nI cd) sn (nI il) tk am at_ aa 0 0 (-1) wt wy 0 (nI rm) (nI ud) (nI nu) sd (nI qn) (nI qw) qo (nI qb) (nI qp) qa (nI qi) 2)), (g 20, .inl (cI, 4, .inl (l4 (nI l0) (nI l1) (nI dm) (nI l3)))), (g 31, .inl (cI, 120, .inl nw)), (g 90, .inl (cI, 31, .inl oc_2_5))]) eu_7 hP hD rfl (fun hP hD => ?_)
  have hi_8 : imR (wn, mN, Ba, We, U, ke) (1 + 1) oc_2_5 := imR_s hi_4 hoe_6 rfl
  refine lv_aload_n hx hb dX12_image_33 rfl (lv_at hl 0 rfl) ?_
  refine lv_aload_n hx hb dX12_image_34 rfl (lv_at hl 0 rfl) ?_
  refine sk_get (v := .ref (g 31)) (C := RX12) (T := TX12) (N := 92) hx hb hts inlX12 hown hK hP 0 rfl rfl 31 (by decide) w_5_186 rfl dX12_image_35 ?_
  refine lv_iconst (v := 1) hx hb dX12_image_38 (by decide) ?_
  refine va_iald hx hb hK.1 hP 2 0 rfl rfl (by unfold vp_in; decide) dX12_image_39 ?_
  refine sk_top (nI mN) (nwX_1 hnw) ?_
  refine sk_Vv (q0 := 0) (n := 1) (rest := []) (wr := fmR om_4_9 _) ⟨hx, hb, hml, hown, hts⟩ hl.1 (c_nm_writes l D cI cJ cC cZ cS mm g ta pa pe pd pb pp pf pg pn rt rn cd sn il tk am at_ aa wt wy rm ud nu sd qn qw qo qb qp qa qi 2 (nI mN) oc_2_5 (by omega)) w_8_207 w_8_209 w_0_119 w_1_14 w_8_210 hd_X12_writes_1 ⟨⟨(Nat.le_of_ble_eq_true rfl), (Nat.le_of_ble_eq_true rfl)⟩, (Nat.le_of_ble_eq_true rfl), (Nat.le_of_ble_eq_true rfl)⟩ hK hP hD hS hA (fmT om_4_9 0) (fmF om_4_9 0) (fm_C1 rfl rfl) (fm_R rfl rfl) (fm_nT om_4_9 0) (fm_nF om_4_9 0) (fm_di om_4_9 0) rfl rfl rfl rfl (Nat.le_of_ble_eq_true rfl) dX12_image_40 (fun u H locs hw hP hD hS => ?_)
  refine exE hw (fun oc_2_9 hw1 => anE hw1 (fun hoe_10 eu_11 => ?_))
  clear hw hw1
  refine o_mgE (ws' := [(mm, .inr (12, mo g (nI ta) (nI pa) (nI pe) pd (nI pb) pp pf pg pn rt rn (nI cd) sn (nI il) tk am at_ aa 0 0 (-1) wt wy 0 (nI rm) (nI ud) (nI nu) sd (nI qn) (nI qw) qo (nI qb) (nI qp) qa (nI qi) 3)), (g 20, .inl (cI, 4, .inl (l4 (nI l0) (nI l1) (nI dm) (nI l3)))), (g 31, .inl (cI, 120, .inl nw)), (g 90, .inl (cI, 31, .inl oc_2_9))]) eu_11 hP hD rfl (fun hP hD => ?_)
  have hi_12 : imR (wn, mN, Ba, We, U, ke) (2 + 1) oc_2_9 := imR_s hi_8 hoe_10 rfl
  refine lv_iconst (v := 0) hx hb dX12_image_43 (by decide) ?_
  refine lv_istore_n (lv' := [(1, .int 0), (0, .ref mm)]) hx hb dX12_image_44 rfl hl (by decide) rfl (fun ls hl => ?_)
  have lp_13 : ∀ (n_14 : Nat) (i : Nat) (zo : Nat) (zf : Nat → Int32) (H : Heap) (locs : List Loc) (ls : Array Slot), 3 * dm - i < n_14 → (i ≤ 3 * dm) → (zo = 3 + i) → (imR (wn, mN, Ba, We, U, ke) (3 + i) zf) → va_P D vwCl [(mm, .inr (12, mo g (nI ta) (nI pa) (nI pe) pd (nI pb) pp pf pg pn rt rn (nI cd) sn (nI il) tk am at_ aa 0 0 (-1) wt wy 0 (nI rm) (nI ud) (nI nu) sd (nI qn) (nI qw) qo (nI qb) (nI qp) qa (nI qi) (nI zo))), (g 20, .inl (cI, 4, .inl (l4 (nI l0) (nI l1) (nI dm) (nI l3)))), (g 31, .inl (cI, 120, .inl nw)), (g 90, .inl (cI, 31, .inl zf))] H → va_D A [(mm, .inr (12, mo g (nI ta) (nI pa) (nI pe) pd (nI pb) pp pf pg pn rt rn (nI cd) sn (nI il) tk am at_ aa 0 0 (-1) wt wy 0 (nI rm) (nI ud) (nI nu) sd (nI qn) (nI qw) qo (nI qb) (nI qp) qa (nI qi) (nI zo))), (g 20, .inl (cI, 4, .inl (l4 (nI l0) (nI l1) (nI dm) (nI l3)))), (g 31, .inl (cI, 120, .inl nw)), (g 90, .inl (cI, 31, .inl zf))] → va_S A s.heap H locs → lv_has ls 2 [(1, .int (nI i)), (0, .ref mm)] → W p l e { frames := 1, cells := 0, slots := 0, locals := 23 } s m ([.ref mm] : List Value).toArray below meth c H locs 0 0 (MQ below (skI D (skT cI cJ cC cZ cS) (fun (r : Int32) (u : va_W) => ∃ (oc2 : Nat), ∃ (oc_2 : Nat → Int32), oc2 = 4 + 3 * dm ∧ (∀ j, j < 4 + 3 * dm → oc_2 j = nI (imgB (wn, mN, Ba, We, U, ke) dm j)) ∧ r = nI (4 + 3 * dm) ∧ u = [(mm, .inr (12, mo g (nI ta) (nI pa) (nI pe) pd (nI pb) pp pf pg pn rt rn (nI cd) sn (nI il) tk am at_ aa 0 0 (-1) wt wy 0 (nI rm) (nI ud) (nI nu) sd (nI qn) (nI qw) qo (nI qb) (nI qp) qa (nI qi) (nI oc2))), (g 20, .inl (cI, 4, .inl (l4 (nI l0) (nI l1) (nI dm) (nI l3)))), (g 31, .inl (cI, 120, .inl nw)), (g 90, .inl (cI, 31, .inl oc_2))]) A) ([.ref mm] : List Value).toArray s 0 0 A) (F0 m 45 ls []) := by
    intro n_14
    induction n_14 with
    | zero => intro i zo zf H locs ls hm; exact absurd hm (Nat.not_lt_zero _)
    | succ n_14 ih_lp_13 =>
      intro i zo zf H locs ls hm hi hzo hip hP hD hS hl
      refine lv_iload_n hx hb dX12_image_45 rfl (lv_at hl 0 rfl) ?_
      refine lv_iconst (v := 3) hx hb dX12_image_46 (by decide) ?_
      refine lv_aload_n hx hb dX12_image_47 rfl (lv_at hl 1 rfl) ?_
      refine sk_Vi (q0 := 0) (n := 0) (rest := [.int 3, .int (nI i)]) (wr := fmR om_4_c _) ⟨hx, hb, hml, hown, hts⟩ hl.1 (c_m_dayMany l D cI cJ cC cZ cS mm g ta pa pe pd pb pp pf pg pn rt rn cd sn il tk am at_ aa 0 0 (-1) wt wy 0 rm ud nu sd qn qw qo qb qp qa qi zo l0 l1 dm l3) w_7_98 w_7_100 w_0_69 w_1_14 w_7_101 hd_X12_dayMany_0 ⟨⟨(Nat.le_of_ble_eq_true rfl), (Nat.le_of_ble_eq_true rfl)⟩, (Nat.le_of_ble_eq_true rfl), (Nat.le_of_ble_eq_true rfl)⟩ hK hP hD hS hA (fmT om_4_c 0) (fmF om_4_c 0) (fm_C1 rfl rfl) (fm_R rfl rfl) (fm_nT om_4_c 0) (fm_nF om_4_c 0) (fm_di om_4_c 0) rfl rfl rfl rfl (Nat.le_of_ble_eq_true rfl) dX12_image_48 (fun r_15 u H locs hw hP hD hS => ?_)
      refine anE hw (fun er_17 eu_16 => ?_)
      clear hw
      subst er_17
      refine o_mgE (ws' := [(mm, .inr (12, mo g (nI ta) (nI pa) (nI pe) pd (nI pb) pp pf pg pn rt rn (nI cd) sn (nI il) tk am at_ aa 0 0 (-1) wt wy 0 (nI rm) (nI ud) (nI nu) sd (nI qn) (nI qw) qo (nI qb) (nI qp) qa (nI qi) (nI zo))), (g 20, .inl (cI, 4, .inl (l4 (nI l0) (nI l1) (nI dm) (nI l3)))), (g 31, .inl (cI, 120, .inl nw)), (g 90, .inl (cI, 31, .inl zf))]) eu_16 hP hD rfl (fun hP hD => ?_)
      refine lv_imul hx hb dX12_image_51 ?_
      refine sk_top (nI (3 * dm)) (nmul 3 dm) ?_
      refine lv_icmp_ge (tgt := 73) hx hb dX12_image_52 (by decide) (fun c_18 => ?_) (fun c_18 => ?_)
      · have c_18 : 3 * dm ≤ i := (nle (3 * dm) i (by omega) (by omega)).mp c_18
        have him3 : imR (wn, mN, Ba, We, U, ke) (3 + 3 * dm) zf := (by rw [show 3 * dm = i by omega]; exact hip)
        refine lv_aload_n hx hb dX12_image_73 rfl (lv_at hl 1 rfl) ?_
        refine lv_aload_n hx hb dX12_image_74 rfl (lv_at hl 1 rfl) ?_
        refine sk_get (v := .ref (g 90)) (C := RX12) (T := TX12) (N := 92) hx hb hts inlX12 hown hK hP 0 rfl rfl 90 (by decide) w_6_5 rfl dX12_image_75 ?_
        refine lv_aload_n hx hb dX12_image_78 rfl (lv_at hl 1 rfl) ?_
        refine sk_get (v := .int (nI zo)) (C := RX12) (T := TX12) (N := 92) hx hb hts inlX12 hown hK hP 0 rfl rfl 91 (by decide) w_6_6 rfl dX12_image_79 ?_
        refine sk_Si (n := 2) (rest := [.ref mm]) (wr := fmR om_4_1 _) ⟨hx, hb, hml, hown, hts⟩ hl.1 (c_nm_checkedI l D cI cJ cC cZ cS (g 90) zf zo (imgA (wn, mN, Ba, We, U, ke)) (by omega) (fun j hj => him3 j (by omega)) (imA_9 (ke := ke) (U := U) hwk hnw.1 hB9 hW9)) w_8_211 w_8_212 w_1_14 w_8_213 hd_X12_checked_2 ⟨⟨(Nat.le_of_ble_eq_true rfl), (Nat.le_of_ble_eq_true rfl)⟩, (Nat.le_of_ble_eq_true rfl), (Nat.le_of_ble_eq_true rfl)⟩ hK hP hD hS hA (fmT om_4_1 0) (fmF om_4_1 0) (fm_C1 rfl rfl) (fm_R rfl rfl) (fm_nT om_4_1 0) (fm_nF om_4_1 0) (fm_di om_4_1 0) rfl rfl (Nat.le_of_ble_eq_true rfl) dX12_image_82 (fun r_20 u H locs hw hP hD hS => ?_)
        refine exE hw (fun ck2_19 hw1 => anE hw1 (fun hck_21 hw2 => anE hw2 (fun hck9_22 hw3 => anE hw3 (fun er_24 eu_23 => ?_))))
        clear hw hw1 hw2 hw3
        subst er_24
        refine o_mgE (ws' := [(mm, .inr (12, mo g (nI ta) (nI pa) (nI pe) pd (nI pb) pp pf pg pn rt rn (nI cd) sn (nI il) tk am at_ aa 0 0 (-1) wt wy 0 (nI rm) (nI ud) (nI nu) sd (nI qn) (nI qw) qo (nI qb) (nI qp) qa (nI qi) (nI zo))), (g 20, .inl (cI, 4, .inl (l4 (nI l0) (nI l1) (nI dm) (nI l3)))), (g 31, .inl (cI, 120, .inl nw)), (g 90, .inl (cI, 31, .inl zf))]) eu_23 hP hD rfl (fun hP hD => ?_)
        refine sk_Vv (q0 := 0) (n := 1) (rest := []) (wr := fmR om_4_9 _) ⟨hx, hb, hml, hown, hts⟩ hl.1 (c_nm_writes l D cI cJ cC cZ cS mm g ta pa pe pd pb pp pf pg pn rt rn cd sn il tk am at_ aa wt wy rm ud nu sd qn qw qo qb qp qa qi zo (nI ck2_19) zf (by omega)) w_8_207 w_8_209 w_0_119 w_1_14 w_8_210 hd_X12_writes_1 ⟨⟨(Nat.le_of_ble_eq_true rfl), (Nat.le_of_ble_eq_true rfl)⟩, (Nat.le_of_ble_eq_true rfl), (Nat.le_of_ble_eq_true rfl)⟩ hK hP hD hS hA (fmT om_4_9 0) (fmF om_4_9 0) (fm_C1 rfl rfl) (fm_R rfl rfl) (fm_nT om_4_9 0) (fm_nF om_4_9 0) (fm_di om_4_9 0) rfl rfl rfl rfl (Nat.le_of_ble_eq_true rfl) dX12_image_85 (fun u H locs hw hP hD hS => ?_)
        refine exE hw (fun oc_2_25 hw1 => anE hw1 (fun hoe_26 eu_27 => ?_))
        clear hw hw1
        refine o_mgE (ws' := [(mm, .inr (12, mo g (nI ta) (nI pa) (nI pe) pd (nI pb) pp pf pg pn rt rn (nI cd) sn (nI il) tk am at_ aa 0 0 (-1) wt wy 0 (nI rm) (nI ud) (nI nu) sd (nI qn) (nI qw) qo (nI qb) (nI qp) qa (nI qi) (nI (zo + 1)))), (g 20, .inl (cI, 4, .inl (l4 (nI l0) (nI l1) (nI dm) (nI l3)))), (g 31, .inl (cI, 120, .inl nw)), (g 90, .inl (cI, 31, .inl oc_2_25))]) eu_27 hP hD rfl (fun hP hD => ?_)
        refine lv_aload_n hx hb dX12_image_88 rfl (lv_at hl 1 rfl) ?_
        refine sk_get (v := .int (nI (zo + 1))) (C := RX12) (T := TX12) (N := 92) hx hb hts inlX12 hown hK hP 0 rfl rfl 91 (by decide) w_6_6 rfl dX12_image_89 ?_
        exact sk_iret hx hb hr rfl hlocks hK hP hD hS (⟨zo + 1, oc_2_25, by omega, imR_e him3 (by rw [show 3 + 3 * dm = zo by omega]; exact hoe_26) (congrArg nI (by rw [hck_21, show zo = 3 + 3 * dm by omega])), (congrArg nI (by omega)), rfl⟩) (Nat.le_of_ble_eq_true rfl) (Nat.le_of_ble_eq_true rfl) dX12_image_92
      · have c_18 : ¬ (3 * dm ≤ i) := fun h => c_18 ((nle (3 * dm) i (by omega) (by omega)).mpr h)
        refine lv_aload_n hx hb dX12_image_55 rfl (lv_at hl 1 rfl) ?_
        refine lv_aload_n hx hb dX12_image_56 rfl (lv_at hl 1 rfl) ?_
        refine sk_get (v := .ref (g 31)) (C := RX12) (T := TX12) (N := 92) hx hb hts inlX12 hown hK hP 0 rfl rfl 31 (by decide) w_5_186 rfl dX12_image_57 ?_
        refine lv_iconst (v := 2) hx hb dX12_image_60 (by decide) ?_
        refine lv_iload_n hx hb dX12_image_61 rfl (lv_at hl 0 rfl) ?_
        refine lv_iadd hx hb dX12_image_62 ?_
        refine sk_top (nI (2 + i)) (nI_add 2 i) ?_
        refine va_iald hx hb hK.1 hP 2 0 rfl rfl (vin (2 + i) 120 (by omega) (by omega)) dX12_image_63 ?_
        refine sk_top (nw (2 + i)) (by rw [nI_clamp (by omega)]) ?_
        refine sk_Vv (q0 := 0) (n := 1) (rest := []) (wr := fmR om_4_9 _) ⟨hx, hb, hml, hown, hts⟩ hl.1 (c_nm_writes l D cI cJ cC cZ cS mm g ta pa pe pd pb pp pf pg pn rt rn cd sn il tk am at_ aa wt wy rm ud nu sd qn qw qo qb qp qa qi zo (nw (2 + i)) zf (by omega)) w_8_207 w_8_209 w_0_119 w_1_14 w_8_210 hd_X12_writes_1 ⟨⟨(Nat.le_of_ble_eq_true rfl), (Nat.le_of_ble_eq_true rfl)⟩, (Nat.le_of_ble_eq_true rfl), (Nat.le_of_ble_eq_true rfl)⟩ hK hP hD hS hA (fmT om_4_9 0) (fmF om_4_9 0) (fm_C1 rfl rfl) (fm_R rfl rfl) (fm_nT om_4_9 0) (fm_nF om_4_9 0) (fm_di om_4_9 0) rfl rfl rfl rfl (Nat.le_of_ble_eq_true rfl) dX12_image_64 (fun u H locs hw hP hD hS => ?_)
        refine exE hw (fun oc_2_28 hw1 => anE hw1 (fun hoe_29 eu_30 => ?_))
        clear hw hw1
        refine o_mgE (ws' := [(mm, .inr (12, mo g (nI ta) (nI pa) (nI pe) pd (nI pb) pp pf pg pn rt rn (nI cd) sn (nI il) tk am at_ aa 0 0 (-1) wt wy 0 (nI rm) (nI ud) (nI nu) sd (nI qn) (nI qw) qo (nI qb) (nI qp) qa (nI qi) (nI (zo + 1)))), (g 20, .inl (cI, 4, .inl (l4 (nI l0) (nI l1) (nI dm) (nI l3)))), (g 31, .inl (cI, 120, .inl nw)), (g 90, .inl (cI, 31, .inl oc_2_28))]) eu_30 hP hD rfl (fun hP hD => ?_)
        have he9 := hoe_29
        rw [hzo] at he9
        have hi_31 : imR (wn, mN, Ba, We, U, ke) (3 + i + 1) oc_2_28 := imR_s hip he9 (imD_at hnw (by omega))
        refine lv_iinc (v := nI (i + 1)) (lv' := [(1, .int (nI (i + 1))), (0, .ref mm)]) hx hb dX12_image_67 hl (k := 0) rfl (ninc i 1 (by decide)) (by decide) rfl (fun ls hl => ?_)
        refine lv_goto (tgt := 45) hx hb dX12_image_70 (by decide) ?_
        exact ih_lp_13 (i + 1) (zo + 1) oc_2_28 _ _ _ (by omega) (by omega) (by omega) (by rw [show 3 + (i + 1) = 3 + i + 1 by omega]; exact hi_31) hP hD hS (lv_sub hl [0, 1] rfl)
  exact lp_13 (3 * dm - 0 + 1) 0 3 oc_2_9 _ _ _ (Nat.lt_succ_self _) (by omega) (by omega) (show imR (wn, mN, Ba, We, U, ke) (2 + 1) _ from hi_12) hP hD hS (lv_sub hl [0, 1] rfl)

