theorem dX12_has_0 : decode cX12_has 0 = .ok (.iload_n 1, 1) := q_iload_n1 (bat_get dg_X12_has_0_0 0 rfl rfl)
theorem dX12_has_44 : decode cX12_has 44 = .ok (.aload_n 0, 1) := q_aload_n0 (bat_get dg_X12_has_0_0 1 rfl rfl)
theorem dX12_has_45 : decode cX12_has 45 = .ok (.invokevirtual 315, 3) := q_invokevirtual (bat_get dg_X12_has_0_0 2 rfl rfl) rfl
theorem dX12_has_48 : decode cX12_has 48 = .ok (.ireturn, 1) := q_ireturn (bat_get dg_X12_has_0_0 3 rfl rfl)
theorem dX12_has_49 : decode cX12_has 49 = .ok (.aload_n 0, 1) := q_aload_n0 (bat_get dg_X12_has_0_0 4 rfl rfl)
theorem dX12_has_50 : decode cX12_has 50 = .ok (.getfield 63, 3) := q_getfield (bat_get dg_X12_has_0_0 5 rfl rfl) rfl
theorem dX12_has_53 : decode cX12_has 53 = .ok (.iload_n 1, 1) := q_iload_n1 (bat_get dg_X12_has_0_0 6 rfl rfl)
theorem dX12_has_54 : decode cX12_has 54 = .ok (.iconst 1, 1) := q_iconst1 (bat_get dg_X12_has_0_0 7 rfl rfl)
theorem dX12_has_55 : decode cX12_has 55 = .ok (.isub, 1) := q_isub (bat_get dg_X12_has_0_0 8 rfl rfl)
theorem dX12_has_56 : decode cX12_has 56 = .ok (.iaload, 1) := q_iaload (bat_get dg_X12_has_0_0 9 rfl rfl)
theorem dX12_has_57 : decode cX12_has 57 = .ok (.ireturn, 1) := q_ireturn (bat_get dg_X12_has_0_0 10 rfl rfl)
theorem dX12_has_58 : decode cX12_has 58 = .ok (.aload_n 0, 1) := q_aload_n0 (bat_get dg_X12_has_0_0 11 rfl rfl)
theorem dX12_has_59 : decode cX12_has 59 = .ok (.invokevirtual 406, 3) := q_invokevirtual (bat_get dg_X12_has_0_0 12 rfl rfl) rfl
theorem dX12_has_62 : decode cX12_has 62 = .ok (.invokestatic 409, 3) := q_invokestatic (bat_get dg_X12_has_0_0 13 rfl rfl) rfl
theorem dX12_has_65 : decode cX12_has 65 = .ok (.ireturn, 1) := q_ireturn (bat_get dg_X12_has_0_0 14 rfl rfl)
theorem dX12_has_66 : decode cX12_has 66 = .ok (.aload_n 0, 1) := q_aload_n0 (bat_get dg_X12_has_0_0 15 rfl rfl)
theorem dX12_has_67 : decode cX12_has 67 = .ok (.getfield 63, 3) := q_getfield (bat_get dg_X12_has_0_0 16 rfl rfl) rfl
theorem dX12_has_70 : decode cX12_has 70 = .ok (.bipush 29, 2) := q_bipush (bat_get dg_X12_has_0_0 17 rfl rfl) rfl
theorem dX12_has_72 : decode cX12_has 72 = .ok (.iaload, 1) := q_iaload (bat_get dg_X12_has_0_0 18 rfl rfl)
theorem dX12_has_73 : decode cX12_has 73 = .ok (.ireturn, 1) := q_ireturn (bat_get dg_X12_has_0_0 19 rfl rfl)
theorem dX12_has_74 : decode cX12_has 74 = .ok (.aload_n 0, 1) := q_aload_n0 (bat_get dg_X12_has_0_0 20 rfl rfl)
theorem dX12_has_75 : decode cX12_has 75 = .ok (.getfield 312, 3) := q_getfield (bat_get dg_X12_has_0_0 21 rfl rfl) rfl
theorem dX12_has_78 : decode cX12_has 78 = .ok (.ireturn, 1) := q_ireturn (bat_get dg_X12_has_0_0 22 rfl rfl)
theorem dX12_has_79 : decode cX12_has 79 = .ok (.aload_n 0, 1) := q_aload_n0 (bat_get dg_X12_has_0_0 23 rfl rfl)
theorem dX12_has_80 : decode cX12_has 80 = .ok (.getfield 309, 3) := q_getfield (bat_get dg_X12_has_0_0 24 rfl rfl) rfl
theorem dX12_has_83 : decode cX12_has 83 = .ok (.ireturn, 1) := q_ireturn (bat_get dg_X12_has_0_0 25 rfl rfl)
theorem dX12_has_84 : decode cX12_has 84 = .ok (.iconst (-1), 1) := q_iconstm1 (bat_get dg_X12_has_0_0 26 rfl rfl)
theorem dX12_has_85 : decode cX12_has 85 = .ok (.ireturn, 1) := q_ireturn (bat_get dg_X12_has_0_0 27 rfl rfl)
theorem w_7_102 : (Cond.methodLink RX12 406 yX12_muteSet) ∈ wsL_law := sk_mem (ck_7 _ (List.mem_of_getElem? (i := 102) rfl)) rfl
theorem w_7_104 : (Cond.instanceMethod yX12_muteSet) ∈ wsL_law := sk_mem (ck_7 _ (List.mem_of_getElem? (i := 104) rfl)) rfl
theorem w_0_70 : (Cond.selects RX12 yX12_muteSet yX12_muteSet) ∈ wsL_law := sk_mem (ck_0 _ (List.mem_of_getElem? (i := 70) rfl)) rfl
theorem w_5_210 : (Cond.fieldLink RX12 309 "SameKeeperModel" "undoable" "I") ∈ wsL_law := sk_mem (ck_5 _ (List.mem_of_getElem? (i := 210) rfl)) rfl
theorem w_7_97 : (Cond.code yX12_has cX12_has 2 (some .int)) ∈ wsL_law := sk_mem (ck_7 _ (List.mem_of_getElem? (i := 97) rfl)) rfl
theorem hd_X12_muteSet_0 : skD yX12_muteSet 0 := by decide +kernel
set_option maxHeartbeats 4000000 in
set_option maxRecDepth 100000 in
theorem c_nm_has (l : Launch) (D : va_G) (cI cJ cC cZ cS : ClassId) (mm : Nat) (g : Nat → Nat) (ta : Nat) (pa : Nat) (pe : Nat) (pd : Int32) (pb : Nat) (pp : Int32) (pf : Int32) (pg : Int32) (pn : Int32) (rt : Int32) (rn : Int32) (cd : Nat) (sn : Int32) (il : Nat) (tk : Int32) (am : Int32) (at_ : Int32) (aa : Int32) (wt : Int32) (wy : Int64) (rm : Nat) (ud : Nat) (nu : Nat) (sd : Int64) (qn : Nat) (qw : Nat) (qo : Int32) (qb : Nat) (qp : Nat) (qa : Int64) (qi : Nat) (oc : Nat) (w : Int32) (l0 : Nat) (l1 : Nat) (dm : Nat) (l3 : Nat) (nw : Nat → Int32) (wn : Nat) (mN : Nat) (Ba : Nat → Nat) (We : Nat → Nat) (U : Nat → Bool) (ke : Nat) (lg : KLg) (hdm : dm ≤ 9) (hUd : ∀ j, U j = true → j < dm) (hnw : nwX wn mN Ba We U ke lg nw) : skM l yX12_has cX12_has 2 (some .int) 2 43 0 0 D (skT cI cJ cC cZ cS) [.ref mm, .int w] [(mm, .inr (12, mo g (nI ta) (nI pa) (nI pe) pd (nI pb) pp pf pg pn rt rn (nI cd) sn (nI il) tk am at_ aa 0 0 (-1) wt wy 0 (nI rm) (nI ud) (nI nu) sd (nI qn) (nI qw) qo (nI qb) (nI qp) qa (nI qi) (nI oc))), (g 20, .inl (cI, 4, .inl (l4 (nI l0) (nI l1) (nI dm) (nI l3)))), (g 31, .inl (cI, 120, .inl nw))] (skI D (skT cI cJ cC cZ cS) (fun (r : Int32) (u : va_W) => r = hasV dm wn mN U ke rm ud w ∧ u = [(mm, .inr (12, mo g (nI ta) (nI pa) (nI pe) pd (nI pb) pp pf pg pn rt rn (nI cd) sn (nI il) tk am at_ aa 0 0 (-1) wt wy 0 (nI rm) (nI ud) (nI nu) sd (nI qn) (nI qw) qo (nI qb) (nI qp) qa (nI qi) (nI oc))), (g 20, .inl (cI, 4, .inl (l4 (nI l0) (nI l1) (nI dm) (nI l3)))), (g 31, .inl (cI, 120, .inl nw))])) := by
  refine skM_of pf_X12_has (Nat.le_of_ble_eq_true rfl) ?_
  intro p e s m below meth c A ls E hP hD hl
  refine skE_el E (fun hx hb hr hml hlocks hin hown hts hK hA => ?_)
  have hown : s.vm.findClass RX12 = some m.cls := hown
  have hS : va_S A s.heap s.heap [] := va_S.rf
  have hl : lv_has ls 2 [(0, .ref mm), (1, .int w)] := hl
  refine lv_iload_n hx hb dX12_has_0 rfl (lv_at hl 1 rfl) ?_
  by_cases g_1 : w = 0
  · refine lv_tableIn (off := 43) (tgt := 44) hx hb dX12_has_1 (by rw [g_1]; decide) (by rw [g_1]; decide) (by rw [g_1]; rfl) (by decide) ?_
    refine lv_aload_n hx hb dX12_has_44 rfl (lv_at hl 0 rfl) ?_
    refine sk_Vi (q0 := 0) (n := 0) (rest := []) (wr := fmR om_3_6 _) ⟨hx, hb, hml, hown, hts⟩ hl.1 (c_m_dayMany l D cI cJ cC cZ cS mm g ta pa pe pd pb pp pf pg pn rt rn cd sn il tk am at_ aa 0 0 (-1) wt wy 0 rm ud nu sd qn qw qo qb qp qa qi oc l0 l1 dm l3) w_7_98 w_7_100 w_0_69 w_1_14 w_7_101 hd_X12_dayMany_0 ⟨⟨(Nat.le_of_ble_eq_true rfl), (Nat.le_of_ble_eq_true rfl)⟩, (Nat.le_of_ble_eq_true rfl), (Nat.le_of_ble_eq_true rfl)⟩ hK hP hD hS hA (fmT om_3_6 0) (fmF om_3_6 0) (fm_C1 rfl rfl) (fm_R rfl rfl) (fm_nT om_3_6 0) (fm_nF om_3_6 0) (fm_di om_3_6 0) rfl rfl rfl rfl (Nat.le_of_ble_eq_true rfl) dX12_has_45 (fun r_2 u H locs hw hP hD hS => ?_)
    refine anE hw (fun er_4 eu_3 => ?_)
    clear hw
    subst er_4
    refine o_mgE (ws' := [(mm, .inr (12, mo g (nI ta) (nI pa) (nI pe) pd (nI pb) pp pf pg pn rt rn (nI cd) sn (nI il) tk am at_ aa 0 0 (-1) wt wy 0 (nI rm) (nI ud) (nI nu) sd (nI qn) (nI qw) qo (nI qb) (nI qp) qa (nI qi) (nI oc))), (g 20, .inl (cI, 4, .inl (l4 (nI l0) (nI l1) (nI dm) (nI l3)))), (g 31, .inl (cI, 120, .inl nw))]) eu_3 hP hD rfl (fun hP hD => ?_)
    exact sk_iret hx hb hr rfl hlocks hK hP hD hS (⟨(by unfold hasV; rw [g_1, if_pos rfl]), rfl⟩) (Nat.le_of_ble_eq_true rfl) (Nat.le_of_ble_eq_true rfl) dX12_has_48
  by_cases g_5 : w = 1
  · refine lv_tableIn (off := 48) (tgt := 49) hx hb dX12_has_1 (by rw [g_5]; decide) (by rw [g_5]; decide) (by rw [g_5]; rfl) (by decide) ?_
    refine lv_aload_n hx hb dX12_has_49 rfl (lv_at hl 0 rfl) ?_
    refine sk_get (v := .ref (g 31)) (C := RX12) (T := TX12) (N := 92) hx hb hts inlX12 hown hK hP 0 rfl rfl 31 (by decide) w_5_186 rfl dX12_has_50 ?_
    refine lv_iload_n hx hb dX12_has_53 rfl (lv_at hl 1 rfl) ?_
    refine lv_iconst (v := 1) hx hb dX12_has_54 (by decide) ?_
    refine lv_isub hx hb dX12_has_55 ?_
    refine sk_top 0 (by rw [g_5]; decide) ?_
    refine va_iald hx hb hK.1 hP 2 0 rfl rfl (by unfold vp_in; decide) dX12_has_56 ?_
    refine sk_top (nI wn) (nwX_0 hnw) ?_
    exact sk_iret hx hb hr rfl hlocks hK hP hD hS (⟨(by unfold hasV; rw [g_5, if_neg (by decide), if_pos rfl]), rfl⟩) (Nat.le_of_ble_eq_true rfl) (Nat.le_of_ble_eq_true rfl) dX12_has_57
  by_cases g_6 : w = 2
  · refine lv_tableIn (off := 48) (tgt := 49) hx hb dX12_has_1 (by rw [g_6]; decide) (by rw [g_6]; decide) (by rw [g_6]; rfl) (by decide) ?_
    refine lv_aload_n hx hb dX12_has_49 rfl (lv_at hl 0 rfl) ?_
    refine sk_get (v := .ref (g 31)) (C := RX12) (T := TX12) (N := 92) hx hb hts inlX12 hown hK hP 0 rfl rfl 31 (by decide) w_5_186 rfl dX12_has_50 ?_
    refine lv_iload_n hx hb dX12_has_53 rfl (lv_at hl 1 rfl) ?_
    refine lv_iconst (v := 1) hx hb dX12_has_54 (by decide) ?_
    refine lv_isub hx hb dX12_has_55 ?_
    refine sk_top 1 (by rw [g_6]; decide) ?_
    refine va_iald hx hb hK.1 hP 2 0 rfl rfl (by unfold vp_in; decide) dX12_has_56 ?_
    refine sk_top (nI mN) (nwX_1 hnw) ?_
    exact sk_iret hx hb hr rfl hlocks hK hP hD hS (⟨(by unfold hasV; rw [g_6, if_neg (by decide), if_neg (by decide), if_pos rfl]), rfl⟩) (Nat.le_of_ble_eq_true rfl) (Nat.le_of_ble_eq_true rfl) dX12_has_57
  by_cases g_7 : w = 3
  · refine lv_tableIn (off := 57) (tgt := 58) hx hb dX12_has_1 (by rw [g_7]; decide) (by rw [g_7]; decide) (by rw [g_7]; rfl) (by decide) ?_
    refine lv_aload_n hx hb dX12_has_58 rfl (lv_at hl 0 rfl) ?_
    refine sk_Vi (q0 := 0) (n := 0) (rest := []) (wr := fmR om_3_7 _) ⟨hx, hb, hml, hown, hts⟩ hl.1 (c_nm_muteSet l D cI cJ cC cZ cS mm g ta pa pe pd pb pp pf pg pn rt rn cd sn il tk am at_ aa wt wy rm ud nu sd qn qw qo qb qp qa qi oc l0 l1 dm l3 nw wn mN Ba We U ke lg (by omega) hnw) w_7_102 w_7_104 w_0_70 w_1_14 w_7_105 hd_X12_muteSet_0 ⟨⟨(Nat.le_of_ble_eq_true rfl), (Nat.le_of_ble_eq_true rfl)⟩, (Nat.le_of_ble_eq_true rfl), (Nat.le_of_ble_eq_true rfl)⟩ hK hP hD hS hA (fmT om_3_7 0) (fmF om_3_7 0) (fm_C1 rfl rfl) (fm_R rfl rfl) (fm_nT om_3_7 0) (fm_nF om_3_7 0) (fm_di om_3_7 0) rfl rfl rfl rfl (Nat.le_of_ble_eq_true rfl) dX12_has_59 (fun r_8 u H locs hw hP hD hS => ?_)
    refine anE hw (fun er_10 eu_9 => ?_)
    clear hw
    subst er_10
    refine o_mgE (ws' := [(mm, .inr (12, mo g (nI ta) (nI pa) (nI pe) pd (nI pb) pp pf pg pn rt rn (nI cd) sn (nI il) tk am at_ aa 0 0 (-1) wt wy 0 (nI rm) (nI ud) (nI nu) sd (nI qn) (nI qw) qo (nI qb) (nI qp) qa (nI qi) (nI oc))), (g 20, .inl (cI, 4, .inl (l4 (nI l0) (nI l1) (nI dm) (nI l3)))), (g 31, .inl (cI, 120, .inl nw))]) eu_9 hP hD rfl (fun hP hD => ?_)
    refine sk_Si (n := 1) (rest := []) (wr := [(mm, .inr (12, mo g (nI ta) (nI pa) (nI pe) pd (nI pb) pp pf pg pn rt rn (nI cd) sn (nI il) tk am at_ aa 0 0 (-1) wt wy 0 (nI rm) (nI ud) (nI nu) sd (nI qn) (nI qw) qo (nI qb) (nI qp) qa (nI qi) (nI oc))), (g 20, .inl (cI, 4, .inl (l4 (nI l0) (nI l1) (nI dm) (nI l3)))), (g 31, .inl (cI, 120, .inl nw))]) ⟨hx, hb, hml, hown, hts⟩ hl.1 (c_nm_bitsX l D cI cJ cC cZ cS (kcK U dm) (kmK_512 U (by omega))) w_7_110 w_7_111 w_1_14 w_7_112 hd_X12_bits_1 ⟨⟨(Nat.le_of_ble_eq_true rfl), (Nat.le_of_ble_eq_true rfl)⟩, (Nat.le_of_ble_eq_true rfl), (Nat.le_of_ble_eq_true rfl)⟩ hK hP hD hS hA [] [0, 1, 2] rfl rfl (by decide +kernel) (by decide +kernel) (by decide +kernel) rfl rfl (Nat.le_of_ble_eq_true rfl) dX12_has_62 (fun r_11 u H locs hw hP hD hS => ?_)
    obtain ⟨hr_12, rfl⟩ := hw
    refine o_re (ws' := [(mm, .inr (12, mo g (nI ta) (nI pa) (nI pe) pd (nI pb) pp pf pg pn rt rn (nI cd) sn (nI il) tk am at_ aa 0 0 (-1) wt wy 0 (nI rm) (nI ud) (nI nu) sd (nI qn) (nI qw) qo (nI qb) (nI qp) qa (nI qi) (nI oc))), (g 20, .inl (cI, 4, .inl (l4 (nI l0) (nI l1) (nI dm) (nI l3)))), (g 31, .inl (cI, 120, .inl nw))]) hP hD rfl (fun hP hD => ?_)
    subst hr_12
    exact sk_iret hx hb hr rfl hlocks hK hP hD hS (⟨(by unfold hasV; rw [g_7, if_neg (by decide), if_neg (by decide), if_neg (by decide), if_pos rfl, kmK_pop hUd]), rfl⟩) (Nat.le_of_ble_eq_true rfl) (Nat.le_of_ble_eq_true rfl) dX12_has_65
  by_cases g_13 : w = 4
  · refine lv_tableIn (off := 65) (tgt := 66) hx hb dX12_has_1 (by rw [g_13]; decide) (by rw [g_13]; decide) (by rw [g_13]; rfl) (by decide) ?_
    refine lv_aload_n hx hb dX12_has_66 rfl (lv_at hl 0 rfl) ?_
    refine sk_get (v := .ref (g 31)) (C := RX12) (T := TX12) (N := 92) hx hb hts inlX12 hown hK hP 0 rfl rfl 31 (by decide) w_5_186 rfl dX12_has_67 ?_
    refine lv_bipush (v := 29) hx hb dX12_has_70 (by decide) ?_
    refine va_iald hx hb hK.1 hP 2 0 rfl rfl (by unfold vp_in; decide) dX12_has_72 ?_
    refine sk_top (nI (min ke 30)) (nwX_29 hnw) ?_
    exact sk_iret hx hb hr rfl hlocks hK hP hD hS (⟨(by unfold hasV; rw [g_13, if_neg (by decide), if_neg (by decide), if_neg (by decide), if_neg (by decide), if_pos rfl]), rfl⟩) (Nat.le_of_ble_eq_true rfl) (Nat.le_of_ble_eq_true rfl) dX12_has_73
  by_cases g_14 : w = 5
  · refine lv_tableIn (off := 73) (tgt := 74) hx hb dX12_has_1 (by rw [g_14]; decide) (by rw [g_14]; decide) (by rw [g_14]; rfl) (by decide) ?_
    refine lv_aload_n hx hb dX12_has_74 rfl (lv_at hl 0 rfl) ?_
    refine sk_get (v := .int (nI rm)) (C := RX12) (T := TX12) (N := 92) hx hb hts inlX12 hown hK hP 0 rfl rfl 52 (by decide) w_5_207 rfl dX12_has_75 ?_
    exact sk_iret hx hb hr rfl hlocks hK hP hD hS (⟨(by unfold hasV; rw [g_14, if_neg (by decide), if_neg (by decide), if_neg (by decide), if_neg (by decide), if_neg (by decide), if_pos rfl]), rfl⟩) (Nat.le_of_ble_eq_true rfl) (Nat.le_of_ble_eq_true rfl) dX12_has_78
  by_cases g_15 : w = 6
  · refine lv_tableIn (off := 78) (tgt := 79) hx hb dX12_has_1 (by rw [g_15]; decide) (by rw [g_15]; decide) (by rw [g_15]; rfl) (by decide) ?_
    refine lv_aload_n hx hb dX12_has_79 rfl (lv_at hl 0 rfl) ?_
    refine sk_get (v := .int (nI ud)) (C := RX12) (T := TX12) (N := 92) hx hb hts inlX12 hown hK hP 0 rfl rfl 55 (by decide) w_5_210 rfl dX12_has_80 ?_
    exact sk_iret hx hb hr rfl hlocks hK hP hD hS (⟨(by unfold hasV; rw [g_15, if_neg (by decide), if_neg (by decide), if_neg (by decide), if_neg (by decide), if_neg (by decide), if_neg (by decide), if_pos rfl]), rfl⟩) (Nat.le_of_ble_eq_true rfl) (Nat.le_of_ble_eq_true rfl) dX12_has_83
  refine lv_tableOut (tgt := 84) hx hb dX12_has_1 (sk_out (n := 6) (by intro k hk; rcases (show k = 0 ∨ k = 1 ∨ k = 2 ∨ k = 3 ∨ k = 4 ∨ k = 5 ∨ k = 6 by omega) with rfl | rfl | rfl | rfl | rfl | rfl | rfl <;> assumption)) (by decide) ?_
  refine lv_iconst (v := (-1)) hx hb dX12_has_84 (by decide) ?_
  exact sk_iret hx hb hr rfl hlocks hK hP hD hS (⟨(by unfold hasV; rw [if_neg (by assumption), if_neg (by assumption), if_neg (by assumption), if_neg (by assumption), if_neg (by assumption), if_neg (by assumption), if_neg (by assumption)]), rfl⟩) (Nat.le_of_ble_eq_true rfl) (Nat.le_of_ble_eq_true rfl) dX12_has_85
theorem dg_X12_day_0_0 : bqL cX12_day 0 [(0, [42]), (1, [27]), (2, [182, 1, 157]), (5, [153, 0, 30]), (35, [2]), (36, [172]), (8, [28]), (9, [133]), (10, [9]), (11, [20, 1, 160]), (14, [184, 0, 238]), (17, [153, 0, 18]), (20, [42]), (21, [180, 0, 63]), (24, [5]), (25, [6]), (26, [27]), (27, [104]), (28, [96]), (29, [28]), (30, [96]), (31, [46]), (32, [167, 0, 4])] = true := by decide +kernel
theorem dX12_day_0 : decode cX12_day 0 = .ok (.aload_n 0, 1) := q_aload_n0 (bat_get dg_X12_day_0_0 0 rfl rfl)
theorem dX12_day_1 : decode cX12_day 1 = .ok (.iload_n 1, 1) := q_iload_n1 (bat_get dg_X12_day_0_0 1 rfl rfl)
theorem dX12_day_2 : decode cX12_day 2 = .ok (.invokevirtual 413, 3) := q_invokevirtual (bat_get dg_X12_day_0_0 2 rfl rfl) rfl
theorem dX12_day_5 : decode cX12_day 5 = .ok (.ifCond .eq 30, 3) := q_ifCond_eq (bat_get dg_X12_day_0_0 3 rfl rfl) rfl
theorem dX12_day_35 : decode cX12_day 35 = .ok (.iconst (-1), 1) := q_iconstm1 (bat_get dg_X12_day_0_0 4 rfl rfl)
theorem dX12_day_36 : decode cX12_day 36 = .ok (.ireturn, 1) := q_ireturn (bat_get dg_X12_day_0_0 5 rfl rfl)
theorem dX12_day_8 : decode cX12_day 8 = .ok (.iload_n 2, 1) := q_iload_n2 (bat_get dg_X12_day_0_0 6 rfl rfl)
theorem dX12_day_9 : decode cX12_day 9 = .ok (.i2l, 1) := q_i2l (bat_get dg_X12_day_0_0 7 rfl rfl)
theorem dX12_day_10 : decode cX12_day 10 = .ok (.lconst 0, 1) := q_lconst0 (bat_get dg_X12_day_0_0 8 rfl rfl)
