theorem dX12_isKept_118 : decode cX12_isKept 118 = .ok (.iconst 1, 1) := q_iconst1 (bat_get dg_X12_isKept_8_118 0 rfl rfl)
theorem dX12_isKept_119 : decode cX12_isKept 119 = .ok (.isub, 1) := q_isub (bat_get dg_X12_isKept_8_118 1 rfl rfl)
theorem dX12_isKept_120 : decode cX12_isKept 120 = .ok (.iaload, 1) := q_iaload (bat_get dg_X12_isKept_8_118 2 rfl rfl)
theorem dX12_isKept_121 : decode cX12_isKept 121 = .ok (.iastore, 1) := q_iastore (bat_get dg_X12_isKept_8_118 3 rfl rfl)
theorem dX12_isKept_122 : decode cX12_isKept 122 = .ok (.return_, 1) := q_return_ (bat_get dg_X12_isKept_8_118 4 rfl rfl)
theorem dX12_isKept_8 : decode cX12_isKept 8 = .ok (.aload_n 0, 1) := q_aload_n0 (bat_get dg_X12_isKept_8_118 5 rfl rfl)
theorem dX12_isKept_9 : decode cX12_isKept 9 = .ok (.getfield 63, 3) := q_getfield (bat_get dg_X12_isKept_8_118 6 rfl rfl) rfl
theorem dX12_isKept_12 : decode cX12_isKept 12 = .ok (.bipush 29, 2) := q_bipush (bat_get dg_X12_isKept_8_118 7 rfl rfl) rfl
theorem dX12_isKept_14 : decode cX12_isKept 14 = .ok (.iaload, 1) := q_iaload (bat_get dg_X12_isKept_8_118 8 rfl rfl)
theorem dX12_isKept_15 : decode cX12_isKept 15 = .ok (.bipush 30, 2) := q_bipush (bat_get dg_X12_isKept_8_118 9 rfl rfl) rfl
theorem dX12_isKept_17 : decode cX12_isKept 17 = .ok (.if_icmp .ne 35, 3) := q_if_icmp_ne (bat_get dg_X12_isKept_8_118 10 rfl rfl) rfl
theorem dX12_isKept_52 : decode cX12_isKept 52 = .ok (.aload_n 0, 1) := q_aload_n0 (bat_get dg_X12_isKept_8_118 11 rfl rfl)
theorem dX12_isKept_53 : decode cX12_isKept 53 = .ok (.getfield 63, 3) := q_getfield (bat_get dg_X12_isKept_8_118 12 rfl rfl) rfl
theorem dX12_isKept_56 : decode cX12_isKept 56 = .ok (.bipush 29, 2) := q_bipush (bat_get dg_X12_isKept_8_118 13 rfl rfl) rfl
theorem dX12_isKept_58 : decode cX12_isKept 58 = .ok (.dup2, 1) := q_dup2 (bat_get dg_X12_isKept_8_118 14 rfl rfl)
theorem dX12_isKept_59 : decode cX12_isKept 59 = .ok (.iaload, 1) := q_iaload (bat_get dg_X12_isKept_8_118 15 rfl rfl)
theorem dX12_isKept_60 : decode cX12_isKept 60 = .ok (.iconst 1, 1) := q_iconst1 (bat_get dg_X12_isKept_8_118 16 rfl rfl)
theorem dX12_isKept_61 : decode cX12_isKept 61 = .ok (.iadd, 1) := q_iadd (bat_get dg_X12_isKept_8_118 17 rfl rfl)
theorem dX12_isKept_62 : decode cX12_isKept 62 = .ok (.iastore, 1) := q_iastore (bat_get dg_X12_isKept_8_118 18 rfl rfl)
theorem dX12_isKept_20 : decode cX12_isKept 20 = .ok (.bipush 30, 2) := q_bipush (bat_get dg_X12_isKept_8_118 19 rfl rfl) rfl
theorem dX12_isKept_22 : decode cX12_isKept 22 = .ok (.istore_n 1, 1) := q_istore_n1 (bat_get dg_X12_isKept_8_118 20 rfl rfl)
theorem dX12_isKept_23 : decode cX12_isKept 23 = .ok (.iload_n 1, 1) := q_iload_n1 (bat_get dg_X12_isKept_8_118 21 rfl rfl)
theorem dX12_isKept_24 : decode cX12_isKept 24 = .ok (.bipush 117, 2) := q_bipush (bat_get dg_X12_isKept_8_118 22 rfl rfl) rfl
theorem dX12_isKept_26 : decode cX12_isKept 26 = .ok (.if_icmp .ge 23, 3) := q_if_icmp_ge (bat_get dg_X12_isKept_8_118 23 rfl rfl) rfl
theorem dX12_isKept_49 : decode cX12_isKept 49 = .ok (.goto 14, 3) := q_goto (bat_get dg_X12_isKept_8_118 24 rfl rfl) rfl
theorem dX12_isKept_29 : decode cX12_isKept 29 = .ok (.aload_n 0, 1) := q_aload_n0 (bat_get dg_X12_isKept_8_118 25 rfl rfl)
theorem dX12_isKept_30 : decode cX12_isKept 30 = .ok (.getfield 63, 3) := q_getfield (bat_get dg_X12_isKept_8_118 26 rfl rfl) rfl
theorem dX12_isKept_33 : decode cX12_isKept 33 = .ok (.iload_n 1, 1) := q_iload_n1 (bat_get dg_X12_isKept_8_118 27 rfl rfl)
theorem dX12_isKept_34 : decode cX12_isKept 34 = .ok (.aload_n 0, 1) := q_aload_n0 (bat_get dg_X12_isKept_8_118 28 rfl rfl)
theorem dX12_isKept_35 : decode cX12_isKept 35 = .ok (.getfield 63, 3) := q_getfield (bat_get dg_X12_isKept_8_118 29 rfl rfl) rfl
theorem dX12_isKept_38 : decode cX12_isKept 38 = .ok (.iload_n 1, 1) := q_iload_n1 (bat_get dg_X12_isKept_8_118 30 rfl rfl)
theorem dX12_isKept_39 : decode cX12_isKept 39 = .ok (.iconst 3, 1) := q_iconst3 (bat_get dg_X12_isKept_8_118 31 rfl rfl)
theorem dX12_isKept_40 : decode cX12_isKept 40 = .ok (.iadd, 1) := q_iadd (bat_get dg_X12_isKept_8_118 32 rfl rfl)
theorem dX12_isKept_41 : decode cX12_isKept 41 = .ok (.iaload, 1) := q_iaload (bat_get dg_X12_isKept_8_118 33 rfl rfl)
theorem dX12_isKept_42 : decode cX12_isKept 42 = .ok (.iastore, 1) := q_iastore (bat_get dg_X12_isKept_8_118 34 rfl rfl)
theorem dX12_isKept_43 : decode cX12_isKept 43 = .ok (.iinc 1 1, 3) := q_iinc (bat_get dg_X12_isKept_8_118 35 rfl rfl) rfl
theorem dX12_isKept_46 : decode cX12_isKept 46 = .ok (.goto (-23), 3) := q_goto (bat_get dg_X12_isKept_8_118 36 rfl rfl) rfl
theorem w_5_202 : (Cond.fieldLink RX12 391 "SameKeeperModel" "isThought" "Z") ∈ wsL_law := sk_mem (ck_5 _ (List.mem_of_getElem? (i := 202) rfl)) rfl
theorem w_8_24 : (Cond.code yX12_isKept cX12_isKept 2 none) ∈ wsL_law := sk_mem (ck_8 _ (List.mem_of_getElem? (i := 24) rfl)) rfl
set_option maxHeartbeats 4000000 in
set_option maxRecDepth 100000 in
theorem c_nm_isKept (l : Launch) (D : va_G) (cI cJ cC cZ cS : ClassId) (mm : Nat) (g : Nat → Nat) (ta : Nat) (pa : Nat) (pe : Nat) (pd : Int32) (pb : Nat) (pp : Int32) (pf : Int32) (pg : Int32) (pn : Int32) (rt : Int32) (rn : Int32) (cd : Nat) (sn : Int32) (il : Nat) (tk : Int32) (am : Int32) (at_ : Int32) (aa : Int32) (wt : Int32) (wy : Int64) (rm : Nat) (ud : Nat) (nu : Nat) (sd : Int64) (qn : Nat) (qw : Nat) (qo : Int32) (qb : Nat) (qp : Nat) (qa : Int64) (qi : Nat) (oc : Nat) (l0 : Nat) (l1 : Nat) (dm : Nat) (l3 : Nat) (nw : Nat → Int32) (pt : Nat → Nat) (wn : Nat) (mN : Nat) (Ba : Nat → Nat) (We : Nat → Nat) (U : Nat → Bool) (ke : Nat) (lg : KLg) (nn : Nat) (hdm : dm ≤ 9) (hdm1 : 1 ≤ dm) (hwyn : wy = Int64.ofNat nn) (hnn9 : nn ≤ 1000000000) (hnw : nwX wn mN Ba We U ke lg nw) (hpt : ∀ j, pt j ≤ 9) : skM l yX12_isKept cX12_isKept 2 none 1 20 0 0 D (skT cI cJ cC cZ cS) [.ref mm] [(mm, .inr (12, mo g (nI ta) (nI pa) (nI pe) pd (nI pb) pp pf pg pn rt rn (nI cd) sn (nI il) tk am at_ aa 0 0 (-1) wt wy 0 (nI rm) (nI ud) (nI nu) sd (nI qn) (nI qw) qo (nI qb) (nI qp) qa (nI qi) (nI oc))), (g 20, .inl (cI, 4, .inl (l4 (nI l0) (nI l1) (nI dm) (nI l3)))), (g 31, .inl (cI, 120, .inl nw)), (g 46, .inl (cI, 9, .inl (fun j => nI (pt j))))] (skV D (skT cI cJ cC cZ cS) (fun (u : va_W) => ∃ (nw2 : Nat → Int32), nwX wn mN Ba We U (ke + 1) (updG lg ke (wn, nn, pt (dm - 1))) nw2 ∧ u = [(mm, .inr (12, mo g (nI ta) (nI pa) (nI pe) pd (nI pb) pp pf pg pn rt rn (nI cd) sn (nI il) tk am at_ aa 0 0 (-1) wt wy 0 (nI rm) (nI ud) (nI nu) sd (nI qn) (nI qw) qo (nI qb) (nI qp) qa (nI qi) (nI oc))), (g 20, .inl (cI, 4, .inl (l4 (nI l0) (nI l1) (nI dm) (nI l3)))), (g 31, .inl (cI, 120, .inl nw2)), (g 46, .inl (cI, 9, .inl (fun j => nI (pt j))))])) := by
  refine skM_of pf_X12_isKept (Nat.le_of_ble_eq_true rfl) ?_
  intro p e s m below meth c A ls E hP hD hl
  refine skE_el E (fun hx hb hr hml hlocks hin hown hts hK hA => ?_)
  have hown : s.vm.findClass RX12 = some m.cls := hown
  have hS : va_S A s.heap s.heap [] := va_S.rf
  have hl : lv_has ls 2 [(0, .ref mm)] := hl
  refine lv_aload_n hx hb dX12_isKept_0 rfl (lv_at hl 0 rfl) ?_
  refine sk_get (v := .int 0) (C := RX12) (T := TX12) (N := 92) hx hb hts inlX12 hown hK hP 0 rfl rfl 47 (by decide) w_5_202 rfl dX12_isKept_1 ?_
  refine lv_if_eq (tgt := 8) hx hb dX12_isKept_4 (by decide) (fun c_1 => ?_) (fun c => absurd c (by decide))
  have jn_2 : ∀ (zT : Nat → Int32) (H : Heap) (locs : List Loc) (ls : Array Slot), (nwT wn mN Ba We U ke lg zT) → va_P D vwCl [(mm, .inr (12, mo g (nI ta) (nI pa) (nI pe) pd (nI pb) pp pf pg pn rt rn (nI cd) sn (nI il) tk am at_ aa 0 0 (-1) wt wy 0 (nI rm) (nI ud) (nI nu) sd (nI qn) (nI qw) qo (nI qb) (nI qp) qa (nI qi) (nI oc))), (g 20, .inl (cI, 4, .inl (l4 (nI l0) (nI l1) (nI dm) (nI l3)))), (g 31, .inl (cI, 120, .inl zT)), (g 46, .inl (cI, 9, .inl (fun j => nI (pt j))))] H → va_D A [(mm, .inr (12, mo g (nI ta) (nI pa) (nI pe) pd (nI pb) pp pf pg pn rt rn (nI cd) sn (nI il) tk am at_ aa 0 0 (-1) wt wy 0 (nI rm) (nI ud) (nI nu) sd (nI qn) (nI qw) qo (nI qb) (nI qp) qa (nI qi) (nI oc))), (g 20, .inl (cI, 4, .inl (l4 (nI l0) (nI l1) (nI dm) (nI l3)))), (g 31, .inl (cI, 120, .inl zT)), (g 46, .inl (cI, 9, .inl (fun j => nI (pt j))))] → va_S A s.heap H locs → lv_has ls 2 [(0, .ref mm)] → W p l e { frames := 1, cells := 0, slots := 0, locals := 20 } s m ([.ref mm] : List Value).toArray below meth c H locs 0 0 (MQ below (skV D (skT cI cJ cC cZ cS) (fun (u : va_W) => ∃ (nw2 : Nat → Int32), nwX wn mN Ba We U (ke + 1) (updG lg ke (wn, nn, pt (dm - 1))) nw2 ∧ u = [(mm, .inr (12, mo g (nI ta) (nI pa) (nI pe) pd (nI pb) pp pf pg pn rt rn (nI cd) sn (nI il) tk am at_ aa 0 0 (-1) wt wy 0 (nI rm) (nI ud) (nI nu) sd (nI qn) (nI qw) qo (nI qb) (nI qp) qa (nI qi) (nI oc))), (g 20, .inl (cI, 4, .inl (l4 (nI l0) (nI l1) (nI dm) (nI l3)))), (g 31, .inl (cI, 120, .inl nw2)), (g 46, .inl (cI, 9, .inl (fun j => nI (pt j))))]) A) ([.ref mm] : List Value).toArray s 0 0 A) (F0 m 63 ls []) := by
    intro zT H locs ls hT hP hD hS hl
    refine lv_bipush (v := 30) hx hb dX12_isKept_63 (by decide) ?_
    refine lv_iconst (v := 3) hx hb dX12_isKept_65 (by decide) ?_
    refine lv_aload_n hx hb dX12_isKept_66 rfl (lv_at hl 0 rfl) ?_
    refine sk_get (v := .ref (g 31)) (C := RX12) (T := TX12) (N := 92) hx hb hts inlX12 hown hK hP 0 rfl rfl 31 (by decide) w_5_186 rfl dX12_isKept_67 ?_
    refine lv_bipush (v := 29) hx hb dX12_isKept_70 (by decide) ?_
    refine va_iald hx hb hK.1 hP 2 0 rfl rfl (by unfold vp_in; decide) dX12_isKept_72 ?_
    refine sk_top (nI (min (ke + 1) 30)) (nwT_29 hT) ?_
    refine lv_imul hx hb dX12_isKept_73 ?_
    refine sk_top (nI (3 * (min (ke + 1) 30))) (nmul 3 (min (ke + 1) 30)) ?_
    refine lv_iadd hx hb dX12_isKept_74 ?_
    refine sk_top (nI (30 + (3 * (min (ke + 1) 30)))) (nI_add 30 (3 * (min (ke + 1) 30))) ?_
    refine lv_iconst (v := 3) hx hb dX12_isKept_75 (by decide) ?_
    refine lv_isub hx hb dX12_isKept_76 ?_
    refine sk_top (nI (30 + (3 * (min (ke + 1) 30)) - 3)) (nsub (30 + (3 * (min (ke + 1) 30))) 3 (by omega)) ?_
    refine lv_istore_n (lv' := [(1, .int (nI (30 + (3 * (min (ke + 1) 30)) - 3))), (0, .ref mm)]) hx hb dX12_isKept_77 rfl hl (by decide) rfl (fun ls hl => ?_)
    refine lv_aload_n hx hb dX12_isKept_78 rfl (lv_at hl 1 rfl) ?_
    refine sk_get (v := .ref (g 31)) (C := RX12) (T := TX12) (N := 92) hx hb hts inlX12 hown hK hP 0 rfl rfl 31 (by decide) w_5_186 rfl dX12_isKept_79 ?_
    refine lv_iload_n hx hb dX12_isKept_82 rfl (lv_at hl 0 rfl) ?_
    refine lv_aload_n hx hb dX12_isKept_83 rfl (lv_at hl 1 rfl) ?_
    refine sk_get (v := .ref (g 31)) (C := RX12) (T := TX12) (N := 92) hx hb hts inlX12 hown hK hP 0 rfl rfl 31 (by decide) w_5_186 rfl dX12_isKept_84 ?_
    refine lv_iconst (v := 0) hx hb dX12_isKept_87 (by decide) ?_
    refine va_iald hx hb hK.1 hP 2 0 rfl rfl (by unfold vp_in; decide) dX12_isKept_88 ?_
    refine sk_top (nI wn) (nwT_0 hT) ?_
    refine sk_iastE (k := (30 + (3 * (min (ke + 1) 30)) - 3)) (x := (nI wn)) (ws' := fun f_3 => [(mm, .inr (12, mo g (nI ta) (nI pa) (nI pe) pd (nI pb) pp pf pg pn rt rn (nI cd) sn (nI il) tk am at_ aa 0 0 (-1) wt wy 0 (nI rm) (nI ud) (nI nu) sd (nI qn) (nI qw) qo (nI qb) (nI qp) qa (nI qi) (nI oc))), (g 20, .inl (cI, 4, .inl (l4 (nI l0) (nI l1) (nI dm) (nI l3)))), (g 31, .inl (cI, 120, .inl f_3)), (g 46, .inl (cI, 9, .inl (fun j => nI (pt j))))]) hx hb hK hP hD hS 2 0 rfl rfl (by omega) (by omega) (fun _ => rfl) dX12_isKept_89 (fun f_3 H locs ef_4 hP hD hS => ?_)
    refine lv_aload_n hx hb dX12_isKept_90 rfl (lv_at hl 1 rfl) ?_
    refine sk_get (v := .ref (g 31)) (C := RX12) (T := TX12) (N := 92) hx hb hts inlX12 hown hK hP 0 rfl rfl 31 (by decide) w_5_186 rfl dX12_isKept_91 ?_
    refine lv_iload_n hx hb dX12_isKept_94 rfl (lv_at hl 0 rfl) ?_
    refine lv_iconst (v := 1) hx hb dX12_isKept_95 (by decide) ?_
    refine lv_iadd hx hb dX12_isKept_96 ?_
    refine sk_top (nI (30 + (3 * (min (ke + 1) 30)) - 3 + 1)) (nI_add (30 + (3 * (min (ke + 1) 30)) - 3) 1) ?_
    refine lv_aload_n hx hb dX12_isKept_97 rfl (lv_at hl 1 rfl) ?_
    refine sk_get (v := .long wy) (C := RX12) (T := TX12) (N := 92) hx hb hts inlX12 hown hK hP 0 rfl rfl 45 (by decide) w_5_200 rfl dX12_isKept_98 ?_
    refine lv_l2i hx hb dX12_isKept_101 rfl ?_
    refine sk_top (nI nn) (by rw [hwyn]; exact kw_l2i hnn9) ?_
    refine sk_iastE (k := (30 + (3 * (min (ke + 1) 30)) - 3 + 1)) (x := (nI nn)) (ws' := fun f_5 => [(mm, .inr (12, mo g (nI ta) (nI pa) (nI pe) pd (nI pb) pp pf pg pn rt rn (nI cd) sn (nI il) tk am at_ aa 0 0 (-1) wt wy 0 (nI rm) (nI ud) (nI nu) sd (nI qn) (nI qw) qo (nI qb) (nI qp) qa (nI qi) (nI oc))), (g 20, .inl (cI, 4, .inl (l4 (nI l0) (nI l1) (nI dm) (nI l3)))), (g 31, .inl (cI, 120, .inl f_5)), (g 46, .inl (cI, 9, .inl (fun j => nI (pt j))))]) hx hb hK hP hD hS 2 0 rfl rfl (by omega) (by omega) (fun _ => rfl) dX12_isKept_102 (fun f_5 H locs ef_6 hP hD hS => ?_)
    refine lv_aload_n hx hb dX12_isKept_103 rfl (lv_at hl 1 rfl) ?_
    refine sk_get (v := .ref (g 31)) (C := RX12) (T := TX12) (N := 92) hx hb hts inlX12 hown hK hP 0 rfl rfl 31 (by decide) w_5_186 rfl dX12_isKept_104 ?_
    refine lv_iload_n hx hb dX12_isKept_107 rfl (lv_at hl 0 rfl) ?_
    refine lv_iconst (v := 2) hx hb dX12_isKept_108 (by decide) ?_
    refine lv_iadd hx hb dX12_isKept_109 ?_
    refine sk_top (nI (30 + (3 * (min (ke + 1) 30)) - 3 + 2)) (nI_add (30 + (3 * (min (ke + 1) 30)) - 3) 2) ?_
    refine lv_aload_n hx hb dX12_isKept_110 rfl (lv_at hl 1 rfl) ?_
    refine sk_get (v := .ref (g 46)) (C := RX12) (T := TX12) (N := 92) hx hb hts inlX12 hown hK hP 0 rfl rfl 46 (by decide) w_5_201 rfl dX12_isKept_111 ?_
    refine lv_aload_n hx hb dX12_isKept_114 rfl (lv_at hl 1 rfl) ?_
    refine sk_Vi (q0 := 0) (n := 0) (rest := [.ref (g 46), .int (nI (30 + (3 * (min (ke + 1) 30)) - 3 + 2)), .ref (g 31)]) (wr := fmR om_4_c _) ⟨hx, hb, hml, hown, hts⟩ hl.1 (c_m_dayMany l D cI cJ cC cZ cS mm g ta pa pe pd pb pp pf pg pn rt rn cd sn il tk am at_ aa 0 0 (-1) wt wy 0 rm ud nu sd qn qw qo qb qp qa qi oc l0 l1 dm l3) w_7_98 w_7_100 w_0_69 w_1_14 w_7_101 hd_X12_dayMany_0 ⟨⟨(Nat.le_of_ble_eq_true rfl), (Nat.le_of_ble_eq_true rfl)⟩, (Nat.le_of_ble_eq_true rfl), (Nat.le_of_ble_eq_true rfl)⟩ hK hP hD hS hA (fmT om_4_c 0) (fmF om_4_c 0) (fm_C1 rfl rfl) (fm_R rfl rfl) (fm_nT om_4_c 0) (fm_nF om_4_c 0) (fm_di om_4_c 0) rfl rfl rfl rfl (Nat.le_of_ble_eq_true rfl) dX12_isKept_115 (fun r_7 u H locs hw hP hD hS => ?_)
    refine anE hw (fun er_9 eu_8 => ?_)
    clear hw
    subst er_9
    refine o_mgE (ws' := [(mm, .inr (12, mo g (nI ta) (nI pa) (nI pe) pd (nI pb) pp pf pg pn rt rn (nI cd) sn (nI il) tk am at_ aa 0 0 (-1) wt wy 0 (nI rm) (nI ud) (nI nu) sd (nI qn) (nI qw) qo (nI qb) (nI qp) qa (nI qi) (nI oc))), (g 20, .inl (cI, 4, .inl (l4 (nI l0) (nI l1) (nI dm) (nI l3)))), (g 31, .inl (cI, 120, .inl f_5)), (g 46, .inl (cI, 9, .inl (fun j => nI (pt j))))]) eu_8 hP hD rfl (fun hP hD => ?_)
    refine lv_iconst (v := 1) hx hb dX12_isKept_118 (by decide) ?_
    refine lv_isub hx hb dX12_isKept_119 ?_
    refine sk_top (nI (dm - 1)) (nsub dm 1 (by omega)) ?_
    refine va_iald hx hb hK.1 hP 3 0 rfl rfl (vin (dm - 1) 9 (by omega) (by omega)) dX12_isKept_120 ?_
    refine sk_top (nI (pt (dm - 1))) (nrd pt (dm - 1) (by omega)) ?_
    have hb_10 := hpt (dm - 1)
    refine sk_iastE (k := (30 + (3 * (min (ke + 1) 30)) - 3 + 2)) (x := (nI (pt (dm - 1)))) (ws' := fun f_11 => [(mm, .inr (12, mo g (nI ta) (nI pa) (nI pe) pd (nI pb) pp pf pg pn rt rn (nI cd) sn (nI il) tk am at_ aa 0 0 (-1) wt wy 0 (nI rm) (nI ud) (nI nu) sd (nI qn) (nI qw) qo (nI qb) (nI qp) qa (nI qi) (nI oc))), (g 20, .inl (cI, 4, .inl (l4 (nI l0) (nI l1) (nI dm) (nI l3)))), (g 31, .inl (cI, 120, .inl f_11)), (g 46, .inl (cI, 9, .inl (fun j => nI (pt j))))]) hx hb hK hP hD hS 2 0 rfl rfl (by omega) (by omega) (fun _ => rfl) dX12_isKept_121 (fun f_11 H locs ef_12 hP hD hS => ?_)
    have hfin := nwT_3 hT ef_4 ef_6 ef_12 (by omega)
    exact sk_vret hx hb hr hlocks hK hP hD hS (⟨f_11, hfin, rfl⟩) (Nat.le_of_ble_eq_true rfl) (Nat.le_of_ble_eq_true rfl) dX12_isKept_122
  refine lv_aload_n hx hb dX12_isKept_8 rfl (lv_at hl 0 rfl) ?_
  refine sk_get (v := .ref (g 31)) (C := RX12) (T := TX12) (N := 92) hx hb hts inlX12 hown hK hP 0 rfl rfl 31 (by decide) w_5_186 rfl dX12_isKept_9 ?_
  refine lv_bipush (v := 29) hx hb dX12_isKept_12 (by decide) ?_
  refine va_iald hx hb hK.1 hP 2 0 rfl rfl (by unfold vp_in; decide) dX12_isKept_14 ?_
  refine sk_top (nI (min ke 30)) (nwX_29 hnw) ?_
  refine lv_bipush (v := 30) hx hb dX12_isKept_15 (by decide) ?_
  refine lv_icmp_ne (tgt := 52) hx hb dX12_isKept_17 (by decide) (fun c_13 => ?_) (fun c_13 => ?_)
  · have c_13 : ¬ (min ke 30 = 30) := fun h => c_13 ((neq (min ke 30) 30 (by omega) (by omega)).mpr h)
    refine lv_aload_n hx hb dX12_isKept_52 rfl (lv_at hl 0 rfl) ?_
    refine sk_get (v := .ref (g 31)) (C := RX12) (T := TX12) (N := 92) hx hb hts inlX12 hown hK hP 0 rfl rfl 31 (by decide) w_5_186 rfl dX12_isKept_53 ?_
    refine lv_bipush (v := 29) hx hb dX12_isKept_56 (by decide) ?_
    refine lv_dup2_11 hx hb dX12_isKept_58 rfl rfl ?_
    refine va_iald hx hb hK.1 hP 2 0 rfl rfl (by unfold vp_in; decide) dX12_isKept_59 ?_
    refine sk_top (nI (min ke 30)) (nwX_29 hnw) ?_
    refine lv_iconst (v := 1) hx hb dX12_isKept_60 (by decide) ?_
    refine lv_iadd hx hb dX12_isKept_61 ?_
    refine sk_top (nI (min ke 30 + 1)) (nI_add (min ke 30) 1) ?_
    refine sk_iastE (k := 29) (x := (nI (min ke 30 + 1))) (ws' := fun f_14 => [(mm, .inr (12, mo g (nI ta) (nI pa) (nI pe) pd (nI pb) pp pf pg pn rt rn (nI cd) sn (nI il) tk am at_ aa 0 0 (-1) wt wy 0 (nI rm) (nI ud) (nI nu) sd (nI qn) (nI qw) qo (nI qb) (nI qp) qa (nI qi) (nI oc))), (g 20, .inl (cI, 4, .inl (l4 (nI l0) (nI l1) (nI dm) (nI l3)))), (g 31, .inl (cI, 120, .inl f_14)), (g 46, .inl (cI, 9, .inl (fun j => nI (pt j))))]) hx hb hK hP hD hS 2 0 rfl rfl (by omega) (by omega) (fun _ => rfl) dX12_isKept_62 (fun f_14 H locs ef_15 hP hD hS => ?_)
    have hT_16 := nwT_up hnw ef_15 rfl (by omega)
    exact jn_2 f_14 _ _ _ hT_16 hP hD hS (lv_sub hl [0] rfl)
  · have c_13 : min ke 30 = 30 := (neq (min ke 30) 30 (by omega) (by omega)).mp c_13
    refine lv_bipush (v := 30) hx hb dX12_isKept_20 (by decide) ?_
    refine lv_istore_n (lv' := [(1, .int 30), (0, .ref mm)]) hx hb dX12_isKept_22 rfl hl (by decide) rfl (fun ls hl => ?_)
    have lp_17 : ∀ (n_18 : Nat) (i : Nat) (zn : Nat → Int32) (H : Heap) (locs : List Loc) (ls : Array Slot), 117 - i < n_18 → (i ≤ 117) → (30 ≤ i) → (nwS wn mN Ba We U ke lg i zn) → va_P D vwCl [(mm, .inr (12, mo g (nI ta) (nI pa) (nI pe) pd (nI pb) pp pf pg pn rt rn (nI cd) sn (nI il) tk am at_ aa 0 0 (-1) wt wy 0 (nI rm) (nI ud) (nI nu) sd (nI qn) (nI qw) qo (nI qb) (nI qp) qa (nI qi) (nI oc))), (g 20, .inl (cI, 4, .inl (l4 (nI l0) (nI l1) (nI dm) (nI l3)))), (g 31, .inl (cI, 120, .inl zn)), (g 46, .inl (cI, 9, .inl (fun j => nI (pt j))))] H → va_D A [(mm, .inr (12, mo g (nI ta) (nI pa) (nI pe) pd (nI pb) pp pf pg pn rt rn (nI cd) sn (nI il) tk am at_ aa 0 0 (-1) wt wy 0 (nI rm) (nI ud) (nI nu) sd (nI qn) (nI qw) qo (nI qb) (nI qp) qa (nI qi) (nI oc))), (g 20, .inl (cI, 4, .inl (l4 (nI l0) (nI l1) (nI dm) (nI l3)))), (g 31, .inl (cI, 120, .inl zn)), (g 46, .inl (cI, 9, .inl (fun j => nI (pt j))))] → va_S A s.heap H locs → lv_has ls 2 [(1, .int (nI i)), (0, .ref mm)] → W p l e { frames := 1, cells := 0, slots := 0, locals := 20 } s m ([.ref mm] : List Value).toArray below meth c H locs 0 0 (MQ below (skV D (skT cI cJ cC cZ cS) (fun (u : va_W) => ∃ (nw2 : Nat → Int32), nwX wn mN Ba We U (ke + 1) (updG lg ke (wn, nn, pt (dm - 1))) nw2 ∧ u = [(mm, .inr (12, mo g (nI ta) (nI pa) (nI pe) pd (nI pb) pp pf pg pn rt rn (nI cd) sn (nI il) tk am at_ aa 0 0 (-1) wt wy 0 (nI rm) (nI ud) (nI nu) sd (nI qn) (nI qw) qo (nI qb) (nI qp) qa (nI qi) (nI oc))), (g 20, .inl (cI, 4, .inl (l4 (nI l0) (nI l1) (nI dm) (nI l3)))), (g 31, .inl (cI, 120, .inl nw2)), (g 46, .inl (cI, 9, .inl (fun j => nI (pt j))))]) A) ([.ref mm] : List Value).toArray s 0 0 A) (F0 m 23 ls []) := by
      intro n_18
      induction n_18 with
      | zero => intro i zn H locs ls hm; exact absurd hm (Nat.not_lt_zero _)
      | succ n_18 ih_lp_17 =>
        intro i zn H locs ls hm hi hi0 hsn hP hD hS hl
        refine lv_iload_n hx hb dX12_isKept_23 rfl (lv_at hl 0 rfl) ?_
        refine lv_bipush (v := 117) hx hb dX12_isKept_24 (by decide) ?_
        refine lv_icmp_ge (tgt := 49) hx hb dX12_isKept_26 (by decide) (fun c_19 => ?_) (fun c_19 => ?_)
        · have c_19 : 117 ≤ i := (nle 117 i (by omega) (by omega)).mp c_19
          have hT0 := nwT_of (show nwS wn mN Ba We U ke lg 117 zn by rw [show 117 = i by omega]; exact hsn) (by omega)
          refine lv_goto (tgt := 63) hx hb dX12_isKept_49 (by decide) ?_
          exact jn_2 zn _ _ _ hT0 hP hD hS (lv_sub hl [1] rfl)
        · have c_19 : ¬ (117 ≤ i) := fun h => c_19 ((nle 117 i (by omega) (by omega)).mpr h)
          refine lv_aload_n hx hb dX12_isKept_29 rfl (lv_at hl 1 rfl) ?_
          refine sk_get (v := .ref (g 31)) (C := RX12) (T := TX12) (N := 92) hx hb hts inlX12 hown hK hP 0 rfl rfl 31 (by decide) w_5_186 rfl dX12_isKept_30 ?_
          refine lv_iload_n hx hb dX12_isKept_33 rfl (lv_at hl 0 rfl) ?_
          refine lv_aload_n hx hb dX12_isKept_34 rfl (lv_at hl 1 rfl) ?_
          refine sk_get (v := .ref (g 31)) (C := RX12) (T := TX12) (N := 92) hx hb hts inlX12 hown hK hP 0 rfl rfl 31 (by decide) w_5_186 rfl dX12_isKept_35 ?_
          refine lv_iload_n hx hb dX12_isKept_38 rfl (lv_at hl 0 rfl) ?_
          refine lv_iconst (v := 3) hx hb dX12_isKept_39 (by decide) ?_
          refine lv_iadd hx hb dX12_isKept_40 ?_
          refine sk_top (nI (i + 3)) (nI_add i 3) ?_
          refine va_iald hx hb hK.1 hP 2 0 rfl rfl (vin (i + 3) 120 (by omega) (by omega)) dX12_isKept_41 ?_
          refine sk_top (zn (i + 3)) (by rw [nI_clamp (by omega)]) ?_
          refine sk_iastE (k := i) (x := (zn (i + 3))) (ws' := fun f_20 => [(mm, .inr (12, mo g (nI ta) (nI pa) (nI pe) pd (nI pb) pp pf pg pn rt rn (nI cd) sn (nI il) tk am at_ aa 0 0 (-1) wt wy 0 (nI rm) (nI ud) (nI nu) sd (nI qn) (nI qw) qo (nI qb) (nI qp) qa (nI qi) (nI oc))), (g 20, .inl (cI, 4, .inl (l4 (nI l0) (nI l1) (nI dm) (nI l3)))), (g 31, .inl (cI, 120, .inl f_20)), (g 46, .inl (cI, 9, .inl (fun j => nI (pt j))))]) hx hb hK hP hD hS 2 0 rfl rfl (by omega) (by omega) (fun _ => rfl) dX12_isKept_42 (fun f_20 H locs ef_21 hP hD hS => ?_)
          refine lv_iinc (v := nI (i + 1)) (lv' := [(1, .int (nI (i + 1))), (0, .ref mm)]) hx hb dX12_isKept_43 hl (k := 0) rfl (ninc i 1 (by decide)) (by decide) rfl (fun ls hl => ?_)
          refine lv_goto (tgt := 23) hx hb dX12_isKept_46 (by decide) ?_
          exact ih_lp_17 (i + 1) f_20 _ _ _ (by omega) (by omega) (by omega) (nwS_s hsn ef_21 rfl hi0 (by omega)) hP hD hS (lv_sub hl [0, 1] rfl)
    exact lp_17 (117 - 30 + 1) 30 nw _ _ _ (Nat.lt_succ_self _) (by omega) (by omega) (nwS_0 hnw (by omega)) hP hD hS (lv_sub hl [0, 1] rfl)
