theorem dX12_stands_127 : decode cX12_stands 127 = .ok (.iastore, 1) := q_iastore (bat_get dg_X12_stands_91_181 18 rfl rfl)
theorem dX12_stands_128 : decode cX12_stands 128 = .ok (.iinc 1 1, 3) := q_iinc (bat_get dg_X12_stands_91_181 19 rfl rfl) rfl
theorem dX12_stands_131 : decode cX12_stands 131 = .ok (.goto (-16), 3) := q_goto (bat_get dg_X12_stands_91_181 20 rfl rfl) rfl
theorem dX12_stands_91 : decode cX12_stands 91 = .ok (.aload_n 0, 1) := q_aload_n0 (bat_get dg_X12_stands_91_181 21 rfl rfl)
theorem dX12_stands_92 : decode cX12_stands 92 = .ok (.getfield 60, 3) := q_getfield (bat_get dg_X12_stands_91_181 22 rfl rfl) rfl
theorem dX12_stands_95 : decode cX12_stands 95 = .ok (.sipush 1600, 3) := q_sipush (bat_get dg_X12_stands_91_181 23 rfl rfl) rfl
theorem dX12_stands_98 : decode cX12_stands 98 = .ok (.iload_n 1, 1) := q_iload_n1 (bat_get dg_X12_stands_91_181 24 rfl rfl)
theorem dX12_stands_99 : decode cX12_stands 99 = .ok (.iadd, 1) := q_iadd (bat_get dg_X12_stands_91_181 25 rfl rfl)
theorem dX12_stands_100 : decode cX12_stands 100 = .ok (.aload_n 0, 1) := q_aload_n0 (bat_get dg_X12_stands_91_181 26 rfl rfl)
theorem dX12_stands_101 : decode cX12_stands 101 = .ok (.getfield 60, 3) := q_getfield (bat_get dg_X12_stands_91_181 27 rfl rfl) rfl
theorem dX12_stands_104 : decode cX12_stands 104 = .ok (.iload_n 1, 1) := q_iload_n1 (bat_get dg_X12_stands_91_181 28 rfl rfl)
theorem dX12_stands_105 : decode cX12_stands 105 = .ok (.iaload, 1) := q_iaload (bat_get dg_X12_stands_91_181 29 rfl rfl)
theorem dX12_stands_106 : decode cX12_stands 106 = .ok (.iastore, 1) := q_iastore (bat_get dg_X12_stands_91_181 30 rfl rfl)
theorem dX12_stands_107 : decode cX12_stands 107 = .ok (.iinc 1 1, 3) := q_iinc (bat_get dg_X12_stands_91_181 31 rfl rfl) rfl
theorem dX12_stands_110 : decode cX12_stands 110 = .ok (.goto (-27), 3) := q_goto (bat_get dg_X12_stands_91_181 32 rfl rfl) rfl
theorem w_7_89 : (Cond.code yX12_stands cX12_stands 2 none) ∈ wsL_law := sk_mem (ck_7 _ (List.mem_of_getElem? (i := 89) rfl)) rfl
set_option maxHeartbeats 4000000 in
set_option maxRecDepth 100000 in
theorem c_em_stands (l : Launch) (D : va_G) (cI cJ cC cZ cS : ClassId) (mm : Nat) (g : Nat → Nat) (ta : Nat) (pa : Nat) (pe : Nat) (pd : Int32) (pb : Nat) (pp : Int32) (pf : Int32) (pg : Int32) (pn : Int32) (rt : Int32) (rn : Int32) (cd : Nat) (sn : Int32) (il : Nat) (tk : Int32) (am : Int32) (at_ : Int32) (aa : Int32) (wt : Int32) (wy : Int64) (rm : Nat) (ud : Nat) (nu : Nat) (sd : Int64) (qn : Nat) (qw : Nat) (qo : Int32) (qb : Nat) (qp : Nat) (qa : Int64) (qi : Nat) (oc : Nat) (l0 : Nat) (l1 : Nat) (dm : Nat) (l3 : Nat) (dz : Nat → Int32) (u0 : Int32) (u1 : Int32) (u2 : Int32) (u3 : Int32) (u4 : Int32) (u5 : Int32) (v0 : Int32) (v1 : Int32) (v2 : Int32) (v3 : Int32) (v4 : Int32) (v5 : Int32) (cs : Nat → Nat) (nw : Nat → Int32) (hcd : cd ≤ 1600) (hl19 : l1 ≤ 9) (hlo0 : lowOk cs cd u0 v0) (hlo1 : lowOk cs cd u1 v1) (hlo2 : lowOk cs cd u2 v2) (hcs : ∀ j, cs j ≤ 20000) : skM l yX12_stands cX12_stands 2 none 0 0 0 0 D (skT cI cJ cC cZ cS) [.ref mm] [(mm, .inr (12, mo g (nI ta) (nI pa) (nI pe) pd (nI pb) pp pf pg pn rt rn (nI cd) sn (nI il) tk am at_ aa 0 0 (-1) wt wy 0 (nI rm) (nI ud) (nI nu) sd (nI qn) (nI qw) qo (nI qb) (nI qp) qa (nI qi) (nI oc))), (g 20, .inl (cI, 4, .inl (l4 (nI l0) (nI l1) (nI dm) (nI l3)))), (g 21, .inl (cI, 27, .inl dz)), (g 24, .inl (cI, 6, .inl (l6 u0 u1 u2 u3 u4 u5))), (g 25, .inl (cI, 6, .inl (l6 v0 v1 v2 v3 v4 v5))), (g 26, .inl (cI, 3200, .inl (fun j => nI (cs j)))), (g 31, .inl (cI, 120, .inl nw))] (skV D (skT cI cJ cC cZ cS) (fun (u : va_W) => ∃ (nw2 : Nat → Int32), ∃ (cs2 : Nat → Nat), progOk cs2 u0 v0 ∧ progOk cs2 u1 v1 ∧ progOk cs2 u2 v2 ∧ cpy cs cs 1600 cd cs2 ∧ lz2 dz l1 27 nw2 ∧ (∀ j, cs2 j ≤ 20000) ∧ u = [(mm, .inr (12, mo g (nI ta) (nI pa) (nI pe) pd (nI pb) pp pf pg pn rt rt (nI cd) sn 1 tk am at_ aa 0 0 (-1) wt wy 0 0 0 (nI nu) sd (nI qn) (nI qw) qo (nI qb) (nI qp) qa (nI qi) (nI oc))), (g 20, .inl (cI, 4, .inl (l4 (nI l0) (nI l1) (nI l0) (nI l1)))), (g 21, .inl (cI, 27, .inl dz)), (g 24, .inl (cI, 6, .inl (l6 u0 u1 u2 u0 u1 u2))), (g 25, .inl (cI, 6, .inl (l6 v0 v1 v2 v0 v1 v2))), (g 26, .inl (cI, 3200, .inl (fun j => nI (cs2 j)))), (g 31, .inl (cI, 120, .inl nw2))])) := by
  refine skM_of pf_X12_stands (Nat.le_of_ble_eq_true rfl) ?_
  intro p e s m below meth c A ls E hP hD hl
  refine skE_el E (fun hx hb hr hml hlocks hin hown hts hK hA => ?_)
  have hown : s.vm.findClass RX12 = some m.cls := hown
  have hS : va_S A s.heap s.heap [] := va_S.rf
  have hl : lv_has ls 2 [(0, .ref mm)] := hl
  refine lv_aload_n hx hb dX12_stands_0 rfl (lv_at hl 0 rfl) ?_
  refine lv_iconst (v := 1) hx hb dX12_stands_1 (by decide) ?_
  refine sk_put (ws' := [(mm, .inr (12, mo g (nI ta) (nI pa) (nI pe) pd (nI pb) pp pf pg pn rt rn (nI cd) sn 1 tk am at_ aa 0 0 (-1) wt wy 0 (nI rm) (nI ud) (nI nu) sd (nI qn) (nI qw) qo (nI qb) (nI qp) qa (nI qi) (nI oc))), (g 20, .inl (cI, 4, .inl (l4 (nI l0) (nI l1) (nI dm) (nI l3)))), (g 21, .inl (cI, 27, .inl dz)), (g 24, .inl (cI, 6, .inl (l6 u0 u1 u2 u3 u4 u5))), (g 25, .inl (cI, 6, .inl (l6 v0 v1 v2 v3 v4 v5))), (g 26, .inl (cI, 3200, .inl (fun j => nI (cs j)))), (g 31, .inl (cI, 120, .inl nw))]) (C := RX12) (T := TX12) (N := 92) (v := .int 1) hx hb hts inlX12 tyX12 tyX12_ok nmX12 hown hK hP hD hS 0 rfl rfl 29 (by decide) w_5_184 rfl rfl rfl (Nat.le_of_ble_eq_true rfl) rfl dX12_stands_2 (fun H locs hP hD hS => ?_)
  refine lv_iconst (v := 0) hx hb dX12_stands_5 (by decide) ?_
  refine lv_istore_n (lv' := [(1, .int 0), (0, .ref mm)]) hx hb dX12_stands_6 rfl hl (by decide) rfl (fun ls hl => ?_)
  refine lv_iload_n hx hb dX12_stands_7 rfl (lv_at hl 0 rfl) ?_
  refine lv_iconst (v := 2) hx hb dX12_stands_8 (by decide) ?_
  refine lv_icmp_ge (tgt := 32) hx hb dX12_stands_9 (by decide) (fun c => absurd c (by decide)) (fun c_1 => ?_)
  refine lv_aload_n hx hb dX12_stands_12 rfl (lv_at hl 1 rfl) ?_
  refine sk_get (v := .ref (g 20)) (C := RX12) (T := TX12) (N := 92) hx hb hts inlX12 hown hK hP 0 rfl rfl 20 (by decide) w_5_175 rfl dX12_stands_13 ?_
  refine lv_iconst (v := 2) hx hb dX12_stands_16 (by decide) ?_
  refine lv_iload_n hx hb dX12_stands_17 rfl (lv_at hl 0 rfl) ?_
  refine lv_iadd hx hb dX12_stands_18 ?_
  refine sk_top 2 (by decide) ?_
  refine lv_aload_n hx hb dX12_stands_19 rfl (lv_at hl 1 rfl) ?_
  refine sk_get (v := .ref (g 20)) (C := RX12) (T := TX12) (N := 92) hx hb hts inlX12 hown hK hP 0 rfl rfl 20 (by decide) w_5_175 rfl dX12_stands_20 ?_
  refine lv_iload_n hx hb dX12_stands_23 rfl (lv_at hl 0 rfl) ?_
  refine va_iald hx hb hK.1 hP 1 0 rfl rfl (by unfold vp_in; decide) dX12_stands_24 ?_
  refine sk_top (nI l0) rfl ?_
  refine sk_iastT (f' := l4 (nI l0) (nI l1) (nI l0) (nI l3)) (ws' := [(mm, .inr (12, mo g (nI ta) (nI pa) (nI pe) pd (nI pb) pp pf pg pn rt rn (nI cd) sn 1 tk am at_ aa 0 0 (-1) wt wy 0 (nI rm) (nI ud) (nI nu) sd (nI qn) (nI qw) qo (nI qb) (nI qp) qa (nI qi) (nI oc))), (g 20, .inl (cI, 4, .inl (l4 (nI l0) (nI l1) (nI l0) (nI l3)))), (g 21, .inl (cI, 27, .inl dz)), (g 24, .inl (cI, 6, .inl (l6 u0 u1 u2 u3 u4 u5))), (g 25, .inl (cI, 6, .inl (l6 v0 v1 v2 v3 v4 v5))), (g 26, .inl (cI, 3200, .inl (fun j => nI (cs j)))), (g 31, .inl (cI, 120, .inl nw))]) hx hb hK hP hD hS 1 0 rfl rfl (by unfold vp_in; decide) (l4_2 _ _ _ _ _) rfl dX12_stands_25 (fun H locs hP hD hS => ?_)
  refine lv_iinc (v := 1) (lv' := [(1, .int 1), (0, .ref mm)]) hx hb dX12_stands_26 hl (k := 0) rfl (by decide) (by decide) rfl (fun ls hl => ?_)
  refine lv_goto (tgt := 7) hx hb dX12_stands_29 (by decide) ?_
  refine lv_iload_n hx hb dX12_stands_7 rfl (lv_at hl 0 rfl) ?_
  refine lv_iconst (v := 2) hx hb dX12_stands_8 (by decide) ?_
  refine lv_icmp_ge (tgt := 32) hx hb dX12_stands_9 (by decide) (fun c => absurd c (by decide)) (fun c_3 => ?_)
  refine lv_aload_n hx hb dX12_stands_12 rfl (lv_at hl 1 rfl) ?_
  refine sk_get (v := .ref (g 20)) (C := RX12) (T := TX12) (N := 92) hx hb hts inlX12 hown hK hP 0 rfl rfl 20 (by decide) w_5_175 rfl dX12_stands_13 ?_
  refine lv_iconst (v := 2) hx hb dX12_stands_16 (by decide) ?_
  refine lv_iload_n hx hb dX12_stands_17 rfl (lv_at hl 0 rfl) ?_
  refine lv_iadd hx hb dX12_stands_18 ?_
  refine sk_top 3 (by decide) ?_
  refine lv_aload_n hx hb dX12_stands_19 rfl (lv_at hl 1 rfl) ?_
  refine sk_get (v := .ref (g 20)) (C := RX12) (T := TX12) (N := 92) hx hb hts inlX12 hown hK hP 0 rfl rfl 20 (by decide) w_5_175 rfl dX12_stands_20 ?_
  refine lv_iload_n hx hb dX12_stands_23 rfl (lv_at hl 0 rfl) ?_
  refine va_iald hx hb hK.1 hP 1 0 rfl rfl (by unfold vp_in; decide) dX12_stands_24 ?_
  refine sk_top (nI l1) rfl ?_
  refine sk_iastT (f' := l4 (nI l0) (nI l1) (nI l0) (nI l1)) (ws' := [(mm, .inr (12, mo g (nI ta) (nI pa) (nI pe) pd (nI pb) pp pf pg pn rt rn (nI cd) sn 1 tk am at_ aa 0 0 (-1) wt wy 0 (nI rm) (nI ud) (nI nu) sd (nI qn) (nI qw) qo (nI qb) (nI qp) qa (nI qi) (nI oc))), (g 20, .inl (cI, 4, .inl (l4 (nI l0) (nI l1) (nI l0) (nI l1)))), (g 21, .inl (cI, 27, .inl dz)), (g 24, .inl (cI, 6, .inl (l6 u0 u1 u2 u3 u4 u5))), (g 25, .inl (cI, 6, .inl (l6 v0 v1 v2 v3 v4 v5))), (g 26, .inl (cI, 3200, .inl (fun j => nI (cs j)))), (g 31, .inl (cI, 120, .inl nw))]) hx hb hK hP hD hS 1 0 rfl rfl (by unfold vp_in; decide) (l4_3 _ _ _ _ _) rfl dX12_stands_25 (fun H locs hP hD hS => ?_)
  refine lv_iinc (v := 2) (lv' := [(1, .int 2), (0, .ref mm)]) hx hb dX12_stands_26 hl (k := 0) rfl (by decide) (by decide) rfl (fun ls hl => ?_)
  refine lv_goto (tgt := 7) hx hb dX12_stands_29 (by decide) ?_
  refine lv_iload_n hx hb dX12_stands_7 rfl (lv_at hl 0 rfl) ?_
  refine lv_iconst (v := 2) hx hb dX12_stands_8 (by decide) ?_
  refine lv_icmp_ge (tgt := 32) hx hb dX12_stands_9 (by decide) (fun c_5 => ?_) (fun c => absurd c (by decide))
  refine lv_aload_n hx hb dX12_stands_32 rfl (lv_at hl 1 rfl) ?_
  refine lv_aload_n hx hb dX12_stands_33 rfl (lv_at hl 1 rfl) ?_
  refine sk_get (v := .int rt) (C := RX12) (T := TX12) (N := 92) hx hb hts inlX12 hown hK hP 0 rfl rfl 22 (by decide) w_5_177 rfl dX12_stands_34 ?_
  refine sk_put (ws' := [(mm, .inr (12, mo g (nI ta) (nI pa) (nI pe) pd (nI pb) pp pf pg pn rt rt (nI cd) sn 1 tk am at_ aa 0 0 (-1) wt wy 0 (nI rm) (nI ud) (nI nu) sd (nI qn) (nI qw) qo (nI qb) (nI qp) qa (nI qi) (nI oc))), (g 20, .inl (cI, 4, .inl (l4 (nI l0) (nI l1) (nI l0) (nI l1)))), (g 21, .inl (cI, 27, .inl dz)), (g 24, .inl (cI, 6, .inl (l6 u0 u1 u2 u3 u4 u5))), (g 25, .inl (cI, 6, .inl (l6 v0 v1 v2 v3 v4 v5))), (g 26, .inl (cI, 3200, .inl (fun j => nI (cs j)))), (g 31, .inl (cI, 120, .inl nw))]) (C := RX12) (T := TX12) (N := 92) (v := .int rt) hx hb hts inlX12 tyX12 tyX12_ok nmX12 hown hK hP hD hS 0 rfl rfl 23 (by decide) w_5_178 rfl rfl rfl (Nat.le_of_ble_eq_true rfl) rfl dX12_stands_37 (fun H locs hP hD hS => ?_)
  refine lv_iconst (v := 0) hx hb dX12_stands_40 (by decide) ?_
  refine lv_istore_n (lv' := [(1, .int 0), (0, .ref mm)]) hx hb dX12_stands_41 rfl hl (by decide) rfl (fun ls hl => ?_)
  refine lv_iload_n hx hb dX12_stands_42 rfl (lv_at hl 0 rfl) ?_
  refine lv_iconst (v := 3) hx hb dX12_stands_43 (by decide) ?_
  refine lv_icmp_ge (tgt := 81) hx hb dX12_stands_44 (by decide) (fun c => absurd c (by decide)) (fun c_6 => ?_)
  refine lv_aload_n hx hb dX12_stands_47 rfl (lv_at hl 1 rfl) ?_
  refine sk_get (v := .ref (g 24)) (C := RX12) (T := TX12) (N := 92) hx hb hts inlX12 hown hK hP 0 rfl rfl 24 (by decide) w_5_179 rfl dX12_stands_48 ?_
  refine lv_iconst (v := 3) hx hb dX12_stands_51 (by decide) ?_
  refine lv_iload_n hx hb dX12_stands_52 rfl (lv_at hl 0 rfl) ?_
  refine lv_iadd hx hb dX12_stands_53 ?_
  refine sk_top 3 (by decide) ?_
  refine lv_aload_n hx hb dX12_stands_54 rfl (lv_at hl 1 rfl) ?_
  refine sk_get (v := .ref (g 24)) (C := RX12) (T := TX12) (N := 92) hx hb hts inlX12 hown hK hP 0 rfl rfl 24 (by decide) w_5_179 rfl dX12_stands_55 ?_
  refine lv_iload_n hx hb dX12_stands_58 rfl (lv_at hl 0 rfl) ?_
  refine va_iald hx hb hK.1 hP 3 0 rfl rfl (by unfold vp_in; decide) dX12_stands_59 ?_
  refine sk_top u0 rfl ?_
  refine sk_iastT (f' := l6 u0 u1 u2 u0 u4 u5) (ws' := [(mm, .inr (12, mo g (nI ta) (nI pa) (nI pe) pd (nI pb) pp pf pg pn rt rt (nI cd) sn 1 tk am at_ aa 0 0 (-1) wt wy 0 (nI rm) (nI ud) (nI nu) sd (nI qn) (nI qw) qo (nI qb) (nI qp) qa (nI qi) (nI oc))), (g 20, .inl (cI, 4, .inl (l4 (nI l0) (nI l1) (nI l0) (nI l1)))), (g 21, .inl (cI, 27, .inl dz)), (g 24, .inl (cI, 6, .inl (l6 u0 u1 u2 u0 u4 u5))), (g 25, .inl (cI, 6, .inl (l6 v0 v1 v2 v3 v4 v5))), (g 26, .inl (cI, 3200, .inl (fun j => nI (cs j)))), (g 31, .inl (cI, 120, .inl nw))]) hx hb hK hP hD hS 3 0 rfl rfl (by unfold vp_in; decide) (l6_3 _ _ _ _ _ _ _) rfl dX12_stands_60 (fun H locs hP hD hS => ?_)
  refine lv_aload_n hx hb dX12_stands_61 rfl (lv_at hl 1 rfl) ?_
  refine sk_get (v := .ref (g 25)) (C := RX12) (T := TX12) (N := 92) hx hb hts inlX12 hown hK hP 0 rfl rfl 25 (by decide) w_5_180 rfl dX12_stands_62 ?_
  refine lv_iconst (v := 3) hx hb dX12_stands_65 (by decide) ?_
  refine lv_iload_n hx hb dX12_stands_66 rfl (lv_at hl 0 rfl) ?_
  refine lv_iadd hx hb dX12_stands_67 ?_
  refine sk_top 3 (by decide) ?_
  refine lv_aload_n hx hb dX12_stands_68 rfl (lv_at hl 1 rfl) ?_
  refine sk_get (v := .ref (g 25)) (C := RX12) (T := TX12) (N := 92) hx hb hts inlX12 hown hK hP 0 rfl rfl 25 (by decide) w_5_180 rfl dX12_stands_69 ?_
  refine lv_iload_n hx hb dX12_stands_72 rfl (lv_at hl 0 rfl) ?_
  refine va_iald hx hb hK.1 hP 4 0 rfl rfl (by unfold vp_in; decide) dX12_stands_73 ?_
  refine sk_top v0 rfl ?_
  refine sk_iastT (f' := l6 v0 v1 v2 v0 v4 v5) (ws' := [(mm, .inr (12, mo g (nI ta) (nI pa) (nI pe) pd (nI pb) pp pf pg pn rt rt (nI cd) sn 1 tk am at_ aa 0 0 (-1) wt wy 0 (nI rm) (nI ud) (nI nu) sd (nI qn) (nI qw) qo (nI qb) (nI qp) qa (nI qi) (nI oc))), (g 20, .inl (cI, 4, .inl (l4 (nI l0) (nI l1) (nI l0) (nI l1)))), (g 21, .inl (cI, 27, .inl dz)), (g 24, .inl (cI, 6, .inl (l6 u0 u1 u2 u0 u4 u5))), (g 25, .inl (cI, 6, .inl (l6 v0 v1 v2 v0 v4 v5))), (g 26, .inl (cI, 3200, .inl (fun j => nI (cs j)))), (g 31, .inl (cI, 120, .inl nw))]) hx hb hK hP hD hS 4 0 rfl rfl (by unfold vp_in; decide) (l6_3 _ _ _ _ _ _ _) rfl dX12_stands_74 (fun H locs hP hD hS => ?_)
  refine lv_iinc (v := 1) (lv' := [(1, .int 1), (0, .ref mm)]) hx hb dX12_stands_75 hl (k := 0) rfl (by decide) (by decide) rfl (fun ls hl => ?_)
  refine lv_goto (tgt := 42) hx hb dX12_stands_78 (by decide) ?_
  refine lv_iload_n hx hb dX12_stands_42 rfl (lv_at hl 0 rfl) ?_
  refine lv_iconst (v := 3) hx hb dX12_stands_43 (by decide) ?_
  refine lv_icmp_ge (tgt := 81) hx hb dX12_stands_44 (by decide) (fun c => absurd c (by decide)) (fun c_9 => ?_)
  refine lv_aload_n hx hb dX12_stands_47 rfl (lv_at hl 1 rfl) ?_
  refine sk_get (v := .ref (g 24)) (C := RX12) (T := TX12) (N := 92) hx hb hts inlX12 hown hK hP 0 rfl rfl 24 (by decide) w_5_179 rfl dX12_stands_48 ?_
  refine lv_iconst (v := 3) hx hb dX12_stands_51 (by decide) ?_
  refine lv_iload_n hx hb dX12_stands_52 rfl (lv_at hl 0 rfl) ?_
  refine lv_iadd hx hb dX12_stands_53 ?_
  refine sk_top 4 (by decide) ?_
  refine lv_aload_n hx hb dX12_stands_54 rfl (lv_at hl 1 rfl) ?_
  refine sk_get (v := .ref (g 24)) (C := RX12) (T := TX12) (N := 92) hx hb hts inlX12 hown hK hP 0 rfl rfl 24 (by decide) w_5_179 rfl dX12_stands_55 ?_
  refine lv_iload_n hx hb dX12_stands_58 rfl (lv_at hl 0 rfl) ?_
  refine va_iald hx hb hK.1 hP 3 0 rfl rfl (by unfold vp_in; decide) dX12_stands_59 ?_
  refine sk_top u1 rfl ?_
  refine sk_iastT (f' := l6 u0 u1 u2 u0 u1 u5) (ws' := [(mm, .inr (12, mo g (nI ta) (nI pa) (nI pe) pd (nI pb) pp pf pg pn rt rt (nI cd) sn 1 tk am at_ aa 0 0 (-1) wt wy 0 (nI rm) (nI ud) (nI nu) sd (nI qn) (nI qw) qo (nI qb) (nI qp) qa (nI qi) (nI oc))), (g 20, .inl (cI, 4, .inl (l4 (nI l0) (nI l1) (nI l0) (nI l1)))), (g 21, .inl (cI, 27, .inl dz)), (g 24, .inl (cI, 6, .inl (l6 u0 u1 u2 u0 u1 u5))), (g 25, .inl (cI, 6, .inl (l6 v0 v1 v2 v0 v4 v5))), (g 26, .inl (cI, 3200, .inl (fun j => nI (cs j)))), (g 31, .inl (cI, 120, .inl nw))]) hx hb hK hP hD hS 3 0 rfl rfl (by unfold vp_in; decide) (l6_4 _ _ _ _ _ _ _) rfl dX12_stands_60 (fun H locs hP hD hS => ?_)
  refine lv_aload_n hx hb dX12_stands_61 rfl (lv_at hl 1 rfl) ?_
  refine sk_get (v := .ref (g 25)) (C := RX12) (T := TX12) (N := 92) hx hb hts inlX12 hown hK hP 0 rfl rfl 25 (by decide) w_5_180 rfl dX12_stands_62 ?_
  refine lv_iconst (v := 3) hx hb dX12_stands_65 (by decide) ?_
  refine lv_iload_n hx hb dX12_stands_66 rfl (lv_at hl 0 rfl) ?_
  refine lv_iadd hx hb dX12_stands_67 ?_
  refine sk_top 4 (by decide) ?_
  refine lv_aload_n hx hb dX12_stands_68 rfl (lv_at hl 1 rfl) ?_
  refine sk_get (v := .ref (g 25)) (C := RX12) (T := TX12) (N := 92) hx hb hts inlX12 hown hK hP 0 rfl rfl 25 (by decide) w_5_180 rfl dX12_stands_69 ?_
  refine lv_iload_n hx hb dX12_stands_72 rfl (lv_at hl 0 rfl) ?_
  refine va_iald hx hb hK.1 hP 4 0 rfl rfl (by unfold vp_in; decide) dX12_stands_73 ?_
  refine sk_top v1 rfl ?_
  refine sk_iastT (f' := l6 v0 v1 v2 v0 v1 v5) (ws' := [(mm, .inr (12, mo g (nI ta) (nI pa) (nI pe) pd (nI pb) pp pf pg pn rt rt (nI cd) sn 1 tk am at_ aa 0 0 (-1) wt wy 0 (nI rm) (nI ud) (nI nu) sd (nI qn) (nI qw) qo (nI qb) (nI qp) qa (nI qi) (nI oc))), (g 20, .inl (cI, 4, .inl (l4 (nI l0) (nI l1) (nI l0) (nI l1)))), (g 21, .inl (cI, 27, .inl dz)), (g 24, .inl (cI, 6, .inl (l6 u0 u1 u2 u0 u1 u5))), (g 25, .inl (cI, 6, .inl (l6 v0 v1 v2 v0 v1 v5))), (g 26, .inl (cI, 3200, .inl (fun j => nI (cs j)))), (g 31, .inl (cI, 120, .inl nw))]) hx hb hK hP hD hS 4 0 rfl rfl (by unfold vp_in; decide) (l6_4 _ _ _ _ _ _ _) rfl dX12_stands_74 (fun H locs hP hD hS => ?_)
  refine lv_iinc (v := 2) (lv' := [(1, .int 2), (0, .ref mm)]) hx hb dX12_stands_75 hl (k := 0) rfl (by decide) (by decide) rfl (fun ls hl => ?_)
  refine lv_goto (tgt := 42) hx hb dX12_stands_78 (by decide) ?_
  refine lv_iload_n hx hb dX12_stands_42 rfl (lv_at hl 0 rfl) ?_
  refine lv_iconst (v := 3) hx hb dX12_stands_43 (by decide) ?_
  refine lv_icmp_ge (tgt := 81) hx hb dX12_stands_44 (by decide) (fun c => absurd c (by decide)) (fun c_12 => ?_)
  refine lv_aload_n hx hb dX12_stands_47 rfl (lv_at hl 1 rfl) ?_
  refine sk_get (v := .ref (g 24)) (C := RX12) (T := TX12) (N := 92) hx hb hts inlX12 hown hK hP 0 rfl rfl 24 (by decide) w_5_179 rfl dX12_stands_48 ?_
  refine lv_iconst (v := 3) hx hb dX12_stands_51 (by decide) ?_
  refine lv_iload_n hx hb dX12_stands_52 rfl (lv_at hl 0 rfl) ?_
  refine lv_iadd hx hb dX12_stands_53 ?_
  refine sk_top 5 (by decide) ?_
  refine lv_aload_n hx hb dX12_stands_54 rfl (lv_at hl 1 rfl) ?_
  refine sk_get (v := .ref (g 24)) (C := RX12) (T := TX12) (N := 92) hx hb hts inlX12 hown hK hP 0 rfl rfl 24 (by decide) w_5_179 rfl dX12_stands_55 ?_
  refine lv_iload_n hx hb dX12_stands_58 rfl (lv_at hl 0 rfl) ?_
  refine va_iald hx hb hK.1 hP 3 0 rfl rfl (by unfold vp_in; decide) dX12_stands_59 ?_
  refine sk_top u2 rfl ?_
  refine sk_iastT (f' := l6 u0 u1 u2 u0 u1 u2) (ws' := [(mm, .inr (12, mo g (nI ta) (nI pa) (nI pe) pd (nI pb) pp pf pg pn rt rt (nI cd) sn 1 tk am at_ aa 0 0 (-1) wt wy 0 (nI rm) (nI ud) (nI nu) sd (nI qn) (nI qw) qo (nI qb) (nI qp) qa (nI qi) (nI oc))), (g 20, .inl (cI, 4, .inl (l4 (nI l0) (nI l1) (nI l0) (nI l1)))), (g 21, .inl (cI, 27, .inl dz)), (g 24, .inl (cI, 6, .inl (l6 u0 u1 u2 u0 u1 u2))), (g 25, .inl (cI, 6, .inl (l6 v0 v1 v2 v0 v1 v5))), (g 26, .inl (cI, 3200, .inl (fun j => nI (cs j)))), (g 31, .inl (cI, 120, .inl nw))]) hx hb hK hP hD hS 3 0 rfl rfl (by unfold vp_in; decide) (l6_5 _ _ _ _ _ _ _) rfl dX12_stands_60 (fun H locs hP hD hS => ?_)
  refine lv_aload_n hx hb dX12_stands_61 rfl (lv_at hl 1 rfl) ?_
  refine sk_get (v := .ref (g 25)) (C := RX12) (T := TX12) (N := 92) hx hb hts inlX12 hown hK hP 0 rfl rfl 25 (by decide) w_5_180 rfl dX12_stands_62 ?_
  refine lv_iconst (v := 3) hx hb dX12_stands_65 (by decide) ?_
  refine lv_iload_n hx hb dX12_stands_66 rfl (lv_at hl 0 rfl) ?_
  refine lv_iadd hx hb dX12_stands_67 ?_
  refine sk_top 5 (by decide) ?_
  refine lv_aload_n hx hb dX12_stands_68 rfl (lv_at hl 1 rfl) ?_
  refine sk_get (v := .ref (g 25)) (C := RX12) (T := TX12) (N := 92) hx hb hts inlX12 hown hK hP 0 rfl rfl 25 (by decide) w_5_180 rfl dX12_stands_69 ?_
  refine lv_iload_n hx hb dX12_stands_72 rfl (lv_at hl 0 rfl) ?_
  refine va_iald hx hb hK.1 hP 4 0 rfl rfl (by unfold vp_in; decide) dX12_stands_73 ?_
  refine sk_top v2 rfl ?_
  refine sk_iastT (f' := l6 v0 v1 v2 v0 v1 v2) (ws' := [(mm, .inr (12, mo g (nI ta) (nI pa) (nI pe) pd (nI pb) pp pf pg pn rt rt (nI cd) sn 1 tk am at_ aa 0 0 (-1) wt wy 0 (nI rm) (nI ud) (nI nu) sd (nI qn) (nI qw) qo (nI qb) (nI qp) qa (nI qi) (nI oc))), (g 20, .inl (cI, 4, .inl (l4 (nI l0) (nI l1) (nI l0) (nI l1)))), (g 21, .inl (cI, 27, .inl dz)), (g 24, .inl (cI, 6, .inl (l6 u0 u1 u2 u0 u1 u2))), (g 25, .inl (cI, 6, .inl (l6 v0 v1 v2 v0 v1 v2))), (g 26, .inl (cI, 3200, .inl (fun j => nI (cs j)))), (g 31, .inl (cI, 120, .inl nw))]) hx hb hK hP hD hS 4 0 rfl rfl (by unfold vp_in; decide) (l6_5 _ _ _ _ _ _ _) rfl dX12_stands_74 (fun H locs hP hD hS => ?_)
  refine lv_iinc (v := 3) (lv' := [(1, .int 3), (0, .ref mm)]) hx hb dX12_stands_75 hl (k := 0) rfl (by decide) (by decide) rfl (fun ls hl => ?_)
  refine lv_goto (tgt := 42) hx hb dX12_stands_78 (by decide) ?_
  refine lv_iload_n hx hb dX12_stands_42 rfl (lv_at hl 0 rfl) ?_
  refine lv_iconst (v := 3) hx hb dX12_stands_43 (by decide) ?_
  refine lv_icmp_ge (tgt := 81) hx hb dX12_stands_44 (by decide) (fun c_15 => ?_) (fun c => absurd c (by decide))
  refine lv_iconst (v := 0) hx hb dX12_stands_81 (by decide) ?_
  refine lv_istore_n (lv' := [(1, .int 0), (0, .ref mm)]) hx hb dX12_stands_82 rfl hl (by decide) rfl (fun ls hl => ?_)
  have lp_16 : ∀ (n_17 : Nat) (i : Nat) (zs : Nat → Nat) (H : Heap) (locs : List Loc) (ls : Array Slot), cd - i < n_17 → (∀ j, zs j ≤ 20000) → (i ≤ cd) → (cpy cs cs 1600 i zs) → va_P D vwCl [(mm, .inr (12, mo g (nI ta) (nI pa) (nI pe) pd (nI pb) pp pf pg pn rt rt (nI cd) sn 1 tk am at_ aa 0 0 (-1) wt wy 0 (nI rm) (nI ud) (nI nu) sd (nI qn) (nI qw) qo (nI qb) (nI qp) qa (nI qi) (nI oc))), (g 20, .inl (cI, 4, .inl (l4 (nI l0) (nI l1) (nI l0) (nI l1)))), (g 21, .inl (cI, 27, .inl dz)), (g 24, .inl (cI, 6, .inl (l6 u0 u1 u2 u0 u1 u2))), (g 25, .inl (cI, 6, .inl (l6 v0 v1 v2 v0 v1 v2))), (g 26, .inl (cI, 3200, .inl (fun j => nI (zs j)))), (g 31, .inl (cI, 120, .inl nw))] H → va_D A [(mm, .inr (12, mo g (nI ta) (nI pa) (nI pe) pd (nI pb) pp pf pg pn rt rt (nI cd) sn 1 tk am at_ aa 0 0 (-1) wt wy 0 (nI rm) (nI ud) (nI nu) sd (nI qn) (nI qw) qo (nI qb) (nI qp) qa (nI qi) (nI oc))), (g 20, .inl (cI, 4, .inl (l4 (nI l0) (nI l1) (nI l0) (nI l1)))), (g 21, .inl (cI, 27, .inl dz)), (g 24, .inl (cI, 6, .inl (l6 u0 u1 u2 u0 u1 u2))), (g 25, .inl (cI, 6, .inl (l6 v0 v1 v2 v0 v1 v2))), (g 26, .inl (cI, 3200, .inl (fun j => nI (zs j)))), (g 31, .inl (cI, 120, .inl nw))] → va_S A s.heap H locs → lv_has ls 2 [(1, .int (nI i)), (0, .ref mm)] → W p l e { frames := 0, cells := 0, slots := 0, locals := 0 } s m ([.ref mm] : List Value).toArray below meth c H locs 0 0 (MQ below (skV D (skT cI cJ cC cZ cS) (fun (u : va_W) => ∃ (nw2 : Nat → Int32), ∃ (cs2 : Nat → Nat), progOk cs2 u0 v0 ∧ progOk cs2 u1 v1 ∧ progOk cs2 u2 v2 ∧ cpy cs cs 1600 cd cs2 ∧ lz2 dz l1 27 nw2 ∧ (∀ j, cs2 j ≤ 20000) ∧ u = [(mm, .inr (12, mo g (nI ta) (nI pa) (nI pe) pd (nI pb) pp pf pg pn rt rt (nI cd) sn 1 tk am at_ aa 0 0 (-1) wt wy 0 0 0 (nI nu) sd (nI qn) (nI qw) qo (nI qb) (nI qp) qa (nI qi) (nI oc))), (g 20, .inl (cI, 4, .inl (l4 (nI l0) (nI l1) (nI l0) (nI l1)))), (g 21, .inl (cI, 27, .inl dz)), (g 24, .inl (cI, 6, .inl (l6 u0 u1 u2 u0 u1 u2))), (g 25, .inl (cI, 6, .inl (l6 v0 v1 v2 v0 v1 v2))), (g 26, .inl (cI, 3200, .inl (fun j => nI (cs2 j)))), (g 31, .inl (cI, 120, .inl nw2))]) A) ([.ref mm] : List Value).toArray s 0 0 A) (F0 m 83 ls []) := by
    intro n_17
    induction n_17 with
    | zero => intro i zs H locs ls hm; exact absurd hm (Nat.not_lt_zero _)
    | succ n_17 ih_lp_16 =>
      intro i zs H locs ls hm hzs hi hcp hP hD hS hl
      refine lv_iload_n hx hb dX12_stands_83 rfl (lv_at hl 0 rfl) ?_
      refine lv_aload_n hx hb dX12_stands_84 rfl (lv_at hl 1 rfl) ?_
      refine sk_get (v := .int (nI cd)) (C := RX12) (T := TX12) (N := 92) hx hb hts inlX12 hown hK hP 0 rfl rfl 27 (by decide) w_5_182 rfl dX12_stands_85 ?_
      refine lv_icmp_ge (tgt := 113) hx hb dX12_stands_88 (by decide) (fun c_18 => ?_) (fun c_18 => ?_)
      · have c_18 : cd ≤ i := (nle cd i (by omega) (by omega)).mp c_18
        refine lv_iconst (v := 0) hx hb dX12_stands_113 (by decide) ?_
        refine lv_istore_n (lv' := [(1, .int 0), (0, .ref mm)]) hx hb dX12_stands_114 rfl hl (by decide) rfl (fun ls hl => ?_)
        have lp_19 : ∀ (n_20 : Nat) (j : Nat) (zn : Nat → Int32) (H : Heap) (locs : List Loc) (ls : Array Slot), 120 - j < n_20 → (j ≤ 120) → (lz0 j zn) → va_P D vwCl [(mm, .inr (12, mo g (nI ta) (nI pa) (nI pe) pd (nI pb) pp pf pg pn rt rt (nI cd) sn 1 tk am at_ aa 0 0 (-1) wt wy 0 (nI rm) (nI ud) (nI nu) sd (nI qn) (nI qw) qo (nI qb) (nI qp) qa (nI qi) (nI oc))), (g 20, .inl (cI, 4, .inl (l4 (nI l0) (nI l1) (nI l0) (nI l1)))), (g 21, .inl (cI, 27, .inl dz)), (g 24, .inl (cI, 6, .inl (l6 u0 u1 u2 u0 u1 u2))), (g 25, .inl (cI, 6, .inl (l6 v0 v1 v2 v0 v1 v2))), (g 26, .inl (cI, 3200, .inl (fun j => nI (zs j)))), (g 31, .inl (cI, 120, .inl zn))] H → va_D A [(mm, .inr (12, mo g (nI ta) (nI pa) (nI pe) pd (nI pb) pp pf pg pn rt rt (nI cd) sn 1 tk am at_ aa 0 0 (-1) wt wy 0 (nI rm) (nI ud) (nI nu) sd (nI qn) (nI qw) qo (nI qb) (nI qp) qa (nI qi) (nI oc))), (g 20, .inl (cI, 4, .inl (l4 (nI l0) (nI l1) (nI l0) (nI l1)))), (g 21, .inl (cI, 27, .inl dz)), (g 24, .inl (cI, 6, .inl (l6 u0 u1 u2 u0 u1 u2))), (g 25, .inl (cI, 6, .inl (l6 v0 v1 v2 v0 v1 v2))), (g 26, .inl (cI, 3200, .inl (fun j => nI (zs j)))), (g 31, .inl (cI, 120, .inl zn))] → va_S A s.heap H locs → lv_has ls 2 [(1, .int (nI j)), (0, .ref mm)] → W p l e { frames := 0, cells := 0, slots := 0, locals := 0 } s m ([.ref mm] : List Value).toArray below meth c H locs 0 0 (MQ below (skV D (skT cI cJ cC cZ cS) (fun (u : va_W) => ∃ (nw2 : Nat → Int32), ∃ (cs2 : Nat → Nat), progOk cs2 u0 v0 ∧ progOk cs2 u1 v1 ∧ progOk cs2 u2 v2 ∧ cpy cs cs 1600 cd cs2 ∧ lz2 dz l1 27 nw2 ∧ (∀ j, cs2 j ≤ 20000) ∧ u = [(mm, .inr (12, mo g (nI ta) (nI pa) (nI pe) pd (nI pb) pp pf pg pn rt rt (nI cd) sn 1 tk am at_ aa 0 0 (-1) wt wy 0 0 0 (nI nu) sd (nI qn) (nI qw) qo (nI qb) (nI qp) qa (nI qi) (nI oc))), (g 20, .inl (cI, 4, .inl (l4 (nI l0) (nI l1) (nI l0) (nI l1)))), (g 21, .inl (cI, 27, .inl dz)), (g 24, .inl (cI, 6, .inl (l6 u0 u1 u2 u0 u1 u2))), (g 25, .inl (cI, 6, .inl (l6 v0 v1 v2 v0 v1 v2))), (g 26, .inl (cI, 3200, .inl (fun j => nI (cs2 j)))), (g 31, .inl (cI, 120, .inl nw2))]) A) ([.ref mm] : List Value).toArray s 0 0 A) (F0 m 115 ls []) := by
          intro n_20
          induction n_20 with
          | zero => intro j zn H locs ls hm; exact absurd hm (Nat.not_lt_zero _)
          | succ n_20 ih_lp_19 =>
            intro j zn H locs ls hm hj hz0 hP hD hS hl
            refine lv_iload_n hx hb dX12_stands_115 rfl (lv_at hl 0 rfl) ?_
            refine lv_bipush (v := 120) hx hb dX12_stands_116 (by decide) ?_
            refine lv_icmp_ge (tgt := 134) hx hb dX12_stands_118 (by decide) (fun c_21 => ?_) (fun c_21 => ?_)
            · have c_21 : 120 ≤ j := (nle 120 j (by omega) (by omega)).mp c_21
              refine lv_aload_n hx hb dX12_stands_134 rfl (lv_at hl 1 rfl) ?_
              refine sk_get (v := .ref (g 31)) (C := RX12) (T := TX12) (N := 92) hx hb hts inlX12 hown hK hP 0 rfl rfl 31 (by decide) w_5_186 rfl dX12_stands_135 ?_
              refine lv_iconst (v := 1) hx hb dX12_stands_138 (by decide) ?_
              refine lv_aload_n hx hb dX12_stands_139 rfl (lv_at hl 1 rfl) ?_
              refine sk_get (v := .ref (g 20)) (C := RX12) (T := TX12) (N := 92) hx hb hts inlX12 hown hK hP 0 rfl rfl 20 (by decide) w_5_175 rfl dX12_stands_140 ?_
              refine lv_iconst (v := 1) hx hb dX12_stands_143 (by decide) ?_
              refine va_iald hx hb hK.1 hP 1 0 rfl rfl (by unfold vp_in; decide) dX12_stands_144 ?_
              refine sk_top (nI l1) rfl ?_
              refine sk_iastE (k := 1) (ws' := fun f_22 => [(mm, .inr (12, mo g (nI ta) (nI pa) (nI pe) pd (nI pb) pp pf pg pn rt rt (nI cd) sn 1 tk am at_ aa 0 0 (-1) wt wy 0 (nI rm) (nI ud) (nI nu) sd (nI qn) (nI qw) qo (nI qb) (nI qp) qa (nI qi) (nI oc))), (g 20, .inl (cI, 4, .inl (l4 (nI l0) (nI l1) (nI l0) (nI l1)))), (g 21, .inl (cI, 27, .inl dz)), (g 24, .inl (cI, 6, .inl (l6 u0 u1 u2 u0 u1 u2))), (g 25, .inl (cI, 6, .inl (l6 v0 v1 v2 v0 v1 v2))), (g 26, .inl (cI, 3200, .inl (fun j => nI (zs j)))), (g 31, .inl (cI, 120, .inl f_22))]) hx hb hK hP hD hS 6 0 rfl rfl (by omega) (by omega) (fun _ => rfl) dX12_stands_145 (fun f_22 H locs ef_23 hP hD hS => ?_)
              refine lv_iconst (v := 0) hx hb dX12_stands_146 (by decide) ?_
              refine lv_istore_n (lv' := [(1, .int 0), (0, .ref mm)]) hx hb dX12_stands_147 rfl hl (by decide) rfl (fun ls hl => ?_)
              have lp_24 : ∀ (n_25 : Nat) (k : Nat) (zm : Nat → Int32) (H : Heap) (locs : List Loc) (ls : Array Slot), 27 - k < n_25 → (k ≤ 27) → (lz2 dz l1 k zm) → va_P D vwCl [(mm, .inr (12, mo g (nI ta) (nI pa) (nI pe) pd (nI pb) pp pf pg pn rt rt (nI cd) sn 1 tk am at_ aa 0 0 (-1) wt wy 0 (nI rm) (nI ud) (nI nu) sd (nI qn) (nI qw) qo (nI qb) (nI qp) qa (nI qi) (nI oc))), (g 20, .inl (cI, 4, .inl (l4 (nI l0) (nI l1) (nI l0) (nI l1)))), (g 21, .inl (cI, 27, .inl dz)), (g 24, .inl (cI, 6, .inl (l6 u0 u1 u2 u0 u1 u2))), (g 25, .inl (cI, 6, .inl (l6 v0 v1 v2 v0 v1 v2))), (g 26, .inl (cI, 3200, .inl (fun j => nI (zs j)))), (g 31, .inl (cI, 120, .inl zm))] H → va_D A [(mm, .inr (12, mo g (nI ta) (nI pa) (nI pe) pd (nI pb) pp pf pg pn rt rt (nI cd) sn 1 tk am at_ aa 0 0 (-1) wt wy 0 (nI rm) (nI ud) (nI nu) sd (nI qn) (nI qw) qo (nI qb) (nI qp) qa (nI qi) (nI oc))), (g 20, .inl (cI, 4, .inl (l4 (nI l0) (nI l1) (nI l0) (nI l1)))), (g 21, .inl (cI, 27, .inl dz)), (g 24, .inl (cI, 6, .inl (l6 u0 u1 u2 u0 u1 u2))), (g 25, .inl (cI, 6, .inl (l6 v0 v1 v2 v0 v1 v2))), (g 26, .inl (cI, 3200, .inl (fun j => nI (zs j)))), (g 31, .inl (cI, 120, .inl zm))] → va_S A s.heap H locs → lv_has ls 2 [(1, .int (nI k)), (0, .ref mm)] → W p l e { frames := 0, cells := 0, slots := 0, locals := 0 } s m ([.ref mm] : List Value).toArray below meth c H locs 0 0 (MQ below (skV D (skT cI cJ cC cZ cS) (fun (u : va_W) => ∃ (nw2 : Nat → Int32), ∃ (cs2 : Nat → Nat), progOk cs2 u0 v0 ∧ progOk cs2 u1 v1 ∧ progOk cs2 u2 v2 ∧ cpy cs cs 1600 cd cs2 ∧ lz2 dz l1 27 nw2 ∧ (∀ j, cs2 j ≤ 20000) ∧ u = [(mm, .inr (12, mo g (nI ta) (nI pa) (nI pe) pd (nI pb) pp pf pg pn rt rt (nI cd) sn 1 tk am at_ aa 0 0 (-1) wt wy 0 0 0 (nI nu) sd (nI qn) (nI qw) qo (nI qb) (nI qp) qa (nI qi) (nI oc))), (g 20, .inl (cI, 4, .inl (l4 (nI l0) (nI l1) (nI l0) (nI l1)))), (g 21, .inl (cI, 27, .inl dz)), (g 24, .inl (cI, 6, .inl (l6 u0 u1 u2 u0 u1 u2))), (g 25, .inl (cI, 6, .inl (l6 v0 v1 v2 v0 v1 v2))), (g 26, .inl (cI, 3200, .inl (fun j => nI (cs2 j)))), (g 31, .inl (cI, 120, .inl nw2))]) A) ([.ref mm] : List Value).toArray s 0 0 A) (F0 m 148 ls []) := by
                intro n_25
                induction n_25 with
                | zero => intro k zm H locs ls hm; exact absurd hm (Nat.not_lt_zero _)
                | succ n_25 ih_lp_24 =>
                  intro k zm H locs ls hm hk hz2 hP hD hS hl
                  refine lv_iload_n hx hb dX12_stands_148 rfl (lv_at hl 0 rfl) ?_
                  refine lv_bipush (v := 27) hx hb dX12_stands_149 (by decide) ?_
                  refine lv_icmp_ge (tgt := 174) hx hb dX12_stands_151 (by decide) (fun c_26 => ?_) (fun c_26 => ?_)
                  · have c_26 : 27 ≤ k := (nle 27 k (by omega) (by omega)).mp c_26
                    refine lv_aload_n hx hb dX12_stands_174 rfl (lv_at hl 1 rfl) ?_
                    refine lv_iconst (v := 0) hx hb dX12_stands_175 (by decide) ?_
                    refine sk_put (ws' := [(mm, .inr (12, mo g (nI ta) (nI pa) (nI pe) pd (nI pb) pp pf pg pn rt rt (nI cd) sn 1 tk am at_ aa 0 0 (-1) wt wy 0 (nI rm) 0 (nI nu) sd (nI qn) (nI qw) qo (nI qb) (nI qp) qa (nI qi) (nI oc))), (g 20, .inl (cI, 4, .inl (l4 (nI l0) (nI l1) (nI l0) (nI l1)))), (g 21, .inl (cI, 27, .inl dz)), (g 24, .inl (cI, 6, .inl (l6 u0 u1 u2 u0 u1 u2))), (g 25, .inl (cI, 6, .inl (l6 v0 v1 v2 v0 v1 v2))), (g 26, .inl (cI, 3200, .inl (fun j => nI (zs j)))), (g 31, .inl (cI, 120, .inl zm))]) (C := RX12) (T := TX12) (N := 92) (v := .int 0) hx hb hts inlX12 tyX12 tyX12_ok nmX12 hown hK hP hD hS 0 rfl rfl 55 (by decide) w_5_210 rfl rfl rfl (Nat.le_of_ble_eq_true rfl) rfl dX12_stands_176 (fun H locs hP hD hS => ?_)
                    refine lv_aload_n hx hb dX12_stands_179 rfl (lv_at hl 1 rfl) ?_
                    refine lv_iconst (v := 0) hx hb dX12_stands_180 (by decide) ?_
                    refine sk_put (ws' := [(mm, .inr (12, mo g (nI ta) (nI pa) (nI pe) pd (nI pb) pp pf pg pn rt rt (nI cd) sn 1 tk am at_ aa 0 0 (-1) wt wy 0 0 0 (nI nu) sd (nI qn) (nI qw) qo (nI qb) (nI qp) qa (nI qi) (nI oc))), (g 20, .inl (cI, 4, .inl (l4 (nI l0) (nI l1) (nI l0) (nI l1)))), (g 21, .inl (cI, 27, .inl dz)), (g 24, .inl (cI, 6, .inl (l6 u0 u1 u2 u0 u1 u2))), (g 25, .inl (cI, 6, .inl (l6 v0 v1 v2 v0 v1 v2))), (g 26, .inl (cI, 3200, .inl (fun j => nI (zs j)))), (g 31, .inl (cI, 120, .inl zm))]) (C := RX12) (T := TX12) (N := 92) (v := .int 0) hx hb hts inlX12 tyX12 tyX12_ok nmX12 hown hK hP hD hS 0 rfl rfl 52 (by decide) w_5_207 rfl rfl rfl (Nat.le_of_ble_eq_true rfl) rfl dX12_stands_181 (fun H locs hP hD hS => ?_)
                    exact sk_vret hx hb hr hlocks hK hP hD hS (⟨zm, zs, (low_prog hlo0 (by omega) (by omega) hcp), (low_prog hlo1 (by omega) (by omega) hcp), (low_prog hlo2 (by omega) (by omega) hcp), (show cpy cs cs 1600 cd _ by rw [show cd = i by omega]; exact hcp), (show lz2 dz l1 27 _ by rw [show 27 = k by omega]; exact hz2), hzs, rfl⟩) (Nat.le_of_ble_eq_true rfl) (Nat.le_of_ble_eq_true rfl) dX12_stands_184
                  · have c_26 : ¬ (27 ≤ k) := fun h => c_26 ((nle 27 k (by omega) (by omega)).mpr h)
                    refine lv_aload_n hx hb dX12_stands_154 rfl (lv_at hl 1 rfl) ?_
                    refine sk_get (v := .ref (g 31)) (C := RX12) (T := TX12) (N := 92) hx hb hts inlX12 hown hK hP 0 rfl rfl 31 (by decide) w_5_186 rfl dX12_stands_155 ?_
                    refine lv_iconst (v := 2) hx hb dX12_stands_158 (by decide) ?_
                    refine lv_iload_n hx hb dX12_stands_159 rfl (lv_at hl 0 rfl) ?_
                    refine lv_iadd hx hb dX12_stands_160 ?_
                    refine sk_top (nI (2 + k)) (nI_add 2 k) ?_
                    refine lv_aload_n hx hb dX12_stands_161 rfl (lv_at hl 1 rfl) ?_
                    refine sk_get (v := .ref (g 21)) (C := RX12) (T := TX12) (N := 92) hx hb hts inlX12 hown hK hP 0 rfl rfl 21 (by decide) w_5_176 rfl dX12_stands_162 ?_
                    refine lv_iload_n hx hb dX12_stands_165 rfl (lv_at hl 0 rfl) ?_
                    refine va_iald hx hb hK.1 hP 2 0 rfl rfl (vin k 27 (by omega) (by omega)) dX12_stands_166 ?_
                    refine sk_top (dz k) (by rw [nI_clamp (by omega)]) ?_
                    refine sk_iastE (k := (2 + k)) (ws' := fun f_27 => [(mm, .inr (12, mo g (nI ta) (nI pa) (nI pe) pd (nI pb) pp pf pg pn rt rt (nI cd) sn 1 tk am at_ aa 0 0 (-1) wt wy 0 (nI rm) (nI ud) (nI nu) sd (nI qn) (nI qw) qo (nI qb) (nI qp) qa (nI qi) (nI oc))), (g 20, .inl (cI, 4, .inl (l4 (nI l0) (nI l1) (nI l0) (nI l1)))), (g 21, .inl (cI, 27, .inl dz)), (g 24, .inl (cI, 6, .inl (l6 u0 u1 u2 u0 u1 u2))), (g 25, .inl (cI, 6, .inl (l6 v0 v1 v2 v0 v1 v2))), (g 26, .inl (cI, 3200, .inl (fun j => nI (zs j)))), (g 31, .inl (cI, 120, .inl f_27))]) hx hb hK hP hD hS 6 0 rfl rfl (by omega) (by omega) (fun _ => rfl) dX12_stands_167 (fun f_27 H locs ef_28 hP hD hS => ?_)
                    refine lv_iinc (v := nI (k + 1)) (lv' := [(1, .int (nI (k + 1))), (0, .ref mm)]) hx hb dX12_stands_168 hl (k := 0) rfl (ninc k 1 (by decide)) (by decide) rfl (fun ls hl => ?_)
                    refine lv_goto (tgt := 148) hx hb dX12_stands_171 (by decide) ?_
                    exact ih_lp_24 (k + 1) f_27 _ _ _ (by omega) (by omega) (lz2_s hz2 ef_28 rfl) hP hD hS (lv_sub hl [0, 1] rfl)
              exact lp_24 (27 - 0 + 1) 0 f_22 _ _ _ (Nat.lt_succ_self _) (by omega) (lz2_0 (show lz0 120 _ by rw [show 120 = j by omega]; exact hz0) ef_23) hP hD hS (lv_sub hl [0, 1] rfl)
            · have c_21 : ¬ (120 ≤ j) := fun h => c_21 ((nle 120 j (by omega) (by omega)).mpr h)
              refine lv_aload_n hx hb dX12_stands_121 rfl (lv_at hl 1 rfl) ?_
              refine sk_get (v := .ref (g 31)) (C := RX12) (T := TX12) (N := 92) hx hb hts inlX12 hown hK hP 0 rfl rfl 31 (by decide) w_5_186 rfl dX12_stands_122 ?_
              refine lv_iload_n hx hb dX12_stands_125 rfl (lv_at hl 0 rfl) ?_
              refine lv_iconst (v := 0) hx hb dX12_stands_126 (by decide) ?_
              refine sk_iastE (k := j) (ws' := fun f_29 => [(mm, .inr (12, mo g (nI ta) (nI pa) (nI pe) pd (nI pb) pp pf pg pn rt rt (nI cd) sn 1 tk am at_ aa 0 0 (-1) wt wy 0 (nI rm) (nI ud) (nI nu) sd (nI qn) (nI qw) qo (nI qb) (nI qp) qa (nI qi) (nI oc))), (g 20, .inl (cI, 4, .inl (l4 (nI l0) (nI l1) (nI l0) (nI l1)))), (g 21, .inl (cI, 27, .inl dz)), (g 24, .inl (cI, 6, .inl (l6 u0 u1 u2 u0 u1 u2))), (g 25, .inl (cI, 6, .inl (l6 v0 v1 v2 v0 v1 v2))), (g 26, .inl (cI, 3200, .inl (fun j => nI (zs j)))), (g 31, .inl (cI, 120, .inl f_29))]) hx hb hK hP hD hS 6 0 rfl rfl (by omega) (by omega) (fun _ => rfl) dX12_stands_127 (fun f_29 H locs ef_30 hP hD hS => ?_)
              refine lv_iinc (v := nI (j + 1)) (lv' := [(1, .int (nI (j + 1))), (0, .ref mm)]) hx hb dX12_stands_128 hl (k := 0) rfl (ninc j 1 (by decide)) (by decide) rfl (fun ls hl => ?_)
              refine lv_goto (tgt := 115) hx hb dX12_stands_131 (by decide) ?_
              exact ih_lp_19 (j + 1) f_29 _ _ _ (by omega) (by omega) (lz0_s hz0 ef_30) hP hD hS (lv_sub hl [0, 1] rfl)
        exact lp_19 (120 - 0 + 1) 0 nw _ _ _ (Nat.lt_succ_self _) (by omega) (fun k hk => absurd hk (Nat.not_lt_zero k)) hP hD hS (lv_sub hl [0, 1] rfl)
      · have c_18 : ¬ (cd ≤ i) := fun h => c_18 ((nle cd i (by omega) (by omega)).mpr h)
        refine lv_aload_n hx hb dX12_stands_91 rfl (lv_at hl 1 rfl) ?_
        refine sk_get (v := .ref (g 26)) (C := RX12) (T := TX12) (N := 92) hx hb hts inlX12 hown hK hP 0 rfl rfl 26 (by decide) w_5_181 rfl dX12_stands_92 ?_
        refine lv_sipush (v := 1600) hx hb dX12_stands_95 (by decide) ?_
        refine lv_iload_n hx hb dX12_stands_98 rfl (lv_at hl 0 rfl) ?_
        refine lv_iadd hx hb dX12_stands_99 ?_
        refine sk_top (nI (1600 + i)) (nI_add 1600 i) ?_
        refine lv_aload_n hx hb dX12_stands_100 rfl (lv_at hl 1 rfl) ?_
        refine sk_get (v := .ref (g 26)) (C := RX12) (T := TX12) (N := 92) hx hb hts inlX12 hown hK hP 0 rfl rfl 26 (by decide) w_5_181 rfl dX12_stands_101 ?_
        refine lv_iload_n hx hb dX12_stands_104 rfl (lv_at hl 0 rfl) ?_
        refine va_iald hx hb hK.1 hP 5 0 rfl rfl (vin i 3200 (by omega) (by omega)) dX12_stands_105 ?_
        refine sk_top (nI (zs i)) (nrd zs i (by omega)) ?_
        have hb_31 := hzs i
        refine sk_iastB (k := (1600 + i)) (v := (zs i)) (B := 20000) (ws' := fun f_32 => [(mm, .inr (12, mo g (nI ta) (nI pa) (nI pe) pd (nI pb) pp pf pg pn rt rt (nI cd) sn 1 tk am at_ aa 0 0 (-1) wt wy 0 (nI rm) (nI ud) (nI nu) sd (nI qn) (nI qw) qo (nI qb) (nI qp) qa (nI qi) (nI oc))), (g 20, .inl (cI, 4, .inl (l4 (nI l0) (nI l1) (nI l0) (nI l1)))), (g 21, .inl (cI, 27, .inl dz)), (g 24, .inl (cI, 6, .inl (l6 u0 u1 u2 u0 u1 u2))), (g 25, .inl (cI, 6, .inl (l6 v0 v1 v2 v0 v1 v2))), (g 26, .inl (cI, 3200, .inl (fun j => nI (f_32 j)))), (g 31, .inl (cI, 120, .inl nw))]) hx hb hK hP hD hS 5 0 rfl rfl (by omega) (by omega) hzs (by omega) (fun _ => rfl) dX12_stands_106 (fun f_32 H locs hf_33 ef_34 hP hD hS => ?_)
        refine lv_iinc (v := nI (i + 1)) (lv' := [(1, .int (nI (i + 1))), (0, .ref mm)]) hx hb dX12_stands_107 hl (k := 0) rfl (ninc i 1 (by decide)) (by decide) rfl (fun ls hl => ?_)
        refine lv_goto (tgt := 83) hx hb dX12_stands_110 (by decide) ?_
        exact ih_lp_16 (i + 1) f_32 _ _ _ (by omega) hf_33 (by omega) (cpy_s hcp rfl ef_34 (cpy_out hcp (by omega))) hP hD hS (lv_sub hl [0, 1] rfl)
  exact lp_16 (cd - 0 + 1) 0 cs _ _ _ (Nat.lt_succ_self _) hcs (by omega) cpy_0 hP hD hS (lv_sub hl [0, 1] rfl)

