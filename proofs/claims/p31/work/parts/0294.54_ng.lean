theorem dg_X12_putsAside_0_0 : bqL cX12_putsAside 0 [(0, [42]), (1, [4]), (2, [181, 1, 135]), (5, [3]), (6, [60]), (7, [27]), (8, [16, 29]), (10, [162, 0, 21]), (31, [177]), (13, [42]), (14, [180, 0, 66]), (17, [27]), (18, [42]), (19, [180, 0, 63]), (22, [27]), (23, [46]), (24, [79]), (25, [132, 1, 1]), (28, [167, 255, 235])] = true := by decide +kernel
theorem dX12_putsAside_0 : decode cX12_putsAside 0 = .ok (.aload_n 0, 1) := q_aload_n0 (bat_get dg_X12_putsAside_0_0 0 rfl rfl)
theorem dX12_putsAside_1 : decode cX12_putsAside 1 = .ok (.iconst 1, 1) := q_iconst1 (bat_get dg_X12_putsAside_0_0 1 rfl rfl)
theorem dX12_putsAside_2 : decode cX12_putsAside 2 = .ok (.putfield 391, 3) := q_putfield (bat_get dg_X12_putsAside_0_0 2 rfl rfl) rfl
theorem dX12_putsAside_5 : decode cX12_putsAside 5 = .ok (.iconst 0, 1) := q_iconst0 (bat_get dg_X12_putsAside_0_0 3 rfl rfl)
theorem dX12_putsAside_6 : decode cX12_putsAside 6 = .ok (.istore_n 1, 1) := q_istore_n1 (bat_get dg_X12_putsAside_0_0 4 rfl rfl)
theorem dX12_putsAside_7 : decode cX12_putsAside 7 = .ok (.iload_n 1, 1) := q_iload_n1 (bat_get dg_X12_putsAside_0_0 5 rfl rfl)
theorem dX12_putsAside_8 : decode cX12_putsAside 8 = .ok (.bipush 29, 2) := q_bipush (bat_get dg_X12_putsAside_0_0 6 rfl rfl) rfl
theorem dX12_putsAside_10 : decode cX12_putsAside 10 = .ok (.if_icmp .ge 21, 3) := q_if_icmp_ge (bat_get dg_X12_putsAside_0_0 7 rfl rfl) rfl
theorem dX12_putsAside_31 : decode cX12_putsAside 31 = .ok (.return_, 1) := q_return_ (bat_get dg_X12_putsAside_0_0 8 rfl rfl)
theorem dX12_putsAside_13 : decode cX12_putsAside 13 = .ok (.aload_n 0, 1) := q_aload_n0 (bat_get dg_X12_putsAside_0_0 9 rfl rfl)
theorem dX12_putsAside_14 : decode cX12_putsAside 14 = .ok (.getfield 66, 3) := q_getfield (bat_get dg_X12_putsAside_0_0 10 rfl rfl) rfl
theorem dX12_putsAside_17 : decode cX12_putsAside 17 = .ok (.iload_n 1, 1) := q_iload_n1 (bat_get dg_X12_putsAside_0_0 11 rfl rfl)
theorem dX12_putsAside_18 : decode cX12_putsAside 18 = .ok (.aload_n 0, 1) := q_aload_n0 (bat_get dg_X12_putsAside_0_0 12 rfl rfl)
theorem dX12_putsAside_19 : decode cX12_putsAside 19 = .ok (.getfield 63, 3) := q_getfield (bat_get dg_X12_putsAside_0_0 13 rfl rfl) rfl
theorem dX12_putsAside_22 : decode cX12_putsAside 22 = .ok (.iload_n 1, 1) := q_iload_n1 (bat_get dg_X12_putsAside_0_0 14 rfl rfl)
theorem dX12_putsAside_23 : decode cX12_putsAside 23 = .ok (.iaload, 1) := q_iaload (bat_get dg_X12_putsAside_0_0 15 rfl rfl)
theorem dX12_putsAside_24 : decode cX12_putsAside 24 = .ok (.iastore, 1) := q_iastore (bat_get dg_X12_putsAside_0_0 16 rfl rfl)
theorem dX12_putsAside_25 : decode cX12_putsAside 25 = .ok (.iinc 1 1, 3) := q_iinc (bat_get dg_X12_putsAside_0_0 17 rfl rfl) rfl
theorem dX12_putsAside_28 : decode cX12_putsAside 28 = .ok (.goto (-21), 3) := q_goto (bat_get dg_X12_putsAside_0_0 18 rfl rfl) rfl
theorem w_5_187 : (Cond.fieldLink RX12 66 "SameKeeperModel" "aside" "[I") ∈ wsL_law := sk_mem (ck_5 _ (List.mem_of_getElem? (i := 187) rfl)) rfl
theorem w_8_12 : (Cond.code yX12_putsAside cX12_putsAside 2 none) ∈ wsL_law := sk_mem (ck_8 _ (List.mem_of_getElem? (i := 12) rfl)) rfl
set_option maxHeartbeats 4000000 in
set_option maxRecDepth 100000 in
theorem c_nm_putsAside (l : Launch) (D : va_G) (cI cJ cC cZ cS : ClassId) (mm : Nat) (g : Nat → Nat) (ta : Nat) (pa : Nat) (pe : Nat) (pd : Int32) (pb : Nat) (pp : Int32) (pf : Int32) (pg : Int32) (pn : Int32) (rt : Int32) (rn : Int32) (cd : Nat) (sn : Int32) (il : Nat) (tk : Int32) (am : Int32) (at_ : Int32) (aa : Int32) (wt : Int32) (wy : Int64) (rm : Nat) (ud : Nat) (nu : Nat) (sd : Int64) (qn : Nat) (qw : Nat) (qo : Int32) (qb : Nat) (qp : Nat) (qa : Int64) (qi : Nat) (oc : Nat) (nw : Nat → Int32) (az : Nat → Int32) (wn : Nat) (mN : Nat) (Ba : Nat → Nat) (We : Nat → Nat) (U : Nat → Bool) (ke : Nat) (lg : KLg) (hnw : nwX wn mN Ba We U ke lg nw) : skM l yX12_putsAside cX12_putsAside 2 none 0 0 0 0 D (skT cI cJ cC cZ cS) [.ref mm] [(mm, .inr (12, mo g (nI ta) (nI pa) (nI pe) pd (nI pb) pp pf pg pn rt rn (nI cd) sn (nI il) tk am at_ aa 0 0 (-1) wt wy 0 (nI rm) (nI ud) (nI nu) sd (nI qn) (nI qw) qo (nI qb) (nI qp) qa (nI qi) (nI oc))), (g 31, .inl (cI, 120, .inl nw)), (g 32, .inl (cI, 29, .inl az))] (skV D (skT cI cJ cC cZ cS) (fun (u : va_W) => ∃ (az2 : Nat → Int32), asX wn mN Ba We U az2 ∧ u = [(mm, .inr (12, mo g (nI ta) (nI pa) (nI pe) pd (nI pb) pp pf pg pn rt rn (nI cd) sn (nI il) tk am at_ aa 0 0 (-1) wt wy 1 (nI rm) (nI ud) (nI nu) sd (nI qn) (nI qw) qo (nI qb) (nI qp) qa (nI qi) (nI oc))), (g 31, .inl (cI, 120, .inl nw)), (g 32, .inl (cI, 29, .inl az2))])) := by
  refine skM_of pf_X12_putsAside (Nat.le_of_ble_eq_true rfl) ?_
  intro p e s m below meth c A ls E hP hD hl
  refine skE_el E (fun hx hb hr hml hlocks hin hown hts hK hA => ?_)
  have hown : s.vm.findClass RX12 = some m.cls := hown
  have hS : va_S A s.heap s.heap [] := va_S.rf
  have hl : lv_has ls 2 [(0, .ref mm)] := hl
  refine lv_aload_n hx hb dX12_putsAside_0 rfl (lv_at hl 0 rfl) ?_
  refine lv_iconst (v := 1) hx hb dX12_putsAside_1 (by decide) ?_
  refine sk_put (ws' := [(mm, .inr (12, mo g (nI ta) (nI pa) (nI pe) pd (nI pb) pp pf pg pn rt rn (nI cd) sn (nI il) tk am at_ aa 0 0 (-1) wt wy 1 (nI rm) (nI ud) (nI nu) sd (nI qn) (nI qw) qo (nI qb) (nI qp) qa (nI qi) (nI oc))), (g 31, .inl (cI, 120, .inl nw)), (g 32, .inl (cI, 29, .inl az))]) (C := RX12) (T := TX12) (N := 92) (v := .int 1) hx hb hts inlX12 tyX12 tyX12_ok nmX12 hown hK hP hD hS 0 rfl rfl 47 (by decide) w_5_202 rfl rfl rfl (Nat.le_of_ble_eq_true rfl) rfl dX12_putsAside_2 (fun H locs hP hD hS => ?_)
  refine lv_iconst (v := 0) hx hb dX12_putsAside_5 (by decide) ?_
  refine lv_istore_n (lv' := [(1, .int 0), (0, .ref mm)]) hx hb dX12_putsAside_6 rfl hl (by decide) rfl (fun ls hl => ?_)
  have lp_1 : ∀ (n_2 : Nat) (i : Nat) (zz : Nat → Int32) (H : Heap) (locs : List Loc) (ls : Array Slot), 29 - i < n_2 → (i ≤ 29) → (kc0 i nw zz) → va_P D vwCl [(mm, .inr (12, mo g (nI ta) (nI pa) (nI pe) pd (nI pb) pp pf pg pn rt rn (nI cd) sn (nI il) tk am at_ aa 0 0 (-1) wt wy 1 (nI rm) (nI ud) (nI nu) sd (nI qn) (nI qw) qo (nI qb) (nI qp) qa (nI qi) (nI oc))), (g 31, .inl (cI, 120, .inl nw)), (g 32, .inl (cI, 29, .inl zz))] H → va_D A [(mm, .inr (12, mo g (nI ta) (nI pa) (nI pe) pd (nI pb) pp pf pg pn rt rn (nI cd) sn (nI il) tk am at_ aa 0 0 (-1) wt wy 1 (nI rm) (nI ud) (nI nu) sd (nI qn) (nI qw) qo (nI qb) (nI qp) qa (nI qi) (nI oc))), (g 31, .inl (cI, 120, .inl nw)), (g 32, .inl (cI, 29, .inl zz))] → va_S A s.heap H locs → lv_has ls 2 [(1, .int (nI i)), (0, .ref mm)] → W p l e { frames := 0, cells := 0, slots := 0, locals := 0 } s m ([.ref mm] : List Value).toArray below meth c H locs 0 0 (MQ below (skV D (skT cI cJ cC cZ cS) (fun (u : va_W) => ∃ (az2 : Nat → Int32), asX wn mN Ba We U az2 ∧ u = [(mm, .inr (12, mo g (nI ta) (nI pa) (nI pe) pd (nI pb) pp pf pg pn rt rn (nI cd) sn (nI il) tk am at_ aa 0 0 (-1) wt wy 1 (nI rm) (nI ud) (nI nu) sd (nI qn) (nI qw) qo (nI qb) (nI qp) qa (nI qi) (nI oc))), (g 31, .inl (cI, 120, .inl nw)), (g 32, .inl (cI, 29, .inl az2))]) A) ([.ref mm] : List Value).toArray s 0 0 A) (F0 m 7 ls []) := by
    intro n_2
    induction n_2 with
    | zero => intro i zz H locs ls hm; exact absurd hm (Nat.not_lt_zero _)
    | succ n_2 ih_lp_1 =>
      intro i zz H locs ls hm hi hzz hP hD hS hl
      refine lv_iload_n hx hb dX12_putsAside_7 rfl (lv_at hl 0 rfl) ?_
      refine lv_bipush (v := 29) hx hb dX12_putsAside_8 (by decide) ?_
      refine lv_icmp_ge (tgt := 31) hx hb dX12_putsAside_10 (by decide) (fun c_3 => ?_) (fun c_3 => ?_)
      · have c_3 : 29 ≤ i := (nle 29 i (by omega) (by omega)).mp c_3
        exact sk_vret hx hb hr hlocks hK hP hD hS (⟨zz, (asX_of hnw (show kc0 29 nw zz by rw [show 29 = i by omega]; exact hzz)), rfl⟩) (Nat.le_of_ble_eq_true rfl) (Nat.le_of_ble_eq_true rfl) dX12_putsAside_31
      · have c_3 : ¬ (29 ≤ i) := fun h => c_3 ((nle 29 i (by omega) (by omega)).mpr h)
        refine lv_aload_n hx hb dX12_putsAside_13 rfl (lv_at hl 1 rfl) ?_
        refine sk_get (v := .ref (g 32)) (C := RX12) (T := TX12) (N := 92) hx hb hts inlX12 hown hK hP 0 rfl rfl 32 (by decide) w_5_187 rfl dX12_putsAside_14 ?_
        refine lv_iload_n hx hb dX12_putsAside_17 rfl (lv_at hl 0 rfl) ?_
        refine lv_aload_n hx hb dX12_putsAside_18 rfl (lv_at hl 1 rfl) ?_
        refine sk_get (v := .ref (g 31)) (C := RX12) (T := TX12) (N := 92) hx hb hts inlX12 hown hK hP 0 rfl rfl 31 (by decide) w_5_186 rfl dX12_putsAside_19 ?_
        refine lv_iload_n hx hb dX12_putsAside_22 rfl (lv_at hl 0 rfl) ?_
        refine va_iald hx hb hK.1 hP 1 0 rfl rfl (vin i 120 (by omega) (by omega)) dX12_putsAside_23 ?_
        refine sk_top (nw i) (by rw [nI_clamp (by omega)]) ?_
        refine sk_iastE (k := i) (x := (nw i)) (ws' := fun f_4 => [(mm, .inr (12, mo g (nI ta) (nI pa) (nI pe) pd (nI pb) pp pf pg pn rt rn (nI cd) sn (nI il) tk am at_ aa 0 0 (-1) wt wy 1 (nI rm) (nI ud) (nI nu) sd (nI qn) (nI qw) qo (nI qb) (nI qp) qa (nI qi) (nI oc))), (g 31, .inl (cI, 120, .inl nw)), (g 32, .inl (cI, 29, .inl f_4))]) hx hb hK hP hD hS 2 0 rfl rfl (by omega) (by omega) (fun _ => rfl) dX12_putsAside_24 (fun f_4 H locs ef_5 hP hD hS => ?_)
        refine lv_iinc (v := nI (i + 1)) (lv' := [(1, .int (nI (i + 1))), (0, .ref mm)]) hx hb dX12_putsAside_25 hl (k := 0) rfl (ninc i 1 (by decide)) (by decide) rfl (fun ls hl => ?_)
        refine lv_goto (tgt := 7) hx hb dX12_putsAside_28 (by decide) ?_
        exact ih_lp_1 (i + 1) f_4 _ _ _ (by omega) (by omega) (kc0_s hzz ef_5 rfl) hP hD hS (lv_sub hl [0, 1] rfl)
  exact lp_1 (29 - 0 + 1) 0 az _ _ _ (Nat.lt_succ_self _) (by omega) (kc0_0 _ _) hP hD hS (lv_sub hl [0, 1] rfl)
theorem dg_X12_takesBack_0_0 : bqL cX12_takesBack 0 [(0, [3]), (1, [60]), (2, [27]), (3, [16, 29]), (5, [162, 0, 21]), (26, [42]), (27, [3]), (28, [181, 1, 135]), (31, [177]), (8, [42]), (9, [180, 0, 63]), (12, [27]), (13, [42]), (14, [180, 0, 66]), (17, [27]), (18, [46]), (19, [79]), (20, [132, 1, 1]), (23, [167, 255, 235])] = true := by decide +kernel
theorem dX12_takesBack_0 : decode cX12_takesBack 0 = .ok (.iconst 0, 1) := q_iconst0 (bat_get dg_X12_takesBack_0_0 0 rfl rfl)
theorem dX12_takesBack_1 : decode cX12_takesBack 1 = .ok (.istore_n 1, 1) := q_istore_n1 (bat_get dg_X12_takesBack_0_0 1 rfl rfl)
theorem dX12_takesBack_2 : decode cX12_takesBack 2 = .ok (.iload_n 1, 1) := q_iload_n1 (bat_get dg_X12_takesBack_0_0 2 rfl rfl)
theorem dX12_takesBack_3 : decode cX12_takesBack 3 = .ok (.bipush 29, 2) := q_bipush (bat_get dg_X12_takesBack_0_0 3 rfl rfl) rfl
theorem dX12_takesBack_5 : decode cX12_takesBack 5 = .ok (.if_icmp .ge 21, 3) := q_if_icmp_ge (bat_get dg_X12_takesBack_0_0 4 rfl rfl) rfl
theorem dX12_takesBack_26 : decode cX12_takesBack 26 = .ok (.aload_n 0, 1) := q_aload_n0 (bat_get dg_X12_takesBack_0_0 5 rfl rfl)
theorem dX12_takesBack_27 : decode cX12_takesBack 27 = .ok (.iconst 0, 1) := q_iconst0 (bat_get dg_X12_takesBack_0_0 6 rfl rfl)
theorem dX12_takesBack_28 : decode cX12_takesBack 28 = .ok (.putfield 391, 3) := q_putfield (bat_get dg_X12_takesBack_0_0 7 rfl rfl) rfl
theorem dX12_takesBack_31 : decode cX12_takesBack 31 = .ok (.return_, 1) := q_return_ (bat_get dg_X12_takesBack_0_0 8 rfl rfl)
theorem dX12_takesBack_8 : decode cX12_takesBack 8 = .ok (.aload_n 0, 1) := q_aload_n0 (bat_get dg_X12_takesBack_0_0 9 rfl rfl)
theorem dX12_takesBack_9 : decode cX12_takesBack 9 = .ok (.getfield 63, 3) := q_getfield (bat_get dg_X12_takesBack_0_0 10 rfl rfl) rfl
theorem dX12_takesBack_12 : decode cX12_takesBack 12 = .ok (.iload_n 1, 1) := q_iload_n1 (bat_get dg_X12_takesBack_0_0 11 rfl rfl)
theorem dX12_takesBack_13 : decode cX12_takesBack 13 = .ok (.aload_n 0, 1) := q_aload_n0 (bat_get dg_X12_takesBack_0_0 12 rfl rfl)
theorem dX12_takesBack_14 : decode cX12_takesBack 14 = .ok (.getfield 66, 3) := q_getfield (bat_get dg_X12_takesBack_0_0 13 rfl rfl) rfl
theorem dX12_takesBack_17 : decode cX12_takesBack 17 = .ok (.iload_n 1, 1) := q_iload_n1 (bat_get dg_X12_takesBack_0_0 14 rfl rfl)
theorem dX12_takesBack_18 : decode cX12_takesBack 18 = .ok (.iaload, 1) := q_iaload (bat_get dg_X12_takesBack_0_0 15 rfl rfl)
theorem dX12_takesBack_19 : decode cX12_takesBack 19 = .ok (.iastore, 1) := q_iastore (bat_get dg_X12_takesBack_0_0 16 rfl rfl)
theorem dX12_takesBack_20 : decode cX12_takesBack 20 = .ok (.iinc 1 1, 3) := q_iinc (bat_get dg_X12_takesBack_0_0 17 rfl rfl) rfl
theorem dX12_takesBack_23 : decode cX12_takesBack 23 = .ok (.goto (-21), 3) := q_goto (bat_get dg_X12_takesBack_0_0 18 rfl rfl) rfl
theorem w_8_28 : (Cond.code yX12_takesBack cX12_takesBack 2 none) ∈ wsL_law := sk_mem (ck_8 _ (List.mem_of_getElem? (i := 28) rfl)) rfl
set_option maxHeartbeats 4000000 in
set_option maxRecDepth 100000 in
theorem c_nm_takesBack (l : Launch) (D : va_G) (cI cJ cC cZ cS : ClassId) (mm : Nat) (g : Nat → Nat) (ta : Nat) (pa : Nat) (pe : Nat) (pd : Int32) (pb : Nat) (pp : Int32) (pf : Int32) (pg : Int32) (pn : Int32) (rt : Int32) (rn : Int32) (cd : Nat) (sn : Int32) (il : Nat) (tk : Int32) (am : Int32) (at_ : Int32) (aa : Int32) (wt : Int32) (wy : Int64) (rm : Nat) (ud : Nat) (nu : Nat) (sd : Int64) (qn : Nat) (qw : Nat) (qo : Int32) (qb : Nat) (qp : Nat) (qa : Int64) (qi : Nat) (oc : Nat) (nw : Nat → Int32) (az : Nat → Int32) (wn : Nat) (mN : Nat) (Ba : Nat → Nat) (We : Nat → Nat) (U : Nat → Bool) (ke : Nat) (lg : KLg) (wv : Nat) (mv : Nat) (Bv : Nat → Nat) (Wv : Nat → Nat) (Uv : Nat → Bool) (haz : asX wn mN Ba We U az) (hnw : nwX wv mv Bv Wv Uv ke lg nw) : skM l yX12_takesBack cX12_takesBack 2 none 0 0 0 0 D (skT cI cJ cC cZ cS) [.ref mm] [(mm, .inr (12, mo g (nI ta) (nI pa) (nI pe) pd (nI pb) pp pf pg pn rt rn (nI cd) sn (nI il) tk am at_ aa 0 0 (-1) wt wy 1 (nI rm) (nI ud) (nI nu) sd (nI qn) (nI qw) qo (nI qb) (nI qp) qa (nI qi) (nI oc))), (g 31, .inl (cI, 120, .inl nw)), (g 32, .inl (cI, 29, .inl az))] (skV D (skT cI cJ cC cZ cS) (fun (u : va_W) => ∃ (nw2 : Nat → Int32), nwX wn mN Ba We U ke lg nw2 ∧ u = [(mm, .inr (12, mo g (nI ta) (nI pa) (nI pe) pd (nI pb) pp pf pg pn rt rn (nI cd) sn (nI il) tk am at_ aa 0 0 (-1) wt wy 0 (nI rm) (nI ud) (nI nu) sd (nI qn) (nI qw) qo (nI qb) (nI qp) qa (nI qi) (nI oc))), (g 31, .inl (cI, 120, .inl nw2)), (g 32, .inl (cI, 29, .inl az))])) := by
  refine skM_of pf_X12_takesBack (Nat.le_of_ble_eq_true rfl) ?_
  intro p e s m below meth c A ls E hP hD hl
  refine skE_el E (fun hx hb hr hml hlocks hin hown hts hK hA => ?_)
  have hown : s.vm.findClass RX12 = some m.cls := hown
  have hS : va_S A s.heap s.heap [] := va_S.rf
  have hl : lv_has ls 2 [(0, .ref mm)] := hl
  refine lv_iconst (v := 0) hx hb dX12_takesBack_0 (by decide) ?_
  refine lv_istore_n (lv' := [(1, .int 0), (0, .ref mm)]) hx hb dX12_takesBack_1 rfl hl (by decide) rfl (fun ls hl => ?_)
  have lp_1 : ∀ (n_2 : Nat) (i : Nat) (zn : Nat → Int32) (H : Heap) (locs : List Loc) (ls : Array Slot), 29 - i < n_2 → (i ≤ 29) → (tbC i az nw zn) → va_P D vwCl [(mm, .inr (12, mo g (nI ta) (nI pa) (nI pe) pd (nI pb) pp pf pg pn rt rn (nI cd) sn (nI il) tk am at_ aa 0 0 (-1) wt wy 1 (nI rm) (nI ud) (nI nu) sd (nI qn) (nI qw) qo (nI qb) (nI qp) qa (nI qi) (nI oc))), (g 31, .inl (cI, 120, .inl zn)), (g 32, .inl (cI, 29, .inl az))] H → va_D A [(mm, .inr (12, mo g (nI ta) (nI pa) (nI pe) pd (nI pb) pp pf pg pn rt rn (nI cd) sn (nI il) tk am at_ aa 0 0 (-1) wt wy 1 (nI rm) (nI ud) (nI nu) sd (nI qn) (nI qw) qo (nI qb) (nI qp) qa (nI qi) (nI oc))), (g 31, .inl (cI, 120, .inl zn)), (g 32, .inl (cI, 29, .inl az))] → va_S A s.heap H locs → lv_has ls 2 [(1, .int (nI i)), (0, .ref mm)] → W p l e { frames := 0, cells := 0, slots := 0, locals := 0 } s m ([.ref mm] : List Value).toArray below meth c H locs 0 0 (MQ below (skV D (skT cI cJ cC cZ cS) (fun (u : va_W) => ∃ (nw2 : Nat → Int32), nwX wn mN Ba We U ke lg nw2 ∧ u = [(mm, .inr (12, mo g (nI ta) (nI pa) (nI pe) pd (nI pb) pp pf pg pn rt rn (nI cd) sn (nI il) tk am at_ aa 0 0 (-1) wt wy 0 (nI rm) (nI ud) (nI nu) sd (nI qn) (nI qw) qo (nI qb) (nI qp) qa (nI qi) (nI oc))), (g 31, .inl (cI, 120, .inl nw2)), (g 32, .inl (cI, 29, .inl az))]) A) ([.ref mm] : List Value).toArray s 0 0 A) (F0 m 2 ls []) := by
    intro n_2
    induction n_2 with
    | zero => intro i zn H locs ls hm; exact absurd hm (Nat.not_lt_zero _)
    | succ n_2 ih_lp_1 =>
      intro i zn H locs ls hm hi htc hP hD hS hl
      refine lv_iload_n hx hb dX12_takesBack_2 rfl (lv_at hl 0 rfl) ?_
      refine lv_bipush (v := 29) hx hb dX12_takesBack_3 (by decide) ?_
      refine lv_icmp_ge (tgt := 26) hx hb dX12_takesBack_5 (by decide) (fun c_3 => ?_) (fun c_3 => ?_)
      · have c_3 : 29 ≤ i := (nle 29 i (by omega) (by omega)).mp c_3
        have hnN : nwX wn mN Ba We U ke lg zn := tbX hnw haz (show tbC 29 az nw zn by rw [show 29 = i by omega]; exact htc)
        refine lv_aload_n hx hb dX12_takesBack_26 rfl (lv_at hl 1 rfl) ?_
        refine lv_iconst (v := 0) hx hb dX12_takesBack_27 (by decide) ?_
        refine sk_put (ws' := [(mm, .inr (12, mo g (nI ta) (nI pa) (nI pe) pd (nI pb) pp pf pg pn rt rn (nI cd) sn (nI il) tk am at_ aa 0 0 (-1) wt wy 0 (nI rm) (nI ud) (nI nu) sd (nI qn) (nI qw) qo (nI qb) (nI qp) qa (nI qi) (nI oc))), (g 31, .inl (cI, 120, .inl zn)), (g 32, .inl (cI, 29, .inl az))]) (C := RX12) (T := TX12) (N := 92) (v := .int 0) hx hb hts inlX12 tyX12 tyX12_ok nmX12 hown hK hP hD hS 0 rfl rfl 47 (by decide) w_5_202 rfl rfl rfl (Nat.le_of_ble_eq_true rfl) rfl dX12_takesBack_28 (fun H locs hP hD hS => ?_)
        exact sk_vret hx hb hr hlocks hK hP hD hS (⟨zn, hnN, rfl⟩) (Nat.le_of_ble_eq_true rfl) (Nat.le_of_ble_eq_true rfl) dX12_takesBack_31
      · have c_3 : ¬ (29 ≤ i) := fun h => c_3 ((nle 29 i (by omega) (by omega)).mpr h)
        refine lv_aload_n hx hb dX12_takesBack_8 rfl (lv_at hl 1 rfl) ?_
        refine sk_get (v := .ref (g 31)) (C := RX12) (T := TX12) (N := 92) hx hb hts inlX12 hown hK hP 0 rfl rfl 31 (by decide) w_5_186 rfl dX12_takesBack_9 ?_
        refine lv_iload_n hx hb dX12_takesBack_12 rfl (lv_at hl 0 rfl) ?_
        refine lv_aload_n hx hb dX12_takesBack_13 rfl (lv_at hl 1 rfl) ?_
        refine sk_get (v := .ref (g 32)) (C := RX12) (T := TX12) (N := 92) hx hb hts inlX12 hown hK hP 0 rfl rfl 32 (by decide) w_5_187 rfl dX12_takesBack_14 ?_
        refine lv_iload_n hx hb dX12_takesBack_17 rfl (lv_at hl 0 rfl) ?_
        refine va_iald hx hb hK.1 hP 2 0 rfl rfl (vin i 29 (by omega) (by omega)) dX12_takesBack_18 ?_
        refine sk_top (az i) (by rw [nI_clamp (by omega)]) ?_
        refine sk_iastE (k := i) (x := (az i)) (ws' := fun f_4 => [(mm, .inr (12, mo g (nI ta) (nI pa) (nI pe) pd (nI pb) pp pf pg pn rt rn (nI cd) sn (nI il) tk am at_ aa 0 0 (-1) wt wy 1 (nI rm) (nI ud) (nI nu) sd (nI qn) (nI qw) qo (nI qb) (nI qp) qa (nI qi) (nI oc))), (g 31, .inl (cI, 120, .inl f_4)), (g 32, .inl (cI, 29, .inl az))]) hx hb hK hP hD hS 1 0 rfl rfl (by omega) (by omega) (fun _ => rfl) dX12_takesBack_19 (fun f_4 H locs ef_5 hP hD hS => ?_)
        refine lv_iinc (v := nI (i + 1)) (lv' := [(1, .int (nI (i + 1))), (0, .ref mm)]) hx hb dX12_takesBack_20 hl (k := 0) rfl (ninc i 1 (by decide)) (by decide) rfl (fun ls hl => ?_)
        refine lv_goto (tgt := 2) hx hb dX12_takesBack_23 (by decide) ?_
        exact ih_lp_1 (i + 1) f_4 _ _ _ (by omega) (by omega) (tbC_s htc ef_5 rfl (by omega)) hP hD hS (lv_sub hl [0, 1] rfl)
  exact lp_1 (29 - 0 + 1) 0 nw _ _ _ (Nat.lt_succ_self _) (by omega) (tbC_0 _ _) hP hD hS (lv_sub hl [0, 1] rfl)
