theorem dg_X12_end_0_0 : bqL cX12_end 0 [(0, [27]), (1, [155, 0, 11]), (12, [42]), (13, [180, 0, 17]), (16, [3]), (17, [92]), (18, [46]), (19, [4]), (20, [96]), (21, [79]), (22, [3]), (23, [172]), (4, [27]), (5, [42]), (6, [180, 0, 192]), (9, [164, 0, 15]), (24, [42]), (25, [27]), (26, [181, 0, 192]), (29, [4]), (30, [172])] = true := by decide +kernel
theorem dX12_end_0 : decode cX12_end 0 = .ok (.iload_n 1, 1) := q_iload_n1 (bat_get dg_X12_end_0_0 0 rfl rfl)
theorem dX12_end_1 : decode cX12_end 1 = .ok (.ifCond .lt 11, 3) := q_ifCond_lt (bat_get dg_X12_end_0_0 1 rfl rfl) rfl
theorem dX12_end_12 : decode cX12_end 12 = .ok (.aload_n 0, 1) := q_aload_n0 (bat_get dg_X12_end_0_0 2 rfl rfl)
theorem dX12_end_13 : decode cX12_end 13 = .ok (.getfield 17, 3) := q_getfield (bat_get dg_X12_end_0_0 3 rfl rfl) rfl
theorem dX12_end_16 : decode cX12_end 16 = .ok (.iconst 0, 1) := q_iconst0 (bat_get dg_X12_end_0_0 4 rfl rfl)
theorem dX12_end_17 : decode cX12_end 17 = .ok (.dup2, 1) := q_dup2 (bat_get dg_X12_end_0_0 5 rfl rfl)
theorem dX12_end_18 : decode cX12_end 18 = .ok (.iaload, 1) := q_iaload (bat_get dg_X12_end_0_0 6 rfl rfl)
theorem dX12_end_19 : decode cX12_end 19 = .ok (.iconst 1, 1) := q_iconst1 (bat_get dg_X12_end_0_0 7 rfl rfl)
theorem dX12_end_20 : decode cX12_end 20 = .ok (.iadd, 1) := q_iadd (bat_get dg_X12_end_0_0 8 rfl rfl)
theorem dX12_end_21 : decode cX12_end 21 = .ok (.iastore, 1) := q_iastore (bat_get dg_X12_end_0_0 9 rfl rfl)
theorem dX12_end_22 : decode cX12_end 22 = .ok (.iconst 0, 1) := q_iconst0 (bat_get dg_X12_end_0_0 10 rfl rfl)
theorem dX12_end_23 : decode cX12_end 23 = .ok (.ireturn, 1) := q_ireturn (bat_get dg_X12_end_0_0 11 rfl rfl)
theorem dX12_end_4 : decode cX12_end 4 = .ok (.iload_n 1, 1) := q_iload_n1 (bat_get dg_X12_end_0_0 12 rfl rfl)
theorem dX12_end_5 : decode cX12_end 5 = .ok (.aload_n 0, 1) := q_aload_n0 (bat_get dg_X12_end_0_0 13 rfl rfl)
theorem dX12_end_6 : decode cX12_end 6 = .ok (.getfield 192, 3) := q_getfield (bat_get dg_X12_end_0_0 14 rfl rfl) rfl
theorem dX12_end_9 : decode cX12_end 9 = .ok (.if_icmp .le 15, 3) := q_if_icmp_le (bat_get dg_X12_end_0_0 15 rfl rfl) rfl
theorem dX12_end_24 : decode cX12_end 24 = .ok (.aload_n 0, 1) := q_aload_n0 (bat_get dg_X12_end_0_0 16 rfl rfl)
theorem dX12_end_25 : decode cX12_end 25 = .ok (.iload_n 1, 1) := q_iload_n1 (bat_get dg_X12_end_0_0 17 rfl rfl)
theorem dX12_end_26 : decode cX12_end 26 = .ok (.putfield 192, 3) := q_putfield (bat_get dg_X12_end_0_0 18 rfl rfl) rfl
theorem dX12_end_29 : decode cX12_end 29 = .ok (.iconst 1, 1) := q_iconst1 (bat_get dg_X12_end_0_0 19 rfl rfl)
theorem dX12_end_30 : decode cX12_end 30 = .ok (.ireturn, 1) := q_ireturn (bat_get dg_X12_end_0_0 20 rfl rfl)
theorem w_6_201 : (Cond.code yX12_end cX12_end 2 (some .boolean)) ∈ wsL_law := sk_mem (ck_6 _ (List.mem_of_getElem? (i := 201) rfl)) rfl
set_option maxHeartbeats 4000000 in
set_option maxRecDepth 100000 in
theorem c_nm_end (l : Launch) (D : va_G) (cI cJ cC cZ cS : ClassId) (mm : Nat) (g : Nat → Nat) (ta : Nat) (pa : Nat) (pe : Nat) (pd : Int32) (pb : Nat) (pp : Int32) (pf : Int32) (pg : Int32) (pn : Int32) (rt : Int32) (rn : Int32) (cd : Nat) (sn : Int32) (il : Nat) (tk : Int32) (am : Int32) (at_ : Int32) (aa : Int32) (wt : Int32) (wy : Int64) (rm : Nat) (ud : Nat) (nu : Nat) (sd : Int64) (qn : Nat) (qw : Nat) (qo : Int32) (qb : Nat) (qp : Nat) (qa : Int64) (qi : Nat) (oc : Nat) (n : Int32) (rf : Nat → Int32) (hta : ta ≤ 1600) : skM l yX12_end cX12_end 2 (some .boolean) 0 0 0 0 D (skT cI cJ cC cZ cS) [.ref mm, .int n] [(mm, .inr (12, mo g (nI ta) (nI pa) (nI pe) pd (nI pb) pp pf pg pn rt rn (nI cd) sn (nI il) tk am at_ aa 0 0 (-1) wt wy 0 (nI rm) (nI ud) (nI nu) sd (nI qn) (nI qw) qo (nI qb) (nI qp) qa (nI qi) (nI oc))), (g 9, .inl (cI, 6, .inl rf))] (skI D (skT cI cJ cC cZ cS) (fun (r : Int32) (u : va_W) => ∃ (ta2 : Nat), ∃ (rf2 : Nat → Int32), ((n < 0 ∧ ta2 = ta ∧ r = 0) ∨ (∃ k : Nat, k < 2147483648 ∧ n = nI k ∧ ((k ≤ ta ∧ ta2 = k ∧ r = 1) ∨ (ta < k ∧ ta2 = ta ∧ r = 0)))) ∧ ((r = 1 ∧ rf2 = rf) ∨ (r = 0 ∧ rf2 = upd rf 0 (rf 0 + 1))) ∧ u = [(mm, .inr (12, mo g (nI ta2) (nI pa) (nI pe) pd (nI pb) pp pf pg pn rt rn (nI cd) sn (nI il) tk am at_ aa 0 0 (-1) wt wy 0 (nI rm) (nI ud) (nI nu) sd (nI qn) (nI qw) qo (nI qb) (nI qp) qa (nI qi) (nI oc))), (g 9, .inl (cI, 6, .inl rf2))])) := by
  refine skM_of pf_X12_end (Nat.le_of_ble_eq_true rfl) ?_
  intro p e s m below meth c A ls E hP hD hl
  refine skE_el E (fun hx hb hr hml hlocks hin hown hts hK hA => ?_)
  have hown : s.vm.findClass RX12 = some m.cls := hown
  have hS : va_S A s.heap s.heap [] := va_S.rf
  have hl : lv_has ls 2 [(0, .ref mm), (1, .int n)] := hl
  refine lv_iload_n hx hb dX12_end_0 rfl (lv_at hl 1 rfl) ?_
  refine lv_if_lt (tgt := 12) hx hb dX12_end_1 (by decide) (fun c_1 => ?_) (fun c_1 => ?_)
  · skip
    refine lv_aload_n hx hb dX12_end_12 rfl (lv_at hl 0 rfl) ?_
    refine sk_get (v := .ref (g 9)) (C := RX12) (T := TX12) (N := 92) hx hb hts inlX12 hown hK hP 0 rfl rfl 9 (by decide) w_5_164 rfl dX12_end_13 ?_
    refine lv_iconst (v := 0) hx hb dX12_end_16 (by decide) ?_
    refine lv_dup2_11 hx hb dX12_end_17 rfl rfl ?_
    refine va_iald hx hb hK.1 hP 1 0 rfl rfl (by unfold vp_in; decide) dX12_end_18 ?_
    refine sk_top (rf 0) (rfl) ?_
    refine lv_iconst (v := 1) hx hb dX12_end_19 (by decide) ?_
    refine lv_iadd hx hb dX12_end_20 ?_
    refine sk_iastE (k := 0) (ws' := fun f_2 => [(mm, .inr (12, mo g (nI ta) (nI pa) (nI pe) pd (nI pb) pp pf pg pn rt rn (nI cd) sn (nI il) tk am at_ aa 0 0 (-1) wt wy 0 (nI rm) (nI ud) (nI nu) sd (nI qn) (nI qw) qo (nI qb) (nI qp) qa (nI qi) (nI oc))), (g 9, .inl (cI, 6, .inl f_2))]) hx hb hK hP hD hS 1 0 rfl rfl (by omega) (by omega) (fun _ => rfl) dX12_end_21 (fun f_2 H locs ef_3 hP hD hS => ?_)
    refine lv_iconst (v := 0) hx hb dX12_end_22 (by decide) ?_
    exact sk_iret hx hb hr rfl hlocks hK hP hD hS (⟨ta, f_2, Or.inl ⟨c_1, rfl, rfl⟩, Or.inr ⟨rfl, ef_3⟩, rfl⟩) (Nat.le_of_ble_eq_true rfl) (Nat.le_of_ble_eq_true rfl) dX12_end_23
  · obtain ⟨k_4, hk_4, rfl⟩ := nof n c_1
    refine lv_iload_n hx hb dX12_end_4 rfl (lv_at hl 1 rfl) ?_
    refine lv_aload_n hx hb dX12_end_5 rfl (lv_at hl 0 rfl) ?_
    refine sk_get (v := .int (nI ta)) (C := RX12) (T := TX12) (N := 92) hx hb hts inlX12 hown hK hP 0 rfl rfl 1 (by decide) w_5_156 rfl dX12_end_6 ?_
    refine lv_icmp_le (tgt := 24) hx hb dX12_end_9 (by decide) (fun c_5 => ?_) (fun c_5 => ?_)
    · have c_5 : k_4 ≤ ta := (nle k_4 ta (by omega) (by omega)).mp c_5
      refine lv_aload_n hx hb dX12_end_24 rfl (lv_at hl 0 rfl) ?_
      refine lv_iload_n hx hb dX12_end_25 rfl (lv_at hl 1 rfl) ?_
      refine sk_put (ws' := [(mm, .inr (12, mo g (nI k_4) (nI pa) (nI pe) pd (nI pb) pp pf pg pn rt rn (nI cd) sn (nI il) tk am at_ aa 0 0 (-1) wt wy 0 (nI rm) (nI ud) (nI nu) sd (nI qn) (nI qw) qo (nI qb) (nI qp) qa (nI qi) (nI oc))), (g 9, .inl (cI, 6, .inl rf))]) (C := RX12) (T := TX12) (N := 92) (v := .int (nI k_4)) hx hb hts inlX12 tyX12 tyX12_ok nmX12 hown hK hP hD hS 0 rfl rfl 1 (by decide) w_5_156 rfl rfl rfl (Nat.le_of_ble_eq_true rfl) rfl dX12_end_26 (fun H locs hP hD hS => ?_)
      refine lv_iconst (v := 1) hx hb dX12_end_29 (by decide) ?_
      exact sk_iret hx hb hr rfl hlocks hK hP hD hS (⟨k_4, rf, Or.inr ⟨k_4, by omega, rfl, Or.inl ⟨by omega, rfl, rfl⟩⟩, Or.inl ⟨rfl, rfl⟩, rfl⟩) (Nat.le_of_ble_eq_true rfl) (Nat.le_of_ble_eq_true rfl) dX12_end_30
    · have c_5 : ¬ (k_4 ≤ ta) := fun h => c_5 ((nle k_4 ta (by omega) (by omega)).mpr h)
      refine lv_aload_n hx hb dX12_end_12 rfl (lv_at hl 0 rfl) ?_
      refine sk_get (v := .ref (g 9)) (C := RX12) (T := TX12) (N := 92) hx hb hts inlX12 hown hK hP 0 rfl rfl 9 (by decide) w_5_164 rfl dX12_end_13 ?_
      refine lv_iconst (v := 0) hx hb dX12_end_16 (by decide) ?_
      refine lv_dup2_11 hx hb dX12_end_17 rfl rfl ?_
      refine va_iald hx hb hK.1 hP 1 0 rfl rfl (by unfold vp_in; decide) dX12_end_18 ?_
      refine sk_top (rf 0) (rfl) ?_
      refine lv_iconst (v := 1) hx hb dX12_end_19 (by decide) ?_
      refine lv_iadd hx hb dX12_end_20 ?_
      refine sk_iastE (k := 0) (ws' := fun f_6 => [(mm, .inr (12, mo g (nI ta) (nI pa) (nI pe) pd (nI pb) pp pf pg pn rt rn (nI cd) sn (nI il) tk am at_ aa 0 0 (-1) wt wy 0 (nI rm) (nI ud) (nI nu) sd (nI qn) (nI qw) qo (nI qb) (nI qp) qa (nI qi) (nI oc))), (g 9, .inl (cI, 6, .inl f_6))]) hx hb hK hP hD hS 1 0 rfl rfl (by omega) (by omega) (fun _ => rfl) dX12_end_21 (fun f_6 H locs ef_7 hP hD hS => ?_)
      refine lv_iconst (v := 0) hx hb dX12_end_22 (by decide) ?_
      exact sk_iret hx hb hr rfl hlocks hK hP hD hS (⟨ta, f_6, Or.inr ⟨k_4, by omega, rfl, Or.inr ⟨by omega, rfl, rfl⟩⟩, Or.inr ⟨rfl, ef_7⟩, rfl⟩) (Nat.le_of_ble_eq_true rfl) (Nat.le_of_ble_eq_true rfl) dX12_end_23
theorem dg_X12_seed_0_0 : bqL cX12_seed 0 [(0, [27]), (1, [156, 0, 15]), (16, [42]), (17, [27]), (18, [133]), (19, [181, 0, 110]), (22, [4]), (23, [172]), (4, [42]), (5, [180, 0, 17]), (8, [8]), (9, [92]), (10, [46]), (11, [4]), (12, [96]), (13, [79]), (14, [3]), (15, [172])] = true := by decide +kernel
theorem dX12_seed_0 : decode cX12_seed 0 = .ok (.iload_n 1, 1) := q_iload_n1 (bat_get dg_X12_seed_0_0 0 rfl rfl)
theorem dX12_seed_1 : decode cX12_seed 1 = .ok (.ifCond .ge 15, 3) := q_ifCond_ge (bat_get dg_X12_seed_0_0 1 rfl rfl) rfl
theorem dX12_seed_16 : decode cX12_seed 16 = .ok (.aload_n 0, 1) := q_aload_n0 (bat_get dg_X12_seed_0_0 2 rfl rfl)
theorem dX12_seed_17 : decode cX12_seed 17 = .ok (.iload_n 1, 1) := q_iload_n1 (bat_get dg_X12_seed_0_0 3 rfl rfl)
theorem dX12_seed_18 : decode cX12_seed 18 = .ok (.i2l, 1) := q_i2l (bat_get dg_X12_seed_0_0 4 rfl rfl)
theorem dX12_seed_19 : decode cX12_seed 19 = .ok (.putfield 110, 3) := q_putfield (bat_get dg_X12_seed_0_0 5 rfl rfl) rfl
theorem dX12_seed_22 : decode cX12_seed 22 = .ok (.iconst 1, 1) := q_iconst1 (bat_get dg_X12_seed_0_0 6 rfl rfl)
theorem dX12_seed_23 : decode cX12_seed 23 = .ok (.ireturn, 1) := q_ireturn (bat_get dg_X12_seed_0_0 7 rfl rfl)
theorem dX12_seed_4 : decode cX12_seed 4 = .ok (.aload_n 0, 1) := q_aload_n0 (bat_get dg_X12_seed_0_0 8 rfl rfl)
theorem dX12_seed_5 : decode cX12_seed 5 = .ok (.getfield 17, 3) := q_getfield (bat_get dg_X12_seed_0_0 9 rfl rfl) rfl
theorem dX12_seed_8 : decode cX12_seed 8 = .ok (.iconst 5, 1) := q_iconst5 (bat_get dg_X12_seed_0_0 10 rfl rfl)
theorem dX12_seed_9 : decode cX12_seed 9 = .ok (.dup2, 1) := q_dup2 (bat_get dg_X12_seed_0_0 11 rfl rfl)
theorem dX12_seed_10 : decode cX12_seed 10 = .ok (.iaload, 1) := q_iaload (bat_get dg_X12_seed_0_0 12 rfl rfl)
theorem dX12_seed_11 : decode cX12_seed 11 = .ok (.iconst 1, 1) := q_iconst1 (bat_get dg_X12_seed_0_0 13 rfl rfl)
theorem dX12_seed_12 : decode cX12_seed 12 = .ok (.iadd, 1) := q_iadd (bat_get dg_X12_seed_0_0 14 rfl rfl)
theorem dX12_seed_13 : decode cX12_seed 13 = .ok (.iastore, 1) := q_iastore (bat_get dg_X12_seed_0_0 15 rfl rfl)
theorem dX12_seed_14 : decode cX12_seed 14 = .ok (.iconst 0, 1) := q_iconst0 (bat_get dg_X12_seed_0_0 16 rfl rfl)
theorem dX12_seed_15 : decode cX12_seed 15 = .ok (.ireturn, 1) := q_ireturn (bat_get dg_X12_seed_0_0 17 rfl rfl)
theorem w_5_212 : (Cond.fieldLink RX12 110 "SameKeeperModel" "seeded" "J") ∈ wsL_law := sk_mem (ck_5 _ (List.mem_of_getElem? (i := 212) rfl)) rfl
theorem w_8_145 : (Cond.code yX12_seed cX12_seed 2 (some .boolean)) ∈ wsL_law := sk_mem (ck_8 _ (List.mem_of_getElem? (i := 145) rfl)) rfl
set_option maxHeartbeats 4000000 in
set_option maxRecDepth 100000 in
theorem c_nm_seed (l : Launch) (D : va_G) (cI cJ cC cZ cS : ClassId) (mm : Nat) (g : Nat → Nat) (ta : Nat) (pa : Nat) (pe : Nat) (pd : Int32) (pb : Nat) (pp : Int32) (pf : Int32) (pg : Int32) (pn : Int32) (rt : Int32) (rn : Int32) (cd : Nat) (sn : Int32) (il : Nat) (tk : Int32) (am : Int32) (at_ : Int32) (aa : Int32) (wt : Int32) (wy : Int64) (rm : Nat) (ud : Nat) (nu : Nat) (qn : Nat) (qw : Nat) (qo : Int32) (qb : Nat) (qp : Nat) (qa : Int64) (qi : Nat) (oc : Nat) (n : Int32) (rf : Nat → Int32) (sv : Nat)  : skM l yX12_seed cX12_seed 2 (some .boolean) 0 0 0 0 D (skT cI cJ cC cZ cS) [.ref mm, .int n] [(mm, .inr (12, mo g (nI ta) (nI pa) (nI pe) pd (nI pb) pp pf pg pn rt rn (nI cd) sn (nI il) tk am at_ aa 0 0 (-1) wt wy 0 (nI rm) (nI ud) (nI nu) (Int64.ofNat sv) (nI qn) (nI qw) qo (nI qb) (nI qp) qa (nI qi) (nI oc))), (g 9, .inl (cI, 6, .inl rf))] (skI D (skT cI cJ cC cZ cS) (fun (r : Int32) (u : va_W) => ∃ (sv2 : Nat), ∃ (rf2 : Nat → Int32), seedR sv rf n r sv2 rf2 ∧ u = [(mm, .inr (12, mo g (nI ta) (nI pa) (nI pe) pd (nI pb) pp pf pg pn rt rn (nI cd) sn (nI il) tk am at_ aa 0 0 (-1) wt wy 0 (nI rm) (nI ud) (nI nu) (Int64.ofNat sv2) (nI qn) (nI qw) qo (nI qb) (nI qp) qa (nI qi) (nI oc))), (g 9, .inl (cI, 6, .inl rf2))])) := by
  refine skM_of pf_X12_seed (Nat.le_of_ble_eq_true rfl) ?_
  intro p e s m below meth c A ls E hP hD hl
  refine skE_el E (fun hx hb hr hml hlocks hin hown hts hK hA => ?_)
  have hown : s.vm.findClass RX12 = some m.cls := hown
  have hS : va_S A s.heap s.heap [] := va_S.rf
  have hl : lv_has ls 2 [(0, .ref mm), (1, .int n)] := hl
  refine lv_iload_n hx hb dX12_seed_0 rfl (lv_at hl 1 rfl) ?_
  refine lv_if_ge (tgt := 16) hx hb dX12_seed_1 (by decide) (fun c_1 => ?_) (fun c_1 => ?_)
  · obtain ⟨k_2, hk_2, rfl⟩ := nof' n c_1
    refine lv_aload_n hx hb dX12_seed_16 rfl (lv_at hl 0 rfl) ?_
    refine lv_iload_n hx hb dX12_seed_17 rfl (lv_at hl 1 rfl) ?_
    refine lv_i2l hx hb dX12_seed_18 rfl ?_
    refine sk_topl (Int64.ofNat k_2) (kx_i2l (by omega)) ?_
    refine sk_put (ws' := [(mm, .inr (12, mo g (nI ta) (nI pa) (nI pe) pd (nI pb) pp pf pg pn rt rn (nI cd) sn (nI il) tk am at_ aa 0 0 (-1) wt wy 0 (nI rm) (nI ud) (nI nu) (Int64.ofNat k_2) (nI qn) (nI qw) qo (nI qb) (nI qp) qa (nI qi) (nI oc))), (g 9, .inl (cI, 6, .inl rf))]) (C := RX12) (T := TX12) (N := 92) (v := .long (Int64.ofNat k_2)) hx hb hts inlX12 tyX12 tyX12_ok nmX12 hown hK hP hD hS 0 rfl rfl 57 (by decide) w_5_212 rfl rfl rfl (Nat.le_of_ble_eq_true rfl) rfl dX12_seed_19 (fun H locs hP hD hS => ?_)
    refine lv_iconst (v := 1) hx hb dX12_seed_22 (by decide) ?_
    exact sk_iret hx hb hr rfl hlocks hK hP hD hS (⟨k_2, rf, kR_1 k_2 ⟨by omega, rfl⟩ ⟨rfl, rfl, rfl⟩, rfl⟩) (Nat.le_of_ble_eq_true rfl) (Nat.le_of_ble_eq_true rfl) dX12_seed_23
  · skip
    refine lv_aload_n hx hb dX12_seed_4 rfl (lv_at hl 0 rfl) ?_
    refine sk_get (v := .ref (g 9)) (C := RX12) (T := TX12) (N := 92) hx hb hts inlX12 hown hK hP 0 rfl rfl 9 (by decide) w_5_164 rfl dX12_seed_5 ?_
    refine lv_iconst (v := 5) hx hb dX12_seed_8 (by decide) ?_
    refine lv_dup2_11 hx hb dX12_seed_9 rfl rfl ?_
    refine va_iald hx hb hK.1 hP 1 0 rfl rfl (by unfold vp_in; decide) dX12_seed_10 ?_
    refine sk_top (rf 5) (rfl) ?_
    refine lv_iconst (v := 1) hx hb dX12_seed_11 (by decide) ?_
    refine lv_iadd hx hb dX12_seed_12 ?_
    refine sk_iastE (k := 5) (ws' := fun f_3 => [(mm, .inr (12, mo g (nI ta) (nI pa) (nI pe) pd (nI pb) pp pf pg pn rt rn (nI cd) sn (nI il) tk am at_ aa 0 0 (-1) wt wy 0 (nI rm) (nI ud) (nI nu) (Int64.ofNat sv) (nI qn) (nI qw) qo (nI qb) (nI qp) qa (nI qi) (nI oc))), (g 9, .inl (cI, 6, .inl f_3))]) hx hb hK hP hD hS 1 0 rfl rfl (by omega) (by omega) (fun _ => rfl) dX12_seed_13 (fun f_3 H locs ef_4 hP hD hS => ?_)
    refine lv_iconst (v := 0) hx hb dX12_seed_14 (by decide) ?_
    exact sk_iret hx hb hr rfl hlocks hK hP hD hS (⟨sv, f_3, kR_0 (fun x hq => c_1 (by rw [hq.2]; exact nI_pos' (n := x) hq.1)) ⟨rfl, rfl, ef_4⟩, rfl⟩) (Nat.le_of_ble_eq_true rfl) (Nat.le_of_ble_eq_true rfl) dX12_seed_15
theorem dg_X12_status_0_0 : bqL cX12_status 0 [(0, [27]), (1, [133]), (2, [9]), (3, [20, 2, 96]), (6, [184, 0, 238]), (9, [153, 0, 12]), (21, [2]), (22, [172]), (12, [42]), (13, [180, 0, 17]), (16, [27]), (17, [46]), (18, [167, 0, 4])] = true := by decide +kernel
theorem dX12_status_0 : decode cX12_status 0 = .ok (.iload_n 1, 1) := q_iload_n1 (bat_get dg_X12_status_0_0 0 rfl rfl)
theorem dX12_status_1 : decode cX12_status 1 = .ok (.i2l, 1) := q_i2l (bat_get dg_X12_status_0_0 1 rfl rfl)
theorem dX12_status_2 : decode cX12_status 2 = .ok (.lconst 0, 1) := q_lconst0 (bat_get dg_X12_status_0_0 2 rfl rfl)
theorem dX12_status_3 : decode cX12_status 3 = .ok (.ldc2_w 608, 3) := q_ldc2_w (bat_get dg_X12_status_0_0 3 rfl rfl) rfl
