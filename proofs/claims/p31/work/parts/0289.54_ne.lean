theorem dg_X12_octet_0_0 : bqL cX12_octet 0 [(0, [27]), (1, [155, 0, 20]), (21, [2]), (22, [172]), (4, [27]), (5, [42]), (6, [180, 2, 83]), (9, [162, 0, 12]), (12, [42]), (13, [180, 0, 189]), (16, [27]), (17, [46]), (18, [167, 0, 4])] = true := by decide +kernel
theorem dX12_octet_0 : decode cX12_octet 0 = .ok (.iload_n 1, 1) := q_iload_n1 (bat_get dg_X12_octet_0_0 0 rfl rfl)
theorem dX12_octet_1 : decode cX12_octet 1 = .ok (.ifCond .lt 20, 3) := q_ifCond_lt (bat_get dg_X12_octet_0_0 1 rfl rfl) rfl
theorem dX12_octet_21 : decode cX12_octet 21 = .ok (.iconst (-1), 1) := q_iconstm1 (bat_get dg_X12_octet_0_0 2 rfl rfl)
theorem dX12_octet_22 : decode cX12_octet 22 = .ok (.ireturn, 1) := q_ireturn (bat_get dg_X12_octet_0_0 3 rfl rfl)
theorem dX12_octet_4 : decode cX12_octet 4 = .ok (.iload_n 1, 1) := q_iload_n1 (bat_get dg_X12_octet_0_0 4 rfl rfl)
theorem dX12_octet_5 : decode cX12_octet 5 = .ok (.aload_n 0, 1) := q_aload_n0 (bat_get dg_X12_octet_0_0 5 rfl rfl)
theorem dX12_octet_6 : decode cX12_octet 6 = .ok (.getfield 595, 3) := q_getfield (bat_get dg_X12_octet_0_0 6 rfl rfl) rfl
theorem dX12_octet_9 : decode cX12_octet 9 = .ok (.if_icmp .ge 12, 3) := q_if_icmp_ge (bat_get dg_X12_octet_0_0 7 rfl rfl) rfl
theorem dX12_octet_12 : decode cX12_octet 12 = .ok (.aload_n 0, 1) := q_aload_n0 (bat_get dg_X12_octet_0_0 8 rfl rfl)
theorem dX12_octet_13 : decode cX12_octet 13 = .ok (.getfield 189, 3) := q_getfield (bat_get dg_X12_octet_0_0 9 rfl rfl) rfl
theorem dX12_octet_16 : decode cX12_octet 16 = .ok (.iload_n 1, 1) := q_iload_n1 (bat_get dg_X12_octet_0_0 10 rfl rfl)
theorem dX12_octet_17 : decode cX12_octet 17 = .ok (.iaload, 1) := q_iaload (bat_get dg_X12_octet_0_0 11 rfl rfl)
theorem dX12_octet_18 : decode cX12_octet 18 = .ok (.goto 4, 3) := q_goto (bat_get dg_X12_octet_0_0 12 rfl rfl) rfl
theorem w_6_6 : (Cond.fieldLink RX12 595 "SameKeeperModel" "octets" "I") ∈ wsL_law := sk_mem (ck_6 _ (List.mem_of_getElem? (i := 6) rfl)) rfl
theorem w_6_5 : (Cond.fieldLink RX12 189 "SameKeeperModel" "octet" "[I") ∈ wsL_law := sk_mem (ck_6 _ (List.mem_of_getElem? (i := 5) rfl)) rfl
theorem w_8_217 : (Cond.code yX12_octet cX12_octet 2 (some .int)) ∈ wsL_law := sk_mem (ck_8 _ (List.mem_of_getElem? (i := 217) rfl)) rfl
set_option maxHeartbeats 4000000 in
set_option maxRecDepth 100000 in
theorem c_nm_octet (l : Launch) (D : va_G) (cI cJ cC cZ cS : ClassId) (mm : Nat) (g : Nat → Nat) (ta : Nat) (pa : Nat) (pe : Nat) (pd : Int32) (pb : Nat) (pp : Int32) (pf : Int32) (pg : Int32) (pn : Int32) (rt : Int32) (rn : Int32) (cd : Nat) (sn : Int32) (il : Nat) (tk : Int32) (am : Int32) (at_ : Int32) (aa : Int32) (wt : Int32) (wy : Int64) (rm : Nat) (ud : Nat) (nu : Nat) (sd : Int64) (qn : Nat) (qw : Nat) (qo : Int32) (qb : Nat) (qp : Nat) (qa : Int64) (qi : Nat) (oc : Nat) (k : Int32) (oc_ : Nat → Int32) (pB : Nat → Nat) (hoc : oc ≤ 31) (hpo : ∀ j, j < oc → oc_ j = nI (pB j)) : skM l yX12_octet cX12_octet 2 (some .int) 0 0 0 0 D (skT cI cJ cC cZ cS) [.ref mm, .int k] [(mm, .inr (12, mo g (nI ta) (nI pa) (nI pe) pd (nI pb) pp pf pg pn rt rn (nI cd) sn (nI il) tk am at_ aa 0 0 (-1) wt wy 0 (nI rm) (nI ud) (nI nu) sd (nI qn) (nI qw) qo (nI qb) (nI qp) qa (nI qi) (nI oc))), (g 90, .inl (cI, 31, .inl oc_))] (skI D (skT cI cJ cC cZ cS) (fun (r : Int32) (u : va_W) => octR oc pB k r ∧ u = [(mm, .inr (12, mo g (nI ta) (nI pa) (nI pe) pd (nI pb) pp pf pg pn rt rn (nI cd) sn (nI il) tk am at_ aa 0 0 (-1) wt wy 0 (nI rm) (nI ud) (nI nu) sd (nI qn) (nI qw) qo (nI qb) (nI qp) qa (nI qi) (nI oc))), (g 90, .inl (cI, 31, .inl oc_))])) := by
  refine skM_of pf_X12_octet (Nat.le_of_ble_eq_true rfl) ?_
  intro p e s m below meth c A ls E hP hD hl
  refine skE_el E (fun hx hb hr hml hlocks hin hown hts hK hA => ?_)
  have hown : s.vm.findClass RX12 = some m.cls := hown
  have hS : va_S A s.heap s.heap [] := va_S.rf
  have hl : lv_has ls 2 [(0, .ref mm), (1, .int k)] := hl
  refine lv_iload_n hx hb dX12_octet_0 rfl (lv_at hl 1 rfl) ?_
  refine lv_if_lt (tgt := 21) hx hb dX12_octet_1 (by decide) (fun c_1 => ?_) (fun c_1 => ?_)
  · skip
    refine lv_iconst (v := (-1)) hx hb dX12_octet_21 (by decide) ?_
    exact sk_iret hx hb hr rfl hlocks hK hP hD hS (⟨kR_0 (fun x hq => absurd c_1 (by rw [hq.2]; exact nI_pos (by omega))) rfl, rfl⟩) (Nat.le_of_ble_eq_true rfl) (Nat.le_of_ble_eq_true rfl) dX12_octet_22
  · obtain ⟨k_2, hk_2, rfl⟩ := nof k c_1
    refine lv_iload_n hx hb dX12_octet_4 rfl (lv_at hl 1 rfl) ?_
    refine lv_aload_n hx hb dX12_octet_5 rfl (lv_at hl 0 rfl) ?_
    refine sk_get (v := .int (nI oc)) (C := RX12) (T := TX12) (N := 92) hx hb hts inlX12 hown hK hP 0 rfl rfl 91 (by decide) w_6_6 rfl dX12_octet_6 ?_
    refine lv_icmp_ge (tgt := 21) hx hb dX12_octet_9 (by decide) (fun c_3 => ?_) (fun c_3 => ?_)
    · have c_3 : oc ≤ k_2 := (nle oc k_2 (by omega) (by omega)).mp c_3
      refine lv_iconst (v := (-1)) hx hb dX12_octet_21 (by decide) ?_
      exact sk_iret hx hb hr rfl hlocks hK hP hD hS (⟨kR_0 (fun x hq => (by have := (neq k_2 x (by omega) (by omega)).mp hq.2; omega)) rfl, rfl⟩) (Nat.le_of_ble_eq_true rfl) (Nat.le_of_ble_eq_true rfl) dX12_octet_22
    · have c_3 : ¬ (oc ≤ k_2) := fun h => c_3 ((nle oc k_2 (by omega) (by omega)).mpr h)
      refine lv_aload_n hx hb dX12_octet_12 rfl (lv_at hl 0 rfl) ?_
      refine sk_get (v := .ref (g 90)) (C := RX12) (T := TX12) (N := 92) hx hb hts inlX12 hown hK hP 0 rfl rfl 90 (by decide) w_6_5 rfl dX12_octet_13 ?_
      refine lv_iload_n hx hb dX12_octet_16 rfl (lv_at hl 1 rfl) ?_
      refine va_iald hx hb hK.1 hP 1 0 rfl rfl (vin k_2 31 (by omega) (by omega)) dX12_octet_17 ?_
      refine sk_top (oc_ k_2) (by rw [nI_clamp (by omega)]) ?_
      refine lv_goto (tgt := 22) hx hb dX12_octet_18 (by decide) ?_
      exact sk_iret hx hb hr rfl hlocks hK hP hD hS (⟨kR_1 k_2 ⟨by omega, rfl⟩ (hpo k_2 (by omega)), rfl⟩) (Nat.le_of_ble_eq_true rfl) (Nat.le_of_ble_eq_true rfl) dX12_octet_22
theorem dg_X12_writes_0_0 : bqL cX12_writes 0 [(0, [42]), (1, [180, 0, 189]), (4, [42]), (5, [180, 2, 83]), (8, [27]), (9, [79]), (10, [42]), (11, [89]), (12, [180, 2, 83]), (15, [4]), (16, [96]), (17, [181, 2, 83]), (20, [177])] = true := by decide +kernel
theorem dX12_writes_0 : decode cX12_writes 0 = .ok (.aload_n 0, 1) := q_aload_n0 (bat_get dg_X12_writes_0_0 0 rfl rfl)
theorem dX12_writes_1 : decode cX12_writes 1 = .ok (.getfield 189, 3) := q_getfield (bat_get dg_X12_writes_0_0 1 rfl rfl) rfl
theorem dX12_writes_4 : decode cX12_writes 4 = .ok (.aload_n 0, 1) := q_aload_n0 (bat_get dg_X12_writes_0_0 2 rfl rfl)
theorem dX12_writes_5 : decode cX12_writes 5 = .ok (.getfield 595, 3) := q_getfield (bat_get dg_X12_writes_0_0 3 rfl rfl) rfl
theorem dX12_writes_8 : decode cX12_writes 8 = .ok (.iload_n 1, 1) := q_iload_n1 (bat_get dg_X12_writes_0_0 4 rfl rfl)
theorem dX12_writes_9 : decode cX12_writes 9 = .ok (.iastore, 1) := q_iastore (bat_get dg_X12_writes_0_0 5 rfl rfl)
theorem dX12_writes_10 : decode cX12_writes 10 = .ok (.aload_n 0, 1) := q_aload_n0 (bat_get dg_X12_writes_0_0 6 rfl rfl)
theorem dX12_writes_11 : decode cX12_writes 11 = .ok (.dup, 1) := q_dup (bat_get dg_X12_writes_0_0 7 rfl rfl)
theorem dX12_writes_12 : decode cX12_writes 12 = .ok (.getfield 595, 3) := q_getfield (bat_get dg_X12_writes_0_0 8 rfl rfl) rfl
theorem dX12_writes_15 : decode cX12_writes 15 = .ok (.iconst 1, 1) := q_iconst1 (bat_get dg_X12_writes_0_0 9 rfl rfl)
theorem dX12_writes_16 : decode cX12_writes 16 = .ok (.iadd, 1) := q_iadd (bat_get dg_X12_writes_0_0 10 rfl rfl)
theorem dX12_writes_17 : decode cX12_writes 17 = .ok (.putfield 595, 3) := q_putfield (bat_get dg_X12_writes_0_0 11 rfl rfl) rfl
theorem dX12_writes_20 : decode cX12_writes 20 = .ok (.return_, 1) := q_return_ (bat_get dg_X12_writes_0_0 12 rfl rfl)
theorem w_8_210 : (Cond.code yX12_writes cX12_writes 2 none) ∈ wsL_law := sk_mem (ck_8 _ (List.mem_of_getElem? (i := 210) rfl)) rfl
set_option maxHeartbeats 4000000 in
set_option maxRecDepth 100000 in
theorem c_nm_writes (l : Launch) (D : va_G) (cI cJ cC cZ cS : ClassId) (mm : Nat) (g : Nat → Nat) (ta : Nat) (pa : Nat) (pe : Nat) (pd : Int32) (pb : Nat) (pp : Int32) (pf : Int32) (pg : Int32) (pn : Int32) (rt : Int32) (rn : Int32) (cd : Nat) (sn : Int32) (il : Nat) (tk : Int32) (am : Int32) (at_ : Int32) (aa : Int32) (wt : Int32) (wy : Int64) (rm : Nat) (ud : Nat) (nu : Nat) (sd : Int64) (qn : Nat) (qw : Nat) (qo : Int32) (qb : Nat) (qp : Nat) (qa : Int64) (qi : Nat) (oc : Nat) (v : Int32) (oc_ : Nat → Int32) (hoc : oc < 31) : skM l yX12_writes cX12_writes 2 none 0 0 0 0 D (skT cI cJ cC cZ cS) [.ref mm, .int v] [(mm, .inr (12, mo g (nI ta) (nI pa) (nI pe) pd (nI pb) pp pf pg pn rt rn (nI cd) sn (nI il) tk am at_ aa 0 0 (-1) wt wy 0 (nI rm) (nI ud) (nI nu) sd (nI qn) (nI qw) qo (nI qb) (nI qp) qa (nI qi) (nI oc))), (g 90, .inl (cI, 31, .inl oc_))] (skV D (skT cI cJ cC cZ cS) (fun (u : va_W) => ∃ (oc_2 : Nat → Int32), oc_2 = upd oc_ oc v ∧ u = [(mm, .inr (12, mo g (nI ta) (nI pa) (nI pe) pd (nI pb) pp pf pg pn rt rn (nI cd) sn (nI il) tk am at_ aa 0 0 (-1) wt wy 0 (nI rm) (nI ud) (nI nu) sd (nI qn) (nI qw) qo (nI qb) (nI qp) qa (nI qi) (nI (oc + 1)))), (g 90, .inl (cI, 31, .inl oc_2))])) := by
  refine skM_of pf_X12_writes (Nat.le_of_ble_eq_true rfl) ?_
  intro p e s m below meth c A ls E hP hD hl
  refine skE_el E (fun hx hb hr hml hlocks hin hown hts hK hA => ?_)
  have hown : s.vm.findClass RX12 = some m.cls := hown
  have hS : va_S A s.heap s.heap [] := va_S.rf
  have hl : lv_has ls 2 [(0, .ref mm), (1, .int v)] := hl
  refine lv_aload_n hx hb dX12_writes_0 rfl (lv_at hl 0 rfl) ?_
  refine sk_get (v := .ref (g 90)) (C := RX12) (T := TX12) (N := 92) hx hb hts inlX12 hown hK hP 0 rfl rfl 90 (by decide) w_6_5 rfl dX12_writes_1 ?_
  refine lv_aload_n hx hb dX12_writes_4 rfl (lv_at hl 0 rfl) ?_
  refine sk_get (v := .int (nI oc)) (C := RX12) (T := TX12) (N := 92) hx hb hts inlX12 hown hK hP 0 rfl rfl 91 (by decide) w_6_6 rfl dX12_writes_5 ?_
  refine lv_iload_n hx hb dX12_writes_8 rfl (lv_at hl 1 rfl) ?_
  refine sk_iastE (k := oc) (ws' := fun f_1 => [(mm, .inr (12, mo g (nI ta) (nI pa) (nI pe) pd (nI pb) pp pf pg pn rt rn (nI cd) sn (nI il) tk am at_ aa 0 0 (-1) wt wy 0 (nI rm) (nI ud) (nI nu) sd (nI qn) (nI qw) qo (nI qb) (nI qp) qa (nI qi) (nI oc))), (g 90, .inl (cI, 31, .inl f_1))]) hx hb hK hP hD hS 1 0 rfl rfl (by omega) (by omega) (fun _ => rfl) dX12_writes_9 (fun f_1 H locs ef_2 hP hD hS => ?_)
  refine lv_aload_n hx hb dX12_writes_10 rfl (lv_at hl 0 rfl) ?_
  refine lv_dup hx hb dX12_writes_11 rfl ?_
  refine sk_get (v := .int (nI oc)) (C := RX12) (T := TX12) (N := 92) hx hb hts inlX12 hown hK hP 0 rfl rfl 91 (by decide) w_6_6 rfl dX12_writes_12 ?_
  refine lv_iconst (v := 1) hx hb dX12_writes_15 (by decide) ?_
  refine lv_iadd hx hb dX12_writes_16 ?_
  refine sk_top (nI (oc + 1)) (nI_add oc 1) ?_
  refine sk_put (ws' := [(mm, .inr (12, mo g (nI ta) (nI pa) (nI pe) pd (nI pb) pp pf pg pn rt rn (nI cd) sn (nI il) tk am at_ aa 0 0 (-1) wt wy 0 (nI rm) (nI ud) (nI nu) sd (nI qn) (nI qw) qo (nI qb) (nI qp) qa (nI qi) (nI (oc + 1)))), (g 90, .inl (cI, 31, .inl f_1))]) (C := RX12) (T := TX12) (N := 92) (v := .int (nI (oc + 1))) hx hb hts inlX12 tyX12 tyX12_ok nmX12 hown hK hP hD hS 0 rfl rfl 91 (by decide) w_6_6 rfl rfl rfl (Nat.le_of_ble_eq_true rfl) rfl dX12_writes_17 (fun H locs hP hD hS => ?_)
  exact sk_vret hx hb hr hlocks hK hP hD hS (⟨f_1, ef_2, rfl⟩) (Nat.le_of_ble_eq_true rfl) (Nat.le_of_ble_eq_true rfl) dX12_writes_20
set_option maxHeartbeats 4000000 in
set_option maxRecDepth 100000 in
theorem c_nm_checkedI (l : Launch) (D : va_G) (cI cJ cC cZ cS : ClassId) (h0 : Nat) (ff : Nat → Int32) (n : Nat) (gg : Nat → Nat) (hn : n ≤ 31) (hgg : ∀ j, j < n → ff j = nI (gg j)) (hg9 : ∀ j, gg j ≤ 255) : skM l yX12_checked cX12_checked 4 (some .int) 0 0 0 0 D (skT cI cJ cC cZ cS) [.ref h0, .int (nI n)] [(h0, .inl (cI, 31, .inl ff))] (skI D (skT cI cJ cC cZ cS) (fun (r : Int32) (u : va_W) => ∃ (ck2 : Nat), ck2 = chkN gg n ∧ ck2 < 251 ∧ r = nI ck2 ∧ u = [(h0, .inl (cI, 31, .inl ff))])) := by
  refine skM_of pf_X12_checked (Nat.le_of_ble_eq_true rfl) ?_
  intro p e s m below meth c A ls E hP hD hl
  refine skE_el E (fun hx hb hr hml hlocks hin hown hts hK hA => ?_)
  have hown : s.vm.findClass RX12 = some m.cls := hown
  have hS : va_S A s.heap s.heap [] := va_S.rf
  have hl : lv_has ls 4 [(0, .ref h0), (1, .int (nI n))] := hl
  refine lv_sipush (v := 139) hx hb dX12_checked_0 (by decide) ?_
  refine lv_istore_n (lv' := [(2, .int 139), (0, .ref h0), (1, .int (nI n))]) hx hb dX12_checked_3 rfl hl (by decide) rfl (fun ls hl => ?_)
  refine lv_iconst (v := 0) hx hb dX12_checked_4 (by decide) ?_
  refine lv_istore_n (lv' := [(3, .int 0), (2, .int 139), (0, .ref h0), (1, .int (nI n))]) hx hb dX12_checked_5 rfl hl (by decide) rfl (fun ls hl => ?_)
  have lp_1 : ∀ (n_2 : Nat) (i : Nat) (ck : Nat) (H : Heap) (locs : List Loc) (ls : Array Slot), n - i < n_2 → (i ≤ n) → (ck < 251) → (ck = chkN gg i) → va_P D vwCl [(h0, .inl (cI, 31, .inl ff))] H → va_D A [(h0, .inl (cI, 31, .inl ff))] → va_S A s.heap H locs → lv_has ls 4 [(3, .int (nI i)), (2, .int (nI ck)), (0, .ref h0), (1, .int (nI n))] → W p l e { frames := 0, cells := 0, slots := 0, locals := 0 } s m ([.ref h0, .int (nI n)] : List Value).toArray below meth c H locs 0 0 (MQ below (skI D (skT cI cJ cC cZ cS) (fun (r : Int32) (u : va_W) => ∃ (ck2 : Nat), ck2 = chkN gg n ∧ ck2 < 251 ∧ r = nI ck2 ∧ u = [(h0, .inl (cI, 31, .inl ff))]) A) ([.ref h0, .int (nI n)] : List Value).toArray s 0 0 A) (F0 m 6 ls []) := by
    intro n_2
    induction n_2 with
    | zero => intro i ck H locs ls hm; exact absurd hm (Nat.not_lt_zero _)
    | succ n_2 ih_lp_1 =>
      intro i ck H locs ls hm hi hc9 hci hP hD hS hl
      refine lv_iload_n hx hb dX12_checked_6 rfl (lv_at hl 0 rfl) ?_
      refine lv_iload_n hx hb dX12_checked_7 rfl (lv_at hl 3 rfl) ?_
      refine lv_icmp_ge (tgt := 29) hx hb dX12_checked_8 (by decide) (fun c_3 => ?_) (fun c_3 => ?_)
      · have c_3 : n ≤ i := (nle n i (by omega) (by omega)).mp c_3
        refine lv_iload_n hx hb dX12_checked_29 rfl (lv_at hl 1 rfl) ?_
        exact sk_iret hx hb hr rfl hlocks hK hP hD hS (⟨ck, (by rw [show n = i by omega]; exact hci), by omega, rfl, rfl⟩) (Nat.le_of_ble_eq_true rfl) (Nat.le_of_ble_eq_true rfl) dX12_checked_30
      · have c_3 : ¬ (n ≤ i) := fun h => c_3 ((nle n i (by omega) (by omega)).mpr h)
        refine lv_iconst (v := 3) hx hb dX12_checked_11 (by decide) ?_
        refine lv_iload_n hx hb dX12_checked_12 rfl (lv_at hl 1 rfl) ?_
        refine lv_imul hx hb dX12_checked_13 ?_
        refine sk_top (nI (3 * ck)) (nmul 3 ck) ?_
        refine lv_aload_n hx hb dX12_checked_14 rfl (lv_at hl 2 rfl) ?_
        refine lv_iload_n hx hb dX12_checked_15 rfl (lv_at hl 0 rfl) ?_
        refine va_iald hx hb hK.1 hP 0 0 rfl rfl (vin i 31 (by omega) (by omega)) dX12_checked_16 ?_
        have hg9i := hg9 i
        refine sk_top (nI (gg i)) (by rw [nI_clamp (by omega)]; exact hgg i (by omega)) ?_
        refine lv_iadd hx hb dX12_checked_17 ?_
        refine sk_top (nI (3 * ck + (gg i))) (nI_add (3 * ck) (gg i)) ?_
        refine lv_sipush (v := 251) hx hb dX12_checked_18 (by decide) ?_
        refine lv_irem hx hb dX12_checked_21 (by decide) ?_
        refine sk_top (nI ((3 * ck + (gg i)) % 251)) (nrem (3 * ck + (gg i)) 251 (by omega) (by omega) (by omega)) ?_
        refine lv_istore_n (lv' := [(2, .int (nI ((3 * ck + (gg i)) % 251))), (3, .int (nI i)), (0, .ref h0), (1, .int (nI n))]) hx hb dX12_checked_22 rfl hl (by decide) rfl (fun ls hl => ?_)
        refine lv_iinc (v := nI (i + 1)) (lv' := [(3, .int (nI (i + 1))), (2, .int (nI ((3 * ck + (gg i)) % 251))), (0, .ref h0), (1, .int (nI n))]) hx hb dX12_checked_23 hl (k := 1) rfl (ninc i 1 (by decide)) (by decide) rfl (fun ls hl => ?_)
        refine lv_goto (tgt := 6) hx hb dX12_checked_26 (by decide) ?_
        exact ih_lp_1 (i + 1) ((3 * ck + (gg i)) % 251) _ _ _ (by omega) (by omega) (by omega) (by rw [chkN, ← hci]) hP hD hS (lv_sub hl [0, 1, 2, 3] rfl)
  exact lp_1 (n - 0 + 1) 0 139 _ _ _ (Nat.lt_succ_self _) (by omega) (by omega) rfl hP hD hS (lv_sub hl [0, 1, 2, 3] rfl)
theorem dg_X12_image_0_0 : bqL cX12_image 0 [(0, [42]), (1, [3]), (2, [181, 2, 83]), (5, [42]), (6, [42]), (7, [180, 0, 63]), (10, [3]), (11, [46]), (12, [17, 1, 0]), (15, [108]), (16, [182, 2, 86]), (19, [42]), (20, [42]), (21, [180, 0, 63]), (24, [3]), (25, [46]), (26, [17, 1, 0]), (29, [112]), (30, [182, 2, 86]), (33, [42]), (34, [42]), (35, [180, 0, 63]), (38, [4]), (39, [46]), (40, [182, 2, 86]), (43, [3]), (44, [60]), (45, [27]), (46, [6]), (47, [42]), (48, [182, 1, 59]), (51, [104]), (52, [162, 0, 21]), (73, [42]), (74, [42]), (75, [180, 0, 189]), (78, [42]), (79, [180, 2, 83]), (82, [184, 2, 89]), (85, [182, 2, 86])] = true := by decide +kernel
