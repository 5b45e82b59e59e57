theorem inD {b n : Nat} {d : Int32} {z : Int64} (h : b = 0 ∨ (b = 1 ∧ (0 : Int64) ≤ d.toInt64 ∧ d.toInt64 ≤ z)) (hz : z.toInt < (n : Int)) : b = 0 ∨ (b = 1 ∧ ∃ kq : Nat, kq < n ∧ d = nI kq) := by
  rcases h with h | ⟨h1, h2, h3⟩
  · exact Or.inl h
  · exact Or.inr ⟨h1, inK n h2 h3 hz⟩
theorem dg_X12_isIn_0_0 : bqL cX12_isIn 0 [(0, [30]), (1, [32]), (2, [148]), (3, [155, 0, 14]), (17, [3]), (18, [172]), (6, [30]), (7, [22, 4]), (9, [148]), (10, [157, 0, 7]), (13, [4]), (14, [167, 0, 4])] = true := by decide +kernel
theorem dX12_isIn_0 : decode cX12_isIn 0 = .ok (.lload_n 0, 1) := q_lload_n0 (bat_get dg_X12_isIn_0_0 0 rfl rfl)
theorem dX12_isIn_1 : decode cX12_isIn 1 = .ok (.lload_n 2, 1) := q_lload_n2 (bat_get dg_X12_isIn_0_0 1 rfl rfl)
theorem dX12_isIn_2 : decode cX12_isIn 2 = .ok (.lcmp, 1) := q_lcmp (bat_get dg_X12_isIn_0_0 2 rfl rfl)
theorem dX12_isIn_3 : decode cX12_isIn 3 = .ok (.ifCond .lt 14, 3) := q_ifCond_lt (bat_get dg_X12_isIn_0_0 3 rfl rfl) rfl
theorem dX12_isIn_17 : decode cX12_isIn 17 = .ok (.iconst 0, 1) := q_iconst0 (bat_get dg_X12_isIn_0_0 4 rfl rfl)
theorem dX12_isIn_18 : decode cX12_isIn 18 = .ok (.ireturn, 1) := q_ireturn (bat_get dg_X12_isIn_0_0 5 rfl rfl)
theorem dX12_isIn_6 : decode cX12_isIn 6 = .ok (.lload_n 0, 1) := q_lload_n0 (bat_get dg_X12_isIn_0_0 6 rfl rfl)
theorem dX12_isIn_7 : decode cX12_isIn 7 = .ok (.lload 4, 2) := q_lload (bat_get dg_X12_isIn_0_0 7 rfl rfl)
theorem dX12_isIn_9 : decode cX12_isIn 9 = .ok (.lcmp, 1) := q_lcmp (bat_get dg_X12_isIn_0_0 8 rfl rfl)
theorem dX12_isIn_10 : decode cX12_isIn 10 = .ok (.ifCond .gt 7, 3) := q_ifCond_gt (bat_get dg_X12_isIn_0_0 9 rfl rfl) rfl
theorem dX12_isIn_13 : decode cX12_isIn 13 = .ok (.iconst 1, 1) := q_iconst1 (bat_get dg_X12_isIn_0_0 10 rfl rfl)
theorem dX12_isIn_14 : decode cX12_isIn 14 = .ok (.goto 4, 3) := q_goto (bat_get dg_X12_isIn_0_0 11 rfl rfl) rfl
theorem w_7_2 : (Cond.code yX12_isIn cX12_isIn 6 (some .boolean)) ∈ wsL_law := sk_mem (ck_7 _ (List.mem_of_getElem? (i := 2) rfl)) rfl
set_option maxHeartbeats 4000000 in
set_option maxRecDepth 100000 in
theorem c_m_isIn (l : Launch) (D : va_G) (cI cJ cC cZ cS : ClassId) (v : Int64) (y : Int64) (z : Int64)  : skM l yX12_isIn cX12_isIn 6 (some .boolean) 0 0 0 0 D (skT cI cJ cC cZ cS) [.long v, .long y, .long z] [] (skI D (skT cI cJ cC cZ cS) (fun (r : Int32) (u : va_W) => ∃ (b : Nat), (b = 0 ∨ (b = 1 ∧ y ≤ v ∧ v ≤ z)) ∧ r = nI b ∧ u = [])) := by
  refine skM_of pf_X12_isIn (Nat.le_of_ble_eq_true rfl) ?_
  intro p e s m below meth c A ls E hP hD hl
  refine skE_el E (fun hx hb hr hml hlocks hin hown hts hK hA => ?_)
  have hown : s.vm.findClass RX12 = some m.cls := hown
  have hS : va_S A s.heap s.heap [] := va_S.rf
  have hl : lv_has ls 6 [(0, .long v), (2, .long y), (4, .long z)] := hl
  refine lv_lload_n hx hb dX12_isIn_0 rfl (lv_at hl 0 rfl) ?_
  refine lv_lload_n hx hb dX12_isIn_1 rfl (lv_at hl 1 rfl) ?_
  refine W.lcmp hx hb dX12_isIn_2 ?_
  refine lv_if_lt (tgt := 17) hx hb dX12_isIn_3 (by decide) (fun c_1 => ?_) (fun c_1 => ?_)
  · skip
    refine lv_iconst (v := 0) hx hb dX12_isIn_17 (by decide) ?_
    exact sk_iret hx hb hr rfl hlocks hK hP hD hS (⟨0, Or.inl rfl, rfl, rfl⟩) (Nat.le_of_ble_eq_true rfl) (Nat.le_of_ble_eq_true rfl) dX12_isIn_18
  · skip
    refine lv_lload_n hx hb dX12_isIn_6 rfl (lv_at hl 0 rfl) ?_
    refine lv_lload hx hb dX12_isIn_7 (lv_at hl 2 rfl) ?_
    refine W.lcmp hx hb dX12_isIn_9 ?_
    refine lv_if_gt (tgt := 17) hx hb dX12_isIn_10 (by decide) (fun c_2 => ?_) (fun c_2 => ?_)
    · skip
      refine lv_iconst (v := 0) hx hb dX12_isIn_17 (by decide) ?_
      exact sk_iret hx hb hr rfl hlocks hK hP hD hS (⟨0, Or.inl rfl, rfl, rfl⟩) (Nat.le_of_ble_eq_true rfl) (Nat.le_of_ble_eq_true rfl) dX12_isIn_18
    · skip
      refine lv_iconst (v := 1) hx hb dX12_isIn_13 (by decide) ?_
      refine lv_goto (tgt := 18) hx hb dX12_isIn_14 (by decide) ?_
      exact sk_iret hx hb hr rfl hlocks hK hP hD hS (⟨1, Or.inr ⟨rfl, lg_ge c_1, lg_le c_2⟩, rfl, rfl⟩) (Nat.le_of_ble_eq_true rfl) (Nat.le_of_ble_eq_true rfl) dX12_isIn_18
theorem dg_X12_isLetter_0_0 : bqL cX12_isLetter 0 [(0, [26]), (1, [16, 97]), (3, [161, 0, 13]), (16, [3]), (17, [172]), (6, [26]), (7, [16, 122]), (9, [163, 0, 7]), (12, [4]), (13, [167, 0, 4])] = true := by decide +kernel
theorem dX12_isLetter_0 : decode cX12_isLetter 0 = .ok (.iload_n 0, 1) := q_iload_n0 (bat_get dg_X12_isLetter_0_0 0 rfl rfl)
theorem dX12_isLetter_1 : decode cX12_isLetter 1 = .ok (.bipush 97, 2) := q_bipush (bat_get dg_X12_isLetter_0_0 1 rfl rfl) rfl
theorem dX12_isLetter_3 : decode cX12_isLetter 3 = .ok (.if_icmp .lt 13, 3) := q_if_icmp_lt (bat_get dg_X12_isLetter_0_0 2 rfl rfl) rfl
theorem dX12_isLetter_16 : decode cX12_isLetter 16 = .ok (.iconst 0, 1) := q_iconst0 (bat_get dg_X12_isLetter_0_0 3 rfl rfl)
theorem dX12_isLetter_17 : decode cX12_isLetter 17 = .ok (.ireturn, 1) := q_ireturn (bat_get dg_X12_isLetter_0_0 4 rfl rfl)
theorem dX12_isLetter_6 : decode cX12_isLetter 6 = .ok (.iload_n 0, 1) := q_iload_n0 (bat_get dg_X12_isLetter_0_0 5 rfl rfl)
theorem dX12_isLetter_7 : decode cX12_isLetter 7 = .ok (.bipush 122, 2) := q_bipush (bat_get dg_X12_isLetter_0_0 6 rfl rfl) rfl
theorem dX12_isLetter_9 : decode cX12_isLetter 9 = .ok (.if_icmp .gt 7, 3) := q_if_icmp_gt (bat_get dg_X12_isLetter_0_0 7 rfl rfl) rfl
theorem dX12_isLetter_12 : decode cX12_isLetter 12 = .ok (.iconst 1, 1) := q_iconst1 (bat_get dg_X12_isLetter_0_0 8 rfl rfl)
theorem dX12_isLetter_13 : decode cX12_isLetter 13 = .ok (.goto 4, 3) := q_goto (bat_get dg_X12_isLetter_0_0 9 rfl rfl) rfl
theorem w_6_228 : (Cond.code yX12_isLetter cX12_isLetter 1 (some .boolean)) ∈ wsL_law := sk_mem (ck_6 _ (List.mem_of_getElem? (i := 228) rfl)) rfl
theorem dg_X12_isDigit_0_0 : bqL cX12_isDigit 0 [(0, [26]), (1, [16, 48]), (3, [161, 0, 13]), (16, [3]), (17, [172]), (6, [26]), (7, [16, 57]), (9, [163, 0, 7]), (12, [4]), (13, [167, 0, 4])] = true := by decide +kernel
theorem dX12_isDigit_0 : decode cX12_isDigit 0 = .ok (.iload_n 0, 1) := q_iload_n0 (bat_get dg_X12_isDigit_0_0 0 rfl rfl)
theorem dX12_isDigit_1 : decode cX12_isDigit 1 = .ok (.bipush 48, 2) := q_bipush (bat_get dg_X12_isDigit_0_0 1 rfl rfl) rfl
theorem dX12_isDigit_3 : decode cX12_isDigit 3 = .ok (.if_icmp .lt 13, 3) := q_if_icmp_lt (bat_get dg_X12_isDigit_0_0 2 rfl rfl) rfl
theorem dX12_isDigit_16 : decode cX12_isDigit 16 = .ok (.iconst 0, 1) := q_iconst0 (bat_get dg_X12_isDigit_0_0 3 rfl rfl)
theorem dX12_isDigit_17 : decode cX12_isDigit 17 = .ok (.ireturn, 1) := q_ireturn (bat_get dg_X12_isDigit_0_0 4 rfl rfl)
theorem dX12_isDigit_6 : decode cX12_isDigit 6 = .ok (.iload_n 0, 1) := q_iload_n0 (bat_get dg_X12_isDigit_0_0 5 rfl rfl)
theorem dX12_isDigit_7 : decode cX12_isDigit 7 = .ok (.bipush 57, 2) := q_bipush (bat_get dg_X12_isDigit_0_0 6 rfl rfl) rfl
theorem dX12_isDigit_9 : decode cX12_isDigit 9 = .ok (.if_icmp .gt 7, 3) := q_if_icmp_gt (bat_get dg_X12_isDigit_0_0 7 rfl rfl) rfl
theorem dX12_isDigit_12 : decode cX12_isDigit 12 = .ok (.iconst 1, 1) := q_iconst1 (bat_get dg_X12_isDigit_0_0 8 rfl rfl)
theorem dX12_isDigit_13 : decode cX12_isDigit 13 = .ok (.goto 4, 3) := q_goto (bat_get dg_X12_isDigit_0_0 9 rfl rfl) rfl
theorem w_6_239 : (Cond.code yX12_isDigit cX12_isDigit 1 (some .boolean)) ∈ wsL_law := sk_mem (ck_6 _ (List.mem_of_getElem? (i := 239) rfl)) rfl
theorem dg_X12_dayMany_0_0 : bqL cX12_dayMany 0 [(0, [42]), (1, [180, 0, 48]), (4, [5]), (5, [46]), (6, [172])] = true := by decide +kernel
theorem dX12_dayMany_0 : decode cX12_dayMany 0 = .ok (.aload_n 0, 1) := q_aload_n0 (bat_get dg_X12_dayMany_0_0 0 rfl rfl)
theorem dX12_dayMany_1 : decode cX12_dayMany 1 = .ok (.getfield 48, 3) := q_getfield (bat_get dg_X12_dayMany_0_0 1 rfl rfl) rfl
theorem dX12_dayMany_4 : decode cX12_dayMany 4 = .ok (.iconst 2, 1) := q_iconst2 (bat_get dg_X12_dayMany_0_0 2 rfl rfl)
theorem dX12_dayMany_5 : decode cX12_dayMany 5 = .ok (.iaload, 1) := q_iaload (bat_get dg_X12_dayMany_0_0 3 rfl rfl)
theorem dX12_dayMany_6 : decode cX12_dayMany 6 = .ok (.ireturn, 1) := q_ireturn (bat_get dg_X12_dayMany_0_0 4 rfl rfl)
theorem w_5_175 : (Cond.fieldLink RX12 48 "SameKeeperModel" "lock0" "[I") ∈ wsL_law := sk_mem (ck_5 _ (List.mem_of_getElem? (i := 175) rfl)) rfl
theorem w_7_101 : (Cond.code yX12_dayMany cX12_dayMany 1 (some .int)) ∈ wsL_law := sk_mem (ck_7 _ (List.mem_of_getElem? (i := 101) rfl)) rfl
set_option maxHeartbeats 4000000 in
set_option maxRecDepth 100000 in
theorem c_m_dayMany (l : Launch) (D : va_G) (cI cJ cC cZ cS : ClassId) (mm : Nat) (g : Nat → Nat) (ta : Nat) (pa : Nat) (pe : Nat) (pd : Int32) (pb : Nat) (pp : Int32) (pf : Int32) (pg : Int32) (pn : Int32) (rt : Int32) (rn : Int32) (cd : Nat) (sn : Int32) (il : Nat) (tk : Int32) (am : Int32) (at_ : Int32) (aa : Int32) (mt_ : Int32) (bh : Nat) (wd : Int32) (wt : Int32) (wy : Int64) (it_ : Nat) (rm : Nat) (ud : Nat) (nu : Nat) (sd : Int64) (qn : Nat) (qw : Nat) (qo : Int32) (qb : Nat) (qp : Nat) (qa : Int64) (qi : Nat) (oc : Nat) (l0 : Nat) (l1 : Nat) (dm : Nat) (l3 : Nat)  : skM l yX12_dayMany cX12_dayMany 1 (some .int) 0 0 0 0 D (skT cI cJ cC cZ cS) [.ref mm] [(mm, .inr (12, mo g (nI ta) (nI pa) (nI pe) pd (nI pb) pp pf pg pn rt rn (nI cd) sn (nI il) tk am at_ aa mt_ (nI bh) wd wt wy (nI it_) (nI rm) (nI ud) (nI nu) sd (nI qn) (nI qw) qo (nI qb) (nI qp) qa (nI qi) (nI oc))), (g 20, .inl (cI, 4, .inl (l4 (nI l0) (nI l1) (nI dm) (nI l3))))] (skI D (skT cI cJ cC cZ cS) (fun (r : Int32) (u : va_W) => r = nI dm ∧ u = [(mm, .inr (12, mo g (nI ta) (nI pa) (nI pe) pd (nI pb) pp pf pg pn rt rn (nI cd) sn (nI il) tk am at_ aa mt_ (nI bh) wd wt wy (nI it_) (nI rm) (nI ud) (nI nu) sd (nI qn) (nI qw) qo (nI qb) (nI qp) qa (nI qi) (nI oc))), (g 20, .inl (cI, 4, .inl (l4 (nI l0) (nI l1) (nI dm) (nI l3))))])) := by
  refine skM_of pf_X12_dayMany (Nat.le_of_ble_eq_true rfl) ?_
  intro p e s m below meth c A ls E hP hD hl
  refine skE_el E (fun hx hb hr hml hlocks hin hown hts hK hA => ?_)
  have hown : s.vm.findClass RX12 = some m.cls := hown
  have hS : va_S A s.heap s.heap [] := va_S.rf
  have hl : lv_has ls 1 [(0, .ref mm)] := hl
  refine lv_aload_n hx hb dX12_dayMany_0 rfl (lv_at hl 0 rfl) ?_
  refine sk_get (v := .ref (g 20)) (C := RX12) (T := TX12) (N := 92) hx hb hts inlX12 hown hK hP 0 rfl rfl 20 (by decide) w_5_175 rfl dX12_dayMany_1 ?_
  refine lv_iconst (v := 2) hx hb dX12_dayMany_4 (by decide) ?_
  refine va_iald hx hb hK.1 hP 1 0 rfl rfl (by unfold vp_in; decide) dX12_dayMany_5 ?_
  refine sk_top (nI dm) rfl ?_
  exact sk_iret hx hb hr rfl hlocks hK hP hD hS (⟨rfl, rfl⟩) (Nat.le_of_ble_eq_true rfl) (Nat.le_of_ble_eq_true rfl) dX12_dayMany_6
theorem dg_X12_isDay_0_0 : bqL cX12_isDay 0 [(0, [27]), (1, [133]), (2, [9]), (3, [42]), (4, [182, 1, 59]), (7, [4]), (8, [100]), (9, [133]), (10, [184, 0, 238]), (13, [172])] = true := by decide +kernel
theorem dX12_isDay_0 : decode cX12_isDay 0 = .ok (.iload_n 1, 1) := q_iload_n1 (bat_get dg_X12_isDay_0_0 0 rfl rfl)
theorem dX12_isDay_1 : decode cX12_isDay 1 = .ok (.i2l, 1) := q_i2l (bat_get dg_X12_isDay_0_0 1 rfl rfl)
theorem dX12_isDay_2 : decode cX12_isDay 2 = .ok (.lconst 0, 1) := q_lconst0 (bat_get dg_X12_isDay_0_0 2 rfl rfl)
theorem dX12_isDay_3 : decode cX12_isDay 3 = .ok (.aload_n 0, 1) := q_aload_n0 (bat_get dg_X12_isDay_0_0 3 rfl rfl)
theorem dX12_isDay_4 : decode cX12_isDay 4 = .ok (.invokevirtual 315, 3) := q_invokevirtual (bat_get dg_X12_isDay_0_0 4 rfl rfl) rfl
theorem dX12_isDay_7 : decode cX12_isDay 7 = .ok (.iconst 1, 1) := q_iconst1 (bat_get dg_X12_isDay_0_0 5 rfl rfl)
theorem dX12_isDay_8 : decode cX12_isDay 8 = .ok (.isub, 1) := q_isub (bat_get dg_X12_isDay_0_0 6 rfl rfl)
theorem dX12_isDay_9 : decode cX12_isDay 9 = .ok (.i2l, 1) := q_i2l (bat_get dg_X12_isDay_0_0 7 rfl rfl)
theorem dX12_isDay_10 : decode cX12_isDay 10 = .ok (.invokestatic 238, 3) := q_invokestatic (bat_get dg_X12_isDay_0_0 8 rfl rfl) rfl
theorem dX12_isDay_13 : decode cX12_isDay 13 = .ok (.ireturn, 1) := q_ireturn (bat_get dg_X12_isDay_0_0 9 rfl rfl)
theorem w_7_98 : (Cond.methodLink RX12 315 yX12_dayMany) ∈ wsL_law := sk_mem (ck_7 _ (List.mem_of_getElem? (i := 98) rfl)) rfl
theorem w_7_100 : (Cond.instanceMethod yX12_dayMany) ∈ wsL_law := sk_mem (ck_7 _ (List.mem_of_getElem? (i := 100) rfl)) rfl
theorem w_0_69 : (Cond.selects RX12 yX12_dayMany yX12_dayMany) ∈ wsL_law := sk_mem (ck_0 _ (List.mem_of_getElem? (i := 69) rfl)) rfl
theorem w_1_14 : (Cond.initialized RX12) ∈ wsL_law := sk_mem (ck_1 _ (List.mem_of_getElem? (i := 14) rfl)) rfl
theorem w_7_0 : (Cond.methodLink RX12 238 yX12_isIn) ∈ wsL_law := sk_mem (ck_7 _ (List.mem_of_getElem? (i := 0) rfl)) rfl
theorem w_7_1 : (Cond.static yX12_isIn) ∈ wsL_law := sk_mem (ck_7 _ (List.mem_of_getElem? (i := 1) rfl)) rfl
theorem w_7_120 : (Cond.code yX12_isDay cX12_isDay 2 (some .boolean)) ∈ wsL_law := sk_mem (ck_7 _ (List.mem_of_getElem? (i := 120) rfl)) rfl
theorem hd_X12_dayMany_0 : skD yX12_dayMany 0 := by decide +kernel
theorem hd_X12_isIn_3 : skD yX12_isIn 3 := by decide +kernel
set_option maxHeartbeats 4000000 in
set_option maxRecDepth 100000 in
theorem c_m_isDay (l : Launch) (D : va_G) (cI cJ cC cZ cS : ClassId) (mm : Nat) (g : Nat → Nat) (ta : Nat) (pa : Nat) (pe : Nat) (pd : Int32) (pb : Nat) (pp : Int32) (pf : Int32) (pg : Int32) (pn : Int32) (rt : Int32) (rn : Int32) (cd : Nat) (sn : Int32) (il : Nat) (tk : Int32) (am : Int32) (at_ : Int32) (aa : Int32) (mt_ : Int32) (bh : Nat) (wd : Int32) (wt : Int32) (wy : Int64) (it_ : Nat) (rm : Nat) (ud : Nat) (nu : Nat) (sd : Int64) (qn : Nat) (qw : Nat) (qo : Int32) (qb : Nat) (qp : Nat) (qa : Int64) (qi : Nat) (oc : Nat) (d : Int32) (l0 : Nat) (l1 : Nat) (dm : Nat) (l3 : Nat) (hdm : dm ≤ 9) : skM l yX12_isDay cX12_isDay 2 (some .boolean) 1 25 0 0 D (skT cI cJ cC cZ cS) [.ref mm, .int d] [(mm, .inr (12, mo g (nI ta) (nI pa) (nI pe) pd (nI pb) pp pf pg pn rt rn (nI cd) sn (nI il) tk am at_ aa mt_ (nI bh) wd wt wy (nI it_) (nI rm) (nI ud) (nI nu) sd (nI qn) (nI qw) qo (nI qb) (nI qp) qa (nI qi) (nI oc))), (g 20, .inl (cI, 4, .inl (l4 (nI l0) (nI l1) (nI dm) (nI l3))))] (skI D (skT cI cJ cC cZ cS) (fun (r : Int32) (u : va_W) => ∃ (b : Nat), (b = 0 ∨ (b = 1 ∧ ∃ kq : Nat, kq < dm ∧ d = nI kq)) ∧ r = nI b ∧ u = [(mm, .inr (12, mo g (nI ta) (nI pa) (nI pe) pd (nI pb) pp pf pg pn rt rn (nI cd) sn (nI il) tk am at_ aa mt_ (nI bh) wd wt wy (nI it_) (nI rm) (nI ud) (nI nu) sd (nI qn) (nI qw) qo (nI qb) (nI qp) qa (nI qi) (nI oc))), (g 20, .inl (cI, 4, .inl (l4 (nI l0) (nI l1) (nI dm) (nI l3))))])) := by
  refine skM_of pf_X12_isDay (Nat.le_of_ble_eq_true rfl) ?_
  intro p e s m below meth c A ls E hP hD hl
  refine skE_el E (fun hx hb hr hml hlocks hin hown hts hK hA => ?_)
  have hown : s.vm.findClass RX12 = some m.cls := hown
  have hS : va_S A s.heap s.heap [] := va_S.rf
  have hl : lv_has ls 2 [(0, .ref mm), (1, .int d)] := hl
  refine lv_iload_n hx hb dX12_isDay_0 rfl (lv_at hl 1 rfl) ?_
  refine lv_i2l hx hb dX12_isDay_1 rfl ?_
  refine lv_lconst (v := 0) hx hb dX12_isDay_2 (by decide) ?_
  refine lv_aload_n hx hb dX12_isDay_3 rfl (lv_at hl 0 rfl) ?_
  refine sk_Vi (q0 := 0) (n := 0) (rest := [.long 0, .long (Int32.toInt64 d)]) (wr := fmR om_2_3 _) ⟨hx, hb, hml, hown, hts⟩ hl.1 (c_m_dayMany l D cI cJ cC cZ cS mm g ta pa pe pd pb pp pf pg pn rt rn cd sn il tk am at_ aa mt_ bh wd wt wy it_ rm ud nu sd qn qw qo qb qp qa qi oc l0 l1 dm l3) w_7_98 w_7_100 w_0_69 w_1_14 w_7_101 hd_X12_dayMany_0 ⟨⟨(Nat.le_of_ble_eq_true rfl), (Nat.le_of_ble_eq_true rfl)⟩, (Nat.le_of_ble_eq_true rfl), (Nat.le_of_ble_eq_true rfl)⟩ hK hP hD hS hA (fmT om_2_3 0) (fmF om_2_3 0) (fm_C1 rfl rfl) (fm_R rfl rfl) (fm_nT om_2_3 0) (fm_nF om_2_3 0) (fm_di om_2_3 0) rfl rfl rfl rfl (Nat.le_of_ble_eq_true rfl) dX12_isDay_4 (fun r_1 u H locs hw hP hD hS => ?_)
  refine anE hw (fun er_3 eu_2 => ?_)
  clear hw
  subst er_3
  refine o_mgE (ws' := [(mm, .inr (12, mo g (nI ta) (nI pa) (nI pe) pd (nI pb) pp pf pg pn rt rn (nI cd) sn (nI il) tk am at_ aa mt_ (nI bh) wd wt wy (nI it_) (nI rm) (nI ud) (nI nu) sd (nI qn) (nI qw) qo (nI qb) (nI qp) qa (nI qi) (nI oc))), (g 20, .inl (cI, 4, .inl (l4 (nI l0) (nI l1) (nI dm) (nI l3))))]) eu_2 hP hD rfl (fun hP hD => ?_)
  refine lv_iconst (v := 1) hx hb dX12_isDay_7 (by decide) ?_
  refine lv_isub hx hb dX12_isDay_8 ?_
  refine lv_i2l hx hb dX12_isDay_9 rfl ?_
  refine sk_Si (n := 3) (rest := []) (wr := [(mm, .inr (12, mo g (nI ta) (nI pa) (nI pe) pd (nI pb) pp pf pg pn rt rn (nI cd) sn (nI il) tk am at_ aa mt_ (nI bh) wd wt wy (nI it_) (nI rm) (nI ud) (nI nu) sd (nI qn) (nI qw) qo (nI qb) (nI qp) qa (nI qi) (nI oc))), (g 20, .inl (cI, 4, .inl (l4 (nI l0) (nI l1) (nI dm) (nI l3))))]) ⟨hx, hb, hml, hown, hts⟩ hl.1 (c_m_isIn l D cI cJ cC cZ cS (Int32.toInt64 d) 0 (Int32.toInt64 (nI dm - 1))) w_7_0 w_7_1 w_1_14 w_7_2 hd_X12_isIn_3 ⟨⟨(Nat.le_of_ble_eq_true rfl), (Nat.le_of_ble_eq_true rfl)⟩, (Nat.le_of_ble_eq_true rfl), (Nat.le_of_ble_eq_true rfl)⟩ hK hP hD hS hA [] [0, 1] rfl rfl (by decide +kernel) (by decide +kernel) (by decide +kernel) rfl rfl (Nat.le_of_ble_eq_true rfl) dX12_isDay_10 (fun r_5 u H locs hw hP hD hS => ?_)
  obtain ⟨b_4, hb1_6, rfl, rfl⟩ := hw
  refine o_re (ws' := [(mm, .inr (12, mo g (nI ta) (nI pa) (nI pe) pd (nI pb) pp pf pg pn rt rn (nI cd) sn (nI il) tk am at_ aa mt_ (nI bh) wd wt wy (nI it_) (nI rm) (nI ud) (nI nu) sd (nI qn) (nI qw) qo (nI qb) (nI qp) qa (nI qi) (nI oc))), (g 20, .inl (cI, 4, .inl (l4 (nI l0) (nI l1) (nI dm) (nI l3))))]) hP hD rfl (fun hP hD => ?_)
  exact sk_iret hx hb hr (nbool b_4 (by omega)) hlocks hK hP hD hS (⟨b_4, inD hb1_6 (by rw [lgp dm (by omega)]; omega), rfl, rfl⟩) (Nat.le_of_ble_eq_true rfl) (Nat.le_of_ble_eq_true rfl) dX12_isDay_13
