theorem ways_gt {wy : Int64} {K : Nat} (h : wy = nL K) (hc : ¬ lg_cmp wy 0 ≤ 0) : 0 < K := by
  rcases Nat.eq_zero_or_pos K with q | q
  · subst q
    exact absurd ((lg_cmp_le wy 0).mpr (by rw [h]; exact Int64.le_refl _)) hc
  · exact q
theorem ways_lt {wy : Int64} {K k : Nat} (h : wy = nL K) (hK : K ≤ 1000000000) (hk : k < 2147483648) (hc : lg_cmp (Int32.toInt64 (nI k)) wy < 0) : k < K := by
  rw [h, nL_i2l hk, nL_lt (by omega) (by omega)] at hc
  exact hc
theorem ways_lt' {wy : Int64} {K k : Nat} (h : wy = nL K) (hK : K ≤ 1000000000) (hk : k < 2147483648) (hc : ¬ 0 ≤ lg_cmp (Int32.toInt64 (nI k)) wy) : k < K := by
  rw [lg_cmp_ge] at hc
  exact ways_lt h hK hk ((lg_cmp_lt _ _).mpr (Int64.not_le.mp hc))
theorem wk_st {C : Nat → Nat → Nat → Bool} {a0 n k : Nat} (hk : k < 2147483648) (h : k < wys C a0 (n - 1)) : wk C n 0 a0 0 (Int32.toInt64 (nI k)) := by
  rw [nL_i2l hk]; exact wk_start h
theorem wk_z {C : Nat → Nat → Nat → Bool} {a0 n : Nat} (h : 0 < wys C a0 (n - 1)) : wk C n 0 a0 0 0 := wk_start (k := 0) h
theorem nar_b (b : Nat) (h : b ≤ 1) : vp_nar .boolean (nI b) = nI b := by
  match b, h with
  | 0, _ => rfl
  | 1, _ => rfl
theorem nxor512 (a b : Nat) (ha : a < 512) (hb : b < 512) : ∃ k : Nat, k < 512 ∧ nI a ^^^ nI b = nI k := by
  refine ⟨a ^^^ b, Nat.xor_lt_two_pow (n := 9) ha hb, ?_⟩
  apply Int32.toBitVec_inj.mp
  show BitVec.ofNat 32 a ^^^ BitVec.ofNat 32 b = BitVec.ofNat 32 (a ^^^ b)
  apply BitVec.eq_of_toNat_eq
  have h9 : a ^^^ b < 512 := Nat.xor_lt_two_pow (n := 9) ha hb
  rw [BitVec.toNat_xor, BitVec.toNat_ofNat, BitVec.toNat_ofNat, BitVec.toNat_ofNat, Nat.mod_eq_of_lt (by omega), Nat.mod_eq_of_lt (by omega), Nat.mod_eq_of_lt (by omega)]
theorem nshl1' (d : Nat) (h : d < 9) : ∃ P : Nat, P < 512 ∧ (1 : Int32) <<< (nI d &&& 31) = nI P := by
  match d, h with
  | 0, _ => exact ⟨1, by decide, by decide⟩
  | 1, _ => exact ⟨2, by decide, by decide⟩
  | 2, _ => exact ⟨4, by decide, by decide⟩
  | 3, _ => exact ⟨8, by decide, by decide⟩
  | 4, _ => exact ⟨16, by decide, by decide⟩
  | 5, _ => exact ⟨32, by decide, by decide⟩
  | 6, _ => exact ⟨64, by decide, by decide⟩
  | 7, _ => exact ⟨128, by decide, by decide⟩
  | 8, _ => exact ⟨256, by decide, by decide⟩
theorem dg_X12_laysAll_0_0 : bqL cX12_laysAll 0 [(0, [42]), (1, [3]), (2, [182, 1, 129]), (5, [42]), (6, [182, 1, 132]), (9, [177])] = true := by decide +kernel
theorem dX12_laysAll_0 : decode cX12_laysAll 0 = .ok (.aload_n 0, 1) := q_aload_n0 (bat_get dg_X12_laysAll_0_0 0 rfl rfl)
theorem dX12_laysAll_1 : decode cX12_laysAll 1 = .ok (.iconst 0, 1) := q_iconst0 (bat_get dg_X12_laysAll_0_0 1 rfl rfl)
theorem dX12_laysAll_2 : decode cX12_laysAll 2 = .ok (.invokevirtual 385, 3) := q_invokevirtual (bat_get dg_X12_laysAll_0_0 2 rfl rfl) rfl
theorem dX12_laysAll_5 : decode cX12_laysAll 5 = .ok (.aload_n 0, 1) := q_aload_n0 (bat_get dg_X12_laysAll_0_0 3 rfl rfl)
theorem dX12_laysAll_6 : decode cX12_laysAll 6 = .ok (.invokevirtual 388, 3) := q_invokevirtual (bat_get dg_X12_laysAll_0_0 4 rfl rfl) rfl
theorem dX12_laysAll_9 : decode cX12_laysAll 9 = .ok (.return_, 1) := q_return_ (bat_get dg_X12_laysAll_0_0 5 rfl rfl)
theorem w_7_193 : (Cond.methodLink RX12 385 yX12_laysDays) ∈ wsL_law := sk_mem (ck_7 _ (List.mem_of_getElem? (i := 193) rfl)) rfl
theorem w_7_195 : (Cond.instanceMethod yX12_laysDays) ∈ wsL_law := sk_mem (ck_7 _ (List.mem_of_getElem? (i := 195) rfl)) rfl
theorem w_0_83 : (Cond.selects RX12 yX12_laysDays yX12_laysDays) ∈ wsL_law := sk_mem (ck_0 _ (List.mem_of_getElem? (i := 83) rfl)) rfl
theorem w_7_197 : (Cond.methodLink RX12 388 yX12_laysWays) ∈ wsL_law := sk_mem (ck_7 _ (List.mem_of_getElem? (i := 197) rfl)) rfl
theorem w_7_199 : (Cond.instanceMethod yX12_laysWays) ∈ wsL_law := sk_mem (ck_7 _ (List.mem_of_getElem? (i := 199) rfl)) rfl
theorem w_0_84 : (Cond.selects RX12 yX12_laysWays yX12_laysWays) ∈ wsL_law := sk_mem (ck_0 _ (List.mem_of_getElem? (i := 84) rfl)) rfl
theorem w_7_192 : (Cond.code yX12_laysAll cX12_laysAll 1 none) ∈ wsL_law := sk_mem (ck_7 _ (List.mem_of_getElem? (i := 192) rfl)) rfl
def om_13_1ffc : List Bool := true :: true :: true :: true :: true :: true :: true :: true :: true :: true :: true :: false :: false :: []
def om_13_112f : List Bool := true :: false :: false :: false :: true :: false :: false :: true :: false :: true :: true :: true :: true :: []
theorem hd_X12_laysDays_1 : skD yX12_laysDays 1 := by decide +kernel
theorem hd_X12_laysWays_0 : skD yX12_laysWays 0 := by decide +kernel
set_option maxHeartbeats 4000000 in
set_option maxRecDepth 100000 in
theorem c_m_laysAll (l : Launch) (D : va_G) (cI cJ cC cZ cS : ClassId) (mm : Nat) (g : Nat → Nat) (ta : Nat) (pa : Nat) (pe : Nat) (pd : Int32) (pb : Nat) (pp : Int32) (pf : Int32) (pg : Int32) (pn : Int32) (rt : Int32) (rn : Int32) (cd : Nat) (sn : Int32) (il : Nat) (tk : Int32) (am : Int32) (at_ : Int32) (aa : Int32) (mt_ : Int32) (wt : Int32) (wy : Int64) (it_ : Nat) (rm : Nat) (ud : Nat) (nu : Nat) (sd : Int64) (qn : Nat) (qw : Nat) (qo : Int32) (qb : Nat) (qp : Nat) (qa : Int64) (qi : Nat) (oc : Nat) (u0 : Int32) (u1 : Int32) (u2 : Int32) (u3 : Int32) (u4 : Int32) (u5 : Int32) (v0 : Int32) (v1 : Int32) (v2 : Int32) (v3 : Int32) (v4 : Int32) (v5 : Int32) (cs : Nat → Nat) (nw : Nat → Int32) (pt : Nat → Nat) (ql : Nat → Int64) (l0 : Nat) (l1 : Nat) (dm : Nat) (l3 : Nat) (ws_ : Nat → Int32) (yw : Nat → Int32) (yo : Nat → Int32) (be : Nat → Int64) (bf : Nat → Int64) (hdm : dm ≤ 9) (hdm1 : 1 ≤ dm) (hp0 : progOk cs u3 v3) (hp1 : progOk cs u4 v4) (hp2 : progOk cs u5 v5) (hcs : ∀ j, cs j ≤ 20000) (hnw : nowOk nw) (hpt : ∀ j, pt j ≤ 9) : skM l yX12_laysAll cX12_laysAll 1 none 5 122 0 0 D (skT cI cJ cC cZ cS) [.ref mm] [(mm, .inr (12, mo g (nI ta) (nI pa) (nI pe) pd (nI pb) pp pf pg pn rt rn (nI cd) sn (nI il) tk am at_ aa mt_ 0 (-1) wt wy (nI it_) (nI rm) (nI ud) (nI nu) sd (nI qn) (nI qw) qo (nI qb) (nI qp) qa (nI qi) (nI oc))), (g 24, .inl (cI, 6, .inl (l6 u0 u1 u2 u3 u4 u5))), (g 25, .inl (cI, 6, .inl (l6 v0 v1 v2 v3 v4 v5))), (g 26, .inl (cI, 3200, .inl (fun j => nI (cs j)))), (g 31, .inl (cI, 120, .inl nw)), (g 46, .inl (cI, 9, .inl (fun j => nI (pt j)))), (g 86, .inl (cJ, 1700, .inr (.inl ql))), (g 20, .inl (cI, 4, .inl (l4 (nI l0) (nI l1) (nI dm) (nI l3)))), (g 38, .inl (cI, 90, .inl ws_)), (g 36, .inl (cZ, 900, .inl yw)), (g 37, .inl (cZ, 900, .inl yo)), (g 43, .inl (cJ, 90, .inr (.inl be))), (g 44, .inl (cJ, 90, .inr (.inl bf)))] (skV D (skT cI cJ cC cZ cS) (fun (u : va_W) => ∃ (tk2 : Int32), ∃ (qp2 : Nat), ∃ (am2 : Int32), ∃ (at_2 : Int32), ∃ (aa2 : Int32), ∃ (wy2 : Int64), ∃ (ql2 : Nat → Int64), ∃ (ws_2 : Nat → Int32), ∃ (yw2 : Nat → Int32), ∃ (yo2 : Nat → Int32), ∃ (be2 : Nat → Int64), ∃ (bf2 : Nat → Int64), beOk (cfN nw yw2 yo2 mt_) dm 0 be2 ∧ wy2 = nL (wys (cfN nw yw2 yo2 mt_) (a0N nw) (dm - 1)) ∧ u = [(mm, .inr (12, mo g (nI ta) (nI pa) (nI pe) pd (nI pb) pp pf pg pn rt rn (nI cd) sn (nI il) tk2 am2 at_2 aa2 mt_ 0 (-1) wt wy2 (nI it_) (nI rm) (nI ud) (nI nu) sd (nI qn) (nI qw) qo (nI qb) (nI qp2) qa (nI qi) (nI oc))), (g 24, .inl (cI, 6, .inl (l6 u0 u1 u2 u3 u4 u5))), (g 25, .inl (cI, 6, .inl (l6 v0 v1 v2 v3 v4 v5))), (g 26, .inl (cI, 3200, .inl (fun j => nI (cs j)))), (g 31, .inl (cI, 120, .inl nw)), (g 46, .inl (cI, 9, .inl (fun j => nI (pt j)))), (g 86, .inl (cJ, 1700, .inr (.inl ql2))), (g 20, .inl (cI, 4, .inl (l4 (nI l0) (nI l1) (nI dm) (nI l3)))), (g 38, .inl (cI, 90, .inl ws_2)), (g 36, .inl (cZ, 900, .inl yw2)), (g 37, .inl (cZ, 900, .inl yo2)), (g 43, .inl (cJ, 90, .inr (.inl be2))), (g 44, .inl (cJ, 90, .inr (.inl bf2)))])) := by
  refine skM_of pf_X12_laysAll (Nat.le_of_ble_eq_true rfl) ?_
  intro p e s m below meth c A ls E hP hD hl
  refine skE_el E (fun hx hb hr hml hlocks hin hown hts hK hA => ?_)
  have hown : s.vm.findClass RX12 = some m.cls := hown
  have hS : va_S A s.heap s.heap [] := va_S.rf
  have hl : lv_has ls 1 [(0, .ref mm)] := hl
  refine lv_aload_n hx hb dX12_laysAll_0 rfl (lv_at hl 0 rfl) ?_
  refine lv_iconst (v := 0) hx hb dX12_laysAll_1 (by decide) ?_
  refine sk_Vv (q0 := 0) (n := 1) (rest := []) (wr := fmR om_13_1ffc _) ⟨hx, hb, hml, hown, hts⟩ hl.1 (c_m_laysDays l D cI cJ cC cZ cS mm g ta pa pe pd pb pp pf pg pn rt rn cd sn il tk am at_ aa mt_ 0 (-1) wt wy it_ rm ud nu sd qn qw qo qb qp qa qi oc 0 u0 u1 u2 u3 u4 u5 v0 v1 v2 v3 v4 v5 cs nw pt ql l0 l1 dm l3 ws_ yw yo (by omega) (by omega) (by omega) (by omega) hcs hnw hpt) w_7_193 w_7_195 w_0_83 w_1_14 w_7_196 hd_X12_laysDays_1 ⟨⟨(Nat.le_of_ble_eq_true rfl), (Nat.le_of_ble_eq_true rfl)⟩, (Nat.le_of_ble_eq_true rfl), (Nat.le_of_ble_eq_true rfl)⟩ hK hP hD hS hA (fmT om_13_1ffc 0) (fmF om_13_1ffc 0) (fm_C1 rfl rfl) (fm_R rfl rfl) (fm_nT om_13_1ffc 0) (fm_nF om_13_1ffc 0) (fm_di om_13_1ffc 0) rfl rfl rfl rfl (Nat.le_of_ble_eq_true rfl) dX12_laysAll_2 (fun u H locs hw hP hD hS => ?_)
  refine exE hw (fun tk2_1 hw1 => exE hw1 (fun qp2_2 hw2 => exE hw2 (fun am2_3 hw3 => exE hw3 (fun at_2_4 hw4 => exE hw4 (fun aa2_5 hw5 => exE hw5 (fun ql2_6 hw6 => exE hw6 (fun ws_2_7 hw7 => exE hw7 (fun yw2_8 hw8 => exE hw8 (fun yo2_9 eu_10 => ?_)))))))))
  clear hw hw1 hw2 hw3 hw4 hw5 hw6 hw7 hw8
  refine o_mgE (ws' := [(mm, .inr (12, mo g (nI ta) (nI pa) (nI pe) pd (nI pb) pp pf pg pn rt rn (nI cd) sn (nI il) tk2_1 am2_3 at_2_4 aa2_5 mt_ 0 (-1) wt wy (nI it_) (nI rm) (nI ud) (nI nu) sd (nI qn) (nI qw) qo (nI qb) (nI qp2_2) qa (nI qi) (nI oc))), (g 24, .inl (cI, 6, .inl (l6 u0 u1 u2 u3 u4 u5))), (g 25, .inl (cI, 6, .inl (l6 v0 v1 v2 v3 v4 v5))), (g 26, .inl (cI, 3200, .inl (fun j => nI (cs j)))), (g 31, .inl (cI, 120, .inl nw)), (g 46, .inl (cI, 9, .inl (fun j => nI (pt j)))), (g 86, .inl (cJ, 1700, .inr (.inl ql2_6))), (g 20, .inl (cI, 4, .inl (l4 (nI l0) (nI l1) (nI dm) (nI l3)))), (g 38, .inl (cI, 90, .inl ws_2_7)), (g 36, .inl (cZ, 900, .inl yw2_8)), (g 37, .inl (cZ, 900, .inl yo2_9)), (g 43, .inl (cJ, 90, .inr (.inl be))), (g 44, .inl (cJ, 90, .inr (.inl bf)))]) eu_10 hP hD rfl (fun hP hD => ?_)
  refine lv_aload_n hx hb dX12_laysAll_5 rfl (lv_at hl 0 rfl) ?_
  refine sk_Vv (q0 := 0) (n := 0) (rest := []) (wr := fmR om_13_112f _) ⟨hx, hb, hml, hown, hts⟩ hl.1 (c_m_laysWays0 l D cI cJ cC cZ cS mm g ta pa pe pd pb pp pf pg pn rt rn cd sn il tk2_1 am2_3 at_2_4 aa2_5 mt_ wt wy it_ rm ud nu sd qn qw qo qb qp2_2 qa qi oc l0 l1 dm l3 nw yo2_9 yw2_8 be bf (by omega) (by omega) hnw) w_7_197 w_7_199 w_0_84 w_1_14 w_7_200 hd_X12_laysWays_0 ⟨⟨(Nat.le_of_ble_eq_true rfl), (Nat.le_of_ble_eq_true rfl)⟩, (Nat.le_of_ble_eq_true rfl), (Nat.le_of_ble_eq_true rfl)⟩ hK hP hD hS hA [0, 7, 4, 10, 9, 11, 12] (fmF om_13_112f 0) rfl (fm_R rfl rfl) (by decide +kernel) (fm_nF om_13_112f 0) (by decide +kernel) rfl rfl rfl rfl (Nat.le_of_ble_eq_true rfl) dX12_laysAll_6 (fun u H locs hw hP hD hS => ?_)
  refine exE hw (fun wy2_11 hw1 => exE hw1 (fun be2_12 hw2 => exE hw2 (fun bf2_13 hw3 => anE hw3 (fun hbe_14 hw4 => anE hw4 (fun hwy_15 eu_16 => ?_)))))
  clear hw hw1 hw2 hw3 hw4
  refine o_mgqE (ux := [(mm, .inr (12, mo g (nI ta) (nI pa) (nI pe) pd (nI pb) pp pf pg pn rt rn (nI cd) sn (nI il) tk2_1 am2_3 at_2_4 aa2_5 mt_ 0 (-1) wt wy2_11 (nI it_) (nI rm) (nI ud) (nI nu) sd (nI qn) (nI qw) qo (nI qb) (nI qp2_2) qa (nI qi) (nI oc))), (g 31, .inl (cI, 120, .inl nw)), (g 20, .inl (cI, 4, .inl (l4 (nI l0) (nI l1) (nI dm) (nI l3)))), (g 36, .inl (cZ, 900, .inl yw2_8)), (g 37, .inl (cZ, 900, .inl yo2_9)), (g 43, .inl (cJ, 90, .inr (.inl be2_12))), (g 44, .inl (cJ, 90, .inr (.inl bf2_13)))]) (ws' := [(mm, .inr (12, mo g (nI ta) (nI pa) (nI pe) pd (nI pb) pp pf pg pn rt rn (nI cd) sn (nI il) tk2_1 am2_3 at_2_4 aa2_5 mt_ 0 (-1) wt wy2_11 (nI it_) (nI rm) (nI ud) (nI nu) sd (nI qn) (nI qw) qo (nI qb) (nI qp2_2) qa (nI qi) (nI oc))), (g 24, .inl (cI, 6, .inl (l6 u0 u1 u2 u3 u4 u5))), (g 25, .inl (cI, 6, .inl (l6 v0 v1 v2 v3 v4 v5))), (g 26, .inl (cI, 3200, .inl (fun j => nI (cs j)))), (g 31, .inl (cI, 120, .inl nw)), (g 46, .inl (cI, 9, .inl (fun j => nI (pt j)))), (g 86, .inl (cJ, 1700, .inr (.inl ql2_6))), (g 20, .inl (cI, 4, .inl (l4 (nI l0) (nI l1) (nI dm) (nI l3)))), (g 38, .inl (cI, 90, .inl ws_2_7)), (g 36, .inl (cZ, 900, .inl yw2_8)), (g 37, .inl (cZ, 900, .inl yo2_9)), (g 43, .inl (cJ, 90, .inr (.inl be2_12))), (g 44, .inl (cJ, 90, .inr (.inl bf2_13)))]) eu_16 [0, 2, 1, 4, 3, 5, 6] (by decide +kernel) rfl hP hD rfl (fun hP hD => ?_)
  exact sk_vret hx hb hr hlocks hK hP hD hS (⟨tk2_1, qp2_2, am2_3, at_2_4, aa2_5, wy2_11, ql2_6, ws_2_7, yw2_8, yo2_9, be2_12, bf2_13, hbe_14, hwy_15, rfl⟩) (Nat.le_of_ble_eq_true rfl) (Nat.le_of_ble_eq_true rfl) dX12_laysAll_9
theorem dg_X12_doesAgree_0_0 : bqL cX12_doesAgree 0 [(0, [42]), (1, [27]), (2, [181, 1, 106]), (5, [42]), (6, [182, 1, 132]), (9, [42]), (10, [3]), (11, [181, 1, 106]), (14, [42]), (15, [180, 1, 126]), (18, [9]), (19, [148]), (20, [158, 0, 7]), (27, [3]), (28, [172]), (23, [4]), (24, [167, 0, 4])] = true := by decide +kernel
theorem dX12_doesAgree_0 : decode cX12_doesAgree 0 = .ok (.aload_n 0, 1) := q_aload_n0 (bat_get dg_X12_doesAgree_0_0 0 rfl rfl)
theorem dX12_doesAgree_1 : decode cX12_doesAgree 1 = .ok (.iload_n 1, 1) := q_iload_n1 (bat_get dg_X12_doesAgree_0_0 1 rfl rfl)
theorem dX12_doesAgree_2 : decode cX12_doesAgree 2 = .ok (.putfield 362, 3) := q_putfield (bat_get dg_X12_doesAgree_0_0 2 rfl rfl) rfl
theorem dX12_doesAgree_5 : decode cX12_doesAgree 5 = .ok (.aload_n 0, 1) := q_aload_n0 (bat_get dg_X12_doesAgree_0_0 3 rfl rfl)
theorem dX12_doesAgree_6 : decode cX12_doesAgree 6 = .ok (.invokevirtual 388, 3) := q_invokevirtual (bat_get dg_X12_doesAgree_0_0 4 rfl rfl) rfl
theorem dX12_doesAgree_9 : decode cX12_doesAgree 9 = .ok (.aload_n 0, 1) := q_aload_n0 (bat_get dg_X12_doesAgree_0_0 5 rfl rfl)
theorem dX12_doesAgree_10 : decode cX12_doesAgree 10 = .ok (.iconst 0, 1) := q_iconst0 (bat_get dg_X12_doesAgree_0_0 6 rfl rfl)
theorem dX12_doesAgree_11 : decode cX12_doesAgree 11 = .ok (.putfield 362, 3) := q_putfield (bat_get dg_X12_doesAgree_0_0 7 rfl rfl) rfl
theorem dX12_doesAgree_14 : decode cX12_doesAgree 14 = .ok (.aload_n 0, 1) := q_aload_n0 (bat_get dg_X12_doesAgree_0_0 8 rfl rfl)
theorem dX12_doesAgree_15 : decode cX12_doesAgree 15 = .ok (.getfield 382, 3) := q_getfield (bat_get dg_X12_doesAgree_0_0 9 rfl rfl) rfl
theorem dX12_doesAgree_18 : decode cX12_doesAgree 18 = .ok (.lconst 0, 1) := q_lconst0 (bat_get dg_X12_doesAgree_0_0 10 rfl rfl)
theorem dX12_doesAgree_19 : decode cX12_doesAgree 19 = .ok (.lcmp, 1) := q_lcmp (bat_get dg_X12_doesAgree_0_0 11 rfl rfl)
theorem dX12_doesAgree_20 : decode cX12_doesAgree 20 = .ok (.ifCond .le 7, 3) := q_ifCond_le (bat_get dg_X12_doesAgree_0_0 12 rfl rfl) rfl
theorem dX12_doesAgree_27 : decode cX12_doesAgree 27 = .ok (.iconst 0, 1) := q_iconst0 (bat_get dg_X12_doesAgree_0_0 13 rfl rfl)
theorem dX12_doesAgree_28 : decode cX12_doesAgree 28 = .ok (.ireturn, 1) := q_ireturn (bat_get dg_X12_doesAgree_0_0 14 rfl rfl)
theorem dX12_doesAgree_23 : decode cX12_doesAgree 23 = .ok (.iconst 1, 1) := q_iconst1 (bat_get dg_X12_doesAgree_0_0 15 rfl rfl)
theorem dX12_doesAgree_24 : decode cX12_doesAgree 24 = .ok (.goto 4, 3) := q_goto (bat_get dg_X12_doesAgree_0_0 16 rfl rfl) rfl
theorem w_7_232 : (Cond.code yX12_doesAgree cX12_doesAgree 2 (some .boolean)) ∈ wsL_law := sk_mem (ck_7 _ (List.mem_of_getElem? (i := 232) rfl)) rfl
set_option maxHeartbeats 4000000 in
set_option maxRecDepth 100000 in
theorem c_m_doesAgree (l : Launch) (D : va_G) (cI cJ cC cZ cS : ClassId) (mm : Nat) (g : Nat → Nat) (ta : Nat) (pa : Nat) (pe : Nat) (pd : Int32) (pb : Nat) (pp : Int32) (pf : Int32) (pg : Int32) (pn : Int32) (rt : Int32) (rn : Int32) (cd : Nat) (sn : Int32) (il : Nat) (tk : Int32) (am : Int32) (at_ : Int32) (aa : Int32) (mt_ : Int32) (wt : Int32) (wy : Int64) (it_ : Nat) (rm : Nat) (ud : Nat) (nu : Nat) (sd : Int64) (qn : Nat) (qw : Nat) (qo : Int32) (qb : Nat) (qp : Nat) (qa : Int64) (qi : Nat) (oc : Nat) (o : Int32) (l0 : Nat) (l1 : Nat) (dm : Nat) (l3 : Nat) (nw : Nat → Int32) (yo : Nat → Int32) (yw : Nat → Int32) (be : Nat → Int64) (bf : Nat → Int64) (hdm : dm ≤ 9) (hdm1 : 1 ≤ dm) (hnw : nowOk nw) : skM l yX12_doesAgree cX12_doesAgree 2 (some .boolean) 4 92 0 0 D (skT cI cJ cC cZ cS) [.ref mm, .int o] [(mm, .inr (12, mo g (nI ta) (nI pa) (nI pe) pd (nI pb) pp pf pg pn rt rn (nI cd) sn (nI il) tk am at_ aa mt_ 0 (-1) wt wy (nI it_) (nI rm) (nI ud) (nI nu) sd (nI qn) (nI qw) qo (nI qb) (nI qp) qa (nI qi) (nI oc))), (g 20, .inl (cI, 4, .inl (l4 (nI l0) (nI l1) (nI dm) (nI l3)))), (g 31, .inl (cI, 120, .inl nw)), (g 37, .inl (cZ, 900, .inl yo)), (g 36, .inl (cZ, 900, .inl yw)), (g 43, .inl (cJ, 90, .inr (.inl be))), (g 44, .inl (cJ, 90, .inr (.inl bf)))] (skI D (skT cI cJ cC cZ cS) (fun (r : Int32) (u : va_W) => ∃ (b : Nat), ∃ (wy2 : Int64), ∃ (be2 : Nat → Int64), ∃ (bf2 : Nat → Int64), beOk (cfN nw yw yo o) dm 0 be2 ∧ wy2 = nL (wys (cfN nw yw yo o) (a0N nw) (dm - 1)) ∧ (b = 0 ∨ (b = 1 ∧ 0 < wys (cfN nw yw yo o) (a0N nw) (dm - 1))) ∧ r = nI b ∧ u = [(mm, .inr (12, mo g (nI ta) (nI pa) (nI pe) pd (nI pb) pp pf pg pn rt rn (nI cd) sn (nI il) tk am at_ aa 0 0 (-1) wt wy2 (nI it_) (nI rm) (nI ud) (nI nu) sd (nI qn) (nI qw) qo (nI qb) (nI qp) qa (nI qi) (nI oc))), (g 20, .inl (cI, 4, .inl (l4 (nI l0) (nI l1) (nI dm) (nI l3)))), (g 31, .inl (cI, 120, .inl nw)), (g 37, .inl (cZ, 900, .inl yo)), (g 36, .inl (cZ, 900, .inl yw)), (g 43, .inl (cJ, 90, .inr (.inl be2))), (g 44, .inl (cJ, 90, .inr (.inl bf2)))])) := by
  refine skM_of pf_X12_doesAgree (Nat.le_of_ble_eq_true rfl) ?_
  intro p e s m below meth c A ls E hP hD hl
  refine skE_el E (fun hx hb hr hml hlocks hin hown hts hK hA => ?_)
  have hown : s.vm.findClass RX12 = some m.cls := hown
  have hS : va_S A s.heap s.heap [] := va_S.rf
  have hl : lv_has ls 2 [(0, .ref mm), (1, .int o)] := hl
  refine lv_aload_n hx hb dX12_doesAgree_0 rfl (lv_at hl 0 rfl) ?_
  refine lv_iload_n hx hb dX12_doesAgree_1 rfl (lv_at hl 1 rfl) ?_
  refine sk_put (ws' := [(mm, .inr (12, mo g (nI ta) (nI pa) (nI pe) pd (nI pb) pp pf pg pn rt rn (nI cd) sn (nI il) tk am at_ aa o 0 (-1) wt wy (nI it_) (nI rm) (nI ud) (nI nu) sd (nI qn) (nI qw) qo (nI qb) (nI qp) qa (nI qi) (nI oc))), (g 20, .inl (cI, 4, .inl (l4 (nI l0) (nI l1) (nI dm) (nI l3)))), (g 31, .inl (cI, 120, .inl nw)), (g 37, .inl (cZ, 900, .inl yo)), (g 36, .inl (cZ, 900, .inl yw)), (g 43, .inl (cJ, 90, .inr (.inl be))), (g 44, .inl (cJ, 90, .inr (.inl bf)))]) (C := RX12) (T := TX12) (N := 92) (v := .int o) hx hb hts inlX12 tyX12 tyX12_ok nmX12 hown hK hP hD hS 0 rfl rfl 39 (by decide) w_5_194 rfl rfl rfl (Nat.le_of_ble_eq_true rfl) rfl dX12_doesAgree_2 (fun H locs hP hD hS => ?_)
  refine lv_aload_n hx hb dX12_doesAgree_5 rfl (lv_at hl 0 rfl) ?_
  refine sk_Vv (q0 := 0) (n := 0) (rest := []) (wr := fmR om_7_7f _) ⟨hx, hb, hml, hown, hts⟩ hl.1 (c_m_laysWays0 l D cI cJ cC cZ cS mm g ta pa pe pd pb pp pf pg pn rt rn cd sn il tk am at_ aa o wt wy it_ rm ud nu sd qn qw qo qb qp qa qi oc l0 l1 dm l3 nw yo yw be bf (by omega) (by omega) hnw) w_7_197 w_7_199 w_0_84 w_1_14 w_7_200 hd_X12_laysWays_0 ⟨⟨(Nat.le_of_ble_eq_true rfl), (Nat.le_of_ble_eq_true rfl)⟩, (Nat.le_of_ble_eq_true rfl), (Nat.le_of_ble_eq_true rfl)⟩ hK hP hD hS hA (fmT om_7_7f 0) (fmF om_7_7f 0) (fm_C1 rfl rfl) (fm_R rfl rfl) (fm_nT om_7_7f 0) (fm_nF om_7_7f 0) (fm_di om_7_7f 0) rfl rfl rfl rfl (Nat.le_of_ble_eq_true rfl) dX12_doesAgree_6 (fun u H locs hw hP hD hS => ?_)
  refine exE hw (fun wy2_1 hw1 => exE hw1 (fun be2_2 hw2 => exE hw2 (fun bf2_3 hw3 => anE hw3 (fun hbe_4 hw4 => anE hw4 (fun hwy_5 eu_6 => ?_)))))
  clear hw hw1 hw2 hw3 hw4
  refine o_mgE (ws' := [(mm, .inr (12, mo g (nI ta) (nI pa) (nI pe) pd (nI pb) pp pf pg pn rt rn (nI cd) sn (nI il) tk am at_ aa o 0 (-1) wt wy2_1 (nI it_) (nI rm) (nI ud) (nI nu) sd (nI qn) (nI qw) qo (nI qb) (nI qp) qa (nI qi) (nI oc))), (g 20, .inl (cI, 4, .inl (l4 (nI l0) (nI l1) (nI dm) (nI l3)))), (g 31, .inl (cI, 120, .inl nw)), (g 37, .inl (cZ, 900, .inl yo)), (g 36, .inl (cZ, 900, .inl yw)), (g 43, .inl (cJ, 90, .inr (.inl be2_2))), (g 44, .inl (cJ, 90, .inr (.inl bf2_3)))]) eu_6 hP hD rfl (fun hP hD => ?_)
  refine lv_aload_n hx hb dX12_doesAgree_9 rfl (lv_at hl 0 rfl) ?_
  refine lv_iconst (v := 0) hx hb dX12_doesAgree_10 (by decide) ?_
  refine sk_put (ws' := [(mm, .inr (12, mo g (nI ta) (nI pa) (nI pe) pd (nI pb) pp pf pg pn rt rn (nI cd) sn (nI il) tk am at_ aa 0 0 (-1) wt wy2_1 (nI it_) (nI rm) (nI ud) (nI nu) sd (nI qn) (nI qw) qo (nI qb) (nI qp) qa (nI qi) (nI oc))), (g 20, .inl (cI, 4, .inl (l4 (nI l0) (nI l1) (nI dm) (nI l3)))), (g 31, .inl (cI, 120, .inl nw)), (g 37, .inl (cZ, 900, .inl yo)), (g 36, .inl (cZ, 900, .inl yw)), (g 43, .inl (cJ, 90, .inr (.inl be2_2))), (g 44, .inl (cJ, 90, .inr (.inl bf2_3)))]) (C := RX12) (T := TX12) (N := 92) (v := .int 0) hx hb hts inlX12 tyX12 tyX12_ok nmX12 hown hK hP hD hS 0 rfl rfl 39 (by decide) w_5_194 rfl rfl rfl (Nat.le_of_ble_eq_true rfl) rfl dX12_doesAgree_11 (fun H locs hP hD hS => ?_)
  refine lv_aload_n hx hb dX12_doesAgree_14 rfl (lv_at hl 0 rfl) ?_
  refine sk_get (v := .long wy2_1) (C := RX12) (T := TX12) (N := 92) hx hb hts inlX12 hown hK hP 0 rfl rfl 45 (by decide) w_5_200 rfl dX12_doesAgree_15 ?_
  refine lv_lconst (v := 0) hx hb dX12_doesAgree_18 (by decide) ?_
  refine W.lcmp hx hb dX12_doesAgree_19 ?_
  refine lv_if_le (tgt := 27) hx hb dX12_doesAgree_20 (by decide) (fun c_7 => ?_) (fun c_7 => ?_)
  · skip
    refine lv_iconst (v := 0) hx hb dX12_doesAgree_27 (by decide) ?_
    exact sk_iret hx hb hr rfl hlocks hK hP hD hS (⟨0, wy2_1, be2_2, bf2_3, hbe_4, hwy_5, Or.inl rfl, rfl, rfl⟩) (Nat.le_of_ble_eq_true rfl) (Nat.le_of_ble_eq_true rfl) dX12_doesAgree_28
  · skip
    refine lv_iconst (v := 1) hx hb dX12_doesAgree_23 (by decide) ?_
    refine lv_goto (tgt := 28) hx hb dX12_doesAgree_24 (by decide) ?_
    exact sk_iret hx hb hr rfl hlocks hK hP hD hS (⟨1, wy2_1, be2_2, bf2_3, hbe_4, hwy_5, Or.inr ⟨rfl, ways_gt hwy_5 c_7⟩, rfl, rfl⟩) (Nat.le_of_ble_eq_true rfl) (Nat.le_of_ble_eq_true rfl) dX12_doesAgree_28

