/-- a copy, so far -/
def kcp (o i : Nat) (f g h : Nat → Int32) : Prop := (∀ k, k < i → h (o + k) = g k) ∧ ∀ j, j < o ∨ o + 120 ≤ j → h j = f j
theorem kcp_0 (o : Nat) (f g : Nat → Int32) : kcp o 0 f g f := ⟨fun k hk => absurd hk (Nat.not_lt_zero k), fun j _ => rfl⟩
theorem kcp_s {o i : Nat} {f g h h2 : Nat → Int32} {x : Int32} (a : kcp o i f g h) (e : h2 = upd h (o + i) x) (hx : x = g i) (hi : i < 120) : kcp o (i + 1) f g h2 := by
  refine ⟨fun k hk => ?_, fun j hj => by rw [kui_n e (by omega)]; exact a.2 j hj⟩
  by_cases q : k = i
  · subst q; rw [kui_s e, hx]
  · rw [kui_n e (by omega)]; exact a.1 k (by omega)
def kc0 (i : Nat) (f h : Nat → Int32) : Prop := ∀ k, k < i → h k = f k
theorem kc0_0 (f h : Nat → Int32) : kc0 0 f h := fun k hk => absurd hk (Nat.not_lt_zero k)
theorem kc0_s {i : Nat} {f h h2 : Nat → Int32} {x : Int32} (a : kc0 i f h) (e : h2 = upd h i x) (hx : x = f i) : kc0 (i + 1) f h2 := fun k hk => by
  by_cases q : k = i
  · subst q; rw [kui_s e, hx]
  · rw [kui_n e q]; exact a k (by omega)
/-! a number, by its long -/
theorem kin0 {d : Int32} {z : Int64} {n : Nat} (hz : z.toInt + 1 = (n : Int)) (hn : n ≤ 2147483648) : ((0 : Int64) ≤ d.toInt64 ∧ d.toInt64 ≤ z) ↔ kIn d n := by
  constructor
  · intro h
    obtain ⟨k, hk, e⟩ := inK n h.1 h.2 (by omega)
    exact ⟨k, hk, e⟩
  · intro ⟨k, hk, e⟩
    subst e
    rw [Int64.le_iff_toInt_le, Int64.le_iff_toInt_le, lgv k (by omega)]
    have e0 : (0 : Int64).toInt = 0 := rfl
    omega
theorem kw_l2i {n : Nat} (h : n ≤ 1000000000) : (Int64.ofNat n).toInt32 = nI n := kten_i (by rw [kofn_int (by omega)]) (by omega)
set_option maxHeartbeats 4000000 in
set_option maxRecDepth 100000 in
theorem c_nm_laysAll (l : Launch) (D : va_G) (cI cJ cC cZ cS : ClassId) (mm : Nat) (g : Nat → Nat) (ta : Nat) (pa : Nat) (pe : Nat) (pd : Int32) (pb : Nat) (pp : Int32) (pf : Int32) (pg : Int32) (pn : Int32) (rt : Int32) (rn : Int32) (cd : Nat) (sn : Int32) (il : Nat) (tk : Int32) (am : Int32) (at_ : Int32) (aa : Int32) (wt : Int32) (wy : Int64) (it_ : Nat) (rm : Nat) (ud : Nat) (nu : Nat) (sd : Int64) (qn : Nat) (qw : Nat) (qo : Int32) (qb : Nat) (qp : Nat) (qa : Int64) (qi : Nat) (oc : Nat) (u0 : Int32) (u1 : Int32) (u2 : Int32) (u3 : Int32) (u4 : Int32) (u5 : Int32) (v0 : Int32) (v1 : Int32) (v2 : Int32) (v3 : Int32) (v4 : Int32) (v5 : Int32) (cs : Nat → Nat) (nw : Nat → Int32) (pt : Nat → Nat) (ql : Nat → Int64) (l0 : Nat) (l1 : Nat) (dm : Nat) (l3 : Nat) (ws_ : Nat → Int32) (yw : Nat → Int32) (yo : Nat → Int32) (be : Nat → Int64) (bf : Nat → Int64) (wn : Nat) (mN : Nat) (Ba : Nat → Nat) (We : Nat → Nat) (U : Nat → Bool) (ke : Nat) (lg : KLg) (L : LkS) (hdm : dm ≤ 9) (hdm1 : 1 ≤ dm) (hLk : kcLk L) (hkl : (lK L).length ≤ 1600) (hmw0 : mwO L 0 u3 v3 cs) (hmw1 : mwO L 1 u4 v4 cs) (hB9 : ∀ j, Ba j ≤ 9) (hW9 : ∀ j, We j ≤ 9) (hwk : wn ≤ 999) (hcs : ∀ j, cs j ≤ 20000) (hnw : nwX wn mN Ba We U ke lg nw) (hpt : ∀ j, pt j ≤ 9) : skM l yX12_laysAll cX12_laysAll 1 none 5 122 0 0 D (skT cI cJ cC cZ cS) [.ref mm] [(mm, .inr (12, mo g (nI ta) (nI pa) (nI pe) pd (nI pb) pp pf pg pn rt rn (nI cd) sn (nI il) tk am at_ aa 0 0 (-1) wt wy (nI it_) (nI rm) (nI ud) (nI nu) sd (nI qn) (nI qw) qo (nI qb) (nI qp) qa (nI qi) (nI oc))), (g 24, .inl (cI, 6, .inl (l6 u0 u1 u2 u3 u4 u5))), (g 25, .inl (cI, 6, .inl (l6 v0 v1 v2 v3 v4 v5))), (g 26, .inl (cI, 3200, .inl (fun j => nI (cs j)))), (g 31, .inl (cI, 120, .inl nw)), (g 46, .inl (cI, 9, .inl (fun j => nI (pt j)))), (g 86, .inl (cJ, 1700, .inr (.inl ql))), (g 20, .inl (cI, 4, .inl (l4 (nI l0) (nI l1) (nI dm) (nI l3)))), (g 38, .inl (cI, 90, .inl ws_)), (g 36, .inl (cZ, 900, .inl yw)), (g 37, .inl (cZ, 900, .inl yo)), (g 43, .inl (cJ, 90, .inr (.inl be))), (g 44, .inl (cJ, 90, .inr (.inl bf)))] (skV D (skT cI cJ cC cZ cS) (fun (u : va_W) => ∃ (tk2 : Int32), ∃ (qp2 : Nat), ∃ (am2 : Int32), ∃ (at_2 : Int32), ∃ (aa2 : Int32), ∃ (wy2 : Int64), ∃ (ql2 : Nat → Int64), ∃ (ws_2 : Nat → Int32), ∃ (yw2 : Nat → Int32), ∃ (yo2 : Nat → Int32), ∃ (be2 : Nat → Int64), ∃ (bf2 : Nat → Int64), beOk (cfN nw yw2 yo2 0) dm 0 be2 ∧ (∀ d, d < dm → ∀ a m, a < 10 → m < 10 → (cfN nw yw2 yo2 0) d a m = (kcFo L wn Ba We U 0) d a m) ∧ wy2 = Int64.ofNat (kcC (kcFo L wn Ba We U 0) dm 0 mN) ∧ u = [(mm, .inr (12, mo g (nI ta) (nI pa) (nI pe) pd (nI pb) pp pf pg pn rt rn (nI cd) sn (nI il) tk2 am2 at_2 aa2 0 0 (-1) wt wy2 (nI it_) (nI rm) (nI ud) (nI nu) sd (nI qn) (nI qw) qo (nI qb) (nI qp2) qa (nI qi) (nI oc))), (g 24, .inl (cI, 6, .inl (l6 u0 u1 u2 u3 u4 u5))), (g 25, .inl (cI, 6, .inl (l6 v0 v1 v2 v3 v4 v5))), (g 26, .inl (cI, 3200, .inl (fun j => nI (cs j)))), (g 31, .inl (cI, 120, .inl nw)), (g 46, .inl (cI, 9, .inl (fun j => nI (pt j)))), (g 86, .inl (cJ, 1700, .inr (.inl ql2))), (g 20, .inl (cI, 4, .inl (l4 (nI l0) (nI l1) (nI dm) (nI l3)))), (g 38, .inl (cI, 90, .inl ws_2)), (g 36, .inl (cZ, 900, .inl yw2)), (g 37, .inl (cZ, 900, .inl yo2)), (g 43, .inl (cJ, 90, .inr (.inl be2))), (g 44, .inl (cJ, 90, .inr (.inl bf2)))])) := by
  refine skM_of pf_X12_laysAll (Nat.le_of_ble_eq_true rfl) ?_
  intro p e s m below meth c A ls E hP hD hl
  refine skE_el E (fun hx hb hr hml hlocks hin hown hts hK hA => ?_)
  have hown : s.vm.findClass RX12 = some m.cls := hown
  have hS : va_S A s.heap s.heap [] := va_S.rf
  have hl : lv_has ls 1 [(0, .ref mm)] := hl
  refine lv_aload_n hx hb dX12_laysAll_0 rfl (lv_at hl 0 rfl) ?_
  refine lv_iconst (v := 0) hx hb dX12_laysAll_1 (by decide) ?_
  refine sk_Vv (q0 := 0) (n := 1) (rest := []) (wr := fmR om_13_1ffc _) ⟨hx, hb, hml, hown, hts⟩ hl.1 (c_nm_laysDays l D cI cJ cC cZ cS mm g ta pa pe pd pb pp pf pg pn rt rn cd sn il tk am at_ aa 0 wt wy it_ rm ud nu sd qn qw qo qb qp qa qi oc 0 u0 u1 u2 u3 u4 u5 v0 v1 v2 v3 v4 v5 cs nw pt ql l0 l1 dm l3 ws_ yw yo L wn Ba We (by omega) (by decide) hLk hkl hmw0 hmw1 hB9 hW9 hwk (fun d hd => nwX_md hnw (by omega)) hcs (nwX_ok hnw) hpt) w_7_193 w_7_195 w_0_83 w_1_14 w_7_196 hd_X12_laysDays_1 ⟨⟨(Nat.le_of_ble_eq_true rfl), (Nat.le_of_ble_eq_true rfl)⟩, (Nat.le_of_ble_eq_true rfl), (Nat.le_of_ble_eq_true rfl)⟩ hK hP hD hS hA (fmT om_13_1ffc 0) (fmF om_13_1ffc 0) (fm_C1 rfl rfl) (fm_R rfl rfl) (fm_nT om_13_1ffc 0) (fm_nF om_13_1ffc 0) (fm_di om_13_1ffc 0) rfl rfl rfl rfl (Nat.le_of_ble_eq_true rfl) dX12_laysAll_2 (fun u H locs hw hP hD hS => ?_)
  refine exE hw (fun tk2_1 hw1 => exE hw1 (fun qp2_2 hw2 => exE hw2 (fun am2_3 hw3 => exE hw3 (fun at_2_4 hw4 => exE hw4 (fun aa2_5 hw5 => exE hw5 (fun ql2_6 hw6 => exE hw6 (fun ws_2_7 hw7 => exE hw7 (fun yw2_8 hw8 => exE hw8 (fun yo2_9 hw9 => anE hw9 (fun hld_10 eu_11 => ?_))))))))))
  clear hw hw1 hw2 hw3 hw4 hw5 hw6 hw7 hw8 hw9
  refine o_mgE (ws' := [(mm, .inr (12, mo g (nI ta) (nI pa) (nI pe) pd (nI pb) pp pf pg pn rt rn (nI cd) sn (nI il) tk2_1 am2_3 at_2_4 aa2_5 0 0 (-1) wt wy (nI it_) (nI rm) (nI ud) (nI nu) sd (nI qn) (nI qw) qo (nI qb) (nI qp2_2) qa (nI qi) (nI oc))), (g 24, .inl (cI, 6, .inl (l6 u0 u1 u2 u3 u4 u5))), (g 25, .inl (cI, 6, .inl (l6 v0 v1 v2 v3 v4 v5))), (g 26, .inl (cI, 3200, .inl (fun j => nI (cs j)))), (g 31, .inl (cI, 120, .inl nw)), (g 46, .inl (cI, 9, .inl (fun j => nI (pt j)))), (g 86, .inl (cJ, 1700, .inr (.inl ql2_6))), (g 20, .inl (cI, 4, .inl (l4 (nI l0) (nI l1) (nI dm) (nI l3)))), (g 38, .inl (cI, 90, .inl ws_2_7)), (g 36, .inl (cZ, 900, .inl yw2_8)), (g 37, .inl (cZ, 900, .inl yo2_9)), (g 43, .inl (cJ, 90, .inr (.inl be))), (g 44, .inl (cJ, 90, .inr (.inl bf)))]) eu_11 hP hD rfl (fun hP hD => ?_)
  refine lv_aload_n hx hb dX12_laysAll_5 rfl (lv_at hl 0 rfl) ?_
  refine sk_Vv (q0 := 0) (n := 0) (rest := []) (wr := fmR om_13_112f _) ⟨hx, hb, hml, hown, hts⟩ hl.1 (c_m_laysWays0 l D cI cJ cC cZ cS mm g ta pa pe pd pb pp pf pg pn rt rn cd sn il tk2_1 am2_3 at_2_4 aa2_5 0 wt wy it_ rm ud nu sd qn qw qo qb qp2_2 qa qi oc l0 l1 dm l3 nw yo2_9 yw2_8 be bf (by omega) (by omega) (nwX_ok hnw)) w_7_197 w_7_199 w_0_84 w_1_14 w_7_200 hd_X12_laysWays_0 ⟨⟨(Nat.le_of_ble_eq_true rfl), (Nat.le_of_ble_eq_true rfl)⟩, (Nat.le_of_ble_eq_true rfl), (Nat.le_of_ble_eq_true rfl)⟩ hK hP hD hS hA [0, 7, 4, 10, 9, 11, 12] (fmF om_13_112f 0) rfl (fm_R rfl rfl) (by decide +kernel) (fm_nF om_13_112f 0) (by decide +kernel) rfl rfl rfl rfl (Nat.le_of_ble_eq_true rfl) dX12_laysAll_6 (fun u H locs hw hP hD hS => ?_)
  refine exE hw (fun wy2_12 hw1 => exE hw1 (fun be2_13 hw2 => exE hw2 (fun bf2_14 hw3 => anE hw3 (fun hbe_15 hw4 => anE hw4 (fun hwy_16 eu_17 => ?_)))))
  clear hw hw1 hw2 hw3 hw4
  refine o_mgqE (ux := [(mm, .inr (12, mo g (nI ta) (nI pa) (nI pe) pd (nI pb) pp pf pg pn rt rn (nI cd) sn (nI il) tk2_1 am2_3 at_2_4 aa2_5 0 0 (-1) wt wy2_12 (nI it_) (nI rm) (nI ud) (nI nu) sd (nI qn) (nI qw) qo (nI qb) (nI qp2_2) qa (nI qi) (nI oc))), (g 31, .inl (cI, 120, .inl nw)), (g 20, .inl (cI, 4, .inl (l4 (nI l0) (nI l1) (nI dm) (nI l3)))), (g 36, .inl (cZ, 900, .inl yw2_8)), (g 37, .inl (cZ, 900, .inl yo2_9)), (g 43, .inl (cJ, 90, .inr (.inl be2_13))), (g 44, .inl (cJ, 90, .inr (.inl bf2_14)))]) (ws' := [(mm, .inr (12, mo g (nI ta) (nI pa) (nI pe) pd (nI pb) pp pf pg pn rt rn (nI cd) sn (nI il) tk2_1 am2_3 at_2_4 aa2_5 0 0 (-1) wt wy2_12 (nI it_) (nI rm) (nI ud) (nI nu) sd (nI qn) (nI qw) qo (nI qb) (nI qp2_2) qa (nI qi) (nI oc))), (g 24, .inl (cI, 6, .inl (l6 u0 u1 u2 u3 u4 u5))), (g 25, .inl (cI, 6, .inl (l6 v0 v1 v2 v3 v4 v5))), (g 26, .inl (cI, 3200, .inl (fun j => nI (cs j)))), (g 31, .inl (cI, 120, .inl nw)), (g 46, .inl (cI, 9, .inl (fun j => nI (pt j)))), (g 86, .inl (cJ, 1700, .inr (.inl ql2_6))), (g 20, .inl (cI, 4, .inl (l4 (nI l0) (nI l1) (nI dm) (nI l3)))), (g 38, .inl (cI, 90, .inl ws_2_7)), (g 36, .inl (cZ, 900, .inl yw2_8)), (g 37, .inl (cZ, 900, .inl yo2_9)), (g 43, .inl (cJ, 90, .inr (.inl be2_13))), (g 44, .inl (cJ, 90, .inr (.inl bf2_14)))]) eu_17 [0, 2, 1, 4, 3, 5, 6] (by decide +kernel) rfl hP hD rfl (fun hP hD => ?_)
  exact sk_vret hx hb hr hlocks hK hP hD hS (⟨tk2_1, qp2_2, am2_3, at_2_4, aa2_5, wy2_12, ql2_6, ws_2_7, yw2_8, yo2_9, be2_13, bf2_14, hbe_15, (cfX hnw hld_10 (by omega)), (hwy_16.trans (congrArg Int64.ofNat (wyX (cfX hnw hld_10 (by omega)) (by omega) (nwX_a0 hnw) hnw.1))), rfl⟩) (Nat.le_of_ble_eq_true rfl) (Nat.le_of_ble_eq_true rfl) dX12_laysAll_9
theorem dg_X12_isKept_0_0 : bqL cX12_isKept 0 [(0, [42]), (1, [180, 1, 135]), (4, [153, 0, 4]), (63, [16, 30]), (65, [6]), (66, [42]), (67, [180, 0, 63]), (70, [16, 29]), (72, [46]), (73, [104]), (74, [96]), (75, [6]), (76, [100]), (77, [60]), (78, [42]), (79, [180, 0, 63]), (82, [27]), (83, [42]), (84, [180, 0, 63]), (87, [3]), (88, [46]), (89, [79]), (90, [42]), (91, [180, 0, 63]), (94, [27]), (95, [4]), (96, [96]), (97, [42]), (98, [180, 1, 126]), (101, [136]), (102, [79]), (103, [42]), (104, [180, 0, 63]), (107, [27]), (108, [5]), (109, [96]), (110, [42]), (111, [180, 0, 89]), (114, [42]), (115, [182, 1, 59])] = true := by decide +kernel
theorem dX12_isKept_0 : decode cX12_isKept 0 = .ok (.aload_n 0, 1) := q_aload_n0 (bat_get dg_X12_isKept_0_0 0 rfl rfl)
theorem dX12_isKept_1 : decode cX12_isKept 1 = .ok (.getfield 391, 3) := q_getfield (bat_get dg_X12_isKept_0_0 1 rfl rfl) rfl
theorem dX12_isKept_4 : decode cX12_isKept 4 = .ok (.ifCond .eq 4, 3) := q_ifCond_eq (bat_get dg_X12_isKept_0_0 2 rfl rfl) rfl
theorem dX12_isKept_63 : decode cX12_isKept 63 = .ok (.bipush 30, 2) := q_bipush (bat_get dg_X12_isKept_0_0 3 rfl rfl) rfl
theorem dX12_isKept_65 : decode cX12_isKept 65 = .ok (.iconst 3, 1) := q_iconst3 (bat_get dg_X12_isKept_0_0 4 rfl rfl)
theorem dX12_isKept_66 : decode cX12_isKept 66 = .ok (.aload_n 0, 1) := q_aload_n0 (bat_get dg_X12_isKept_0_0 5 rfl rfl)
theorem dX12_isKept_67 : decode cX12_isKept 67 = .ok (.getfield 63, 3) := q_getfield (bat_get dg_X12_isKept_0_0 6 rfl rfl) rfl
theorem dX12_isKept_70 : decode cX12_isKept 70 = .ok (.bipush 29, 2) := q_bipush (bat_get dg_X12_isKept_0_0 7 rfl rfl) rfl
theorem dX12_isKept_72 : decode cX12_isKept 72 = .ok (.iaload, 1) := q_iaload (bat_get dg_X12_isKept_0_0 8 rfl rfl)
theorem dX12_isKept_73 : decode cX12_isKept 73 = .ok (.imul, 1) := q_imul (bat_get dg_X12_isKept_0_0 9 rfl rfl)
theorem dX12_isKept_74 : decode cX12_isKept 74 = .ok (.iadd, 1) := q_iadd (bat_get dg_X12_isKept_0_0 10 rfl rfl)
theorem dX12_isKept_75 : decode cX12_isKept 75 = .ok (.iconst 3, 1) := q_iconst3 (bat_get dg_X12_isKept_0_0 11 rfl rfl)
theorem dX12_isKept_76 : decode cX12_isKept 76 = .ok (.isub, 1) := q_isub (bat_get dg_X12_isKept_0_0 12 rfl rfl)
theorem dX12_isKept_77 : decode cX12_isKept 77 = .ok (.istore_n 1, 1) := q_istore_n1 (bat_get dg_X12_isKept_0_0 13 rfl rfl)
theorem dX12_isKept_78 : decode cX12_isKept 78 = .ok (.aload_n 0, 1) := q_aload_n0 (bat_get dg_X12_isKept_0_0 14 rfl rfl)
theorem dX12_isKept_79 : decode cX12_isKept 79 = .ok (.getfield 63, 3) := q_getfield (bat_get dg_X12_isKept_0_0 15 rfl rfl) rfl
theorem dX12_isKept_82 : decode cX12_isKept 82 = .ok (.iload_n 1, 1) := q_iload_n1 (bat_get dg_X12_isKept_0_0 16 rfl rfl)
theorem dX12_isKept_83 : decode cX12_isKept 83 = .ok (.aload_n 0, 1) := q_aload_n0 (bat_get dg_X12_isKept_0_0 17 rfl rfl)
theorem dX12_isKept_84 : decode cX12_isKept 84 = .ok (.getfield 63, 3) := q_getfield (bat_get dg_X12_isKept_0_0 18 rfl rfl) rfl
theorem dX12_isKept_87 : decode cX12_isKept 87 = .ok (.iconst 0, 1) := q_iconst0 (bat_get dg_X12_isKept_0_0 19 rfl rfl)
theorem dX12_isKept_88 : decode cX12_isKept 88 = .ok (.iaload, 1) := q_iaload (bat_get dg_X12_isKept_0_0 20 rfl rfl)
theorem dX12_isKept_89 : decode cX12_isKept 89 = .ok (.iastore, 1) := q_iastore (bat_get dg_X12_isKept_0_0 21 rfl rfl)
theorem dX12_isKept_90 : decode cX12_isKept 90 = .ok (.aload_n 0, 1) := q_aload_n0 (bat_get dg_X12_isKept_0_0 22 rfl rfl)
theorem dX12_isKept_91 : decode cX12_isKept 91 = .ok (.getfield 63, 3) := q_getfield (bat_get dg_X12_isKept_0_0 23 rfl rfl) rfl
theorem dX12_isKept_94 : decode cX12_isKept 94 = .ok (.iload_n 1, 1) := q_iload_n1 (bat_get dg_X12_isKept_0_0 24 rfl rfl)
theorem dX12_isKept_95 : decode cX12_isKept 95 = .ok (.iconst 1, 1) := q_iconst1 (bat_get dg_X12_isKept_0_0 25 rfl rfl)
theorem dX12_isKept_96 : decode cX12_isKept 96 = .ok (.iadd, 1) := q_iadd (bat_get dg_X12_isKept_0_0 26 rfl rfl)
theorem dX12_isKept_97 : decode cX12_isKept 97 = .ok (.aload_n 0, 1) := q_aload_n0 (bat_get dg_X12_isKept_0_0 27 rfl rfl)
theorem dX12_isKept_98 : decode cX12_isKept 98 = .ok (.getfield 382, 3) := q_getfield (bat_get dg_X12_isKept_0_0 28 rfl rfl) rfl
theorem dX12_isKept_101 : decode cX12_isKept 101 = .ok (.l2i, 1) := q_l2i (bat_get dg_X12_isKept_0_0 29 rfl rfl)
theorem dX12_isKept_102 : decode cX12_isKept 102 = .ok (.iastore, 1) := q_iastore (bat_get dg_X12_isKept_0_0 30 rfl rfl)
theorem dX12_isKept_103 : decode cX12_isKept 103 = .ok (.aload_n 0, 1) := q_aload_n0 (bat_get dg_X12_isKept_0_0 31 rfl rfl)
theorem dX12_isKept_104 : decode cX12_isKept 104 = .ok (.getfield 63, 3) := q_getfield (bat_get dg_X12_isKept_0_0 32 rfl rfl) rfl
theorem dX12_isKept_107 : decode cX12_isKept 107 = .ok (.iload_n 1, 1) := q_iload_n1 (bat_get dg_X12_isKept_0_0 33 rfl rfl)
theorem dX12_isKept_108 : decode cX12_isKept 108 = .ok (.iconst 2, 1) := q_iconst2 (bat_get dg_X12_isKept_0_0 34 rfl rfl)
theorem dX12_isKept_109 : decode cX12_isKept 109 = .ok (.iadd, 1) := q_iadd (bat_get dg_X12_isKept_0_0 35 rfl rfl)
theorem dX12_isKept_110 : decode cX12_isKept 110 = .ok (.aload_n 0, 1) := q_aload_n0 (bat_get dg_X12_isKept_0_0 36 rfl rfl)
theorem dX12_isKept_111 : decode cX12_isKept 111 = .ok (.getfield 89, 3) := q_getfield (bat_get dg_X12_isKept_0_0 37 rfl rfl) rfl
theorem dX12_isKept_114 : decode cX12_isKept 114 = .ok (.aload_n 0, 1) := q_aload_n0 (bat_get dg_X12_isKept_0_0 38 rfl rfl)
theorem dX12_isKept_115 : decode cX12_isKept 115 = .ok (.invokevirtual 315, 3) := q_invokevirtual (bat_get dg_X12_isKept_0_0 39 rfl rfl) rfl
theorem dg_X12_isKept_8_118 : bqL cX12_isKept 8 [(110, [4]), (111, [100]), (112, [46]), (113, [79]), (114, [177]), (0, [42]), (1, [180, 0, 63]), (4, [16, 29]), (6, [46]), (7, [16, 30]), (9, [160, 0, 35]), (44, [42]), (45, [180, 0, 63]), (48, [16, 29]), (50, [92]), (51, [46]), (52, [4]), (53, [96]), (54, [79]), (12, [16, 30]), (14, [60]), (15, [27]), (16, [16, 117]), (18, [162, 0, 23]), (41, [167, 0, 14]), (21, [42]), (22, [180, 0, 63]), (25, [27]), (26, [42]), (27, [180, 0, 63]), (30, [27]), (31, [6]), (32, [96]), (33, [46]), (34, [79]), (35, [132, 1, 1]), (38, [167, 255, 233])] = true := by decide +kernel
