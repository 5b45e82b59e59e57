theorem ways_gt {wy : Int64} {K : Nat} (h : wy = nL K) (hc : ¬ lg_cmp wy 0 ≤ 0) : 0 < K := by
  rcases Nat.eq_zero_or_pos K with q | q
  · subst q
    exact absurd ((lg_cmp_le wy 0).mpr (by rw [h]; exact Int64.le_refl _)) hc
  · exact q
theorem ways_ne {wy : Int64} {K : Nat} (h : wy = nL K) (hc : ¬ lg_cmp wy 0 = 0) : 0 < K := by
  rcases Nat.eq_zero_or_pos K with q | q
  · subst q
    exact absurd ((lg_cmp_eq wy 0).mpr (by rw [h]; rfl)) hc
  · exact q
theorem ways_lt {wy : Int64} {K k : Nat} (h : wy = nL K) (hK : K ≤ 1000000000) (hk : k < 2147483648) (hc : lg_cmp (Int32.toInt64 (nI k)) wy < 0) : k < K := by
  rw [h, nL_i2l hk, nL_lt (by omega) (by omega)] at hc
  exact hc
theorem ways_lt' {wy : Int64} {K k : Nat} (h : wy = nL K) (hK : K ≤ 1000000000) (hk : k < 2147483648) (hc : ¬ 0 ≤ lg_cmp (Int32.toInt64 (nI k)) wy) : k < K := by
  rw [lg_cmp_ge] at hc
  exact ways_lt h hK hk ((lg_cmp_lt _ _).mpr (Int64.not_le.mp hc))
theorem wk_st {C : Nat → Nat → Nat → Bool} {a0 n k : Nat} (hk : k < 2147483648) (h : k < wys C a0 (n - 1)) : wk C n 0 a0 0 (Int32.toInt64 (nI k)) := by
  rw [nL_i2l hk]; exact wk_start h
theorem wk_z {C : Nat → Nat → Nat → Bool} {a0 n : Nat} (h : 0 < wys C a0 (n - 1)) : wk C n 0 a0 0 0 := wk_start (k := 0) h
def sdOk (x : Int64) : Prop := 0 ≤ x.toInt ∧ x.toInt < 2147483648
theorem lrem_pos {x y : Int64} {a b : Nat} (hx : x.toInt = (a : Int)) (hy : y.toInt = (b : Int)) (hb : 0 < b) : (x - x / y * y).toInt = ((a % b : Nat) : Int) := by
  have hx2 := Int64.toInt_lt x
  have hd : (x / y).toInt = ((a / b : Nat) : Int) := by
    rw [Jvm.Kit.i64_div (by rw [hx, hy]; omega), hx, hy, Int.tdiv_eq_ediv_of_nonneg (by omega)]; rfl
  have hdm := Nat.div_add_mod a b
  have hle : a / b * b ≤ a := Nat.div_mul_le_self a b
  have hm : (x / y * y).toInt = ((a / b * b : Nat) : Int) := by
    rw [Jvm.Kit.i64_mul (by rw [hd, hy, ← Int.natCast_mul]; omega) (by rw [hd, hy, ← Int.natCast_mul]; omega), hd, hy, ← Int.natCast_mul]
  have hmod : a % b = a - a / b * b := by rw [Nat.mul_comm (a / b) b]; omega
  rw [Jvm.Kit.i64_sub (by rw [hm, hx]; omega) (by rw [hm, hx]; omega), hm, hx, hmod]
  omega
theorem draw1 {sd v1 v2 v3 : Int64} (h : sdOk sd) (h1 : v1 = 1103515245 * sd) (h2 : v2 = v1 + 12345) (h3 : v3 = v2 - v2 / 2147483648 * 2147483648) : sdOk v3 := by
  obtain ⟨ha, hb⟩ := h
  have e1 : (1103515245 : Int64).toInt = 1103515245 := rfl
  have e2 : (12345 : Int64).toInt = 12345 := rfl
  have e3 : (2147483648 : Int64).toInt = ((2147483648 : Nat) : Int) := rfl
  have t1 : v1.toInt = 1103515245 * sd.toInt := by
    rw [h1, Jvm.Kit.i64_mul (by rw [e1]; omega) (by rw [e1]; omega), e1]
  have t2 : v2.toInt = 1103515245 * sd.toInt + 12345 := by
    rw [h2, Jvm.Kit.i64_add (by rw [t1, e2]; omega) (by rw [t1, e2]; omega), t1, e2]
  have t3 : v2.toInt = ((v2.toInt.toNat : Nat) : Int) := by omega
  have t4 := lrem_pos t3 e3 (by decide)
  have t5 : v2.toInt.toNat % 2147483648 < 2147483648 := Nat.mod_lt _ (by decide)
  rw [← h3] at t4
  exact ⟨by rw [t4]; omega, by rw [t4]; omega⟩
theorem draw2 {sd v4 v5 x : Int64} (h : sdOk sd) (h4 : v4 = sd / 64) (h5 : v5 = v4 - v4 / x * x) : ∀ K : Nat, x = nL K → 0 < K → K ≤ 1000000000 → ∃ k : Nat, k < K ∧ v5 = nL k := by
  intro K hx hK hK2
  obtain ⟨ha, hb⟩ := h
  have e1 : (64 : Int64).toInt = 64 := rfl
  have t1 : v4.toInt = ((sd.toInt.toNat / 64 : Nat) : Int) := by
    rw [h4, Jvm.Kit.i64_div (by rw [e1]; omega), e1, Int.tdiv_eq_ediv_of_nonneg ha]
    omega
  have t2 : x.toInt = (K : Int) := by rw [hx, nL_toInt (by omega)]
  have t3 := lrem_pos t1 t2 hK
  rw [← h5] at t3
  have t4 : sd.toInt.toNat / 64 % K < K := Nat.mod_lt _ hK
  refine ⟨sd.toInt.toNat / 64 % K, t4, ?_⟩
  apply Int64.toInt_inj.mp
  rw [t3, nL_toInt (by omega)]
theorem sd_i2l {k : Nat} (h : k < 2147483648) : sdOk (Int32.toInt64 (nI k)) := by
  rw [sdOk, lgv k h]; omega
theorem nar_b (b : Nat) (h : b ≤ 1) : vp_nar .boolean (nI b) = nI b := by
  match b, h with
  | 0, _ => rfl
  | 1, _ => rfl
theorem nxor512 (a b : Nat) (ha : a < 512) (hb : b < 512) : ∃ k : Nat, k < 512 ∧ nI a ^^^ nI b = nI k := by
  refine ⟨a ^^^ b, Nat.xor_lt_two_pow (n := 9) ha hb, ?_⟩
  apply Int32.toBitVec_inj.mp
  show BitVec.ofNat 32 a ^^^ BitVec.ofNat 32 b = BitVec.ofNat 32 (a ^^^ b)
  apply BitVec.eq_of_toNat_eq
  have h9 : a ^^^ b < 512 := Nat.xor_lt_two_pow (n := 9) ha hb
  rw [BitVec.toNat_xor, BitVec.toNat_ofNat, BitVec.toNat_ofNat, BitVec.toNat_ofNat, Nat.mod_eq_of_lt (by omega), Nat.mod_eq_of_lt (by omega), Nat.mod_eq_of_lt (by omega)]
theorem nshl1' (d : Nat) (h : d < 9) : ∃ P : Nat, P < 512 ∧ (1 : Int32) <<< (nI d &&& 31) = nI P := by
  match d, h with
  | 0, _ => exact ⟨1, by decide, by decide⟩
  | 1, _ => exact ⟨2, by decide, by decide⟩
  | 2, _ => exact ⟨4, by decide, by decide⟩
  | 3, _ => exact ⟨8, by decide, by decide⟩
  | 4, _ => exact ⟨16, by decide, by decide⟩
  | 5, _ => exact ⟨32, by decide, by decide⟩
  | 6, _ => exact ⟨64, by decide, by decide⟩
  | 7, _ => exact ⟨128, by decide, by decide⟩
  | 8, _ => exact ⟨256, by decide, by decide⟩
theorem dX12_laysAll_0 : decode cX12_laysAll 0 = .ok (.aload_n 0, 1) := by decide +kernel
theorem dX12_laysAll_1 : decode cX12_laysAll 1 = .ok (.iconst 0, 1) := by decide +kernel
theorem dX12_laysAll_2 : decode cX12_laysAll 2 = .ok (.invokevirtual 385, 3) := by decide +kernel
theorem dX12_laysAll_5 : decode cX12_laysAll 5 = .ok (.aload_n 0, 1) := by decide +kernel
theorem dX12_laysAll_6 : decode cX12_laysAll 6 = .ok (.invokevirtual 388, 3) := by decide +kernel
theorem dX12_laysAll_9 : decode cX12_laysAll 9 = .ok (.return_, 1) := by decide +kernel
theorem w_7_193 : (Cond.methodLink RX12 385 yX12_laysDays) ∈ wsL_law := sk_mem (ck_7 _ (List.mem_of_getElem? (i := 193) rfl)) rfl
theorem w_7_195 : (Cond.instanceMethod yX12_laysDays) ∈ wsL_law := sk_mem (ck_7 _ (List.mem_of_getElem? (i := 195) rfl)) rfl
theorem w_0_83 : (Cond.selects RX12 yX12_laysDays yX12_laysDays) ∈ wsL_law := sk_mem (ck_0 _ (List.mem_of_getElem? (i := 83) rfl)) rfl
theorem w_7_197 : (Cond.methodLink RX12 388 yX12_laysWays) ∈ wsL_law := sk_mem (ck_7 _ (List.mem_of_getElem? (i := 197) rfl)) rfl
theorem w_7_199 : (Cond.instanceMethod yX12_laysWays) ∈ wsL_law := sk_mem (ck_7 _ (List.mem_of_getElem? (i := 199) rfl)) rfl
theorem w_0_84 : (Cond.selects RX12 yX12_laysWays yX12_laysWays) ∈ wsL_law := sk_mem (ck_0 _ (List.mem_of_getElem? (i := 84) rfl)) rfl
theorem w_7_192 : (Cond.code yX12_laysAll cX12_laysAll 1 none) ∈ wsL_law := sk_mem (ck_7 _ (List.mem_of_getElem? (i := 192) rfl)) rfl
set_option maxHeartbeats 4000000 in
set_option maxRecDepth 100000 in
theorem c_m_laysAll (l : Launch) (D : va_G) (cI cJ cC cZ cS : ClassId) (mm : Nat) (g : Nat → Nat) (ta : Nat) (pa : Nat) (pe : Nat) (pd : Int32) (pb : Nat) (pp : Int32) (pf : Int32) (pg : Int32) (pn : Int32) (rt : Int32) (rn : Int32) (cd : Nat) (sn : Int32) (il : Nat) (tk : Int32) (am : Int32) (at_ : Int32) (aa : Int32) (mt_ : Int32) (wt : Int32) (wy : Int64) (it_ : Nat) (rm : Nat) (ud : Nat) (nu : Nat) (sd : Int64) (qn : Nat) (qw : Nat) (qo : Int32) (qb : Nat) (qp : Nat) (qa : Int64) (qi : Nat) (oc : Nat) (u0 : Int32) (u1 : Int32) (u2 : Int32) (u3 : Int32) (u4 : Int32) (u5 : Int32) (v0 : Int32) (v1 : Int32) (v2 : Int32) (v3 : Int32) (v4 : Int32) (v5 : Int32) (cs : Nat → Nat) (nw : Nat → Int32) (pt : Nat → Nat) (ql : Nat → Int64) (l0 : Nat) (l1 : Nat) (dm : Nat) (l3 : Nat) (ws_ : Nat → Int32) (yw : Nat → Int32) (yo : Nat → Int32) (be : Nat → Int64) (bf : Nat → Int64) (hdm : dm ≤ 9) (hdm1 : 1 ≤ dm) (hp0 : progOk cs u3 v3) (hp1 : progOk cs u4 v4) (hp2 : progOk cs u5 v5) (hcs : ∀ j, cs j ≤ 20000) (hnw : nowOk nw) (hpt : ∀ j, pt j ≤ 9) : skM l yX12_laysAll cX12_laysAll 1 none 5 122 0 0 D (skT cI cJ cC cZ cS) [.ref mm] [(mm, .inr (12, mo g (nI ta) (nI pa) (nI pe) pd (nI pb) pp pf pg pn rt rn (nI cd) sn (nI il) tk am at_ aa mt_ 0 (-1) wt wy (nI it_) (nI rm) (nI ud) (nI nu) sd (nI qn) (nI qw) qo (nI qb) (nI qp) qa (nI qi) (nI oc))), (g 24, .inl (cI, 6, .inl (l6 u0 u1 u2 u3 u4 u5))), (g 25, .inl (cI, 6, .inl (l6 v0 v1 v2 v3 v4 v5))), (g 26, .inl (cI, 3200, .inl (fun j => nI (cs j)))), (g 31, .inl (cI, 120, .inl nw)), (g 46, .inl (cI, 9, .inl (fun j => nI (pt j)))), (g 86, .inl (cJ, 1700, .inr (.inl ql))), (g 20, .inl (cI, 4, .inl (l4 (nI l0) (nI l1) (nI dm) (nI l3)))), (g 38, .inl (cI, 90, .inl ws_)), (g 36, .inl (cZ, 900, .inl yw)), (g 37, .inl (cZ, 900, .inl yo)), (g 43, .inl (cJ, 90, .inr (.inl be))), (g 44, .inl (cJ, 90, .inr (.inl bf)))] (skV D (skT cI cJ cC cZ cS) (fun (u : va_W) => ∃ (tk2 : Int32), ∃ (qp2 : Nat), ∃ (am2 : Int32), ∃ (at_2 : Int32), ∃ (aa2 : Int32), ∃ (wy2 : Int64), ∃ (ql2 : Nat → Int64), ∃ (ws_2 : Nat → Int32), ∃ (yw2 : Nat → Int32), ∃ (yo2 : Nat → Int32), ∃ (be2 : Nat → Int64), ∃ (bf2 : Nat → Int64), beOk (cfN nw yw2 yo2 mt_) dm 0 be2 ∧ wy2 = nL (wys (cfN nw yw2 yo2 mt_) (a0N nw) (dm - 1)) ∧ u = [(mm, .inr (12, mo g (nI ta) (nI pa) (nI pe) pd (nI pb) pp pf pg pn rt rn (nI cd) sn (nI il) tk2 am2 at_2 aa2 mt_ 0 (-1) wt wy2 (nI it_) (nI rm) (nI ud) (nI nu) sd (nI qn) (nI qw) qo (nI qb) (nI qp2) qa (nI qi) (nI oc))), (g 24, .inl (cI, 6, .inl (l6 u0 u1 u2 u3 u4 u5))), (g 25, .inl (cI, 6, .inl (l6 v0 v1 v2 v3 v4 v5))), (g 26, .inl (cI, 3200, .inl (fun j => nI (cs j)))), (g 31, .inl (cI, 120, .inl nw)), (g 46, .inl (cI, 9, .inl (fun j => nI (pt j)))), (g 86, .inl (cJ, 1700, .inr (.inl ql2))), (g 20, .inl (cI, 4, .inl (l4 (nI l0) (nI l1) (nI dm) (nI l3)))), (g 38, .inl (cI, 90, .inl ws_2)), (g 36, .inl (cZ, 900, .inl yw2)), (g 37, .inl (cZ, 900, .inl yo2)), (g 43, .inl (cJ, 90, .inr (.inl be2))), (g 44, .inl (cJ, 90, .inr (.inl bf2)))])) := by
  refine skM_of (by decide +kernel) (Nat.le_of_ble_eq_true rfl) ?_
  intro p e s m below meth c A ls E hP hD hl
  obtain ⟨hx, hb, hr, hml, hlocks, hin, hown, hts, hK, hA⟩ := E
  have hown : s.vm.findClass RX12 = some m.cls := hown
  have hS : va_S A s.heap s.heap [] := va_S.rf
  have hl : lv_has ls 1 [(0, .ref mm)] := hl
  refine lv_aload_n hx hb dX12_laysAll_0 rfl (lv_at hl 0 rfl) ?_
  refine lv_iconst (v := 0) hx hb dX12_laysAll_1 (by decide) ?_
  refine sk_Vv (q0 := 0) (n := 1) (rest := []) (wr := [(g 43, .inl (cJ, 90, .inr (.inl be))), (g 44, .inl (cJ, 90, .inr (.inl bf)))]) ⟨hx, hb, hml, hown, hts⟩ hl.1 (c_m_laysDays l D cI cJ cC cZ cS mm g ta pa pe pd pb pp pf pg pn rt rn cd sn il tk am at_ aa mt_ 0 (-1) wt wy it_ rm ud nu sd qn qw qo qb qp qa qi oc 0 u0 u1 u2 u3 u4 u5 v0 v1 v2 v3 v4 v5 cs nw pt ql l0 l1 dm l3 ws_ yw yo (by omega) (by omega) (by omega) (by omega) hcs hnw hpt) w_7_193 w_7_195 w_0_83 w_1_14 w_7_196 (by decide +kernel) ⟨⟨(Nat.le_of_ble_eq_true rfl), (Nat.le_of_ble_eq_true rfl)⟩, (Nat.le_of_ble_eq_true rfl), (Nat.le_of_ble_eq_true rfl)⟩ hK hP hD hS hA [0, 1, 2, 3, 4, 5, 6, 7, 8, 9, 10] [11, 12] rfl rfl (by decide +kernel) (by decide +kernel) (by decide +kernel) rfl rfl rfl rfl (Nat.le_of_ble_eq_true rfl) dX12_laysAll_2 (fun u H locs hw hP hD hS => ?_)
  obtain ⟨tk2_1, qp2_2, am2_3, at_2_4, aa2_5, ql2_6, ws_2_7, yw2_8, yo2_9, rfl⟩ := hw
  have hP : va_P D vwCl [(g 43, .inl (cJ, 90, .inr (.inl be))), (g 44, .inl (cJ, 90, .inr (.inl bf))), (mm, .inr (12, mo g (nI ta) (nI pa) (nI pe) pd (nI pb) pp pf pg pn rt rn (nI cd) sn (nI il) tk2_1 am2_3 at_2_4 aa2_5 mt_ 0 (-1) wt wy (nI it_) (nI rm) (nI ud) (nI nu) sd (nI qn) (nI qw) qo (nI qb) (nI qp2_2) qa (nI qi) (nI oc))), (g 24, .inl (cI, 6, .inl (l6 u0 u1 u2 u3 u4 u5))), (g 25, .inl (cI, 6, .inl (l6 v0 v1 v2 v3 v4 v5))), (g 26, .inl (cI, 3200, .inl (fun j => nI (cs j)))), (g 31, .inl (cI, 120, .inl nw)), (g 46, .inl (cI, 9, .inl (fun j => nI (pt j)))), (g 86, .inl (cJ, 1700, .inr (.inl ql2_6))), (g 20, .inl (cI, 4, .inl (l4 (nI l0) (nI l1) (nI dm) (nI l3)))), (g 38, .inl (cI, 90, .inl ws_2_7)), (g 36, .inl (cZ, 900, .inl yw2_8)), (g 37, .inl (cZ, 900, .inl yo2_9))] H := hP
  have hD : va_D A [(g 43, .inl (cJ, 90, .inr (.inl be))), (g 44, .inl (cJ, 90, .inr (.inl bf))), (mm, .inr (12, mo g (nI ta) (nI pa) (nI pe) pd (nI pb) pp pf pg pn rt rn (nI cd) sn (nI il) tk2_1 am2_3 at_2_4 aa2_5 mt_ 0 (-1) wt wy (nI it_) (nI rm) (nI ud) (nI nu) sd (nI qn) (nI qw) qo (nI qb) (nI qp2_2) qa (nI qi) (nI oc))), (g 24, .inl (cI, 6, .inl (l6 u0 u1 u2 u3 u4 u5))), (g 25, .inl (cI, 6, .inl (l6 v0 v1 v2 v3 v4 v5))), (g 26, .inl (cI, 3200, .inl (fun j => nI (cs j)))), (g 31, .inl (cI, 120, .inl nw)), (g 46, .inl (cI, 9, .inl (fun j => nI (pt j)))), (g 86, .inl (cJ, 1700, .inr (.inl ql2_6))), (g 20, .inl (cI, 4, .inl (l4 (nI l0) (nI l1) (nI dm) (nI l3)))), (g 38, .inl (cI, 90, .inl ws_2_7)), (g 36, .inl (cZ, 900, .inl yw2_8)), (g 37, .inl (cZ, 900, .inl yo2_9))] := hD
  refine lv_aload_n hx hb dX12_laysAll_5 rfl (lv_at hl 0 rfl) ?_
  refine sk_Vv (q0 := 0) (n := 0) (rest := []) (wr := [(g 24, .inl (cI, 6, .inl (l6 u0 u1 u2 u3 u4 u5))), (g 25, .inl (cI, 6, .inl (l6 v0 v1 v2 v3 v4 v5))), (g 26, .inl (cI, 3200, .inl (fun j => nI (cs j)))), (g 46, .inl (cI, 9, .inl (fun j => nI (pt j)))), (g 86, .inl (cJ, 1700, .inr (.inl ql2_6))), (g 38, .inl (cI, 90, .inl ws_2_7))]) ⟨hx, hb, hml, hown, hts⟩ hl.1 (c_m_laysWays0 l D cI cJ cC cZ cS mm g ta pa pe pd pb pp pf pg pn rt rn cd sn il tk2_1 am2_3 at_2_4 aa2_5 mt_ wt wy it_ rm ud nu sd qn qw qo qb qp2_2 qa qi oc l0 l1 dm l3 nw yo2_9 yw2_8 be bf (by omega) (by omega) hnw) w_7_197 w_7_199 w_0_84 w_1_14 w_7_200 (by decide +kernel) ⟨⟨(Nat.le_of_ble_eq_true rfl), (Nat.le_of_ble_eq_true rfl)⟩, (Nat.le_of_ble_eq_true rfl), (Nat.le_of_ble_eq_true rfl)⟩ hK hP hD hS hA [2, 9, 6, 12, 11, 0, 1] [3, 4, 5, 7, 8, 10] rfl rfl (by decide +kernel) (by decide +kernel) (by decide +kernel) rfl rfl rfl rfl (Nat.le_of_ble_eq_true rfl) dX12_laysAll_6 (fun u H locs hw hP hD hS => ?_)
  obtain ⟨wy2_10, be2_11, bf2_12, hbe_13, hwy_14, rfl⟩ := hw
  have hP : va_P D vwCl [(g 24, .inl (cI, 6, .inl (l6 u0 u1 u2 u3 u4 u5))), (g 25, .inl (cI, 6, .inl (l6 v0 v1 v2 v3 v4 v5))), (g 26, .inl (cI, 3200, .inl (fun j => nI (cs j)))), (g 46, .inl (cI, 9, .inl (fun j => nI (pt j)))), (g 86, .inl (cJ, 1700, .inr (.inl ql2_6))), (g 38, .inl (cI, 90, .inl ws_2_7)), (mm, .inr (12, mo g (nI ta) (nI pa) (nI pe) pd (nI pb) pp pf pg pn rt rn (nI cd) sn (nI il) tk2_1 am2_3 at_2_4 aa2_5 mt_ 0 (-1) wt wy2_10 (nI it_) (nI rm) (nI ud) (nI nu) sd (nI qn) (nI qw) qo (nI qb) (nI qp2_2) qa (nI qi) (nI oc))), (g 20, .inl (cI, 4, .inl (l4 (nI l0) (nI l1) (nI dm) (nI l3)))), (g 31, .inl (cI, 120, .inl nw)), (g 37, .inl (cZ, 900, .inl yo2_9)), (g 36, .inl (cZ, 900, .inl yw2_8)), (g 43, .inl (cJ, 90, .inr (.inl be2_11))), (g 44, .inl (cJ, 90, .inr (.inl bf2_12)))] H := hP
  have hD : va_D A [(g 24, .inl (cI, 6, .inl (l6 u0 u1 u2 u3 u4 u5))), (g 25, .inl (cI, 6, .inl (l6 v0 v1 v2 v3 v4 v5))), (g 26, .inl (cI, 3200, .inl (fun j => nI (cs j)))), (g 46, .inl (cI, 9, .inl (fun j => nI (pt j)))), (g 86, .inl (cJ, 1700, .inr (.inl ql2_6))), (g 38, .inl (cI, 90, .inl ws_2_7)), (mm, .inr (12, mo g (nI ta) (nI pa) (nI pe) pd (nI pb) pp pf pg pn rt rn (nI cd) sn (nI il) tk2_1 am2_3 at_2_4 aa2_5 mt_ 0 (-1) wt wy2_10 (nI it_) (nI rm) (nI ud) (nI nu) sd (nI qn) (nI qw) qo (nI qb) (nI qp2_2) qa (nI qi) (nI oc))), (g 20, .inl (cI, 4, .inl (l4 (nI l0) (nI l1) (nI dm) (nI l3)))), (g 31, .inl (cI, 120, .inl nw)), (g 37, .inl (cZ, 900, .inl yo2_9)), (g 36, .inl (cZ, 900, .inl yw2_8)), (g 43, .inl (cJ, 90, .inr (.inl be2_11))), (g 44, .inl (cJ, 90, .inr (.inl bf2_12)))] := hD
  have hP := hP.sub (ws' := [(mm, .inr (12, mo g (nI ta) (nI pa) (nI pe) pd (nI pb) pp pf pg pn rt rn (nI cd) sn (nI il) tk2_1 am2_3 at_2_4 aa2_5 mt_ 0 (-1) wt wy2_10 (nI it_) (nI rm) (nI ud) (nI nu) sd (nI qn) (nI qw) qo (nI qb) (nI qp2_2) qa (nI qi) (nI oc))), (g 24, .inl (cI, 6, .inl (l6 u0 u1 u2 u3 u4 u5))), (g 25, .inl (cI, 6, .inl (l6 v0 v1 v2 v3 v4 v5))), (g 26, .inl (cI, 3200, .inl (fun j => nI (cs j)))), (g 31, .inl (cI, 120, .inl nw)), (g 46, .inl (cI, 9, .inl (fun j => nI (pt j)))), (g 86, .inl (cJ, 1700, .inr (.inl ql2_6))), (g 20, .inl (cI, 4, .inl (l4 (nI l0) (nI l1) (nI dm) (nI l3)))), (g 38, .inl (cI, 90, .inl ws_2_7)), (g 36, .inl (cZ, 900, .inl yw2_8)), (g 37, .inl (cZ, 900, .inl yo2_9)), (g 43, .inl (cJ, 90, .inr (.inl be2_11))), (g 44, .inl (cJ, 90, .inr (.inl bf2_12)))]) [6, 0, 1, 2, 8, 3, 4, 7, 5, 10, 9, 11, 12] rfl
  have hD := hD.sub (ws' := [(mm, .inr (12, mo g (nI ta) (nI pa) (nI pe) pd (nI pb) pp pf pg pn rt rn (nI cd) sn (nI il) tk2_1 am2_3 at_2_4 aa2_5 mt_ 0 (-1) wt wy2_10 (nI it_) (nI rm) (nI ud) (nI nu) sd (nI qn) (nI qw) qo (nI qb) (nI qp2_2) qa (nI qi) (nI oc))), (g 24, .inl (cI, 6, .inl (l6 u0 u1 u2 u3 u4 u5))), (g 25, .inl (cI, 6, .inl (l6 v0 v1 v2 v3 v4 v5))), (g 26, .inl (cI, 3200, .inl (fun j => nI (cs j)))), (g 31, .inl (cI, 120, .inl nw)), (g 46, .inl (cI, 9, .inl (fun j => nI (pt j)))), (g 86, .inl (cJ, 1700, .inr (.inl ql2_6))), (g 20, .inl (cI, 4, .inl (l4 (nI l0) (nI l1) (nI dm) (nI l3)))), (g 38, .inl (cI, 90, .inl ws_2_7)), (g 36, .inl (cZ, 900, .inl yw2_8)), (g 37, .inl (cZ, 900, .inl yo2_9)), (g 43, .inl (cJ, 90, .inr (.inl be2_11))), (g 44, .inl (cJ, 90, .inr (.inl bf2_12)))]) [6, 0, 1, 2, 8, 3, 4, 7, 5, 10, 9, 11, 12] (by decide +kernel) rfl
  exact sk_vret hx hb hr hlocks hK hP hD hS (⟨tk2_1, qp2_2, am2_3, at_2_4, aa2_5, wy2_10, ql2_6, ws_2_7, yw2_8, yo2_9, be2_11, bf2_12, hbe_13, hwy_14, rfl⟩) (Nat.le_of_ble_eq_true rfl) (Nat.le_of_ble_eq_true rfl) dX12_laysAll_9
theorem dX12_doesAgree_0 : decode cX12_doesAgree 0 = .ok (.aload_n 0, 1) := by decide +kernel
theorem dX12_doesAgree_1 : decode cX12_doesAgree 1 = .ok (.iload_n 1, 1) := by decide +kernel
theorem dX12_doesAgree_2 : decode cX12_doesAgree 2 = .ok (.putfield 362, 3) := by decide +kernel
theorem dX12_doesAgree_5 : decode cX12_doesAgree 5 = .ok (.aload_n 0, 1) := by decide +kernel
theorem dX12_doesAgree_6 : decode cX12_doesAgree 6 = .ok (.invokevirtual 388, 3) := by decide +kernel
theorem dX12_doesAgree_9 : decode cX12_doesAgree 9 = .ok (.aload_n 0, 1) := by decide +kernel
theorem dX12_doesAgree_10 : decode cX12_doesAgree 10 = .ok (.iconst 0, 1) := by decide +kernel
theorem dX12_doesAgree_11 : decode cX12_doesAgree 11 = .ok (.putfield 362, 3) := by decide +kernel
theorem dX12_doesAgree_14 : decode cX12_doesAgree 14 = .ok (.aload_n 0, 1) := by decide +kernel
theorem dX12_doesAgree_15 : decode cX12_doesAgree 15 = .ok (.getfield 382, 3) := by decide +kernel
theorem dX12_doesAgree_18 : decode cX12_doesAgree 18 = .ok (.lconst 0, 1) := by decide +kernel
theorem dX12_doesAgree_19 : decode cX12_doesAgree 19 = .ok (.lcmp, 1) := by decide +kernel
theorem dX12_doesAgree_20 : decode cX12_doesAgree 20 = .ok (.ifCond .le 7, 3) := by decide +kernel
theorem dX12_doesAgree_27 : decode cX12_doesAgree 27 = .ok (.iconst 0, 1) := by decide +kernel
theorem dX12_doesAgree_28 : decode cX12_doesAgree 28 = .ok (.ireturn, 1) := by decide +kernel
theorem dX12_doesAgree_23 : decode cX12_doesAgree 23 = .ok (.iconst 1, 1) := by decide +kernel
theorem dX12_doesAgree_24 : decode cX12_doesAgree 24 = .ok (.goto 4, 3) := by decide +kernel
theorem w_7_232 : (Cond.code yX12_doesAgree cX12_doesAgree 2 (some .boolean)) ∈ wsL_law := sk_mem (ck_7 _ (List.mem_of_getElem? (i := 232) rfl)) rfl
set_option maxHeartbeats 4000000 in
set_option maxRecDepth 100000 in
theorem c_m_doesAgree (l : Launch) (D : va_G) (cI cJ cC cZ cS : ClassId) (mm : Nat) (g : Nat → Nat) (ta : Nat) (pa : Nat) (pe : Nat) (pd : Int32) (pb : Nat) (pp : Int32) (pf : Int32) (pg : Int32) (pn : Int32) (rt : Int32) (rn : Int32) (cd : Nat) (sn : Int32) (il : Nat) (tk : Int32) (am : Int32) (at_ : Int32) (aa : Int32) (mt_ : Int32) (wt : Int32) (wy : Int64) (it_ : Nat) (rm : Nat) (ud : Nat) (nu : Nat) (sd : Int64) (qn : Nat) (qw : Nat) (qo : Int32) (qb : Nat) (qp : Nat) (qa : Int64) (qi : Nat) (oc : Nat) (o : Int32) (l0 : Nat) (l1 : Nat) (dm : Nat) (l3 : Nat) (nw : Nat → Int32) (yo : Nat → Int32) (yw : Nat → Int32) (be : Nat → Int64) (bf : Nat → Int64) (hdm : dm ≤ 9) (hdm1 : 1 ≤ dm) (hnw : nowOk nw) : skM l yX12_doesAgree cX12_doesAgree 2 (some .boolean) 4 92 0 0 D (skT cI cJ cC cZ cS) [.ref mm, .int o] [(mm, .inr (12, mo g (nI ta) (nI pa) (nI pe) pd (nI pb) pp pf pg pn rt rn (nI cd) sn (nI il) tk am at_ aa mt_ 0 (-1) wt wy (nI it_) (nI rm) (nI ud) (nI nu) sd (nI qn) (nI qw) qo (nI qb) (nI qp) qa (nI qi) (nI oc))), (g 20, .inl (cI, 4, .inl (l4 (nI l0) (nI l1) (nI dm) (nI l3)))), (g 31, .inl (cI, 120, .inl nw)), (g 37, .inl (cZ, 900, .inl yo)), (g 36, .inl (cZ, 900, .inl yw)), (g 43, .inl (cJ, 90, .inr (.inl be))), (g 44, .inl (cJ, 90, .inr (.inl bf)))] (skI D (skT cI cJ cC cZ cS) (fun (r : Int32) (u : va_W) => ∃ (b : Nat), ∃ (wy2 : Int64), ∃ (be2 : Nat → Int64), ∃ (bf2 : Nat → Int64), beOk (cfN nw yw yo o) dm 0 be2 ∧ wy2 = nL (wys (cfN nw yw yo o) (a0N nw) (dm - 1)) ∧ (b = 0 ∨ (b = 1 ∧ 0 < wys (cfN nw yw yo o) (a0N nw) (dm - 1))) ∧ r = nI b ∧ u = [(mm, .inr (12, mo g (nI ta) (nI pa) (nI pe) pd (nI pb) pp pf pg pn rt rn (nI cd) sn (nI il) tk am at_ aa 0 0 (-1) wt wy2 (nI it_) (nI rm) (nI ud) (nI nu) sd (nI qn) (nI qw) qo (nI qb) (nI qp) qa (nI qi) (nI oc))), (g 20, .inl (cI, 4, .inl (l4 (nI l0) (nI l1) (nI dm) (nI l3)))), (g 31, .inl (cI, 120, .inl nw)), (g 37, .inl (cZ, 900, .inl yo)), (g 36, .inl (cZ, 900, .inl yw)), (g 43, .inl (cJ, 90, .inr (.inl be2))), (g 44, .inl (cJ, 90, .inr (.inl bf2)))])) := by
  refine skM_of (by decide +kernel) (Nat.le_of_ble_eq_true rfl) ?_
  intro p e s m below meth c A ls E hP hD hl
  obtain ⟨hx, hb, hr, hml, hlocks, hin, hown, hts, hK, hA⟩ := E
  have hown : s.vm.findClass RX12 = some m.cls := hown
  have hS : va_S A s.heap s.heap [] := va_S.rf
  have hl : lv_has ls 2 [(0, .ref mm), (1, .int o)] := hl
  refine lv_aload_n hx hb dX12_doesAgree_0 rfl (lv_at hl 0 rfl) ?_
  refine lv_iload_n hx hb dX12_doesAgree_1 rfl (lv_at hl 1 rfl) ?_
  refine sk_put (ws' := [(mm, .inr (12, mo g (nI ta) (nI pa) (nI pe) pd (nI pb) pp pf pg pn rt rn (nI cd) sn (nI il) tk am at_ aa o 0 (-1) wt wy (nI it_) (nI rm) (nI ud) (nI nu) sd (nI qn) (nI qw) qo (nI qb) (nI qp) qa (nI qi) (nI oc))), (g 20, .inl (cI, 4, .inl (l4 (nI l0) (nI l1) (nI dm) (nI l3)))), (g 31, .inl (cI, 120, .inl nw)), (g 37, .inl (cZ, 900, .inl yo)), (g 36, .inl (cZ, 900, .inl yw)), (g 43, .inl (cJ, 90, .inr (.inl be))), (g 44, .inl (cJ, 90, .inr (.inl bf)))]) (C := RX12) (T := TX12) (N := 92) (v := .int o) hx hb hts inlX12 tyX12 tyX12_ok nmX12 hown hK hP hD hS 0 rfl rfl 39 (by decide) w_5_194 rfl rfl rfl (Nat.le_of_ble_eq_true rfl) rfl dX12_doesAgree_2 (fun H locs hP hD hS => ?_)
  refine lv_aload_n hx hb dX12_doesAgree_5 rfl (lv_at hl 0 rfl) ?_
  refine sk_Vv (q0 := 0) (n := 0) (rest := []) (wr := []) ⟨hx, hb, hml, hown, hts⟩ hl.1 (c_m_laysWays0 l D cI cJ cC cZ cS mm g ta pa pe pd pb pp pf pg pn rt rn cd sn il tk am at_ aa o wt wy it_ rm ud nu sd qn qw qo qb qp qa qi oc l0 l1 dm l3 nw yo yw be bf (by omega) (by omega) hnw) w_7_197 w_7_199 w_0_84 w_1_14 w_7_200 (by decide +kernel) ⟨⟨(Nat.le_of_ble_eq_true rfl), (Nat.le_of_ble_eq_true rfl)⟩, (Nat.le_of_ble_eq_true rfl), (Nat.le_of_ble_eq_true rfl)⟩ hK hP hD hS hA [0, 1, 2, 3, 4, 5, 6] [] rfl rfl (by decide +kernel) (by decide +kernel) (by decide +kernel) rfl rfl rfl rfl (Nat.le_of_ble_eq_true rfl) dX12_doesAgree_6 (fun u H locs hw hP hD hS => ?_)
  obtain ⟨wy2_1, be2_2, bf2_3, hbe_4, hwy_5, rfl⟩ := hw
  have hP : va_P D vwCl [(mm, .inr (12, mo g (nI ta) (nI pa) (nI pe) pd (nI pb) pp pf pg pn rt rn (nI cd) sn (nI il) tk am at_ aa o 0 (-1) wt wy2_1 (nI it_) (nI rm) (nI ud) (nI nu) sd (nI qn) (nI qw) qo (nI qb) (nI qp) qa (nI qi) (nI oc))), (g 20, .inl (cI, 4, .inl (l4 (nI l0) (nI l1) (nI dm) (nI l3)))), (g 31, .inl (cI, 120, .inl nw)), (g 37, .inl (cZ, 900, .inl yo)), (g 36, .inl (cZ, 900, .inl yw)), (g 43, .inl (cJ, 90, .inr (.inl be2_2))), (g 44, .inl (cJ, 90, .inr (.inl bf2_3)))] H := hP
  have hD : va_D A [(mm, .inr (12, mo g (nI ta) (nI pa) (nI pe) pd (nI pb) pp pf pg pn rt rn (nI cd) sn (nI il) tk am at_ aa o 0 (-1) wt wy2_1 (nI it_) (nI rm) (nI ud) (nI nu) sd (nI qn) (nI qw) qo (nI qb) (nI qp) qa (nI qi) (nI oc))), (g 20, .inl (cI, 4, .inl (l4 (nI l0) (nI l1) (nI dm) (nI l3)))), (g 31, .inl (cI, 120, .inl nw)), (g 37, .inl (cZ, 900, .inl yo)), (g 36, .inl (cZ, 900, .inl yw)), (g 43, .inl (cJ, 90, .inr (.inl be2_2))), (g 44, .inl (cJ, 90, .inr (.inl bf2_3)))] := hD
  refine lv_aload_n hx hb dX12_doesAgree_9 rfl (lv_at hl 0 rfl) ?_
  refine lv_iconst (v := 0) hx hb dX12_doesAgree_10 (by decide) ?_
  refine sk_put (ws' := [(mm, .inr (12, mo g (nI ta) (nI pa) (nI pe) pd (nI pb) pp pf pg pn rt rn (nI cd) sn (nI il) tk am at_ aa 0 0 (-1) wt wy2_1 (nI it_) (nI rm) (nI ud) (nI nu) sd (nI qn) (nI qw) qo (nI qb) (nI qp) qa (nI qi) (nI oc))), (g 20, .inl (cI, 4, .inl (l4 (nI l0) (nI l1) (nI dm) (nI l3)))), (g 31, .inl (cI, 120, .inl nw)), (g 37, .inl (cZ, 900, .inl yo)), (g 36, .inl (cZ, 900, .inl yw)), (g 43, .inl (cJ, 90, .inr (.inl be2_2))), (g 44, .inl (cJ, 90, .inr (.inl bf2_3)))]) (C := RX12) (T := TX12) (N := 92) (v := .int 0) hx hb hts inlX12 tyX12 tyX12_ok nmX12 hown hK hP hD hS 0 rfl rfl 39 (by decide) w_5_194 rfl rfl rfl (Nat.le_of_ble_eq_true rfl) rfl dX12_doesAgree_11 (fun H locs hP hD hS => ?_)
  refine lv_aload_n hx hb dX12_doesAgree_14 rfl (lv_at hl 0 rfl) ?_
  refine sk_get (v := .long wy2_1) (C := RX12) (T := TX12) (N := 92) hx hb hts inlX12 hown hK hP 0 rfl rfl 45 (by decide) w_5_200 rfl dX12_doesAgree_15 ?_
  refine lv_lconst (v := 0) hx hb dX12_doesAgree_18 (by decide) ?_
  refine W.lcmp hx hb dX12_doesAgree_19 ?_
  refine lv_if_le (tgt := 27) hx hb dX12_doesAgree_20 (by decide) (fun c_6 => ?_) (fun c_6 => ?_)
  · skip
    refine lv_iconst (v := 0) hx hb dX12_doesAgree_27 (by decide) ?_
    exact sk_iret hx hb hr rfl hlocks hK hP hD hS (⟨0, wy2_1, be2_2, bf2_3, hbe_4, hwy_5, Or.inl rfl, rfl, rfl⟩) (Nat.le_of_ble_eq_true rfl) (Nat.le_of_ble_eq_true rfl) dX12_doesAgree_28
  · skip
    refine lv_iconst (v := 1) hx hb dX12_doesAgree_23 (by decide) ?_
    refine lv_goto (tgt := 28) hx hb dX12_doesAgree_24 (by decide) ?_
    exact sk_iret hx hb hr rfl hlocks hK hP hD hS (⟨1, wy2_1, be2_2, bf2_3, hbe_4, hwy_5, Or.inr ⟨rfl, ways_gt hwy_5 c_6⟩, rfl, rfl⟩) (Nat.le_of_ble_eq_true rfl) (Nat.le_of_ble_eq_true rfl) dX12_doesAgree_28
theorem dX12_isKept_0 : decode cX12_isKept 0 = .ok (.aload_n 0, 1) := by decide +kernel
theorem dX12_isKept_1 : decode cX12_isKept 1 = .ok (.getfield 391, 3) := by decide +kernel
theorem dX12_isKept_4 : decode cX12_isKept 4 = .ok (.ifCond .eq 4, 3) := by decide +kernel
theorem dX12_isKept_8 : decode cX12_isKept 8 = .ok (.aload_n 0, 1) := by decide +kernel
theorem dX12_isKept_9 : decode cX12_isKept 9 = .ok (.getfield 63, 3) := by decide +kernel
theorem dX12_isKept_12 : decode cX12_isKept 12 = .ok (.bipush 29, 2) := by decide +kernel
theorem dX12_isKept_14 : decode cX12_isKept 14 = .ok (.iaload, 1) := by decide +kernel
theorem dX12_isKept_15 : decode cX12_isKept 15 = .ok (.bipush 30, 2) := by decide +kernel
theorem dX12_isKept_17 : decode cX12_isKept 17 = .ok (.if_icmp .ne 35, 3) := by decide +kernel
theorem dX12_isKept_52 : decode cX12_isKept 52 = .ok (.aload_n 0, 1) := by decide +kernel
theorem dX12_isKept_53 : decode cX12_isKept 53 = .ok (.getfield 63, 3) := by decide +kernel
theorem dX12_isKept_56 : decode cX12_isKept 56 = .ok (.bipush 29, 2) := by decide +kernel
theorem dX12_isKept_58 : decode cX12_isKept 58 = .ok (.dup2, 1) := by decide +kernel
theorem dX12_isKept_59 : decode cX12_isKept 59 = .ok (.iaload, 1) := by decide +kernel
theorem dX12_isKept_60 : decode cX12_isKept 60 = .ok (.iconst 1, 1) := by decide +kernel
theorem dX12_isKept_61 : decode cX12_isKept 61 = .ok (.iadd, 1) := by decide +kernel
theorem dX12_isKept_62 : decode cX12_isKept 62 = .ok (.iastore, 1) := by decide +kernel
theorem dX12_isKept_63 : decode cX12_isKept 63 = .ok (.bipush 30, 2) := by decide +kernel
theorem dX12_isKept_65 : decode cX12_isKept 65 = .ok (.iconst 3, 1) := by decide +kernel
theorem dX12_isKept_66 : decode cX12_isKept 66 = .ok (.aload_n 0, 1) := by decide +kernel
theorem dX12_isKept_67 : decode cX12_isKept 67 = .ok (.getfield 63, 3) := by decide +kernel
theorem dX12_isKept_70 : decode cX12_isKept 70 = .ok (.bipush 29, 2) := by decide +kernel
theorem dX12_isKept_72 : decode cX12_isKept 72 = .ok (.iaload, 1) := by decide +kernel
theorem dX12_isKept_73 : decode cX12_isKept 73 = .ok (.imul, 1) := by decide +kernel
theorem dX12_isKept_74 : decode cX12_isKept 74 = .ok (.iadd, 1) := by decide +kernel
theorem dX12_isKept_75 : decode cX12_isKept 75 = .ok (.iconst 3, 1) := by decide +kernel
theorem dX12_isKept_76 : decode cX12_isKept 76 = .ok (.isub, 1) := by decide +kernel
theorem dX12_isKept_77 : decode cX12_isKept 77 = .ok (.istore_n 1, 1) := by decide +kernel
theorem dX12_isKept_78 : decode cX12_isKept 78 = .ok (.aload_n 0, 1) := by decide +kernel
theorem dX12_isKept_79 : decode cX12_isKept 79 = .ok (.getfield 63, 3) := by decide +kernel
theorem dX12_isKept_82 : decode cX12_isKept 82 = .ok (.iload_n 1, 1) := by decide +kernel
theorem dX12_isKept_83 : decode cX12_isKept 83 = .ok (.aload_n 0, 1) := by decide +kernel
theorem dX12_isKept_84 : decode cX12_isKept 84 = .ok (.getfield 63, 3) := by decide +kernel
theorem dX12_isKept_87 : decode cX12_isKept 87 = .ok (.iconst 0, 1) := by decide +kernel
theorem dX12_isKept_88 : decode cX12_isKept 88 = .ok (.iaload, 1) := by decide +kernel
theorem dX12_isKept_89 : decode cX12_isKept 89 = .ok (.iastore, 1) := by decide +kernel
theorem dX12_isKept_90 : decode cX12_isKept 90 = .ok (.aload_n 0, 1) := by decide +kernel
theorem dX12_isKept_91 : decode cX12_isKept 91 = .ok (.getfield 63, 3) := by decide +kernel
theorem dX12_isKept_94 : decode cX12_isKept 94 = .ok (.iload_n 1, 1) := by decide +kernel
theorem dX12_isKept_95 : decode cX12_isKept 95 = .ok (.iconst 1, 1) := by decide +kernel
theorem dX12_isKept_96 : decode cX12_isKept 96 = .ok (.iadd, 1) := by decide +kernel
theorem dX12_isKept_97 : decode cX12_isKept 97 = .ok (.aload_n 0, 1) := by decide +kernel
theorem dX12_isKept_98 : decode cX12_isKept 98 = .ok (.getfield 382, 3) := by decide +kernel
theorem dX12_isKept_101 : decode cX12_isKept 101 = .ok (.l2i, 1) := by decide +kernel
theorem dX12_isKept_102 : decode cX12_isKept 102 = .ok (.iastore, 1) := by decide +kernel
theorem dX12_isKept_103 : decode cX12_isKept 103 = .ok (.aload_n 0, 1) := by decide +kernel
theorem dX12_isKept_104 : decode cX12_isKept 104 = .ok (.getfield 63, 3) := by decide +kernel
theorem dX12_isKept_107 : decode cX12_isKept 107 = .ok (.iload_n 1, 1) := by decide +kernel
theorem dX12_isKept_108 : decode cX12_isKept 108 = .ok (.iconst 2, 1) := by decide +kernel
theorem dX12_isKept_109 : decode cX12_isKept 109 = .ok (.iadd, 1) := by decide +kernel
theorem dX12_isKept_110 : decode cX12_isKept 110 = .ok (.aload_n 0, 1) := by decide +kernel
theorem dX12_isKept_111 : decode cX12_isKept 111 = .ok (.getfield 89, 3) := by decide +kernel
theorem dX12_isKept_114 : decode cX12_isKept 114 = .ok (.aload_n 0, 1) := by decide +kernel
theorem dX12_isKept_115 : decode cX12_isKept 115 = .ok (.invokevirtual 315, 3) := by decide +kernel
theorem dX12_isKept_118 : decode cX12_isKept 118 = .ok (.iconst 1, 1) := by decide +kernel
theorem dX12_isKept_119 : decode cX12_isKept 119 = .ok (.isub, 1) := by decide +kernel
theorem dX12_isKept_120 : decode cX12_isKept 120 = .ok (.iaload, 1) := by decide +kernel
theorem dX12_isKept_121 : decode cX12_isKept 121 = .ok (.iastore, 1) := by decide +kernel
theorem dX12_isKept_122 : decode cX12_isKept 122 = .ok (.return_, 1) := by decide +kernel
theorem dX12_isKept_20 : decode cX12_isKept 20 = .ok (.bipush 30, 2) := by decide +kernel
theorem dX12_isKept_22 : decode cX12_isKept 22 = .ok (.istore_n 1, 1) := by decide +kernel
theorem dX12_isKept_23 : decode cX12_isKept 23 = .ok (.iload_n 1, 1) := by decide +kernel
theorem dX12_isKept_24 : decode cX12_isKept 24 = .ok (.bipush 117, 2) := by decide +kernel
theorem dX12_isKept_26 : decode cX12_isKept 26 = .ok (.if_icmp .ge 23, 3) := by decide +kernel
theorem dX12_isKept_49 : decode cX12_isKept 49 = .ok (.goto 14, 3) := by decide +kernel
theorem dX12_isKept_29 : decode cX12_isKept 29 = .ok (.aload_n 0, 1) := by decide +kernel
theorem dX12_isKept_30 : decode cX12_isKept 30 = .ok (.getfield 63, 3) := by decide +kernel
theorem dX12_isKept_33 : decode cX12_isKept 33 = .ok (.iload_n 1, 1) := by decide +kernel
theorem dX12_isKept_34 : decode cX12_isKept 34 = .ok (.aload_n 0, 1) := by decide +kernel
theorem dX12_isKept_35 : decode cX12_isKept 35 = .ok (.getfield 63, 3) := by decide +kernel
theorem dX12_isKept_38 : decode cX12_isKept 38 = .ok (.iload_n 1, 1) := by decide +kernel
theorem dX12_isKept_39 : decode cX12_isKept 39 = .ok (.iconst 3, 1) := by decide +kernel
theorem dX12_isKept_40 : decode cX12_isKept 40 = .ok (.iadd, 1) := by decide +kernel
theorem dX12_isKept_41 : decode cX12_isKept 41 = .ok (.iaload, 1) := by decide +kernel
theorem dX12_isKept_42 : decode cX12_isKept 42 = .ok (.iastore, 1) := by decide +kernel
theorem dX12_isKept_43 : decode cX12_isKept 43 = .ok (.iinc 1 1, 3) := by decide +kernel
theorem dX12_isKept_46 : decode cX12_isKept 46 = .ok (.goto (-23), 3) := by decide +kernel
theorem dX12_isKept_7 : decode cX12_isKept 7 = .ok (.return_, 1) := by decide +kernel
theorem w_5_202 : (Cond.fieldLink RX12 391 "SameKeeperModel" "isThought" "Z") ∈ wsL_law := sk_mem (ck_5 _ (List.mem_of_getElem? (i := 202) rfl)) rfl
theorem w_8_24 : (Cond.code yX12_isKept cX12_isKept 2 none) ∈ wsL_law := sk_mem (ck_8 _ (List.mem_of_getElem? (i := 24) rfl)) rfl
set_option maxHeartbeats 4000000 in
set_option maxRecDepth 100000 in
theorem c_m_isKept (l : Launch) (D : va_G) (cI cJ cC cZ cS : ClassId) (mm : Nat) (g : Nat → Nat) (ta : Nat) (pa : Nat) (pe : Nat) (pd : Int32) (pb : Nat) (pp : Int32) (pf : Int32) (pg : Int32) (pn : Int32) (rt : Int32) (rn : Int32) (cd : Nat) (sn : Int32) (il : Nat) (tk : Int32) (am : Int32) (at_ : Int32) (aa : Int32) (mt_ : Int32) (wt : Int32) (wy : Int64) (it_ : Nat) (rm : Nat) (ud : Nat) (nu : Nat) (sd : Int64) (qn : Nat) (qw : Nat) (qo : Int32) (qb : Nat) (qp : Nat) (qa : Int64) (qi : Nat) (oc : Nat) (l0 : Nat) (l1 : Nat) (dm : Nat) (l3 : Nat) (nw : Nat → Int32) (pt : Nat → Nat) (hdm : dm ≤ 9) (hdm1 : 1 ≤ dm) (hit : it_ ≤ 1) (hnw : nowOk nw) (hpt : ∀ j, pt j ≤ 9) : skM l yX12_isKept cX12_isKept 2 none 1 20 0 0 D (skT cI cJ cC cZ cS) [.ref mm] [(mm, .inr (12, mo g (nI ta) (nI pa) (nI pe) pd (nI pb) pp pf pg pn rt rn (nI cd) sn (nI il) tk am at_ aa mt_ 0 (-1) wt wy (nI it_) (nI rm) (nI ud) (nI nu) sd (nI qn) (nI qw) qo (nI qb) (nI qp) qa (nI qi) (nI oc))), (g 20, .inl (cI, 4, .inl (l4 (nI l0) (nI l1) (nI dm) (nI l3)))), (g 31, .inl (cI, 120, .inl nw)), (g 46, .inl (cI, 9, .inl (fun j => nI (pt j))))] (skV D (skT cI cJ cC cZ cS) (fun (u : va_W) => ∃ (nw2 : Nat → Int32), nowOk nw2 ∧ u = [(mm, .inr (12, mo g (nI ta) (nI pa) (nI pe) pd (nI pb) pp pf pg pn rt rn (nI cd) sn (nI il) tk am at_ aa mt_ 0 (-1) wt wy (nI it_) (nI rm) (nI ud) (nI nu) sd (nI qn) (nI qw) qo (nI qb) (nI qp) qa (nI qi) (nI oc))), (g 20, .inl (cI, 4, .inl (l4 (nI l0) (nI l1) (nI dm) (nI l3)))), (g 31, .inl (cI, 120, .inl nw2)), (g 46, .inl (cI, 9, .inl (fun j => nI (pt j))))])) := by
  refine skM_of (by decide +kernel) (Nat.le_of_ble_eq_true rfl) ?_
  intro p e s m below meth c A ls E hP hD hl
  obtain ⟨hx, hb, hr, hml, hlocks, hin, hown, hts, hK, hA⟩ := E
  have hown : s.vm.findClass RX12 = some m.cls := hown
  have hS : va_S A s.heap s.heap [] := va_S.rf
  have hl : lv_has ls 2 [(0, .ref mm)] := hl
  refine lv_aload_n hx hb dX12_isKept_0 rfl (lv_at hl 0 rfl) ?_
  refine sk_get (v := .int (nI it_)) (C := RX12) (T := TX12) (N := 92) hx hb hts inlX12 hown hK hP 0 rfl rfl 47 (by decide) w_5_202 rfl dX12_isKept_1 ?_
  refine lv_if_eq (tgt := 8) hx hb dX12_isKept_4 (by decide) (fun c_1 => ?_) (fun c_1 => ?_)
  · have c_1 : it_ = 0 := (neq it_ 0 (by omega) (by omega)).mp c_1
    refine lv_aload_n hx hb dX12_isKept_8 rfl (lv_at hl 0 rfl) ?_
    refine sk_get (v := .ref (g 31)) (C := RX12) (T := TX12) (N := 92) hx hb hts inlX12 hown hK hP 0 rfl rfl 31 (by decide) w_5_186 rfl dX12_isKept_9 ?_
    refine lv_bipush (v := 29) hx hb dX12_isKept_12 (by decide) ?_
    refine va_iald hx hb hK.1 hP 2 0 rfl rfl (by unfold vp_in; decide) dX12_isKept_14 ?_
    obtain ⟨k_2, hk_2, ek_2⟩ := nowOk_29 hnw
    have hnE := nowE_of hnw ek_2
    refine sk_top (nI k_2) ek_2 ?_
    refine lv_bipush (v := 30) hx hb dX12_isKept_15 (by decide) ?_
    refine lv_icmp_ne (tgt := 52) hx hb dX12_isKept_17 (by decide) (fun c_3 => ?_) (fun c_3 => ?_)
    · have c_3 : ¬ (k_2 = 30) := fun h => c_3 ((neq k_2 30 (by omega) (by omega)).mpr h)
      refine lv_aload_n hx hb dX12_isKept_52 rfl (lv_at hl 0 rfl) ?_
      refine sk_get (v := .ref (g 31)) (C := RX12) (T := TX12) (N := 92) hx hb hts inlX12 hown hK hP 0 rfl rfl 31 (by decide) w_5_186 rfl dX12_isKept_53 ?_
      refine lv_bipush (v := 29) hx hb dX12_isKept_56 (by decide) ?_
      refine lv_dup2_11 hx hb dX12_isKept_58 rfl rfl ?_
      refine va_iald hx hb hK.1 hP 2 0 rfl rfl (by unfold vp_in; decide) dX12_isKept_59 ?_
      refine sk_top (nI k_2) (nowE_29 hnE) ?_
      refine lv_iconst (v := 1) hx hb dX12_isKept_60 (by decide) ?_
      refine lv_iadd hx hb dX12_isKept_61 ?_
      refine sk_top (nI (k_2 + 1)) (nI_add k_2 1) ?_
      refine sk_iastP (Pr := (nowE (k_2 + 1))) (ws' := fun f_4 => [(mm, .inr (12, mo g (nI ta) (nI pa) (nI pe) pd (nI pb) pp pf pg pn rt rn (nI cd) sn (nI il) tk am at_ aa mt_ 0 (-1) wt wy (nI it_) (nI rm) (nI ud) (nI nu) sd (nI qn) (nI qw) qo (nI qb) (nI qp) qa (nI qi) (nI oc))), (g 20, .inl (cI, 4, .inl (l4 (nI l0) (nI l1) (nI dm) (nI l3)))), (g 31, .inl (cI, 120, .inl f_4)), (g 46, .inl (cI, 9, .inl (fun j => nI (pt j))))]) hx hb hK hP hD hS 2 0 rfl rfl (by unfold vp_in; decide) (fun _ => rfl) (nowE_s29 hnE (k_2 + 1) (by omega)) dX12_isKept_62 (fun f_4 H locs hf_5 hP hD hS => ?_)
      refine lv_bipush (v := 30) hx hb dX12_isKept_63 (by decide) ?_
      refine lv_iconst (v := 3) hx hb dX12_isKept_65 (by decide) ?_
      refine lv_aload_n hx hb dX12_isKept_66 rfl (lv_at hl 0 rfl) ?_
      refine sk_get (v := .ref (g 31)) (C := RX12) (T := TX12) (N := 92) hx hb hts inlX12 hown hK hP 0 rfl rfl 31 (by decide) w_5_186 rfl dX12_isKept_67 ?_
      refine lv_bipush (v := 29) hx hb dX12_isKept_70 (by decide) ?_
      refine va_iald hx hb hK.1 hP 2 0 rfl rfl (by unfold vp_in; decide) dX12_isKept_72 ?_
      refine sk_top (nI (k_2 + 1)) (nowE_29 hf_5) ?_
      refine lv_imul hx hb dX12_isKept_73 ?_
      refine sk_top (nI (3 * (k_2 + 1))) (nmul 3 (k_2 + 1)) ?_
      refine lv_iadd hx hb dX12_isKept_74 ?_
      refine sk_top (nI (30 + (3 * (k_2 + 1)))) (nI_add 30 (3 * (k_2 + 1))) ?_
      refine lv_iconst (v := 3) hx hb dX12_isKept_75 (by decide) ?_
      refine lv_isub hx hb dX12_isKept_76 ?_
      refine sk_top (nI (30 + (3 * (k_2 + 1)) - 3)) (nsub (30 + (3 * (k_2 + 1))) 3 (by omega)) ?_
      refine lv_istore_n (lv' := [(1, .int (nI (30 + (3 * (k_2 + 1)) - 3))), (0, .ref mm)]) hx hb dX12_isKept_77 rfl hl (by decide) rfl (fun ls hl => ?_)
      refine lv_aload_n hx hb dX12_isKept_78 rfl (lv_at hl 1 rfl) ?_
      refine sk_get (v := .ref (g 31)) (C := RX12) (T := TX12) (N := 92) hx hb hts inlX12 hown hK hP 0 rfl rfl 31 (by decide) w_5_186 rfl dX12_isKept_79 ?_
      refine lv_iload_n hx hb dX12_isKept_82 rfl (lv_at hl 0 rfl) ?_
      refine lv_aload_n hx hb dX12_isKept_83 rfl (lv_at hl 1 rfl) ?_
      refine sk_get (v := .ref (g 31)) (C := RX12) (T := TX12) (N := 92) hx hb hts inlX12 hown hK hP 0 rfl rfl 31 (by decide) w_5_186 rfl dX12_isKept_84 ?_
      refine lv_iconst (v := 0) hx hb dX12_isKept_87 (by decide) ?_
      refine va_iald hx hb hK.1 hP 2 0 rfl rfl (by unfold vp_in; decide) dX12_isKept_88 ?_
      refine lv_topi (fun v_6 ev_6 => ?_)
      refine sk_iastP (Pr := (nowE (k_2 + 1))) (ws' := fun f_7 => [(mm, .inr (12, mo g (nI ta) (nI pa) (nI pe) pd (nI pb) pp pf pg pn rt rn (nI cd) sn (nI il) tk am at_ aa mt_ 0 (-1) wt wy (nI it_) (nI rm) (nI ud) (nI nu) sd (nI qn) (nI qw) qo (nI qb) (nI qp) qa (nI qi) (nI oc))), (g 20, .inl (cI, 4, .inl (l4 (nI l0) (nI l1) (nI dm) (nI l3)))), (g 31, .inl (cI, 120, .inl f_7)), (g 46, .inl (cI, 9, .inl (fun j => nI (pt j))))]) hx hb hK hP hD hS 2 0 rfl rfl (vin (30 + (3 * (k_2 + 1)) - 3) 120 (by omega) (by omega)) (fun _ => rfl) (nowE_ne hf_5 (30 + (3 * (k_2 + 1)) - 3) _ (by omega) (by omega) (by omega)) dX12_isKept_89 (fun f_7 H locs hf_8 hP hD hS => ?_)
      refine lv_aload_n hx hb dX12_isKept_90 rfl (lv_at hl 1 rfl) ?_
      refine sk_get (v := .ref (g 31)) (C := RX12) (T := TX12) (N := 92) hx hb hts inlX12 hown hK hP 0 rfl rfl 31 (by decide) w_5_186 rfl dX12_isKept_91 ?_
      refine lv_iload_n hx hb dX12_isKept_94 rfl (lv_at hl 0 rfl) ?_
      refine lv_iconst (v := 1) hx hb dX12_isKept_95 (by decide) ?_
      refine lv_iadd hx hb dX12_isKept_96 ?_
      refine sk_top (nI (30 + (3 * (k_2 + 1)) - 3 + 1)) (nI_add (30 + (3 * (k_2 + 1)) - 3) 1) ?_
      refine lv_aload_n hx hb dX12_isKept_97 rfl (lv_at hl 1 rfl) ?_
      refine sk_get (v := .long wy) (C := RX12) (T := TX12) (N := 92) hx hb hts inlX12 hown hK hP 0 rfl rfl 45 (by decide) w_5_200 rfl dX12_isKept_98 ?_
      refine lv_l2i hx hb dX12_isKept_101 rfl ?_
      refine lv_topi (fun v_9 ev_9 => ?_)
      refine sk_iastP (Pr := (nowE (k_2 + 1))) (ws' := fun f_10 => [(mm, .inr (12, mo g (nI ta) (nI pa) (nI pe) pd (nI pb) pp pf pg pn rt rn (nI cd) sn (nI il) tk am at_ aa mt_ 0 (-1) wt wy (nI it_) (nI rm) (nI ud) (nI nu) sd (nI qn) (nI qw) qo (nI qb) (nI qp) qa (nI qi) (nI oc))), (g 20, .inl (cI, 4, .inl (l4 (nI l0) (nI l1) (nI dm) (nI l3)))), (g 31, .inl (cI, 120, .inl f_10)), (g 46, .inl (cI, 9, .inl (fun j => nI (pt j))))]) hx hb hK hP hD hS 2 0 rfl rfl (vin (30 + (3 * (k_2 + 1)) - 3 + 1) 120 (by omega) (by omega)) (fun _ => rfl) (nowE_ne hf_8 (30 + (3 * (k_2 + 1)) - 3 + 1) _ (by omega) (by omega) (by omega)) dX12_isKept_102 (fun f_10 H locs hf_11 hP hD hS => ?_)
      refine lv_aload_n hx hb dX12_isKept_103 rfl (lv_at hl 1 rfl) ?_
      refine sk_get (v := .ref (g 31)) (C := RX12) (T := TX12) (N := 92) hx hb hts inlX12 hown hK hP 0 rfl rfl 31 (by decide) w_5_186 rfl dX12_isKept_104 ?_
      refine lv_iload_n hx hb dX12_isKept_107 rfl (lv_at hl 0 rfl) ?_
      refine lv_iconst (v := 2) hx hb dX12_isKept_108 (by decide) ?_
      refine lv_iadd hx hb dX12_isKept_109 ?_
      refine sk_top (nI (30 + (3 * (k_2 + 1)) - 3 + 2)) (nI_add (30 + (3 * (k_2 + 1)) - 3) 2) ?_
      refine lv_aload_n hx hb dX12_isKept_110 rfl (lv_at hl 1 rfl) ?_
      refine sk_get (v := .ref (g 46)) (C := RX12) (T := TX12) (N := 92) hx hb hts inlX12 hown hK hP 0 rfl rfl 46 (by decide) w_5_201 rfl dX12_isKept_111 ?_
      refine lv_aload_n hx hb dX12_isKept_114 rfl (lv_at hl 1 rfl) ?_
      refine sk_Vi (q0 := 0) (n := 0) (rest := [.ref (g 46), .int (nI (30 + (3 * (k_2 + 1)) - 3 + 2)), .ref (g 31)]) (wr := [(g 31, .inl (cI, 120, .inl f_10)), (g 46, .inl (cI, 9, .inl (fun j => nI (pt j))))]) ⟨hx, hb, hml, hown, hts⟩ hl.1 (c_m_dayMany l D cI cJ cC cZ cS mm g ta pa pe pd pb pp pf pg pn rt rn cd sn il tk am at_ aa mt_ 0 (-1) wt wy it_ rm ud nu sd qn qw qo qb qp qa qi oc l0 l1 dm l3) w_7_98 w_7_100 w_0_69 w_1_14 w_7_101 (by decide +kernel) ⟨⟨(Nat.le_of_ble_eq_true rfl), (Nat.le_of_ble_eq_true rfl)⟩, (Nat.le_of_ble_eq_true rfl), (Nat.le_of_ble_eq_true rfl)⟩ hK hP hD hS hA [0, 1] [2, 3] rfl rfl (by decide +kernel) (by decide +kernel) (by decide +kernel) rfl rfl rfl rfl (Nat.le_of_ble_eq_true rfl) dX12_isKept_115 (fun r_12 u H locs hw hP hD hS => ?_)
      obtain ⟨rfl, rfl⟩ := hw
      have hP : va_P D vwCl [(g 31, .inl (cI, 120, .inl f_10)), (g 46, .inl (cI, 9, .inl (fun j => nI (pt j)))), (mm, .inr (12, mo g (nI ta) (nI pa) (nI pe) pd (nI pb) pp pf pg pn rt rn (nI cd) sn (nI il) tk am at_ aa mt_ 0 (-1) wt wy (nI it_) (nI rm) (nI ud) (nI nu) sd (nI qn) (nI qw) qo (nI qb) (nI qp) qa (nI qi) (nI oc))), (g 20, .inl (cI, 4, .inl (l4 (nI l0) (nI l1) (nI dm) (nI l3))))] H := hP
      have hD : va_D A [(g 31, .inl (cI, 120, .inl f_10)), (g 46, .inl (cI, 9, .inl (fun j => nI (pt j)))), (mm, .inr (12, mo g (nI ta) (nI pa) (nI pe) pd (nI pb) pp pf pg pn rt rn (nI cd) sn (nI il) tk am at_ aa mt_ 0 (-1) wt wy (nI it_) (nI rm) (nI ud) (nI nu) sd (nI qn) (nI qw) qo (nI qb) (nI qp) qa (nI qi) (nI oc))), (g 20, .inl (cI, 4, .inl (l4 (nI l0) (nI l1) (nI dm) (nI l3))))] := hD
      refine lv_iconst (v := 1) hx hb dX12_isKept_118 (by decide) ?_
      refine lv_isub hx hb dX12_isKept_119 ?_
      refine sk_top (nI (dm - 1)) (nsub dm 1 (by omega)) ?_
      refine va_iald hx hb hK.1 hP 1 0 rfl rfl (vin (dm - 1) 9 (by omega) (by omega)) dX12_isKept_120 ?_
      refine sk_top (nI (pt (dm - 1))) (nrd pt (dm - 1) (by omega)) ?_
      have hb_13 := hpt (dm - 1)
      refine sk_iastP (Pr := (nowE (k_2 + 1))) (ws' := fun f_14 => [(g 31, .inl (cI, 120, .inl f_14)), (g 46, .inl (cI, 9, .inl (fun j => nI (pt j)))), (mm, .inr (12, mo g (nI ta) (nI pa) (nI pe) pd (nI pb) pp pf pg pn rt rn (nI cd) sn (nI il) tk am at_ aa mt_ 0 (-1) wt wy (nI it_) (nI rm) (nI ud) (nI nu) sd (nI qn) (nI qw) qo (nI qb) (nI qp) qa (nI qi) (nI oc))), (g 20, .inl (cI, 4, .inl (l4 (nI l0) (nI l1) (nI dm) (nI l3))))]) hx hb hK hP hD hS 0 0 rfl rfl (vin (30 + (3 * (k_2 + 1)) - 3 + 2) 120 (by omega) (by omega)) (fun _ => rfl) (nowE_ne hf_11 (30 + (3 * (k_2 + 1)) - 3 + 2) _ (by omega) (by omega) (by omega)) dX12_isKept_121 (fun f_14 H locs hf_15 hP hD hS => ?_)
      have hP := hP.sub (ws' := [(mm, .inr (12, mo g (nI ta) (nI pa) (nI pe) pd (nI pb) pp pf pg pn rt rn (nI cd) sn (nI il) tk am at_ aa mt_ 0 (-1) wt wy (nI it_) (nI rm) (nI ud) (nI nu) sd (nI qn) (nI qw) qo (nI qb) (nI qp) qa (nI qi) (nI oc))), (g 20, .inl (cI, 4, .inl (l4 (nI l0) (nI l1) (nI dm) (nI l3)))), (g 31, .inl (cI, 120, .inl f_14)), (g 46, .inl (cI, 9, .inl (fun j => nI (pt j))))]) [2, 3, 0, 1] rfl
      have hD := hD.sub (ws' := [(mm, .inr (12, mo g (nI ta) (nI pa) (nI pe) pd (nI pb) pp pf pg pn rt rn (nI cd) sn (nI il) tk am at_ aa mt_ 0 (-1) wt wy (nI it_) (nI rm) (nI ud) (nI nu) sd (nI qn) (nI qw) qo (nI qb) (nI qp) qa (nI qi) (nI oc))), (g 20, .inl (cI, 4, .inl (l4 (nI l0) (nI l1) (nI dm) (nI l3)))), (g 31, .inl (cI, 120, .inl f_14)), (g 46, .inl (cI, 9, .inl (fun j => nI (pt j))))]) [2, 3, 0, 1] (by decide +kernel) rfl
      exact sk_vret hx hb hr hlocks hK hP hD hS (⟨f_14, (hf_15).1, rfl⟩) (Nat.le_of_ble_eq_true rfl) (Nat.le_of_ble_eq_true rfl) dX12_isKept_122
    · have c_3 : k_2 = 30 := (neq k_2 30 (by omega) (by omega)).mp c_3
      refine lv_bipush (v := 30) hx hb dX12_isKept_20 (by decide) ?_
      refine lv_istore_n (lv' := [(1, .int 30), (0, .ref mm)]) hx hb dX12_isKept_22 rfl hl (by decide) rfl (fun ls hl => ?_)
      have lp_16 : ∀ (n_17 : Nat) (i : Nat) (zn : Nat → Int32) (H : Heap) (locs : List Loc) (ls : Array Slot), 117 - i < n_17 → (nowE k_2 zn) → (i ≤ 117) → (30 ≤ i) → va_P D vwCl [(mm, .inr (12, mo g (nI ta) (nI pa) (nI pe) pd (nI pb) pp pf pg pn rt rn (nI cd) sn (nI il) tk am at_ aa mt_ 0 (-1) wt wy (nI it_) (nI rm) (nI ud) (nI nu) sd (nI qn) (nI qw) qo (nI qb) (nI qp) qa (nI qi) (nI oc))), (g 20, .inl (cI, 4, .inl (l4 (nI l0) (nI l1) (nI dm) (nI l3)))), (g 31, .inl (cI, 120, .inl zn)), (g 46, .inl (cI, 9, .inl (fun j => nI (pt j))))] H → va_D A [(mm, .inr (12, mo g (nI ta) (nI pa) (nI pe) pd (nI pb) pp pf pg pn rt rn (nI cd) sn (nI il) tk am at_ aa mt_ 0 (-1) wt wy (nI it_) (nI rm) (nI ud) (nI nu) sd (nI qn) (nI qw) qo (nI qb) (nI qp) qa (nI qi) (nI oc))), (g 20, .inl (cI, 4, .inl (l4 (nI l0) (nI l1) (nI dm) (nI l3)))), (g 31, .inl (cI, 120, .inl zn)), (g 46, .inl (cI, 9, .inl (fun j => nI (pt j))))] → va_S A s.heap H locs → lv_has ls 2 [(1, .int (nI i)), (0, .ref mm)] → W p l e { frames := 1, cells := 0, slots := 0, locals := 20 } s m ([.ref mm] : List Value).toArray below meth c H locs 0 0 (MQ below (skV D (skT cI cJ cC cZ cS) (fun (u : va_W) => ∃ (nw2 : Nat → Int32), nowOk nw2 ∧ u = [(mm, .inr (12, mo g (nI ta) (nI pa) (nI pe) pd (nI pb) pp pf pg pn rt rn (nI cd) sn (nI il) tk am at_ aa mt_ 0 (-1) wt wy (nI it_) (nI rm) (nI ud) (nI nu) sd (nI qn) (nI qw) qo (nI qb) (nI qp) qa (nI qi) (nI oc))), (g 20, .inl (cI, 4, .inl (l4 (nI l0) (nI l1) (nI dm) (nI l3)))), (g 31, .inl (cI, 120, .inl nw2)), (g 46, .inl (cI, 9, .inl (fun j => nI (pt j))))]) A) ([.ref mm] : List Value).toArray s 0 0 A) (F0 m 23 ls []) := by
        intro n_17
        induction n_17 with
        | zero => intro i zn H locs ls hm; exact absurd hm (Nat.not_lt_zero _)
        | succ n_17 ih_lp_16 =>
          intro i zn H locs ls hm hzn hi hi0 hP hD hS hl
          refine lv_iload_n hx hb dX12_isKept_23 rfl (lv_at hl 0 rfl) ?_
          refine lv_bipush (v := 117) hx hb dX12_isKept_24 (by decide) ?_
          refine lv_icmp_ge (tgt := 49) hx hb dX12_isKept_26 (by decide) (fun c_18 => ?_) (fun c_18 => ?_)
          · have c_18 : 117 ≤ i := (nle 117 i (by omega) (by omega)).mp c_18
            refine lv_goto (tgt := 63) hx hb dX12_isKept_49 (by decide) ?_
            refine lv_bipush (v := 30) hx hb dX12_isKept_63 (by decide) ?_
            refine lv_iconst (v := 3) hx hb dX12_isKept_65 (by decide) ?_
            refine lv_aload_n hx hb dX12_isKept_66 rfl (lv_at hl 1 rfl) ?_
            refine sk_get (v := .ref (g 31)) (C := RX12) (T := TX12) (N := 92) hx hb hts inlX12 hown hK hP 0 rfl rfl 31 (by decide) w_5_186 rfl dX12_isKept_67 ?_
            refine lv_bipush (v := 29) hx hb dX12_isKept_70 (by decide) ?_
            refine va_iald hx hb hK.1 hP 2 0 rfl rfl (by unfold vp_in; decide) dX12_isKept_72 ?_
            refine sk_top (nI k_2) (nowE_29 hzn) ?_
            refine lv_imul hx hb dX12_isKept_73 ?_
            refine sk_top (nI (3 * k_2)) (nmul 3 k_2) ?_
            refine lv_iadd hx hb dX12_isKept_74 ?_
            refine sk_top (nI (30 + (3 * k_2))) (nI_add 30 (3 * k_2)) ?_
            refine lv_iconst (v := 3) hx hb dX12_isKept_75 (by decide) ?_
            refine lv_isub hx hb dX12_isKept_76 ?_
            refine sk_top (nI (30 + (3 * k_2) - 3)) (nsub (30 + (3 * k_2)) 3 (by omega)) ?_
            refine lv_istore_n (lv' := [(1, .int (nI (30 + (3 * k_2) - 3))), (0, .ref mm)]) hx hb dX12_isKept_77 rfl hl (by decide) rfl (fun ls hl => ?_)
            refine lv_aload_n hx hb dX12_isKept_78 rfl (lv_at hl 1 rfl) ?_
            refine sk_get (v := .ref (g 31)) (C := RX12) (T := TX12) (N := 92) hx hb hts inlX12 hown hK hP 0 rfl rfl 31 (by decide) w_5_186 rfl dX12_isKept_79 ?_
            refine lv_iload_n hx hb dX12_isKept_82 rfl (lv_at hl 0 rfl) ?_
            refine lv_aload_n hx hb dX12_isKept_83 rfl (lv_at hl 1 rfl) ?_
            refine sk_get (v := .ref (g 31)) (C := RX12) (T := TX12) (N := 92) hx hb hts inlX12 hown hK hP 0 rfl rfl 31 (by decide) w_5_186 rfl dX12_isKept_84 ?_
            refine lv_iconst (v := 0) hx hb dX12_isKept_87 (by decide) ?_
            refine va_iald hx hb hK.1 hP 2 0 rfl rfl (by unfold vp_in; decide) dX12_isKept_88 ?_
            refine lv_topi (fun v_19 ev_19 => ?_)
            refine sk_iastP (Pr := (nowE k_2)) (ws' := fun f_20 => [(mm, .inr (12, mo g (nI ta) (nI pa) (nI pe) pd (nI pb) pp pf pg pn rt rn (nI cd) sn (nI il) tk am at_ aa mt_ 0 (-1) wt wy (nI it_) (nI rm) (nI ud) (nI nu) sd (nI qn) (nI qw) qo (nI qb) (nI qp) qa (nI qi) (nI oc))), (g 20, .inl (cI, 4, .inl (l4 (nI l0) (nI l1) (nI dm) (nI l3)))), (g 31, .inl (cI, 120, .inl f_20)), (g 46, .inl (cI, 9, .inl (fun j => nI (pt j))))]) hx hb hK hP hD hS 2 0 rfl rfl (vin (30 + (3 * k_2) - 3) 120 (by omega) (by omega)) (fun _ => rfl) (nowE_ne hzn (30 + (3 * k_2) - 3) _ (by omega) (by omega) (by omega)) dX12_isKept_89 (fun f_20 H locs hf_21 hP hD hS => ?_)
            refine lv_aload_n hx hb dX12_isKept_90 rfl (lv_at hl 1 rfl) ?_
            refine sk_get (v := .ref (g 31)) (C := RX12) (T := TX12) (N := 92) hx hb hts inlX12 hown hK hP 0 rfl rfl 31 (by decide) w_5_186 rfl dX12_isKept_91 ?_
            refine lv_iload_n hx hb dX12_isKept_94 rfl (lv_at hl 0 rfl) ?_
            refine lv_iconst (v := 1) hx hb dX12_isKept_95 (by decide) ?_
            refine lv_iadd hx hb dX12_isKept_96 ?_
            refine sk_top (nI (30 + (3 * k_2) - 3 + 1)) (nI_add (30 + (3 * k_2) - 3) 1) ?_
            refine lv_aload_n hx hb dX12_isKept_97 rfl (lv_at hl 1 rfl) ?_
            refine sk_get (v := .long wy) (C := RX12) (T := TX12) (N := 92) hx hb hts inlX12 hown hK hP 0 rfl rfl 45 (by decide) w_5_200 rfl dX12_isKept_98 ?_
            refine lv_l2i hx hb dX12_isKept_101 rfl ?_
            refine lv_topi (fun v_22 ev_22 => ?_)
            refine sk_iastP (Pr := (nowE k_2)) (ws' := fun f_23 => [(mm, .inr (12, mo g (nI ta) (nI pa) (nI pe) pd (nI pb) pp pf pg pn rt rn (nI cd) sn (nI il) tk am at_ aa mt_ 0 (-1) wt wy (nI it_) (nI rm) (nI ud) (nI nu) sd (nI qn) (nI qw) qo (nI qb) (nI qp) qa (nI qi) (nI oc))), (g 20, .inl (cI, 4, .inl (l4 (nI l0) (nI l1) (nI dm) (nI l3)))), (g 31, .inl (cI, 120, .inl f_23)), (g 46, .inl (cI, 9, .inl (fun j => nI (pt j))))]) hx hb hK hP hD hS 2 0 rfl rfl (vin (30 + (3 * k_2) - 3 + 1) 120 (by omega) (by omega)) (fun _ => rfl) (nowE_ne hf_21 (30 + (3 * k_2) - 3 + 1) _ (by omega) (by omega) (by omega)) dX12_isKept_102 (fun f_23 H locs hf_24 hP hD hS => ?_)
            refine lv_aload_n hx hb dX12_isKept_103 rfl (lv_at hl 1 rfl) ?_
            refine sk_get (v := .ref (g 31)) (C := RX12) (T := TX12) (N := 92) hx hb hts inlX12 hown hK hP 0 rfl rfl 31 (by decide) w_5_186 rfl dX12_isKept_104 ?_
            refine lv_iload_n hx hb dX12_isKept_107 rfl (lv_at hl 0 rfl) ?_
            refine lv_iconst (v := 2) hx hb dX12_isKept_108 (by decide) ?_
            refine lv_iadd hx hb dX12_isKept_109 ?_
            refine sk_top (nI (30 + (3 * k_2) - 3 + 2)) (nI_add (30 + (3 * k_2) - 3) 2) ?_
            refine lv_aload_n hx hb dX12_isKept_110 rfl (lv_at hl 1 rfl) ?_
            refine sk_get (v := .ref (g 46)) (C := RX12) (T := TX12) (N := 92) hx hb hts inlX12 hown hK hP 0 rfl rfl 46 (by decide) w_5_201 rfl dX12_isKept_111 ?_
            refine lv_aload_n hx hb dX12_isKept_114 rfl (lv_at hl 1 rfl) ?_
            refine sk_Vi (q0 := 0) (n := 0) (rest := [.ref (g 46), .int (nI (30 + (3 * k_2) - 3 + 2)), .ref (g 31)]) (wr := [(g 31, .inl (cI, 120, .inl f_23)), (g 46, .inl (cI, 9, .inl (fun j => nI (pt j))))]) ⟨hx, hb, hml, hown, hts⟩ hl.1 (c_m_dayMany l D cI cJ cC cZ cS mm g ta pa pe pd pb pp pf pg pn rt rn cd sn il tk am at_ aa mt_ 0 (-1) wt wy it_ rm ud nu sd qn qw qo qb qp qa qi oc l0 l1 dm l3) w_7_98 w_7_100 w_0_69 w_1_14 w_7_101 (by decide +kernel) ⟨⟨(Nat.le_of_ble_eq_true rfl), (Nat.le_of_ble_eq_true rfl)⟩, (Nat.le_of_ble_eq_true rfl), (Nat.le_of_ble_eq_true rfl)⟩ hK hP hD hS hA [0, 1] [2, 3] rfl rfl (by decide +kernel) (by decide +kernel) (by decide +kernel) rfl rfl rfl rfl (Nat.le_of_ble_eq_true rfl) dX12_isKept_115 (fun r_25 u H locs hw hP hD hS => ?_)
            obtain ⟨rfl, rfl⟩ := hw
            have hP : va_P D vwCl [(g 31, .inl (cI, 120, .inl f_23)), (g 46, .inl (cI, 9, .inl (fun j => nI (pt j)))), (mm, .inr (12, mo g (nI ta) (nI pa) (nI pe) pd (nI pb) pp pf pg pn rt rn (nI cd) sn (nI il) tk am at_ aa mt_ 0 (-1) wt wy (nI it_) (nI rm) (nI ud) (nI nu) sd (nI qn) (nI qw) qo (nI qb) (nI qp) qa (nI qi) (nI oc))), (g 20, .inl (cI, 4, .inl (l4 (nI l0) (nI l1) (nI dm) (nI l3))))] H := hP
            have hD : va_D A [(g 31, .inl (cI, 120, .inl f_23)), (g 46, .inl (cI, 9, .inl (fun j => nI (pt j)))), (mm, .inr (12, mo g (nI ta) (nI pa) (nI pe) pd (nI pb) pp pf pg pn rt rn (nI cd) sn (nI il) tk am at_ aa mt_ 0 (-1) wt wy (nI it_) (nI rm) (nI ud) (nI nu) sd (nI qn) (nI qw) qo (nI qb) (nI qp) qa (nI qi) (nI oc))), (g 20, .inl (cI, 4, .inl (l4 (nI l0) (nI l1) (nI dm) (nI l3))))] := hD
            refine lv_iconst (v := 1) hx hb dX12_isKept_118 (by decide) ?_
            refine lv_isub hx hb dX12_isKept_119 ?_
            refine sk_top (nI (dm - 1)) (nsub dm 1 (by omega)) ?_
            refine va_iald hx hb hK.1 hP 1 0 rfl rfl (vin (dm - 1) 9 (by omega) (by omega)) dX12_isKept_120 ?_
            refine sk_top (nI (pt (dm - 1))) (nrd pt (dm - 1) (by omega)) ?_
            have hb_26 := hpt (dm - 1)
            refine sk_iastP (Pr := (nowE k_2)) (ws' := fun f_27 => [(g 31, .inl (cI, 120, .inl f_27)), (g 46, .inl (cI, 9, .inl (fun j => nI (pt j)))), (mm, .inr (12, mo g (nI ta) (nI pa) (nI pe) pd (nI pb) pp pf pg pn rt rn (nI cd) sn (nI il) tk am at_ aa mt_ 0 (-1) wt wy (nI it_) (nI rm) (nI ud) (nI nu) sd (nI qn) (nI qw) qo (nI qb) (nI qp) qa (nI qi) (nI oc))), (g 20, .inl (cI, 4, .inl (l4 (nI l0) (nI l1) (nI dm) (nI l3))))]) hx hb hK hP hD hS 0 0 rfl rfl (vin (30 + (3 * k_2) - 3 + 2) 120 (by omega) (by omega)) (fun _ => rfl) (nowE_ne hf_24 (30 + (3 * k_2) - 3 + 2) _ (by omega) (by omega) (by omega)) dX12_isKept_121 (fun f_27 H locs hf_28 hP hD hS => ?_)
            have hP := hP.sub (ws' := [(mm, .inr (12, mo g (nI ta) (nI pa) (nI pe) pd (nI pb) pp pf pg pn rt rn (nI cd) sn (nI il) tk am at_ aa mt_ 0 (-1) wt wy (nI it_) (nI rm) (nI ud) (nI nu) sd (nI qn) (nI qw) qo (nI qb) (nI qp) qa (nI qi) (nI oc))), (g 20, .inl (cI, 4, .inl (l4 (nI l0) (nI l1) (nI dm) (nI l3)))), (g 31, .inl (cI, 120, .inl f_27)), (g 46, .inl (cI, 9, .inl (fun j => nI (pt j))))]) [2, 3, 0, 1] rfl
            have hD := hD.sub (ws' := [(mm, .inr (12, mo g (nI ta) (nI pa) (nI pe) pd (nI pb) pp pf pg pn rt rn (nI cd) sn (nI il) tk am at_ aa mt_ 0 (-1) wt wy (nI it_) (nI rm) (nI ud) (nI nu) sd (nI qn) (nI qw) qo (nI qb) (nI qp) qa (nI qi) (nI oc))), (g 20, .inl (cI, 4, .inl (l4 (nI l0) (nI l1) (nI dm) (nI l3)))), (g 31, .inl (cI, 120, .inl f_27)), (g 46, .inl (cI, 9, .inl (fun j => nI (pt j))))]) [2, 3, 0, 1] (by decide +kernel) rfl
            exact sk_vret hx hb hr hlocks hK hP hD hS (⟨f_27, (hf_28).1, rfl⟩) (Nat.le_of_ble_eq_true rfl) (Nat.le_of_ble_eq_true rfl) dX12_isKept_122
          · have c_18 : ¬ (117 ≤ i) := fun h => c_18 ((nle 117 i (by omega) (by omega)).mpr h)
            refine lv_aload_n hx hb dX12_isKept_29 rfl (lv_at hl 1 rfl) ?_
            refine sk_get (v := .ref (g 31)) (C := RX12) (T := TX12) (N := 92) hx hb hts inlX12 hown hK hP 0 rfl rfl 31 (by decide) w_5_186 rfl dX12_isKept_30 ?_
            refine lv_iload_n hx hb dX12_isKept_33 rfl (lv_at hl 0 rfl) ?_
            refine lv_aload_n hx hb dX12_isKept_34 rfl (lv_at hl 1 rfl) ?_
            refine sk_get (v := .ref (g 31)) (C := RX12) (T := TX12) (N := 92) hx hb hts inlX12 hown hK hP 0 rfl rfl 31 (by decide) w_5_186 rfl dX12_isKept_35 ?_
            refine lv_iload_n hx hb dX12_isKept_38 rfl (lv_at hl 0 rfl) ?_
            refine lv_iconst (v := 3) hx hb dX12_isKept_39 (by decide) ?_
            refine lv_iadd hx hb dX12_isKept_40 ?_
            refine sk_top (nI (i + 3)) (nI_add i 3) ?_
            refine va_iald hx hb hK.1 hP 2 0 rfl rfl (vin (i + 3) 120 (by omega) (by omega)) dX12_isKept_41 ?_
            refine lv_topi (fun v_29 ev_29 => ?_)
            refine sk_iastP (Pr := (nowE k_2)) (ws' := fun f_30 => [(mm, .inr (12, mo g (nI ta) (nI pa) (nI pe) pd (nI pb) pp pf pg pn rt rn (nI cd) sn (nI il) tk am at_ aa mt_ 0 (-1) wt wy (nI it_) (nI rm) (nI ud) (nI nu) sd (nI qn) (nI qw) qo (nI qb) (nI qp) qa (nI qi) (nI oc))), (g 20, .inl (cI, 4, .inl (l4 (nI l0) (nI l1) (nI dm) (nI l3)))), (g 31, .inl (cI, 120, .inl f_30)), (g 46, .inl (cI, 9, .inl (fun j => nI (pt j))))]) hx hb hK hP hD hS 2 0 rfl rfl (vin i 120 (by omega) (by omega)) (fun _ => rfl) (nowE_ne hzn i _ (by omega) (by omega) (by omega)) dX12_isKept_42 (fun f_30 H locs hf_31 hP hD hS => ?_)
            refine lv_iinc (v := nI (i + 1)) (lv' := [(1, .int (nI (i + 1))), (0, .ref mm)]) hx hb dX12_isKept_43 hl (k := 0) rfl (ninc i 1 (by decide)) (by decide) rfl (fun ls hl => ?_)
            refine lv_goto (tgt := 23) hx hb dX12_isKept_46 (by decide) ?_
            exact ih_lp_16 (i + 1) f_30 _ _ _ (by omega) hf_31 (by omega) (by omega) hP hD hS (lv_sub hl [0, 1] rfl)
      exact lp_16 (117 - 30 + 1) 30 nw _ _ _ (Nat.lt_succ_self _) hnE (by omega) (by omega) hP hD hS (lv_sub hl [0, 1] rfl)
  · have c_1 : ¬ (it_ = 0) := fun h => c_1 ((neq it_ 0 (by omega) (by omega)).mpr h)
    exact sk_vret hx hb hr hlocks hK hP hD hS (⟨nw, hnw, rfl⟩) (Nat.le_of_ble_eq_true rfl) (Nat.le_of_ble_eq_true rfl) dX12_isKept_7
theorem dX12_goesBy_0 : decode cX12_goesBy 0 = .ok (.aload_n 0, 1) := by decide +kernel
theorem dX12_goesBy_1 : decode cX12_goesBy 1 = .ok (.lload_n 1, 1) := by decide +kernel
theorem dX12_goesBy_2 : decode cX12_goesBy 2 = .ok (.invokevirtual 394, 3) := by decide +kernel
theorem dX12_goesBy_5 : decode cX12_goesBy 5 = .ok (.aload_n 0, 1) := by decide +kernel
theorem dX12_goesBy_6 : decode cX12_goesBy 6 = .ok (.invokevirtual 397, 3) := by decide +kernel
theorem dX12_goesBy_9 : decode cX12_goesBy 9 = .ok (.aload_n 0, 1) := by decide +kernel
theorem dX12_goesBy_10 : decode cX12_goesBy 10 = .ok (.getfield 63, 3) := by decide +kernel
theorem dX12_goesBy_13 : decode cX12_goesBy 13 = .ok (.iconst 1, 1) := by decide +kernel
theorem dX12_goesBy_14 : decode cX12_goesBy 14 = .ok (.aload_n 0, 1) := by decide +kernel
theorem dX12_goesBy_15 : decode cX12_goesBy 15 = .ok (.getfield 89, 3) := by decide +kernel
theorem dX12_goesBy_18 : decode cX12_goesBy 18 = .ok (.aload_n 0, 1) := by decide +kernel
theorem dX12_goesBy_19 : decode cX12_goesBy 19 = .ok (.invokevirtual 315, 3) := by decide +kernel
theorem dX12_goesBy_22 : decode cX12_goesBy 22 = .ok (.iconst 1, 1) := by decide +kernel
theorem dX12_goesBy_23 : decode cX12_goesBy 23 = .ok (.isub, 1) := by decide +kernel
theorem dX12_goesBy_24 : decode cX12_goesBy 24 = .ok (.iaload, 1) := by decide +kernel
theorem dX12_goesBy_25 : decode cX12_goesBy 25 = .ok (.iastore, 1) := by decide +kernel
theorem dX12_goesBy_26 : decode cX12_goesBy 26 = .ok (.aload_n 0, 1) := by decide +kernel
theorem dX12_goesBy_27 : decode cX12_goesBy 27 = .ok (.getfield 63, 3) := by decide +kernel
theorem dX12_goesBy_30 : decode cX12_goesBy 30 = .ok (.iconst 0, 1) := by decide +kernel
theorem dX12_goesBy_31 : decode cX12_goesBy 31 = .ok (.dup2, 1) := by decide +kernel
theorem dX12_goesBy_32 : decode cX12_goesBy 32 = .ok (.iaload, 1) := by decide +kernel
theorem dX12_goesBy_33 : decode cX12_goesBy 33 = .ok (.iconst 1, 1) := by decide +kernel
theorem dX12_goesBy_34 : decode cX12_goesBy 34 = .ok (.iadd, 1) := by decide +kernel
theorem dX12_goesBy_35 : decode cX12_goesBy 35 = .ok (.iastore, 1) := by decide +kernel
theorem dX12_goesBy_36 : decode cX12_goesBy 36 = .ok (.return_, 1) := by decide +kernel
theorem w_7_217 : (Cond.methodLink RX12 394 yX12_walksTo) ∈ wsL_law := sk_mem (ck_7 _ (List.mem_of_getElem? (i := 217) rfl)) rfl
theorem w_7_219 : (Cond.instanceMethod yX12_walksTo) ∈ wsL_law := sk_mem (ck_7 _ (List.mem_of_getElem? (i := 219) rfl)) rfl
theorem w_0_88 : (Cond.selects RX12 yX12_walksTo yX12_walksTo) ∈ wsL_law := sk_mem (ck_0 _ (List.mem_of_getElem? (i := 88) rfl)) rfl
theorem w_8_21 : (Cond.methodLink RX12 397 yX12_isKept) ∈ wsL_law := sk_mem (ck_8 _ (List.mem_of_getElem? (i := 21) rfl)) rfl
theorem w_8_23 : (Cond.instanceMethod yX12_isKept) ∈ wsL_law := sk_mem (ck_8 _ (List.mem_of_getElem? (i := 23) rfl)) rfl
theorem w_0_94 : (Cond.selects RX12 yX12_isKept yX12_isKept) ∈ wsL_law := sk_mem (ck_0 _ (List.mem_of_getElem? (i := 94) rfl)) rfl
theorem w_8_20 : (Cond.code yX12_goesBy cX12_goesBy 3 none) ∈ wsL_law := sk_mem (ck_8 _ (List.mem_of_getElem? (i := 20) rfl)) rfl
set_option maxHeartbeats 4000000 in
set_option maxRecDepth 100000 in
theorem c_m_goesBy (l : Launch) (D : va_G) (cI cJ cC cZ cS : ClassId) (mm : Nat) (g : Nat → Nat) (ta : Nat) (pa : Nat) (pe : Nat) (pd : Int32) (pb : Nat) (pp : Int32) (pf : Int32) (pg : Int32) (pn : Int32) (rt : Int32) (rn : Int32) (cd : Nat) (sn : Int32) (il : Nat) (tk : Int32) (am : Int32) (at_ : Int32) (aa : Int32) (mt_ : Int32) (wt : Int32) (wy : Int64) (it_ : Nat) (rm : Nat) (ud : Nat) (nu : Nat) (sd : Int64) (qn : Nat) (qw : Nat) (qo : Int32) (qb : Nat) (qp : Nat) (qa : Int64) (qi : Nat) (oc : Nat) (x : Int64) (l0 : Nat) (l1 : Nat) (dm : Nat) (l3 : Nat) (nw : Nat → Int32) (yo : Nat → Int32) (yw : Nat → Int32) (be : Nat → Int64) (pt : Nat → Nat) (hdm : dm ≤ 9) (hdm1 : 1 ≤ dm) (hit : it_ ≤ 1) (hbe : beOk (cfN nw yw yo mt_) dm 0 be) (hwk0 : wk (cfN nw yw yo mt_) dm 0 (a0N nw) 0 x) (hnw : nowOk nw) (hpt : ∀ j, pt j ≤ 9) : skM l yX12_goesBy cX12_goesBy 3 none 4 91 0 0 D (skT cI cJ cC cZ cS) [.ref mm, .long x] [(mm, .inr (12, mo g (nI ta) (nI pa) (nI pe) pd (nI pb) pp pf pg pn rt rn (nI cd) sn (nI il) tk am at_ aa mt_ 0 (-1) wt wy (nI it_) (nI rm) (nI ud) (nI nu) sd (nI qn) (nI qw) qo (nI qb) (nI qp) qa (nI qi) (nI oc))), (g 20, .inl (cI, 4, .inl (l4 (nI l0) (nI l1) (nI dm) (nI l3)))), (g 31, .inl (cI, 120, .inl nw)), (g 37, .inl (cZ, 900, .inl yo)), (g 36, .inl (cZ, 900, .inl yw)), (g 43, .inl (cJ, 90, .inr (.inl be))), (g 46, .inl (cI, 9, .inl (fun j => nI (pt j))))] (skV D (skT cI cJ cC cZ cS) (fun (u : va_W) => ∃ (nw2 : Nat → Int32), ∃ (pt2 : Nat → Nat), nowOk nw2 ∧ (∀ j, pt2 j ≤ 9) ∧ u = [(mm, .inr (12, mo g (nI ta) (nI pa) (nI pe) pd (nI pb) pp pf pg pn rt rn (nI cd) sn (nI il) tk am at_ aa mt_ 0 (-1) wt wy (nI it_) (nI rm) (nI ud) (nI nu) sd (nI qn) (nI qw) qo (nI qb) (nI qp) qa (nI qi) (nI oc))), (g 20, .inl (cI, 4, .inl (l4 (nI l0) (nI l1) (nI dm) (nI l3)))), (g 31, .inl (cI, 120, .inl nw2)), (g 37, .inl (cZ, 900, .inl yo)), (g 36, .inl (cZ, 900, .inl yw)), (g 43, .inl (cJ, 90, .inr (.inl be))), (g 46, .inl (cI, 9, .inl (fun j => nI (pt2 j))))])) := by
  refine skM_of (by decide +kernel) (Nat.le_of_ble_eq_true rfl) ?_
  intro p e s m below meth c A ls E hP hD hl
  obtain ⟨hx, hb, hr, hml, hlocks, hin, hown, hts, hK, hA⟩ := E
  have hown : s.vm.findClass RX12 = some m.cls := hown
  have hS : va_S A s.heap s.heap [] := va_S.rf
  have hl : lv_has ls 3 [(0, .ref mm), (1, .long x)] := hl
  refine lv_aload_n hx hb dX12_goesBy_0 rfl (lv_at hl 0 rfl) ?_
  refine lv_lload_n hx hb dX12_goesBy_1 rfl (lv_at hl 1 rfl) ?_
  refine sk_Vv (q0 := 0) (n := 1) (rest := []) (wr := []) ⟨hx, hb, hml, hown, hts⟩ hl.1 (c_m_walksTo l D cI cJ cC cZ cS mm g ta pa pe pd pb pp pf pg pn rt rn cd sn il tk am at_ aa mt_ wt wy it_ rm ud nu sd qn qw qo qb qp qa qi oc x l0 l1 dm l3 nw yo yw be pt (by omega) (by omega) hbe hwk0 hnw hpt) w_7_217 w_7_219 w_0_88 w_1_14 w_7_220 (by decide +kernel) ⟨⟨(Nat.le_of_ble_eq_true rfl), (Nat.le_of_ble_eq_true rfl)⟩, (Nat.le_of_ble_eq_true rfl), (Nat.le_of_ble_eq_true rfl)⟩ hK hP hD hS hA [0, 1, 2, 3, 4, 5, 6] [] rfl rfl (by decide +kernel) (by decide +kernel) (by decide +kernel) rfl rfl rfl rfl (Nat.le_of_ble_eq_true rfl) dX12_goesBy_2 (fun u H locs hw hP hD hS => ?_)
  obtain ⟨pt2_1, hpt2_2, rfl⟩ := hw
  have hP : va_P D vwCl [(mm, .inr (12, mo g (nI ta) (nI pa) (nI pe) pd (nI pb) pp pf pg pn rt rn (nI cd) sn (nI il) tk am at_ aa mt_ 0 (-1) wt wy (nI it_) (nI rm) (nI ud) (nI nu) sd (nI qn) (nI qw) qo (nI qb) (nI qp) qa (nI qi) (nI oc))), (g 20, .inl (cI, 4, .inl (l4 (nI l0) (nI l1) (nI dm) (nI l3)))), (g 31, .inl (cI, 120, .inl nw)), (g 37, .inl (cZ, 900, .inl yo)), (g 36, .inl (cZ, 900, .inl yw)), (g 43, .inl (cJ, 90, .inr (.inl be))), (g 46, .inl (cI, 9, .inl (fun j => nI (pt2_1 j))))] H := hP
  have hD : va_D A [(mm, .inr (12, mo g (nI ta) (nI pa) (nI pe) pd (nI pb) pp pf pg pn rt rn (nI cd) sn (nI il) tk am at_ aa mt_ 0 (-1) wt wy (nI it_) (nI rm) (nI ud) (nI nu) sd (nI qn) (nI qw) qo (nI qb) (nI qp) qa (nI qi) (nI oc))), (g 20, .inl (cI, 4, .inl (l4 (nI l0) (nI l1) (nI dm) (nI l3)))), (g 31, .inl (cI, 120, .inl nw)), (g 37, .inl (cZ, 900, .inl yo)), (g 36, .inl (cZ, 900, .inl yw)), (g 43, .inl (cJ, 90, .inr (.inl be))), (g 46, .inl (cI, 9, .inl (fun j => nI (pt2_1 j))))] := hD
  refine lv_aload_n hx hb dX12_goesBy_5 rfl (lv_at hl 0 rfl) ?_
  refine sk_Vv (q0 := 0) (n := 0) (rest := []) (wr := [(g 37, .inl (cZ, 900, .inl yo)), (g 36, .inl (cZ, 900, .inl yw)), (g 43, .inl (cJ, 90, .inr (.inl be)))]) ⟨hx, hb, hml, hown, hts⟩ hl.1 (c_m_isKept l D cI cJ cC cZ cS mm g ta pa pe pd pb pp pf pg pn rt rn cd sn il tk am at_ aa mt_ wt wy it_ rm ud nu sd qn qw qo qb qp qa qi oc l0 l1 dm l3 nw pt2_1 (by omega) (by omega) (by omega) hnw hpt2_2) w_8_21 w_8_23 w_0_94 w_1_14 w_8_24 (by decide +kernel) ⟨⟨(Nat.le_of_ble_eq_true rfl), (Nat.le_of_ble_eq_true rfl)⟩, (Nat.le_of_ble_eq_true rfl), (Nat.le_of_ble_eq_true rfl)⟩ hK hP hD hS hA [0, 1, 2, 6] [3, 4, 5] rfl rfl (by decide +kernel) (by decide +kernel) (by decide +kernel) rfl rfl rfl rfl (Nat.le_of_ble_eq_true rfl) dX12_goesBy_6 (fun u H locs hw hP hD hS => ?_)
  obtain ⟨nw2_3, hnw2_4, rfl⟩ := hw
  have hP : va_P D vwCl [(g 37, .inl (cZ, 900, .inl yo)), (g 36, .inl (cZ, 900, .inl yw)), (g 43, .inl (cJ, 90, .inr (.inl be))), (mm, .inr (12, mo g (nI ta) (nI pa) (nI pe) pd (nI pb) pp pf pg pn rt rn (nI cd) sn (nI il) tk am at_ aa mt_ 0 (-1) wt wy (nI it_) (nI rm) (nI ud) (nI nu) sd (nI qn) (nI qw) qo (nI qb) (nI qp) qa (nI qi) (nI oc))), (g 20, .inl (cI, 4, .inl (l4 (nI l0) (nI l1) (nI dm) (nI l3)))), (g 31, .inl (cI, 120, .inl nw2_3)), (g 46, .inl (cI, 9, .inl (fun j => nI (pt2_1 j))))] H := hP
  have hD : va_D A [(g 37, .inl (cZ, 900, .inl yo)), (g 36, .inl (cZ, 900, .inl yw)), (g 43, .inl (cJ, 90, .inr (.inl be))), (mm, .inr (12, mo g (nI ta) (nI pa) (nI pe) pd (nI pb) pp pf pg pn rt rn (nI cd) sn (nI il) tk am at_ aa mt_ 0 (-1) wt wy (nI it_) (nI rm) (nI ud) (nI nu) sd (nI qn) (nI qw) qo (nI qb) (nI qp) qa (nI qi) (nI oc))), (g 20, .inl (cI, 4, .inl (l4 (nI l0) (nI l1) (nI dm) (nI l3)))), (g 31, .inl (cI, 120, .inl nw2_3)), (g 46, .inl (cI, 9, .inl (fun j => nI (pt2_1 j))))] := hD
  refine lv_aload_n hx hb dX12_goesBy_9 rfl (lv_at hl 0 rfl) ?_
  refine sk_get (v := .ref (g 31)) (C := RX12) (T := TX12) (N := 92) hx hb hts inlX12 hown hK hP 3 rfl rfl 31 (by decide) w_5_186 rfl dX12_goesBy_10 ?_
  refine lv_iconst (v := 1) hx hb dX12_goesBy_13 (by decide) ?_
  refine lv_aload_n hx hb dX12_goesBy_14 rfl (lv_at hl 0 rfl) ?_
  refine sk_get (v := .ref (g 46)) (C := RX12) (T := TX12) (N := 92) hx hb hts inlX12 hown hK hP 3 rfl rfl 46 (by decide) w_5_201 rfl dX12_goesBy_15 ?_
  refine lv_aload_n hx hb dX12_goesBy_18 rfl (lv_at hl 0 rfl) ?_
  refine sk_Vi (q0 := 0) (n := 0) (rest := [.ref (g 46), .int 1, .ref (g 31)]) (wr := [(g 37, .inl (cZ, 900, .inl yo)), (g 36, .inl (cZ, 900, .inl yw)), (g 43, .inl (cJ, 90, .inr (.inl be))), (g 31, .inl (cI, 120, .inl nw2_3)), (g 46, .inl (cI, 9, .inl (fun j => nI (pt2_1 j))))]) ⟨hx, hb, hml, hown, hts⟩ hl.1 (c_m_dayMany l D cI cJ cC cZ cS mm g ta pa pe pd pb pp pf pg pn rt rn cd sn il tk am at_ aa mt_ 0 (-1) wt wy it_ rm ud nu sd qn qw qo qb qp qa qi oc l0 l1 dm l3) w_7_98 w_7_100 w_0_69 w_1_14 w_7_101 (by decide +kernel) ⟨⟨(Nat.le_of_ble_eq_true rfl), (Nat.le_of_ble_eq_true rfl)⟩, (Nat.le_of_ble_eq_true rfl), (Nat.le_of_ble_eq_true rfl)⟩ hK hP hD hS hA [3, 4] [0, 1, 2, 5, 6] rfl rfl (by decide +kernel) (by decide +kernel) (by decide +kernel) rfl rfl rfl rfl (Nat.le_of_ble_eq_true rfl) dX12_goesBy_19 (fun r_5 u H locs hw hP hD hS => ?_)
  obtain ⟨rfl, rfl⟩ := hw
  have hP : va_P D vwCl [(g 37, .inl (cZ, 900, .inl yo)), (g 36, .inl (cZ, 900, .inl yw)), (g 43, .inl (cJ, 90, .inr (.inl be))), (g 31, .inl (cI, 120, .inl nw2_3)), (g 46, .inl (cI, 9, .inl (fun j => nI (pt2_1 j)))), (mm, .inr (12, mo g (nI ta) (nI pa) (nI pe) pd (nI pb) pp pf pg pn rt rn (nI cd) sn (nI il) tk am at_ aa mt_ 0 (-1) wt wy (nI it_) (nI rm) (nI ud) (nI nu) sd (nI qn) (nI qw) qo (nI qb) (nI qp) qa (nI qi) (nI oc))), (g 20, .inl (cI, 4, .inl (l4 (nI l0) (nI l1) (nI dm) (nI l3))))] H := hP
  have hD : va_D A [(g 37, .inl (cZ, 900, .inl yo)), (g 36, .inl (cZ, 900, .inl yw)), (g 43, .inl (cJ, 90, .inr (.inl be))), (g 31, .inl (cI, 120, .inl nw2_3)), (g 46, .inl (cI, 9, .inl (fun j => nI (pt2_1 j)))), (mm, .inr (12, mo g (nI ta) (nI pa) (nI pe) pd (nI pb) pp pf pg pn rt rn (nI cd) sn (nI il) tk am at_ aa mt_ 0 (-1) wt wy (nI it_) (nI rm) (nI ud) (nI nu) sd (nI qn) (nI qw) qo (nI qb) (nI qp) qa (nI qi) (nI oc))), (g 20, .inl (cI, 4, .inl (l4 (nI l0) (nI l1) (nI dm) (nI l3))))] := hD
  refine lv_iconst (v := 1) hx hb dX12_goesBy_22 (by decide) ?_
  refine lv_isub hx hb dX12_goesBy_23 ?_
  refine sk_top (nI (dm - 1)) (nsub dm 1 (by omega)) ?_
  refine va_iald hx hb hK.1 hP 4 0 rfl rfl (vin (dm - 1) 9 (by omega) (by omega)) dX12_goesBy_24 ?_
  refine sk_top (nI (pt2_1 (dm - 1))) (nrd pt2_1 (dm - 1) (by omega)) ?_
  have hb_6 := hpt2_2 (dm - 1)
  refine sk_iastP (Pr := nowOk) (ws' := fun f_7 => [(g 37, .inl (cZ, 900, .inl yo)), (g 36, .inl (cZ, 900, .inl yw)), (g 43, .inl (cJ, 90, .inr (.inl be))), (g 31, .inl (cI, 120, .inl f_7)), (g 46, .inl (cI, 9, .inl (fun j => nI (pt2_1 j)))), (mm, .inr (12, mo g (nI ta) (nI pa) (nI pe) pd (nI pb) pp pf pg pn rt rn (nI cd) sn (nI il) tk am at_ aa mt_ 0 (-1) wt wy (nI it_) (nI rm) (nI ud) (nI nu) sd (nI qn) (nI qw) qo (nI qb) (nI qp) qa (nI qi) (nI oc))), (g 20, .inl (cI, 4, .inl (l4 (nI l0) (nI l1) (nI dm) (nI l3))))]) hx hb hK hP hD hS 3 0 rfl rfl (by unfold vp_in; decide) (fun _ => rfl) (nowOk_s1 hnw2_4 (pt2_1 (dm - 1)) (by omega)) dX12_goesBy_25 (fun f_7 H locs hf_8 hP hD hS => ?_)
  refine lv_aload_n hx hb dX12_goesBy_26 rfl (lv_at hl 0 rfl) ?_
  refine sk_get (v := .ref (g 31)) (C := RX12) (T := TX12) (N := 92) hx hb hts inlX12 hown hK hP 5 rfl rfl 31 (by decide) w_5_186 rfl dX12_goesBy_27 ?_
  refine lv_iconst (v := 0) hx hb dX12_goesBy_30 (by decide) ?_
  refine lv_dup2_11 hx hb dX12_goesBy_31 rfl rfl ?_
  refine va_iald hx hb hK.1 hP 3 0 rfl rfl (by unfold vp_in; decide) dX12_goesBy_32 ?_
  refine lv_topi (fun v_9 ev_9 => ?_)
  refine lv_iconst (v := 1) hx hb dX12_goesBy_33 (by decide) ?_
  refine lv_iadd hx hb dX12_goesBy_34 ?_
  refine lv_topi (fun v_10 ev_10 => ?_)
  refine sk_iastP (Pr := nowOk) (ws' := fun f_11 => [(g 37, .inl (cZ, 900, .inl yo)), (g 36, .inl (cZ, 900, .inl yw)), (g 43, .inl (cJ, 90, .inr (.inl be))), (g 31, .inl (cI, 120, .inl f_11)), (g 46, .inl (cI, 9, .inl (fun j => nI (pt2_1 j)))), (mm, .inr (12, mo g (nI ta) (nI pa) (nI pe) pd (nI pb) pp pf pg pn rt rn (nI cd) sn (nI il) tk am at_ aa mt_ 0 (-1) wt wy (nI it_) (nI rm) (nI ud) (nI nu) sd (nI qn) (nI qw) qo (nI qb) (nI qp) qa (nI qi) (nI oc))), (g 20, .inl (cI, 4, .inl (l4 (nI l0) (nI l1) (nI dm) (nI l3))))]) hx hb hK hP hD hS 3 0 rfl rfl (by unfold vp_in; decide) (fun _ => rfl) (nowOk_c hf_8 _ _ (by decide) (by decide)) dX12_goesBy_35 (fun f_11 H locs hf_12 hP hD hS => ?_)
  have hP := hP.sub (ws' := [(mm, .inr (12, mo g (nI ta) (nI pa) (nI pe) pd (nI pb) pp pf pg pn rt rn (nI cd) sn (nI il) tk am at_ aa mt_ 0 (-1) wt wy (nI it_) (nI rm) (nI ud) (nI nu) sd (nI qn) (nI qw) qo (nI qb) (nI qp) qa (nI qi) (nI oc))), (g 20, .inl (cI, 4, .inl (l4 (nI l0) (nI l1) (nI dm) (nI l3)))), (g 31, .inl (cI, 120, .inl f_11)), (g 37, .inl (cZ, 900, .inl yo)), (g 36, .inl (cZ, 900, .inl yw)), (g 43, .inl (cJ, 90, .inr (.inl be))), (g 46, .inl (cI, 9, .inl (fun j => nI (pt2_1 j))))]) [5, 6, 3, 0, 1, 2, 4] rfl
  have hD := hD.sub (ws' := [(mm, .inr (12, mo g (nI ta) (nI pa) (nI pe) pd (nI pb) pp pf pg pn rt rn (nI cd) sn (nI il) tk am at_ aa mt_ 0 (-1) wt wy (nI it_) (nI rm) (nI ud) (nI nu) sd (nI qn) (nI qw) qo (nI qb) (nI qp) qa (nI qi) (nI oc))), (g 20, .inl (cI, 4, .inl (l4 (nI l0) (nI l1) (nI dm) (nI l3)))), (g 31, .inl (cI, 120, .inl f_11)), (g 37, .inl (cZ, 900, .inl yo)), (g 36, .inl (cZ, 900, .inl yw)), (g 43, .inl (cJ, 90, .inr (.inl be))), (g 46, .inl (cI, 9, .inl (fun j => nI (pt2_1 j))))]) [5, 6, 3, 0, 1, 2, 4] (by decide +kernel) rfl
  exact sk_vret hx hb hr hlocks hK hP hD hS (⟨f_11, pt2_1, hf_12, hpt2_2, rfl⟩) (Nat.le_of_ble_eq_true rfl) (Nat.le_of_ble_eq_true rfl) dX12_goesBy_36
