def mlD (L : LkS) (wk : Nat) (B W : Nat → Nat) (li n : Nat) (ws yw yo : Nat → Int32) : Prop := ∀ d, d < n → mlS L wk B W li d ws 10 ∧ ∀ a m, a < 10 → m < 10 → yw (100 * d + 10 * a + m) = mlW L wk B W li d a m ∧ yo (100 * d + 10 * a + m) = mlO L wk B W d a m
def mlA (L : LkS) (wk : Nat) (B W : Nat → Nat) (li d ja jm : Nat) (yw yo : Nat → Int32) : Prop := ∀ a m, a < 10 → m < 10 → a < ja ∨ (a = ja ∧ m < jm) → yw (100 * d + 10 * a + m) = mlW L wk B W li d a m ∧ yo (100 * d + 10 * a + m) = mlO L wk B W d a m
theorem mlD_0 (L : LkS) (wk : Nat) (B W : Nat → Nat) (li : Nat) (ws yw yo : Nat → Int32) : mlD L wk B W li 0 ws yw yo := fun d hd => absurd hd (Nat.not_lt_zero d)
theorem mlD_w {L : LkS} {wk : Nat} {B W : Nat → Nat} {li i j : Nat} {ws wt yw yo : Nat → Int32} {x : Int32} (h : mlD L wk B W li i ws yw yo) (e : wt = upd ws (10 * i + j) x) : mlD L wk B W li i wt yw yo := fun d hd => by
  obtain ⟨h1, h2⟩ := h d hd
  exact ⟨fun m hm => by rw [kui_n e (by omega)]; exact h1 m hm, h2⟩
theorem mlS_0 (L : LkS) (wk : Nat) (B W : Nat → Nat) (li d : Nat) (f : Nat → Int32) : mlS L wk B W li d f 0 := fun m hm => absurd hm (Nat.not_lt_zero m)
theorem mlS_s {L : LkS} {wk : Nat} {B W : Nat → Nat} {li d j v : Nat} {f g : Nat → Int32} (h : mlS L wk B W li d f j) (e : g = upd f (10 * d + j) (nI ((v + li) % 10))) (hv : v = kcSaid L wk (B d) (W d) d j) : mlS L wk B W li d g (j + 1) := fun m hm => by
  by_cases q : m = j
  · subst q; rw [kui_s e, hv]
  · rw [kui_n e (by omega)]; exact h m (by omega)
theorem mlA_0 (L : LkS) (wk : Nat) (B W : Nat → Nat) (li d : Nat) (yw yo : Nat → Int32) : mlA L wk B W li d 0 0 yw yo := fun a m _ _ h => absurd h (by omega)
theorem mlA_n {L : LkS} {wk : Nat} {B W : Nat → Nat} {li d ja jm : Nat} {yw yo : Nat → Int32} (h : mlA L wk B W li d ja jm yw yo) (hm : 10 ≤ jm) : mlA L wk B W li d (ja + 1) 0 yw yo := fun a m ha hm2 q => h a m ha hm2 (by omega)
theorem mlA_s {L : LkS} {wk : Nat} {B W : Nat → Nat} {li d ja jm : Nat} {yw yo yw2 yo2 : Nat → Int32} {x y : Int32} (h : mlA L wk B W li d ja jm yw yo) (e1 : yw2 = upd yw (100 * d + 10 * ja + jm) x) (e2 : yo2 = upd yo (100 * d + 10 * ja + jm) y) (hja : ja < 10) (hjm : jm < 10) (hx : x = mlW L wk B W li d ja jm) (hy : y = mlO L wk B W d ja jm) : mlA L wk B W li d ja (jm + 1) yw2 yo2 := fun a m ha hm q => by
  by_cases e : a = ja ∧ m = jm
  · obtain ⟨rfl, rfl⟩ := e
    rw [kui_s e1, kui_s e2]; exact ⟨hx, hy⟩
  · rw [kui_n e1 (by omega), kui_n e2 (by omega)]; exact h a m ha hm (by omega)
theorem mlD_a {L : LkS} {wk : Nat} {B W : Nat → Nat} {li i k : Nat} {ws yw yo yw2 yo2 : Nat → Int32} {x y : Int32} (h : mlD L wk B W li i ws yw yo) (e1 : yw2 = upd yw k x) (e2 : yo2 = upd yo k y) (hk : 100 * i ≤ k) : mlD L wk B W li i ws yw2 yo2 := fun d hd => by
  obtain ⟨h1, h2⟩ := h d hd
  exact ⟨h1, fun a m ha hm => by rw [kui_n e1 (by omega), kui_n e2 (by omega)]; exact h2 a m ha hm⟩
theorem mlD_s {L : LkS} {wk : Nat} {B W : Nat → Nat} {li i ja jm : Nat} {ws yw yo : Nat → Int32} (h : mlD L wk B W li i ws yw yo) (h1 : mlS L wk B W li i ws 10) (h2 : mlA L wk B W li i ja jm yw yo) (hja : 10 ≤ ja) : mlD L wk B W li (i + 1) ws yw yo := fun d hd => by
  by_cases q : d = i
  · subst q; exact ⟨h1, fun a m ha hm => h2 a m ha hm (by omega)⟩
  · exact h d (by omega)
theorem kone_t {q : Prop} [Decidable q] (h : q) : (1 : Int32) = kone q := by unfold kone; rw [if_pos h]
theorem kone_f {q : Prop} [Decidable q] (h : ¬ q) : (0 : Int32) = kone q := by unfold kone; rw [if_neg h]
theorem kone_0 {q : Prop} [Decidable q] : kone q = 0 ↔ ¬ q := by
  unfold kone
  by_cases h : q
  · rw [if_pos h]; exact ⟨fun e => absurd e (by decide), fun e => absurd h e⟩
  · rw [if_neg h]; exact ⟨fun _ => h, fun _ => rfl⟩
/-- which mood may follow, as the class has it -/
theorem cf_Fo {L : LkS} {wk : Nat} {B W : Nat → Nat} {U : Nat → Bool} {li n : Nat} {nw ws yw yo : Nat → Int32} {mt : Int32} (h : mlD L wk B W li n ws yw yo) (hn : n ≤ 9) (hU : ∀ d, d < n → mtN nw mt d = U d) {d a m : Nat} (hd : d < n) (ha : a < 10) (hm : m < 10) : cfN nw yw yo mt d a m = kcFo L wk B W U li d a m := by
  obtain ⟨h1, h2⟩ := (h d hd).2 a m ha hm
  unfold cfN kcFo
  rw [hU d hd, nI_clamp (by omega), h1, h2]
  cases hu : U d with
  | true =>
    rw [if_pos rfl, if_pos rfl]
    unfold mlO
    by_cases q : kcBec L wk (B d) (W d) d a 0 1 = m
    · rw [decide_eq_false (fun e => kone_0.mp e q), q]; simp
    · rw [decide_eq_true (kone_0.mpr q)]; simp [q]
  | false =>
    rw [if_neg (by decide), if_neg (by decide)]
    unfold mlW
    by_cases q : kcBec L wk (B d) (W d) d a ((kcSaid L wk (B d) (W d) d m + li) % 10) 0 = m
    · rw [decide_eq_false (fun e => kone_0.mp e q), q]; simp
    · rw [decide_eq_true (kone_0.mpr q)]; simp [q]
set_option maxHeartbeats 4000000 in
set_option maxRecDepth 100000 in
theorem c_nm_laysDays (l : Launch) (D : va_G) (cI cJ cC cZ cS : ClassId) (mm : Nat) (g : Nat → Nat) (ta : Nat) (pa : Nat) (pe : Nat) (pd : Int32) (pb : Nat) (pp : Int32) (pf : Int32) (pg : Int32) (pn : Int32) (rt : Int32) (rn : Int32) (cd : Nat) (sn : Int32) (il : Nat) (tk : Int32) (am : Int32) (at_ : Int32) (aa : Int32) (mt_ : Int32) (wt : Int32) (wy : Int64) (it_ : Nat) (rm : Nat) (ud : Nat) (nu : Nat) (sd : Int64) (qn : Nat) (qw : Nat) (qo : Int32) (qb : Nat) (qp : Nat) (qa : Int64) (qi : Nat) (oc : Nat) (li : Nat) (u0 : Int32) (u1 : Int32) (u2 : Int32) (u3 : Int32) (u4 : Int32) (u5 : Int32) (v0 : Int32) (v1 : Int32) (v2 : Int32) (v3 : Int32) (v4 : Int32) (v5 : Int32) (cs : Nat → Nat) (nw : Nat → Int32) (pt : Nat → Nat) (ql : Nat → Int64) (l0 : Nat) (l1 : Nat) (dm : Nat) (l3 : Nat) (ws_ : Nat → Int32) (yw : Nat → Int32) (yo : Nat → Int32) (L : LkS) (wk : Nat) (Ba : Nat → Nat) (We : Nat → Nat) (hdm : dm ≤ 9) (hli : li < 10) (hLk : kcLk L) (hkl : (lK L).length ≤ 1600) (hmw0 : mwO L 0 u3 v3 cs) (hmw1 : mwO L 1 u4 v4 cs) (hB9 : ∀ j, Ba j ≤ 9) (hW9 : ∀ j, We j ≤ 9) (hwk : wk ≤ 999) (hmds : ∀ d, d < dm → mdO nw wk (Ba d) (We d) d) (hcs : ∀ j, cs j ≤ 20000) (hnw : nowOk nw) (hpt : ∀ j, pt j ≤ 9) : skM l yX12_laysDays cX12_laysDays 5 none 4 98 0 0 D (skT cI cJ cC cZ cS) [.ref mm, .int (nI li)] [(mm, .inr (12, mo g (nI ta) (nI pa) (nI pe) pd (nI pb) pp pf pg pn rt rn (nI cd) sn (nI il) tk am at_ aa mt_ 0 (-1) wt wy (nI it_) (nI rm) (nI ud) (nI nu) sd (nI qn) (nI qw) qo (nI qb) (nI qp) qa (nI qi) (nI oc))), (g 24, .inl (cI, 6, .inl (l6 u0 u1 u2 u3 u4 u5))), (g 25, .inl (cI, 6, .inl (l6 v0 v1 v2 v3 v4 v5))), (g 26, .inl (cI, 3200, .inl (fun j => nI (cs j)))), (g 31, .inl (cI, 120, .inl nw)), (g 46, .inl (cI, 9, .inl (fun j => nI (pt j)))), (g 86, .inl (cJ, 1700, .inr (.inl ql))), (g 20, .inl (cI, 4, .inl (l4 (nI l0) (nI l1) (nI dm) (nI l3)))), (g 38, .inl (cI, 90, .inl ws_)), (g 36, .inl (cZ, 900, .inl yw)), (g 37, .inl (cZ, 900, .inl yo))] (skV D (skT cI cJ cC cZ cS) (fun (u : va_W) => ∃ (tk2 : Int32), ∃ (qp2 : Nat), ∃ (am2 : Int32), ∃ (at_2 : Int32), ∃ (aa2 : Int32), ∃ (ql2 : Nat → Int64), ∃ (ws_2 : Nat → Int32), ∃ (yw2 : Nat → Int32), ∃ (yo2 : Nat → Int32), mlD L wk Ba We li dm ws_2 yw2 yo2 ∧ u = [(mm, .inr (12, mo g (nI ta) (nI pa) (nI pe) pd (nI pb) pp pf pg pn rt rn (nI cd) sn (nI il) tk2 am2 at_2 aa2 mt_ 0 (-1) wt wy (nI it_) (nI rm) (nI ud) (nI nu) sd (nI qn) (nI qw) qo (nI qb) (nI qp2) qa (nI qi) (nI oc))), (g 24, .inl (cI, 6, .inl (l6 u0 u1 u2 u3 u4 u5))), (g 25, .inl (cI, 6, .inl (l6 v0 v1 v2 v3 v4 v5))), (g 26, .inl (cI, 3200, .inl (fun j => nI (cs j)))), (g 31, .inl (cI, 120, .inl nw)), (g 46, .inl (cI, 9, .inl (fun j => nI (pt j)))), (g 86, .inl (cJ, 1700, .inr (.inl ql2))), (g 20, .inl (cI, 4, .inl (l4 (nI l0) (nI l1) (nI dm) (nI l3)))), (g 38, .inl (cI, 90, .inl ws_2)), (g 36, .inl (cZ, 900, .inl yw2)), (g 37, .inl (cZ, 900, .inl yo2))])) := by
  refine skM_of pf_X12_laysDays (Nat.le_of_ble_eq_true rfl) ?_
  intro p e s m below meth c A ls E hP hD hl
  refine skE_el E (fun hx hb hr hml hlocks hin hown hts hK hA => ?_)
  have hown : s.vm.findClass RX12 = some m.cls := hown
  have hS : va_S A s.heap s.heap [] := va_S.rf
  have hl : lv_has ls 5 [(0, .ref mm), (1, .int (nI li))] := hl
  refine lv_iconst (v := 0) hx hb dX12_laysDays_0 (by decide) ?_
  refine lv_istore_n (lv' := [(2, .int 0), (0, .ref mm), (1, .int (nI li))]) hx hb dX12_laysDays_1 rfl hl (by decide) rfl (fun ls hl => ?_)
  have lp_1 : ∀ (n_2 : Nat) (i : Nat) (zam : Int32) (zat_ : Int32) (zaa : Int32) (ztk : Int32) (zqp : Nat) (zl : Nat → Int64) (zs : Nat → Int32) (zw : Nat → Int32) (zo : Nat → Int32) (H : Heap) (locs : List Loc) (ls : Array Slot), dm - i < n_2 → (i ≤ dm) → (mlD L wk Ba We li i zs zw zo) → va_P D vwCl [(mm, .inr (12, mo g (nI ta) (nI pa) (nI pe) pd (nI pb) pp pf pg pn rt rn (nI cd) sn (nI il) ztk zam zat_ zaa mt_ 0 (-1) wt wy (nI it_) (nI rm) (nI ud) (nI nu) sd (nI qn) (nI qw) qo (nI qb) (nI zqp) qa (nI qi) (nI oc))), (g 24, .inl (cI, 6, .inl (l6 u0 u1 u2 u3 u4 u5))), (g 25, .inl (cI, 6, .inl (l6 v0 v1 v2 v3 v4 v5))), (g 26, .inl (cI, 3200, .inl (fun j => nI (cs j)))), (g 31, .inl (cI, 120, .inl nw)), (g 46, .inl (cI, 9, .inl (fun j => nI (pt j)))), (g 86, .inl (cJ, 1700, .inr (.inl zl))), (g 20, .inl (cI, 4, .inl (l4 (nI l0) (nI l1) (nI dm) (nI l3)))), (g 38, .inl (cI, 90, .inl zs)), (g 36, .inl (cZ, 900, .inl zw)), (g 37, .inl (cZ, 900, .inl zo))] H → va_D A [(mm, .inr (12, mo g (nI ta) (nI pa) (nI pe) pd (nI pb) pp pf pg pn rt rn (nI cd) sn (nI il) ztk zam zat_ zaa mt_ 0 (-1) wt wy (nI it_) (nI rm) (nI ud) (nI nu) sd (nI qn) (nI qw) qo (nI qb) (nI zqp) qa (nI qi) (nI oc))), (g 24, .inl (cI, 6, .inl (l6 u0 u1 u2 u3 u4 u5))), (g 25, .inl (cI, 6, .inl (l6 v0 v1 v2 v3 v4 v5))), (g 26, .inl (cI, 3200, .inl (fun j => nI (cs j)))), (g 31, .inl (cI, 120, .inl nw)), (g 46, .inl (cI, 9, .inl (fun j => nI (pt j)))), (g 86, .inl (cJ, 1700, .inr (.inl zl))), (g 20, .inl (cI, 4, .inl (l4 (nI l0) (nI l1) (nI dm) (nI l3)))), (g 38, .inl (cI, 90, .inl zs)), (g 36, .inl (cZ, 900, .inl zw)), (g 37, .inl (cZ, 900, .inl zo))] → va_S A s.heap H locs → lv_has ls 5 [(2, .int (nI i)), (0, .ref mm), (1, .int (nI li))] → W p l e { frames := 4, cells := 0, slots := 0, locals := 98 } s m ([.ref mm, .int (nI li)] : List Value).toArray below meth c H locs 0 0 (MQ below (skV D (skT cI cJ cC cZ cS) (fun (u : va_W) => ∃ (tk2 : Int32), ∃ (qp2 : Nat), ∃ (am2 : Int32), ∃ (at_2 : Int32), ∃ (aa2 : Int32), ∃ (ql2 : Nat → Int64), ∃ (ws_2 : Nat → Int32), ∃ (yw2 : Nat → Int32), ∃ (yo2 : Nat → Int32), mlD L wk Ba We li dm ws_2 yw2 yo2 ∧ u = [(mm, .inr (12, mo g (nI ta) (nI pa) (nI pe) pd (nI pb) pp pf pg pn rt rn (nI cd) sn (nI il) tk2 am2 at_2 aa2 mt_ 0 (-1) wt wy (nI it_) (nI rm) (nI ud) (nI nu) sd (nI qn) (nI qw) qo (nI qb) (nI qp2) qa (nI qi) (nI oc))), (g 24, .inl (cI, 6, .inl (l6 u0 u1 u2 u3 u4 u5))), (g 25, .inl (cI, 6, .inl (l6 v0 v1 v2 v3 v4 v5))), (g 26, .inl (cI, 3200, .inl (fun j => nI (cs j)))), (g 31, .inl (cI, 120, .inl nw)), (g 46, .inl (cI, 9, .inl (fun j => nI (pt j)))), (g 86, .inl (cJ, 1700, .inr (.inl ql2))), (g 20, .inl (cI, 4, .inl (l4 (nI l0) (nI l1) (nI dm) (nI l3)))), (g 38, .inl (cI, 90, .inl ws_2)), (g 36, .inl (cZ, 900, .inl yw2)), (g 37, .inl (cZ, 900, .inl yo2))]) A) ([.ref mm, .int (nI li)] : List Value).toArray s 0 0 A) (F0 m 2 ls []) := by
    intro n_2
    induction n_2 with
    | zero => intro i zam zat_ zaa ztk zqp zl zs zw zo H locs ls hm; exact absurd hm (Nat.not_lt_zero _)
    | succ n_2 ih_lp_1 =>
      intro i zam zat_ zaa ztk zqp zl zs zw zo H locs ls hm hi hmi hP hD hS hl
      refine lv_iload_n hx hb dX12_laysDays_2 rfl (lv_at hl 0 rfl) ?_
      refine lv_aload_n hx hb dX12_laysDays_3 rfl (lv_at hl 1 rfl) ?_
      refine sk_Vi (q0 := 0) (n := 0) (rest := [.int (nI i)]) (wr := fmR om_11_408 _) ⟨hx, hb, hml, hown, hts⟩ hl.1 (c_m_dayMany l D cI cJ cC cZ cS mm g ta pa pe pd pb pp pf pg pn rt rn cd sn il ztk zam zat_ zaa mt_ 0 (-1) wt wy it_ rm ud nu sd qn qw qo qb zqp qa qi oc l0 l1 dm l3) w_7_98 w_7_100 w_0_69 w_1_14 w_7_101 hd_X12_dayMany_0 ⟨⟨(Nat.le_of_ble_eq_true rfl), (Nat.le_of_ble_eq_true rfl)⟩, (Nat.le_of_ble_eq_true rfl), (Nat.le_of_ble_eq_true rfl)⟩ hK hP hD hS hA (fmT om_11_408 0) (fmF om_11_408 0) (fm_C1 rfl rfl) (fm_R rfl rfl) (fm_nT om_11_408 0) (fm_nF om_11_408 0) (fm_di om_11_408 0) rfl rfl rfl rfl (Nat.le_of_ble_eq_true rfl) dX12_laysDays_4 (fun r_3 u H locs hw hP hD hS => ?_)
      refine anE hw (fun er_5 eu_4 => ?_)
      clear hw
      subst er_5
      refine o_mgE (ws' := [(mm, .inr (12, mo g (nI ta) (nI pa) (nI pe) pd (nI pb) pp pf pg pn rt rn (nI cd) sn (nI il) ztk zam zat_ zaa mt_ 0 (-1) wt wy (nI it_) (nI rm) (nI ud) (nI nu) sd (nI qn) (nI qw) qo (nI qb) (nI zqp) qa (nI qi) (nI oc))), (g 24, .inl (cI, 6, .inl (l6 u0 u1 u2 u3 u4 u5))), (g 25, .inl (cI, 6, .inl (l6 v0 v1 v2 v3 v4 v5))), (g 26, .inl (cI, 3200, .inl (fun j => nI (cs j)))), (g 31, .inl (cI, 120, .inl nw)), (g 46, .inl (cI, 9, .inl (fun j => nI (pt j)))), (g 86, .inl (cJ, 1700, .inr (.inl zl))), (g 20, .inl (cI, 4, .inl (l4 (nI l0) (nI l1) (nI dm) (nI l3)))), (g 38, .inl (cI, 90, .inl zs)), (g 36, .inl (cZ, 900, .inl zw)), (g 37, .inl (cZ, 900, .inl zo))]) eu_4 hP hD rfl (fun hP hD => ?_)
      refine lv_icmp_ge (tgt := 163) hx hb dX12_laysDays_7 (by decide) (fun c_6 => ?_) (fun c_6 => ?_)
      · have c_6 : dm ≤ i := (nle dm i (by omega) (by omega)).mp c_6
        exact sk_vret hx hb hr hlocks hK hP hD hS (⟨ztk, zqp, zam, zat_, zaa, zl, zs, zw, zo, (show mlD L wk Ba We li dm zs zw zo by rw [show dm = i by omega]; exact hmi), rfl⟩) (Nat.le_of_ble_eq_true rfl) (Nat.le_of_ble_eq_true rfl) dX12_laysDays_163
      · have c_6 : ¬ (dm ≤ i) := fun h => c_6 ((nle dm i (by omega) (by omega)).mpr h)
        refine lv_iconst (v := 0) hx hb dX12_laysDays_10 (by decide) ?_
        refine lv_istore_n (lv' := [(3, .int 0), (2, .int (nI i)), (0, .ref mm), (1, .int (nI li))]) hx hb dX12_laysDays_11 rfl hl (by decide) rfl (fun ls hl => ?_)
        have lp_7 : ∀ (n_8 : Nat) (jj : Nat) (zamb : Int32) (zat_b : Int32) (zaab : Int32) (ztkb : Int32) (zqpb : Nat) (zlb : Nat → Int64) (zsb : Nat → Int32) (H : Heap) (locs : List Loc) (ls : Array Slot), 10 - jj < n_8 → (jj ≤ 10) → (mlD L wk Ba We li i zsb zw zo) → (mlS L wk Ba We li i zsb jj) → va_P D vwCl [(mm, .inr (12, mo g (nI ta) (nI pa) (nI pe) pd (nI pb) pp pf pg pn rt rn (nI cd) sn (nI il) ztkb zamb zat_b zaab mt_ 0 (-1) wt wy (nI it_) (nI rm) (nI ud) (nI nu) sd (nI qn) (nI qw) qo (nI qb) (nI zqpb) qa (nI qi) (nI oc))), (g 24, .inl (cI, 6, .inl (l6 u0 u1 u2 u3 u4 u5))), (g 25, .inl (cI, 6, .inl (l6 v0 v1 v2 v3 v4 v5))), (g 26, .inl (cI, 3200, .inl (fun j => nI (cs j)))), (g 31, .inl (cI, 120, .inl nw)), (g 46, .inl (cI, 9, .inl (fun j => nI (pt j)))), (g 86, .inl (cJ, 1700, .inr (.inl zlb))), (g 20, .inl (cI, 4, .inl (l4 (nI l0) (nI l1) (nI dm) (nI l3)))), (g 38, .inl (cI, 90, .inl zsb)), (g 36, .inl (cZ, 900, .inl zw)), (g 37, .inl (cZ, 900, .inl zo))] H → va_D A [(mm, .inr (12, mo g (nI ta) (nI pa) (nI pe) pd (nI pb) pp pf pg pn rt rn (nI cd) sn (nI il) ztkb zamb zat_b zaab mt_ 0 (-1) wt wy (nI it_) (nI rm) (nI ud) (nI nu) sd (nI qn) (nI qw) qo (nI qb) (nI zqpb) qa (nI qi) (nI oc))), (g 24, .inl (cI, 6, .inl (l6 u0 u1 u2 u3 u4 u5))), (g 25, .inl (cI, 6, .inl (l6 v0 v1 v2 v3 v4 v5))), (g 26, .inl (cI, 3200, .inl (fun j => nI (cs j)))), (g 31, .inl (cI, 120, .inl nw)), (g 46, .inl (cI, 9, .inl (fun j => nI (pt j)))), (g 86, .inl (cJ, 1700, .inr (.inl zlb))), (g 20, .inl (cI, 4, .inl (l4 (nI l0) (nI l1) (nI dm) (nI l3)))), (g 38, .inl (cI, 90, .inl zsb)), (g 36, .inl (cZ, 900, .inl zw)), (g 37, .inl (cZ, 900, .inl zo))] → va_S A s.heap H locs → lv_has ls 5 [(3, .int (nI jj)), (2, .int (nI i)), (0, .ref mm), (1, .int (nI li))] → W p l e { frames := 4, cells := 0, slots := 0, locals := 98 } s m ([.ref mm, .int (nI li)] : List Value).toArray below meth c H locs 0 0 (MQ below (skV D (skT cI cJ cC cZ cS) (fun (u : va_W) => ∃ (tk2 : Int32), ∃ (qp2 : Nat), ∃ (am2 : Int32), ∃ (at_2 : Int32), ∃ (aa2 : Int32), ∃ (ql2 : Nat → Int64), ∃ (ws_2 : Nat → Int32), ∃ (yw2 : Nat → Int32), ∃ (yo2 : Nat → Int32), mlD L wk Ba We li dm ws_2 yw2 yo2 ∧ u = [(mm, .inr (12, mo g (nI ta) (nI pa) (nI pe) pd (nI pb) pp pf pg pn rt rn (nI cd) sn (nI il) tk2 am2 at_2 aa2 mt_ 0 (-1) wt wy (nI it_) (nI rm) (nI ud) (nI nu) sd (nI qn) (nI qw) qo (nI qb) (nI qp2) qa (nI qi) (nI oc))), (g 24, .inl (cI, 6, .inl (l6 u0 u1 u2 u3 u4 u5))), (g 25, .inl (cI, 6, .inl (l6 v0 v1 v2 v3 v4 v5))), (g 26, .inl (cI, 3200, .inl (fun j => nI (cs j)))), (g 31, .inl (cI, 120, .inl nw)), (g 46, .inl (cI, 9, .inl (fun j => nI (pt j)))), (g 86, .inl (cJ, 1700, .inr (.inl ql2))), (g 20, .inl (cI, 4, .inl (l4 (nI l0) (nI l1) (nI dm) (nI l3)))), (g 38, .inl (cI, 90, .inl ws_2)), (g 36, .inl (cZ, 900, .inl yw2)), (g 37, .inl (cZ, 900, .inl yo2))]) A) ([.ref mm, .int (nI li)] : List Value).toArray s 0 0 A) (F0 m 12 ls []) := by
          intro n_8
          induction n_8 with
          | zero => intro jj zamb zat_b zaab ztkb zqpb zlb zsb H locs ls hm; exact absurd hm (Nat.not_lt_zero _)
          | succ n_8 ih_lp_7 =>
            intro jj zamb zat_b zaab ztkb zqpb zlb zsb H locs ls hm hjj hmb hms hP hD hS hl
            refine lv_iload_n hx hb dX12_laysDays_12 rfl (lv_at hl 0 rfl) ?_
            refine lv_bipush (v := 10) hx hb dX12_laysDays_13 (by decide) ?_
            refine lv_icmp_ge (tgt := 46) hx hb dX12_laysDays_15 (by decide) (fun c_9 => ?_) (fun c_9 => ?_)
            · have c_9 : 10 ≤ jj := (nle 10 jj (by omega) (by omega)).mp c_9
              refine lv_iconst (v := 0) hx hb dX12_laysDays_46 (by decide) ?_
              refine lv_istore_n (lv' := [(3, .int 0), (2, .int (nI i)), (0, .ref mm), (1, .int (nI li))]) hx hb dX12_laysDays_47 rfl hl (by decide) rfl (fun ls hl => ?_)
              have lp_10 : ∀ (n_11 : Nat) (ja : Nat) (zamc : Int32) (zat_c : Int32) (zaac : Int32) (ztkc : Int32) (zqpc : Nat) (zlc : Nat → Int64) (zwc : Nat → Int32) (zoc : Nat → Int32) (H : Heap) (locs : List Loc) (ls : Array Slot), 10 - ja < n_11 → (ja ≤ 10) → (mlS L wk Ba We li i zsb 10) → (mlD L wk Ba We li i zsb zwc zoc) → (mlA L wk Ba We li i ja 0 zwc zoc) → va_P D vwCl [(mm, .inr (12, mo g (nI ta) (nI pa) (nI pe) pd (nI pb) pp pf pg pn rt rn (nI cd) sn (nI il) ztkc zamc zat_c zaac mt_ 0 (-1) wt wy (nI it_) (nI rm) (nI ud) (nI nu) sd (nI qn) (nI qw) qo (nI qb) (nI zqpc) qa (nI qi) (nI oc))), (g 24, .inl (cI, 6, .inl (l6 u0 u1 u2 u3 u4 u5))), (g 25, .inl (cI, 6, .inl (l6 v0 v1 v2 v3 v4 v5))), (g 26, .inl (cI, 3200, .inl (fun j => nI (cs j)))), (g 31, .inl (cI, 120, .inl nw)), (g 46, .inl (cI, 9, .inl (fun j => nI (pt j)))), (g 86, .inl (cJ, 1700, .inr (.inl zlc))), (g 20, .inl (cI, 4, .inl (l4 (nI l0) (nI l1) (nI dm) (nI l3)))), (g 38, .inl (cI, 90, .inl zsb)), (g 36, .inl (cZ, 900, .inl zwc)), (g 37, .inl (cZ, 900, .inl zoc))] H → va_D A [(mm, .inr (12, mo g (nI ta) (nI pa) (nI pe) pd (nI pb) pp pf pg pn rt rn (nI cd) sn (nI il) ztkc zamc zat_c zaac mt_ 0 (-1) wt wy (nI it_) (nI rm) (nI ud) (nI nu) sd (nI qn) (nI qw) qo (nI qb) (nI zqpc) qa (nI qi) (nI oc))), (g 24, .inl (cI, 6, .inl (l6 u0 u1 u2 u3 u4 u5))), (g 25, .inl (cI, 6, .inl (l6 v0 v1 v2 v3 v4 v5))), (g 26, .inl (cI, 3200, .inl (fun j => nI (cs j)))), (g 31, .inl (cI, 120, .inl nw)), (g 46, .inl (cI, 9, .inl (fun j => nI (pt j)))), (g 86, .inl (cJ, 1700, .inr (.inl zlc))), (g 20, .inl (cI, 4, .inl (l4 (nI l0) (nI l1) (nI dm) (nI l3)))), (g 38, .inl (cI, 90, .inl zsb)), (g 36, .inl (cZ, 900, .inl zwc)), (g 37, .inl (cZ, 900, .inl zoc))] → va_S A s.heap H locs → lv_has ls 5 [(3, .int (nI ja)), (2, .int (nI i)), (0, .ref mm), (1, .int (nI li))] → W p l e { frames := 4, cells := 0, slots := 0, locals := 98 } s m ([.ref mm, .int (nI li)] : List Value).toArray below meth c H locs 0 0 (MQ below (skV D (skT cI cJ cC cZ cS) (fun (u : va_W) => ∃ (tk2 : Int32), ∃ (qp2 : Nat), ∃ (am2 : Int32), ∃ (at_2 : Int32), ∃ (aa2 : Int32), ∃ (ql2 : Nat → Int64), ∃ (ws_2 : Nat → Int32), ∃ (yw2 : Nat → Int32), ∃ (yo2 : Nat → Int32), mlD L wk Ba We li dm ws_2 yw2 yo2 ∧ u = [(mm, .inr (12, mo g (nI ta) (nI pa) (nI pe) pd (nI pb) pp pf pg pn rt rn (nI cd) sn (nI il) tk2 am2 at_2 aa2 mt_ 0 (-1) wt wy (nI it_) (nI rm) (nI ud) (nI nu) sd (nI qn) (nI qw) qo (nI qb) (nI qp2) qa (nI qi) (nI oc))), (g 24, .inl (cI, 6, .inl (l6 u0 u1 u2 u3 u4 u5))), (g 25, .inl (cI, 6, .inl (l6 v0 v1 v2 v3 v4 v5))), (g 26, .inl (cI, 3200, .inl (fun j => nI (cs j)))), (g 31, .inl (cI, 120, .inl nw)), (g 46, .inl (cI, 9, .inl (fun j => nI (pt j)))), (g 86, .inl (cJ, 1700, .inr (.inl ql2))), (g 20, .inl (cI, 4, .inl (l4 (nI l0) (nI l1) (nI dm) (nI l3)))), (g 38, .inl (cI, 90, .inl ws_2)), (g 36, .inl (cZ, 900, .inl yw2)), (g 37, .inl (cZ, 900, .inl yo2))]) A) ([.ref mm, .int (nI li)] : List Value).toArray s 0 0 A) (F0 m 48 ls []) := by
                intro n_11
                induction n_11 with
                | zero => intro ja zamc zat_c zaac ztkc zqpc zlc zwc zoc H locs ls hm; exact absurd hm (Nat.not_lt_zero _)
                | succ n_11 ih_lp_10 =>
                  intro ja zamc zat_c zaac ztkc zqpc zlc zwc zoc H locs ls hm hja hms10 hmc hma hP hD hS hl
                  refine lv_iload_n hx hb dX12_laysDays_48 rfl (lv_at hl 0 rfl) ?_
                  refine lv_bipush (v := 10) hx hb dX12_laysDays_49 (by decide) ?_
                  refine lv_icmp_ge (tgt := 157) hx hb dX12_laysDays_51 (by decide) (fun c_12 => ?_) (fun c_12 => ?_)
                  · have c_12 : 10 ≤ ja := (nle 10 ja (by omega) (by omega)).mp c_12
                    refine lv_iinc (v := nI (i + 1)) (lv' := [(2, .int (nI (i + 1))), (3, .int (nI ja)), (0, .ref mm), (1, .int (nI li))]) hx hb dX12_laysDays_157 hl (k := 1) rfl (ninc i 1 (by decide)) (by decide) rfl (fun ls hl => ?_)
                    refine lv_goto (tgt := 2) hx hb dX12_laysDays_160 (by decide) ?_
                    exact ih_lp_1 (i + 1) zamc zat_c zaac ztkc zqpc zlc zsb zwc zoc _ _ _ (by omega) (by omega) (mlD_s hmc hms10 hma (by omega)) hP hD hS (lv_sub hl [0, 2, 3] rfl)
                  · have c_12 : ¬ (10 ≤ ja) := fun h => c_12 ((nle 10 ja (by omega) (by omega)).mpr h)
                    refine lv_iconst (v := 0) hx hb dX12_laysDays_54 (by decide) ?_
                    refine lv_istore (lv' := [(4, .int 0), (3, .int (nI ja)), (2, .int (nI i)), (0, .ref mm), (1, .int (nI li))]) hx hb dX12_laysDays_55 hl (by decide) rfl (fun ls hl => ?_)
                    have lp_13 : ∀ (n_14 : Nat) (jm : Nat) (zamd : Int32) (zat_d : Int32) (zaad : Int32) (ztkd : Int32) (zqpd : Nat) (zld : Nat → Int64) (zwd : Nat → Int32) (zod : Nat → Int32) (H : Heap) (locs : List Loc) (ls : Array Slot), 10 - jm < n_14 → (jm ≤ 10) → (mlD L wk Ba We li i zsb zwd zod) → (mlA L wk Ba We li i ja jm zwd zod) → va_P D vwCl [(mm, .inr (12, mo g (nI ta) (nI pa) (nI pe) pd (nI pb) pp pf pg pn rt rn (nI cd) sn (nI il) ztkd zamd zat_d zaad mt_ 0 (-1) wt wy (nI it_) (nI rm) (nI ud) (nI nu) sd (nI qn) (nI qw) qo (nI qb) (nI zqpd) qa (nI qi) (nI oc))), (g 24, .inl (cI, 6, .inl (l6 u0 u1 u2 u3 u4 u5))), (g 25, .inl (cI, 6, .inl (l6 v0 v1 v2 v3 v4 v5))), (g 26, .inl (cI, 3200, .inl (fun j => nI (cs j)))), (g 31, .inl (cI, 120, .inl nw)), (g 46, .inl (cI, 9, .inl (fun j => nI (pt j)))), (g 86, .inl (cJ, 1700, .inr (.inl zld))), (g 20, .inl (cI, 4, .inl (l4 (nI l0) (nI l1) (nI dm) (nI l3)))), (g 38, .inl (cI, 90, .inl zsb)), (g 36, .inl (cZ, 900, .inl zwd)), (g 37, .inl (cZ, 900, .inl zod))] H → va_D A [(mm, .inr (12, mo g (nI ta) (nI pa) (nI pe) pd (nI pb) pp pf pg pn rt rn (nI cd) sn (nI il) ztkd zamd zat_d zaad mt_ 0 (-1) wt wy (nI it_) (nI rm) (nI ud) (nI nu) sd (nI qn) (nI qw) qo (nI qb) (nI zqpd) qa (nI qi) (nI oc))), (g 24, .inl (cI, 6, .inl (l6 u0 u1 u2 u3 u4 u5))), (g 25, .inl (cI, 6, .inl (l6 v0 v1 v2 v3 v4 v5))), (g 26, .inl (cI, 3200, .inl (fun j => nI (cs j)))), (g 31, .inl (cI, 120, .inl nw)), (g 46, .inl (cI, 9, .inl (fun j => nI (pt j)))), (g 86, .inl (cJ, 1700, .inr (.inl zld))), (g 20, .inl (cI, 4, .inl (l4 (nI l0) (nI l1) (nI dm) (nI l3)))), (g 38, .inl (cI, 90, .inl zsb)), (g 36, .inl (cZ, 900, .inl zwd)), (g 37, .inl (cZ, 900, .inl zod))] → va_S A s.heap H locs → lv_has ls 5 [(4, .int (nI jm)), (3, .int (nI ja)), (2, .int (nI i)), (0, .ref mm), (1, .int (nI li))] → W p l e { frames := 4, cells := 0, slots := 0, locals := 98 } s m ([.ref mm, .int (nI li)] : List Value).toArray below meth c H locs 0 0 (MQ below (skV D (skT cI cJ cC cZ cS) (fun (u : va_W) => ∃ (tk2 : Int32), ∃ (qp2 : Nat), ∃ (am2 : Int32), ∃ (at_2 : Int32), ∃ (aa2 : Int32), ∃ (ql2 : Nat → Int64), ∃ (ws_2 : Nat → Int32), ∃ (yw2 : Nat → Int32), ∃ (yo2 : Nat → Int32), mlD L wk Ba We li dm ws_2 yw2 yo2 ∧ u = [(mm, .inr (12, mo g (nI ta) (nI pa) (nI pe) pd (nI pb) pp pf pg pn rt rn (nI cd) sn (nI il) tk2 am2 at_2 aa2 mt_ 0 (-1) wt wy (nI it_) (nI rm) (nI ud) (nI nu) sd (nI qn) (nI qw) qo (nI qb) (nI qp2) qa (nI qi) (nI oc))), (g 24, .inl (cI, 6, .inl (l6 u0 u1 u2 u3 u4 u5))), (g 25, .inl (cI, 6, .inl (l6 v0 v1 v2 v3 v4 v5))), (g 26, .inl (cI, 3200, .inl (fun j => nI (cs j)))), (g 31, .inl (cI, 120, .inl nw)), (g 46, .inl (cI, 9, .inl (fun j => nI (pt j)))), (g 86, .inl (cJ, 1700, .inr (.inl ql2))), (g 20, .inl (cI, 4, .inl (l4 (nI l0) (nI l1) (nI dm) (nI l3)))), (g 38, .inl (cI, 90, .inl ws_2)), (g 36, .inl (cZ, 900, .inl yw2)), (g 37, .inl (cZ, 900, .inl yo2))]) A) ([.ref mm, .int (nI li)] : List Value).toArray s 0 0 A) (F0 m 57 ls []) := by
                      intro n_14
                      induction n_14 with
                      | zero => intro jm zamd zat_d zaad ztkd zqpd zld zwd zod H locs ls hm; exact absurd hm (Nat.not_lt_zero _)
                      | succ n_14 ih_lp_13 =>
                        intro jm zamd zat_d zaad ztkd zqpd zld zwd zod H locs ls hm hjm hmd_ hmaj hP hD hS hl
                        refine lv_iload hx hb dX12_laysDays_57 (lv_at hl 0 rfl) ?_
                        refine lv_bipush (v := 10) hx hb dX12_laysDays_59 (by decide) ?_
                        refine lv_icmp_ge (tgt := 151) hx hb dX12_laysDays_61 (by decide) (fun c_15 => ?_) (fun c_15 => ?_)
                        · have c_15 : 10 ≤ jm := (nle 10 jm (by omega) (by omega)).mp c_15
                          refine lv_iinc (v := nI (ja + 1)) (lv' := [(3, .int (nI (ja + 1))), (4, .int (nI jm)), (2, .int (nI i)), (0, .ref mm), (1, .int (nI li))]) hx hb dX12_laysDays_151 hl (k := 1) rfl (ninc ja 1 (by decide)) (by decide) rfl (fun ls hl => ?_)
                          refine lv_goto (tgt := 48) hx hb dX12_laysDays_154 (by decide) ?_
                          exact ih_lp_10 (ja + 1) zamd zat_d zaad ztkd zqpd zld zwd zod _ _ _ (by omega) (by omega) hms10 hmd_ (mlA_n hmaj (by omega)) hP hD hS (lv_sub hl [0, 2, 3, 4] rfl)
                        · have c_15 : ¬ (10 ≤ jm) := fun h => c_15 ((nle 10 jm (by omega) (by omega)).mpr h)
                          refine lv_aload_n hx hb dX12_laysDays_64 rfl (lv_at hl 3 rfl) ?_
                          refine sk_get (v := .ref (g 36)) (C := RX12) (T := TX12) (N := 92) hx hb hts inlX12 hown hK hP 0 rfl rfl 36 (by decide) w_5_191 rfl dX12_laysDays_65 ?_
                          refine lv_bipush (v := 100) hx hb dX12_laysDays_68 (by decide) ?_
                          refine lv_iload_n hx hb dX12_laysDays_70 rfl (lv_at hl 2 rfl) ?_
                          refine lv_imul hx hb dX12_laysDays_71 ?_
                          refine sk_top (nI (100 * i)) (nmul 100 i) ?_
                          refine lv_bipush (v := 10) hx hb dX12_laysDays_72 (by decide) ?_
                          refine lv_iload_n hx hb dX12_laysDays_74 rfl (lv_at hl 1 rfl) ?_
                          refine lv_imul hx hb dX12_laysDays_75 ?_
                          refine sk_top (nI (10 * ja)) (nmul 10 ja) ?_
                          refine lv_iadd hx hb dX12_laysDays_76 ?_
                          refine sk_top (nI (100 * i + (10 * ja))) (nI_add (100 * i) (10 * ja)) ?_
                          refine lv_iload hx hb dX12_laysDays_77 (lv_at hl 0 rfl) ?_
                          refine lv_iadd hx hb dX12_laysDays_79 ?_
                          refine sk_top (nI (100 * i + (10 * ja) + jm)) (nI_add (100 * i + (10 * ja)) jm) ?_
                          refine lv_aload_n hx hb dX12_laysDays_80 rfl (lv_at hl 3 rfl) ?_
                          refine lv_iload_n hx hb dX12_laysDays_81 rfl (lv_at hl 2 rfl) ?_
                          refine lv_iload_n hx hb dX12_laysDays_82 rfl (lv_at hl 1 rfl) ?_
                          refine lv_aload_n hx hb dX12_laysDays_83 rfl (lv_at hl 3 rfl) ?_
                          refine sk_get (v := .ref (g 38)) (C := RX12) (T := TX12) (N := 92) hx hb hts inlX12 hown hK hP 0 rfl rfl 38 (by decide) w_5_193 rfl dX12_laysDays_84 ?_
                          refine lv_bipush (v := 10) hx hb dX12_laysDays_87 (by decide) ?_
                          refine lv_iload_n hx hb dX12_laysDays_89 rfl (lv_at hl 2 rfl) ?_
                          refine lv_imul hx hb dX12_laysDays_90 ?_
                          refine sk_top (nI (10 * i)) (nmul 10 i) ?_
                          refine lv_iload hx hb dX12_laysDays_91 (lv_at hl 0 rfl) ?_
                          refine lv_iadd hx hb dX12_laysDays_93 ?_
                          refine sk_top (nI (10 * i + jm)) (nI_add (10 * i) jm) ?_
                          refine va_iald hx hb hK.1 hP 8 0 rfl rfl (vin (10 * i + jm) 90 (by omega) (by omega)) dX12_laysDays_94 ?_
                          refine sk_top (nI ((kcSaid L wk (Ba i) (We i) i jm + li) % 10)) (by rw [nI_clamp (by omega)]; exact hms10 jm (by omega)) ?_
                          refine lv_iconst (v := 0) hx hb dX12_laysDays_95 (by decide) ?_
                          refine sk_Vi (q0 := 0) (n := 4) (rest := [.int (nI (100 * i + (10 * ja) + jm)), .ref (g 36)]) (wr := fmR om_11_7f0 _) ⟨hx, hb, hml, hown, hts⟩ hl.1 (c_nm_becomesBy0 l D cI cJ cC cZ cS mm g ta pa pe pd pb pp pf pg pn rt rn cd sn il ztkd zamd zat_d zaad mt_ wt wy it_ rm ud nu sd qn qw qo qb zqpd qa qi oc i ja ((kcSaid L wk (Ba i) (We i) i jm + li) % 10) u0 u1 u2 u3 u4 u5 v0 v1 v2 v3 v4 v5 cs nw pt zld L wk (Ba i) (We i) (by omega) (by omega) (by omega) hLk hkl (hmds i (by omega)) hwk (hB9 i) (hW9 i) hmw1 hcs hnw hpt) w_7_176 w_7_178 w_0_81 w_1_14 w_7_179 hd_X12_becomesBy_4 ⟨⟨(Nat.le_of_ble_eq_true rfl), (Nat.le_of_ble_eq_true rfl)⟩, (Nat.le_of_ble_eq_true rfl), (Nat.le_of_ble_eq_true rfl)⟩ hK hP hD hS hA (fmT om_11_7f0 0) (fmF om_11_7f0 0) (fm_C1 rfl rfl) (fm_R rfl rfl) (fm_nT om_11_7f0 0) (fm_nF om_11_7f0 0) (fm_di om_11_7f0 0) rfl rfl rfl rfl (Nat.le_of_ble_eq_true rfl) dX12_laysDays_96 (fun r_23 u H locs hw hP hD hS => ?_)
                          refine exE hw (fun v_16 hw1 => exE hw1 (fun tk2_17 hw2 => exE hw2 (fun qp2_18 hw3 => exE hw3 (fun am2_19 hw4 => exE hw4 (fun at_2_20 hw5 => exE hw5 (fun aa2_21 hw6 => exE hw6 (fun ql2_22 hw7 => anE hw7 (fun hv_24 hw8 => anE hw8 (fun er_26 eu_25 => ?_)))))))))
                          clear hw hw1 hw2 hw3 hw4 hw5 hw6 hw7 hw8
                          subst er_26
                          refine o_mgE (ws' := [(mm, .inr (12, mo g (nI ta) (nI pa) (nI pe) pd (nI pb) pp pf pg pn rt rn (nI cd) sn (nI il) tk2_17 am2_19 at_2_20 aa2_21 mt_ 0 (-1) wt wy (nI it_) (nI rm) (nI ud) (nI nu) sd (nI qn) (nI qw) qo (nI qb) (nI qp2_18) qa (nI qi) (nI oc))), (g 24, .inl (cI, 6, .inl (l6 u0 u1 u2 u3 u4 u5))), (g 25, .inl (cI, 6, .inl (l6 v0 v1 v2 v3 v4 v5))), (g 26, .inl (cI, 3200, .inl (fun j => nI (cs j)))), (g 31, .inl (cI, 120, .inl nw)), (g 46, .inl (cI, 9, .inl (fun j => nI (pt j)))), (g 86, .inl (cJ, 1700, .inr (.inl ql2_22))), (g 20, .inl (cI, 4, .inl (l4 (nI l0) (nI l1) (nI dm) (nI l3)))), (g 38, .inl (cI, 90, .inl zsb)), (g 36, .inl (cZ, 900, .inl zwd)), (g 37, .inl (cZ, 900, .inl zod))]) eu_25 hP hD rfl (fun hP hD => ?_)
                          have hl_27 : v_16 < 10 := by rw [hv_24]; exact kcTen_lt _
                          refine lv_iload hx hb dX12_laysDays_99 (lv_at hl 0 rfl) ?_
                          refine lv_icmp_ne (tgt := 108) hx hb dX12_laysDays_101 (by decide) (fun c_28 => ?_) (fun c_28 => ?_)
                          · have c_28 : ¬ (v_16 = jm) := fun h => c_28 ((neq v_16 jm (by omega) (by omega)).mpr h)
                            refine lv_iconst (v := 0) hx hb dX12_laysDays_108 (by decide) ?_
                            refine sk_zastE (k := (100 * i + (10 * ja) + jm)) (y := 0) (ws' := fun f_29 => [(mm, .inr (12, mo g (nI ta) (nI pa) (nI pe) pd (nI pb) pp pf pg pn rt rn (nI cd) sn (nI il) tk2_17 am2_19 at_2_20 aa2_21 mt_ 0 (-1) wt wy (nI it_) (nI rm) (nI ud) (nI nu) sd (nI qn) (nI qw) qo (nI qb) (nI qp2_18) qa (nI qi) (nI oc))), (g 24, .inl (cI, 6, .inl (l6 u0 u1 u2 u3 u4 u5))), (g 25, .inl (cI, 6, .inl (l6 v0 v1 v2 v3 v4 v5))), (g 26, .inl (cI, 3200, .inl (fun j => nI (cs j)))), (g 31, .inl (cI, 120, .inl nw)), (g 46, .inl (cI, 9, .inl (fun j => nI (pt j)))), (g 86, .inl (cJ, 1700, .inr (.inl ql2_22))), (g 20, .inl (cI, 4, .inl (l4 (nI l0) (nI l1) (nI dm) (nI l3)))), (g 38, .inl (cI, 90, .inl zsb)), (g 36, .inl (cZ, 900, .inl f_29)), (g 37, .inl (cZ, 900, .inl zod))]) hx hb hK hP hD hS 9 3 rfl rfl (by omega) (by omega) (fun _ => rfl) rfl dX12_laysDays_109 (fun f_29 H locs ef_30 hP hD hS => ?_)
                            refine lv_aload_n hx hb dX12_laysDays_110 rfl (lv_at hl 3 rfl) ?_
                            refine sk_get (v := .ref (g 37)) (C := RX12) (T := TX12) (N := 92) hx hb hts inlX12 hown hK hP 0 rfl rfl 37 (by decide) w_5_192 rfl dX12_laysDays_111 ?_
                            refine lv_bipush (v := 100) hx hb dX12_laysDays_114 (by decide) ?_
                            refine lv_iload_n hx hb dX12_laysDays_116 rfl (lv_at hl 2 rfl) ?_
                            refine lv_imul hx hb dX12_laysDays_117 ?_
                            refine sk_top (nI (100 * i)) (nmul 100 i) ?_
                            refine lv_bipush (v := 10) hx hb dX12_laysDays_118 (by decide) ?_
                            refine lv_iload_n hx hb dX12_laysDays_120 rfl (lv_at hl 1 rfl) ?_
                            refine lv_imul hx hb dX12_laysDays_121 ?_
                            refine sk_top (nI (10 * ja)) (nmul 10 ja) ?_
                            refine lv_iadd hx hb dX12_laysDays_122 ?_
                            refine sk_top (nI (100 * i + (10 * ja))) (nI_add (100 * i) (10 * ja)) ?_
                            refine lv_iload hx hb dX12_laysDays_123 (lv_at hl 0 rfl) ?_
                            refine lv_iadd hx hb dX12_laysDays_125 ?_
                            refine sk_top (nI (100 * i + (10 * ja) + jm)) (nI_add (100 * i + (10 * ja)) jm) ?_
                            refine lv_aload_n hx hb dX12_laysDays_126 rfl (lv_at hl 3 rfl) ?_
                            refine lv_iload_n hx hb dX12_laysDays_127 rfl (lv_at hl 2 rfl) ?_
                            refine lv_iload_n hx hb dX12_laysDays_128 rfl (lv_at hl 1 rfl) ?_
                            refine lv_iconst (v := 0) hx hb dX12_laysDays_129 (by decide) ?_
                            refine lv_iconst (v := 1) hx hb dX12_laysDays_130 (by decide) ?_
                            refine sk_Vi (q0 := 0) (n := 4) (rest := [.int (nI (100 * i + (10 * ja) + jm)), .ref (g 37)]) (wr := fmR om_11_7f0 _) ⟨hx, hb, hml, hown, hts⟩ hl.1 (c_nm_becomesBy1 l D cI cJ cC cZ cS mm g ta pa pe pd pb pp pf pg pn rt rn cd sn il tk2_17 am2_19 at_2_20 aa2_21 mt_ wt wy it_ rm ud nu sd qn qw qo qb qp2_18 qa qi oc i ja 0 u0 u1 u2 u3 u4 u5 v0 v1 v2 v3 v4 v5 cs nw pt ql2_22 L wk (Ba i) (We i) (by omega) (by omega) (by omega) hLk hkl (hmds i (by omega)) hwk (hB9 i) (hW9 i) hmw1 hcs hnw hpt) w_7_176 w_7_178 w_0_81 w_1_14 w_7_179 hd_X12_becomesBy_4 ⟨⟨(Nat.le_of_ble_eq_true rfl), (Nat.le_of_ble_eq_true rfl)⟩, (Nat.le_of_ble_eq_true rfl), (Nat.le_of_ble_eq_true rfl)⟩ hK hP hD hS hA (fmT om_11_7f0 0) (fmF om_11_7f0 0) (fm_C1 rfl rfl) (fm_R rfl rfl) (fm_nT om_11_7f0 0) (fm_nF om_11_7f0 0) (fm_di om_11_7f0 0) rfl rfl rfl rfl (Nat.le_of_ble_eq_true rfl) dX12_laysDays_131 (fun r_38 u H locs hw hP hD hS => ?_)
                            refine exE hw (fun v_31 hw1 => exE hw1 (fun tk2_32 hw2 => exE hw2 (fun qp2_33 hw3 => exE hw3 (fun am2_34 hw4 => exE hw4 (fun at_2_35 hw5 => exE hw5 (fun aa2_36 hw6 => exE hw6 (fun ql2_37 hw7 => anE hw7 (fun hv_39 hw8 => anE hw8 (fun er_41 eu_40 => ?_)))))))))
                            clear hw hw1 hw2 hw3 hw4 hw5 hw6 hw7 hw8
                            subst er_41
                            refine o_mgE (ws' := [(mm, .inr (12, mo g (nI ta) (nI pa) (nI pe) pd (nI pb) pp pf pg pn rt rn (nI cd) sn (nI il) tk2_32 am2_34 at_2_35 aa2_36 mt_ 0 (-1) wt wy (nI it_) (nI rm) (nI ud) (nI nu) sd (nI qn) (nI qw) qo (nI qb) (nI qp2_33) qa (nI qi) (nI oc))), (g 24, .inl (cI, 6, .inl (l6 u0 u1 u2 u3 u4 u5))), (g 25, .inl (cI, 6, .inl (l6 v0 v1 v2 v3 v4 v5))), (g 26, .inl (cI, 3200, .inl (fun j => nI (cs j)))), (g 31, .inl (cI, 120, .inl nw)), (g 46, .inl (cI, 9, .inl (fun j => nI (pt j)))), (g 86, .inl (cJ, 1700, .inr (.inl ql2_37))), (g 20, .inl (cI, 4, .inl (l4 (nI l0) (nI l1) (nI dm) (nI l3)))), (g 38, .inl (cI, 90, .inl zsb)), (g 36, .inl (cZ, 900, .inl f_29)), (g 37, .inl (cZ, 900, .inl zod))]) eu_40 hP hD rfl (fun hP hD => ?_)
                            have hl_42 : v_31 < 10 := by rw [hv_39]; exact kcTen_lt _
                            refine lv_iload hx hb dX12_laysDays_134 (lv_at hl 0 rfl) ?_
                            refine lv_icmp_ne (tgt := 143) hx hb dX12_laysDays_136 (by decide) (fun c_43 => ?_) (fun c_43 => ?_)
                            · have c_43 : ¬ (v_31 = jm) := fun h => c_43 ((neq v_31 jm (by omega) (by omega)).mpr h)
                              refine lv_iconst (v := 0) hx hb dX12_laysDays_143 (by decide) ?_
                              refine sk_zastE (k := (100 * i + (10 * ja) + jm)) (y := 0) (ws' := fun f_44 => [(mm, .inr (12, mo g (nI ta) (nI pa) (nI pe) pd (nI pb) pp pf pg pn rt rn (nI cd) sn (nI il) tk2_32 am2_34 at_2_35 aa2_36 mt_ 0 (-1) wt wy (nI it_) (nI rm) (nI ud) (nI nu) sd (nI qn) (nI qw) qo (nI qb) (nI qp2_33) qa (nI qi) (nI oc))), (g 24, .inl (cI, 6, .inl (l6 u0 u1 u2 u3 u4 u5))), (g 25, .inl (cI, 6, .inl (l6 v0 v1 v2 v3 v4 v5))), (g 26, .inl (cI, 3200, .inl (fun j => nI (cs j)))), (g 31, .inl (cI, 120, .inl nw)), (g 46, .inl (cI, 9, .inl (fun j => nI (pt j)))), (g 86, .inl (cJ, 1700, .inr (.inl ql2_37))), (g 20, .inl (cI, 4, .inl (l4 (nI l0) (nI l1) (nI dm) (nI l3)))), (g 38, .inl (cI, 90, .inl zsb)), (g 36, .inl (cZ, 900, .inl f_29)), (g 37, .inl (cZ, 900, .inl f_44))]) hx hb hK hP hD hS 10 3 rfl rfl (by omega) (by omega) (fun _ => rfl) rfl dX12_laysDays_144 (fun f_44 H locs ef_45 hP hD hS => ?_)
                              refine lv_iinc (v := nI (jm + 1)) (lv' := [(4, .int (nI (jm + 1))), (3, .int (nI ja)), (2, .int (nI i)), (0, .ref mm), (1, .int (nI li))]) hx hb dX12_laysDays_145 hl (k := 0) rfl (ninc jm 1 (by decide)) (by decide) rfl (fun ls hl => ?_)
                              refine lv_goto (tgt := 57) hx hb dX12_laysDays_148 (by decide) ?_
                              exact ih_lp_13 (jm + 1) am2_34 at_2_35 aa2_36 tk2_32 qp2_33 ql2_37 f_29 f_44 _ _ _ (by omega) (by omega) (mlD_a hmd_ ef_30 ef_45 (by omega)) (mlA_s hmaj ef_30 ef_45 (by omega) (by omega) (kone_f (by rw [← hv_24]; exact c_28)) (kone_f (by rw [← hv_39]; exact c_43))) hP hD hS (lv_sub hl [0, 1, 2, 3, 4] rfl)
                            · have c_43 : v_31 = jm := (neq v_31 jm (by omega) (by omega)).mp c_43
                              refine lv_iconst (v := 1) hx hb dX12_laysDays_139 (by decide) ?_
                              refine lv_goto (tgt := 144) hx hb dX12_laysDays_140 (by decide) ?_
                              refine sk_zastE (k := (100 * i + (10 * ja) + jm)) (y := 1) (ws' := fun f_46 => [(mm, .inr (12, mo g (nI ta) (nI pa) (nI pe) pd (nI pb) pp pf pg pn rt rn (nI cd) sn (nI il) tk2_32 am2_34 at_2_35 aa2_36 mt_ 0 (-1) wt wy (nI it_) (nI rm) (nI ud) (nI nu) sd (nI qn) (nI qw) qo (nI qb) (nI qp2_33) qa (nI qi) (nI oc))), (g 24, .inl (cI, 6, .inl (l6 u0 u1 u2 u3 u4 u5))), (g 25, .inl (cI, 6, .inl (l6 v0 v1 v2 v3 v4 v5))), (g 26, .inl (cI, 3200, .inl (fun j => nI (cs j)))), (g 31, .inl (cI, 120, .inl nw)), (g 46, .inl (cI, 9, .inl (fun j => nI (pt j)))), (g 86, .inl (cJ, 1700, .inr (.inl ql2_37))), (g 20, .inl (cI, 4, .inl (l4 (nI l0) (nI l1) (nI dm) (nI l3)))), (g 38, .inl (cI, 90, .inl zsb)), (g 36, .inl (cZ, 900, .inl f_29)), (g 37, .inl (cZ, 900, .inl f_46))]) hx hb hK hP hD hS 10 3 rfl rfl (by omega) (by omega) (fun _ => rfl) rfl dX12_laysDays_144 (fun f_46 H locs ef_47 hP hD hS => ?_)
                              refine lv_iinc (v := nI (jm + 1)) (lv' := [(4, .int (nI (jm + 1))), (3, .int (nI ja)), (2, .int (nI i)), (0, .ref mm), (1, .int (nI li))]) hx hb dX12_laysDays_145 hl (k := 0) rfl (ninc jm 1 (by decide)) (by decide) rfl (fun ls hl => ?_)
                              refine lv_goto (tgt := 57) hx hb dX12_laysDays_148 (by decide) ?_
                              exact ih_lp_13 (jm + 1) am2_34 at_2_35 aa2_36 tk2_32 qp2_33 ql2_37 f_29 f_46 _ _ _ (by omega) (by omega) (mlD_a hmd_ ef_30 ef_47 (by omega)) (mlA_s hmaj ef_30 ef_47 (by omega) (by omega) (kone_f (by rw [← hv_24]; exact c_28)) (kone_t (by rw [← hv_39]; exact c_43))) hP hD hS (lv_sub hl [0, 1, 2, 3, 4] rfl)
                          · have c_28 : v_16 = jm := (neq v_16 jm (by omega) (by omega)).mp c_28
                            refine lv_iconst (v := 1) hx hb dX12_laysDays_104 (by decide) ?_
                            refine lv_goto (tgt := 109) hx hb dX12_laysDays_105 (by decide) ?_
                            refine sk_zastE (k := (100 * i + (10 * ja) + jm)) (y := 1) (ws' := fun f_48 => [(mm, .inr (12, mo g (nI ta) (nI pa) (nI pe) pd (nI pb) pp pf pg pn rt rn (nI cd) sn (nI il) tk2_17 am2_19 at_2_20 aa2_21 mt_ 0 (-1) wt wy (nI it_) (nI rm) (nI ud) (nI nu) sd (nI qn) (nI qw) qo (nI qb) (nI qp2_18) qa (nI qi) (nI oc))), (g 24, .inl (cI, 6, .inl (l6 u0 u1 u2 u3 u4 u5))), (g 25, .inl (cI, 6, .inl (l6 v0 v1 v2 v3 v4 v5))), (g 26, .inl (cI, 3200, .inl (fun j => nI (cs j)))), (g 31, .inl (cI, 120, .inl nw)), (g 46, .inl (cI, 9, .inl (fun j => nI (pt j)))), (g 86, .inl (cJ, 1700, .inr (.inl ql2_22))), (g 20, .inl (cI, 4, .inl (l4 (nI l0) (nI l1) (nI dm) (nI l3)))), (g 38, .inl (cI, 90, .inl zsb)), (g 36, .inl (cZ, 900, .inl f_48)), (g 37, .inl (cZ, 900, .inl zod))]) hx hb hK hP hD hS 9 3 rfl rfl (by omega) (by omega) (fun _ => rfl) rfl dX12_laysDays_109 (fun f_48 H locs ef_49 hP hD hS => ?_)
                            refine lv_aload_n hx hb dX12_laysDays_110 rfl (lv_at hl 3 rfl) ?_
                            refine sk_get (v := .ref (g 37)) (C := RX12) (T := TX12) (N := 92) hx hb hts inlX12 hown hK hP 0 rfl rfl 37 (by decide) w_5_192 rfl dX12_laysDays_111 ?_
                            refine lv_bipush (v := 100) hx hb dX12_laysDays_114 (by decide) ?_
                            refine lv_iload_n hx hb dX12_laysDays_116 rfl (lv_at hl 2 rfl) ?_
                            refine lv_imul hx hb dX12_laysDays_117 ?_
                            refine sk_top (nI (100 * i)) (nmul 100 i) ?_
                            refine lv_bipush (v := 10) hx hb dX12_laysDays_118 (by decide) ?_
                            refine lv_iload_n hx hb dX12_laysDays_120 rfl (lv_at hl 1 rfl) ?_
                            refine lv_imul hx hb dX12_laysDays_121 ?_
                            refine sk_top (nI (10 * ja)) (nmul 10 ja) ?_
                            refine lv_iadd hx hb dX12_laysDays_122 ?_
                            refine sk_top (nI (100 * i + (10 * ja))) (nI_add (100 * i) (10 * ja)) ?_
                            refine lv_iload hx hb dX12_laysDays_123 (lv_at hl 0 rfl) ?_
                            refine lv_iadd hx hb dX12_laysDays_125 ?_
                            refine sk_top (nI (100 * i + (10 * ja) + jm)) (nI_add (100 * i + (10 * ja)) jm) ?_
                            refine lv_aload_n hx hb dX12_laysDays_126 rfl (lv_at hl 3 rfl) ?_
                            refine lv_iload_n hx hb dX12_laysDays_127 rfl (lv_at hl 2 rfl) ?_
                            refine lv_iload_n hx hb dX12_laysDays_128 rfl (lv_at hl 1 rfl) ?_
                            refine lv_iconst (v := 0) hx hb dX12_laysDays_129 (by decide) ?_
                            refine lv_iconst (v := 1) hx hb dX12_laysDays_130 (by decide) ?_
                            refine sk_Vi (q0 := 0) (n := 4) (rest := [.int (nI (100 * i + (10 * ja) + jm)), .ref (g 37)]) (wr := fmR om_11_7f0 _) ⟨hx, hb, hml, hown, hts⟩ hl.1 (c_nm_becomesBy1 l D cI cJ cC cZ cS mm g ta pa pe pd pb pp pf pg pn rt rn cd sn il tk2_17 am2_19 at_2_20 aa2_21 mt_ wt wy it_ rm ud nu sd qn qw qo qb qp2_18 qa qi oc i ja 0 u0 u1 u2 u3 u4 u5 v0 v1 v2 v3 v4 v5 cs nw pt ql2_22 L wk (Ba i) (We i) (by omega) (by omega) (by omega) hLk hkl (hmds i (by omega)) hwk (hB9 i) (hW9 i) hmw1 hcs hnw hpt) w_7_176 w_7_178 w_0_81 w_1_14 w_7_179 hd_X12_becomesBy_4 ⟨⟨(Nat.le_of_ble_eq_true rfl), (Nat.le_of_ble_eq_true rfl)⟩, (Nat.le_of_ble_eq_true rfl), (Nat.le_of_ble_eq_true rfl)⟩ hK hP hD hS hA (fmT om_11_7f0 0) (fmF om_11_7f0 0) (fm_C1 rfl rfl) (fm_R rfl rfl) (fm_nT om_11_7f0 0) (fm_nF om_11_7f0 0) (fm_di om_11_7f0 0) rfl rfl rfl rfl (Nat.le_of_ble_eq_true rfl) dX12_laysDays_131 (fun r_57 u H locs hw hP hD hS => ?_)
                            refine exE hw (fun v_50 hw1 => exE hw1 (fun tk2_51 hw2 => exE hw2 (fun qp2_52 hw3 => exE hw3 (fun am2_53 hw4 => exE hw4 (fun at_2_54 hw5 => exE hw5 (fun aa2_55 hw6 => exE hw6 (fun ql2_56 hw7 => anE hw7 (fun hv_58 hw8 => anE hw8 (fun er_60 eu_59 => ?_)))))))))
                            clear hw hw1 hw2 hw3 hw4 hw5 hw6 hw7 hw8
                            subst er_60
                            refine o_mgE (ws' := [(mm, .inr (12, mo g (nI ta) (nI pa) (nI pe) pd (nI pb) pp pf pg pn rt rn (nI cd) sn (nI il) tk2_51 am2_53 at_2_54 aa2_55 mt_ 0 (-1) wt wy (nI it_) (nI rm) (nI ud) (nI nu) sd (nI qn) (nI qw) qo (nI qb) (nI qp2_52) qa (nI qi) (nI oc))), (g 24, .inl (cI, 6, .inl (l6 u0 u1 u2 u3 u4 u5))), (g 25, .inl (cI, 6, .inl (l6 v0 v1 v2 v3 v4 v5))), (g 26, .inl (cI, 3200, .inl (fun j => nI (cs j)))), (g 31, .inl (cI, 120, .inl nw)), (g 46, .inl (cI, 9, .inl (fun j => nI (pt j)))), (g 86, .inl (cJ, 1700, .inr (.inl ql2_56))), (g 20, .inl (cI, 4, .inl (l4 (nI l0) (nI l1) (nI dm) (nI l3)))), (g 38, .inl (cI, 90, .inl zsb)), (g 36, .inl (cZ, 900, .inl f_48)), (g 37, .inl (cZ, 900, .inl zod))]) eu_59 hP hD rfl (fun hP hD => ?_)
                            have hl_61 : v_50 < 10 := by rw [hv_58]; exact kcTen_lt _
                            refine lv_iload hx hb dX12_laysDays_134 (lv_at hl 0 rfl) ?_
                            refine lv_icmp_ne (tgt := 143) hx hb dX12_laysDays_136 (by decide) (fun c_62 => ?_) (fun c_62 => ?_)
                            · have c_62 : ¬ (v_50 = jm) := fun h => c_62 ((neq v_50 jm (by omega) (by omega)).mpr h)
                              refine lv_iconst (v := 0) hx hb dX12_laysDays_143 (by decide) ?_
                              refine sk_zastE (k := (100 * i + (10 * ja) + jm)) (y := 0) (ws' := fun f_63 => [(mm, .inr (12, mo g (nI ta) (nI pa) (nI pe) pd (nI pb) pp pf pg pn rt rn (nI cd) sn (nI il) tk2_51 am2_53 at_2_54 aa2_55 mt_ 0 (-1) wt wy (nI it_) (nI rm) (nI ud) (nI nu) sd (nI qn) (nI qw) qo (nI qb) (nI qp2_52) qa (nI qi) (nI oc))), (g 24, .inl (cI, 6, .inl (l6 u0 u1 u2 u3 u4 u5))), (g 25, .inl (cI, 6, .inl (l6 v0 v1 v2 v3 v4 v5))), (g 26, .inl (cI, 3200, .inl (fun j => nI (cs j)))), (g 31, .inl (cI, 120, .inl nw)), (g 46, .inl (cI, 9, .inl (fun j => nI (pt j)))), (g 86, .inl (cJ, 1700, .inr (.inl ql2_56))), (g 20, .inl (cI, 4, .inl (l4 (nI l0) (nI l1) (nI dm) (nI l3)))), (g 38, .inl (cI, 90, .inl zsb)), (g 36, .inl (cZ, 900, .inl f_48)), (g 37, .inl (cZ, 900, .inl f_63))]) hx hb hK hP hD hS 10 3 rfl rfl (by omega) (by omega) (fun _ => rfl) rfl dX12_laysDays_144 (fun f_63 H locs ef_64 hP hD hS => ?_)
                              refine lv_iinc (v := nI (jm + 1)) (lv' := [(4, .int (nI (jm + 1))), (3, .int (nI ja)), (2, .int (nI i)), (0, .ref mm), (1, .int (nI li))]) hx hb dX12_laysDays_145 hl (k := 0) rfl (ninc jm 1 (by decide)) (by decide) rfl (fun ls hl => ?_)
                              refine lv_goto (tgt := 57) hx hb dX12_laysDays_148 (by decide) ?_
                              exact ih_lp_13 (jm + 1) am2_53 at_2_54 aa2_55 tk2_51 qp2_52 ql2_56 f_48 f_63 _ _ _ (by omega) (by omega) (mlD_a hmd_ ef_49 ef_64 (by omega)) (mlA_s hmaj ef_49 ef_64 (by omega) (by omega) (kone_t (by rw [← hv_24]; exact c_28)) (kone_f (by rw [← hv_58]; exact c_62))) hP hD hS (lv_sub hl [0, 1, 2, 3, 4] rfl)
                            · have c_62 : v_50 = jm := (neq v_50 jm (by omega) (by omega)).mp c_62
                              refine lv_iconst (v := 1) hx hb dX12_laysDays_139 (by decide) ?_
                              refine lv_goto (tgt := 144) hx hb dX12_laysDays_140 (by decide) ?_
                              refine sk_zastE (k := (100 * i + (10 * ja) + jm)) (y := 1) (ws' := fun f_65 => [(mm, .inr (12, mo g (nI ta) (nI pa) (nI pe) pd (nI pb) pp pf pg pn rt rn (nI cd) sn (nI il) tk2_51 am2_53 at_2_54 aa2_55 mt_ 0 (-1) wt wy (nI it_) (nI rm) (nI ud) (nI nu) sd (nI qn) (nI qw) qo (nI qb) (nI qp2_52) qa (nI qi) (nI oc))), (g 24, .inl (cI, 6, .inl (l6 u0 u1 u2 u3 u4 u5))), (g 25, .inl (cI, 6, .inl (l6 v0 v1 v2 v3 v4 v5))), (g 26, .inl (cI, 3200, .inl (fun j => nI (cs j)))), (g 31, .inl (cI, 120, .inl nw)), (g 46, .inl (cI, 9, .inl (fun j => nI (pt j)))), (g 86, .inl (cJ, 1700, .inr (.inl ql2_56))), (g 20, .inl (cI, 4, .inl (l4 (nI l0) (nI l1) (nI dm) (nI l3)))), (g 38, .inl (cI, 90, .inl zsb)), (g 36, .inl (cZ, 900, .inl f_48)), (g 37, .inl (cZ, 900, .inl f_65))]) hx hb hK hP hD hS 10 3 rfl rfl (by omega) (by omega) (fun _ => rfl) rfl dX12_laysDays_144 (fun f_65 H locs ef_66 hP hD hS => ?_)
                              refine lv_iinc (v := nI (jm + 1)) (lv' := [(4, .int (nI (jm + 1))), (3, .int (nI ja)), (2, .int (nI i)), (0, .ref mm), (1, .int (nI li))]) hx hb dX12_laysDays_145 hl (k := 0) rfl (ninc jm 1 (by decide)) (by decide) rfl (fun ls hl => ?_)
                              refine lv_goto (tgt := 57) hx hb dX12_laysDays_148 (by decide) ?_
                              exact ih_lp_13 (jm + 1) am2_53 at_2_54 aa2_55 tk2_51 qp2_52 ql2_56 f_48 f_65 _ _ _ (by omega) (by omega) (mlD_a hmd_ ef_49 ef_66 (by omega)) (mlA_s hmaj ef_49 ef_66 (by omega) (by omega) (kone_t (by rw [← hv_24]; exact c_28)) (kone_t (by rw [← hv_58]; exact c_62))) hP hD hS (lv_sub hl [0, 1, 2, 3, 4] rfl)
                    exact lp_13 (10 - 0 + 1) 0 zamc zat_c zaac ztkc zqpc zlc zwc zoc _ _ _ (Nat.lt_succ_self _) (by omega) hmc hma hP hD hS (lv_sub hl [0, 1, 2, 3, 4] rfl)
              exact lp_10 (10 - 0 + 1) 0 zamb zat_b zaab ztkb zqpb zlb zw zo _ _ _ (Nat.lt_succ_self _) (by omega) (show mlS L wk Ba We li i zsb 10 by rw [show 10 = jj by omega]; exact hms) hmb (mlA_0 _ _ _ _ _ _ _ _) hP hD hS (lv_sub hl [0, 1, 2, 3] rfl)
            · have c_9 : ¬ (10 ≤ jj) := fun h => c_9 ((nle 10 jj (by omega) (by omega)).mpr h)
              refine lv_aload_n hx hb dX12_laysDays_18 rfl (lv_at hl 2 rfl) ?_
              refine sk_get (v := .ref (g 38)) (C := RX12) (T := TX12) (N := 92) hx hb hts inlX12 hown hK hP 0 rfl rfl 38 (by decide) w_5_193 rfl dX12_laysDays_19 ?_
              refine lv_bipush (v := 10) hx hb dX12_laysDays_22 (by decide) ?_
              refine lv_iload_n hx hb dX12_laysDays_24 rfl (lv_at hl 1 rfl) ?_
              refine lv_imul hx hb dX12_laysDays_25 ?_
              refine sk_top (nI (10 * i)) (nmul 10 i) ?_
              refine lv_iload_n hx hb dX12_laysDays_26 rfl (lv_at hl 0 rfl) ?_
              refine lv_iadd hx hb dX12_laysDays_27 ?_
              refine sk_top (nI (10 * i + jj)) (nI_add (10 * i) jj) ?_
              refine lv_aload_n hx hb dX12_laysDays_28 rfl (lv_at hl 2 rfl) ?_
              refine lv_iload_n hx hb dX12_laysDays_29 rfl (lv_at hl 1 rfl) ?_
              refine lv_iload_n hx hb dX12_laysDays_30 rfl (lv_at hl 0 rfl) ?_
              refine sk_Vi (q0 := 0) (n := 2) (rest := [.int (nI (10 * i + jj)), .ref (g 38)]) (wr := fmR om_11_7f0 _) ⟨hx, hb, hml, hown, hts⟩ hl.1 (c_nm_wordOf l D cI cJ cC cZ cS mm g ta pa pe pd pb pp pf pg pn rt rn cd sn il ztkb zamb zat_b zaab mt_ wt wy it_ rm ud nu sd qn qw qo qb zqpb qa qi oc i jj u0 u1 u2 u3 u4 u5 v0 v1 v2 v3 v4 v5 cs nw pt zlb L wk (Ba i) (We i) (by omega) (by omega) hLk hkl (hmds i (by omega)) hwk (hB9 i) (hW9 i) hmw0 hcs hnw hpt) w_7_131 w_7_133 w_0_74 w_1_14 w_7_134 hd_X12_wordOf_2 ⟨⟨(Nat.le_of_ble_eq_true rfl), (Nat.le_of_ble_eq_true rfl)⟩, (Nat.le_of_ble_eq_true rfl), (Nat.le_of_ble_eq_true rfl)⟩ hK hP hD hS hA (fmT om_11_7f0 0) (fmF om_11_7f0 0) (fm_C1 rfl rfl) (fm_R rfl rfl) (fm_nT om_11_7f0 0) (fm_nF om_11_7f0 0) (fm_di om_11_7f0 0) rfl rfl rfl rfl (Nat.le_of_ble_eq_true rfl) dX12_laysDays_31 (fun r_72 u H locs hw hP hD hS => ?_)
              refine exE hw (fun v_67 hw1 => exE hw1 (fun tk2_68 hw2 => exE hw2 (fun qp2_69 hw3 => exE hw3 (fun am2_70 hw4 => exE hw4 (fun ql2_71 hw5 => anE hw5 (fun hv_73 hw6 => anE hw6 (fun er_75 eu_74 => ?_)))))))
              clear hw hw1 hw2 hw3 hw4 hw5 hw6
              subst er_75
              refine o_mgE (ws' := [(mm, .inr (12, mo g (nI ta) (nI pa) (nI pe) pd (nI pb) pp pf pg pn rt rn (nI cd) sn (nI il) tk2_68 am2_70 zat_b zaab mt_ 0 (-1) wt wy (nI it_) (nI rm) (nI ud) (nI nu) sd (nI qn) (nI qw) qo (nI qb) (nI qp2_69) qa (nI qi) (nI oc))), (g 24, .inl (cI, 6, .inl (l6 u0 u1 u2 u3 u4 u5))), (g 25, .inl (cI, 6, .inl (l6 v0 v1 v2 v3 v4 v5))), (g 26, .inl (cI, 3200, .inl (fun j => nI (cs j)))), (g 31, .inl (cI, 120, .inl nw)), (g 46, .inl (cI, 9, .inl (fun j => nI (pt j)))), (g 86, .inl (cJ, 1700, .inr (.inl ql2_71))), (g 20, .inl (cI, 4, .inl (l4 (nI l0) (nI l1) (nI dm) (nI l3)))), (g 38, .inl (cI, 90, .inl zsb)), (g 36, .inl (cZ, 900, .inl zw)), (g 37, .inl (cZ, 900, .inl zo))]) eu_74 hP hD rfl (fun hP hD => ?_)
              have hl_76 : v_67 < 10 := by rw [hv_73]; exact kcTen_lt _
              refine lv_iload_n hx hb dX12_laysDays_34 rfl (lv_at hl 3 rfl) ?_
              refine lv_iadd hx hb dX12_laysDays_35 ?_
              refine sk_top (nI (v_67 + li)) (nI_add v_67 li) ?_
              refine lv_bipush (v := 10) hx hb dX12_laysDays_36 (by decide) ?_
              refine lv_irem hx hb dX12_laysDays_38 (by decide) ?_
              refine sk_top (nI ((v_67 + li) % 10)) (nrem (v_67 + li) 10 (by omega) (by omega) (by omega)) ?_
              refine sk_iastE (k := (10 * i + jj)) (ws' := fun f_77 => [(mm, .inr (12, mo g (nI ta) (nI pa) (nI pe) pd (nI pb) pp pf pg pn rt rn (nI cd) sn (nI il) tk2_68 am2_70 zat_b zaab mt_ 0 (-1) wt wy (nI it_) (nI rm) (nI ud) (nI nu) sd (nI qn) (nI qw) qo (nI qb) (nI qp2_69) qa (nI qi) (nI oc))), (g 24, .inl (cI, 6, .inl (l6 u0 u1 u2 u3 u4 u5))), (g 25, .inl (cI, 6, .inl (l6 v0 v1 v2 v3 v4 v5))), (g 26, .inl (cI, 3200, .inl (fun j => nI (cs j)))), (g 31, .inl (cI, 120, .inl nw)), (g 46, .inl (cI, 9, .inl (fun j => nI (pt j)))), (g 86, .inl (cJ, 1700, .inr (.inl ql2_71))), (g 20, .inl (cI, 4, .inl (l4 (nI l0) (nI l1) (nI dm) (nI l3)))), (g 38, .inl (cI, 90, .inl f_77)), (g 36, .inl (cZ, 900, .inl zw)), (g 37, .inl (cZ, 900, .inl zo))]) hx hb hK hP hD hS 8 0 rfl rfl (by omega) (by omega) (fun _ => rfl) dX12_laysDays_39 (fun f_77 H locs ef_78 hP hD hS => ?_)
              refine lv_iinc (v := nI (jj + 1)) (lv' := [(3, .int (nI (jj + 1))), (2, .int (nI i)), (0, .ref mm), (1, .int (nI li))]) hx hb dX12_laysDays_40 hl (k := 0) rfl (ninc jj 1 (by decide)) (by decide) rfl (fun ls hl => ?_)
              refine lv_goto (tgt := 12) hx hb dX12_laysDays_43 (by decide) ?_
              exact ih_lp_7 (jj + 1) am2_70 zat_b zaab tk2_68 qp2_69 ql2_71 f_77 _ _ _ (by omega) (by omega) (mlD_w hmb ef_78) (mlS_s hms ef_78 hv_73) hP hD hS (lv_sub hl [0, 1, 2, 3] rfl)
        exact lp_7 (10 - 0 + 1) 0 zam zat_ zaa ztk zqp zl zs _ _ _ (Nat.lt_succ_self _) (by omega) hmi (mlS_0 _ _ _ _ _ _ _) hP hD hS (lv_sub hl [0, 1, 2, 3] rfl)
  exact lp_1 (dm - 0 + 1) 0 am at_ aa tk qp ql ws_ yw yo _ _ _ (Nat.lt_succ_self _) (by omega) (mlD_0 _ _ _ _ _ _ _ _) hP hD hS (lv_sub hl [0, 1, 2] rfl)

