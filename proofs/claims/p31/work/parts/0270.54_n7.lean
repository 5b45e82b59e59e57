/-! bits of the mute days -/
theorem kbs_d : ∀ x, x < 512 → 1 ≤ x → nI x &&& nI (x - 1) = nI (x &&& (x - 1)) ∧ x &&& (x - 1) < x ∧ kpop (x &&& (x - 1)) + 1 = kpop x := by decide +kernel
theorem kpop_0 : kpop 0 = 0 := by decide
theorem kmK_s {U : Nat → Bool} {ms : Int32} {i : Nat} (h : ms = nI (kcK U i)) (hi : i < 9) (hu : U i = true) : ms ||| ((1 : Int32) <<< (nI i &&& 31)) = nI (kcK U (i + 1)) := by
  rw [h, kor_10 (kK_lt10 U (by omega)) (by omega), kcK_or U i hu]
theorem kmK_n {U : Nat → Bool} {ms : Int32} {i : Nat} (h : ms = nI (kcK U i)) (hu : ¬ U i = true) : ms = nI (kcK U (i + 1)) := by
  rw [kcK_no U i hu]; exact h
theorem kmK_512 (U : Nat → Bool) {n : Nat} (h : n ≤ 9) : kcK U n < 512 := Nat.lt_of_lt_of_le (kcK_lt U n) (Nat.pow_le_pow_right (by decide) h)
theorem kmK_pop {U : Nat → Bool} {dy : Nat} (h : ∀ j, U j = true → j < dy) : kpop (kcK U dy) = kSum U 9 := kpop_U (fun d _ => by
  rw [kcK_bit]
  cases hu : U d with
  | true => rw [show decide (d < dy) = true from decide_eq_true (h d hu)]; rfl
  | false => rw [Bool.and_false])
/-! day, kept -/
theorem dyR_n {Ba We : Nat → Nat} {U : Nat → Bool} {k : Nat} {w : Int32} (h : ¬ kIn w 3) : (-1 : Int32) = dayV Ba We U k w := by
  unfold dayV
  rw [if_neg (fun q : w = 0 => h ⟨0, by decide, q⟩), if_neg (fun q : w = 1 => h ⟨1, by decide, q⟩), if_neg (fun q : w = 2 => h ⟨2, by decide, q⟩)]
theorem dyR_y {wn mo ke : Nat} {Ba We : Nat → Nat} {U : Nat → Bool} {lg : KLg} {nw : Nat → Int32} {k j : Nat} {x : Int32} (h : nwX wn mo Ba We U ke lg nw) (hk : k < 9) (hj : j < 3) (hx : x = nw (2 + 3 * k + j)) : x = dayV Ba We U k (nI j) := by
  rw [hx]
  rcases (show j = 0 ∨ j = 1 ∨ j = 2 by omega) with rfl | rfl | rfl
  · exact (nwX_b h hk)
  · exact (nwX_w h hk)
  · exact (nwX_m h hk)
theorem keptX_y {wn mo ke : Nat} {Ba We : Nat → Nat} {U : Nat → Bool} {lg : KLg} {nw : Nat → Int32} {k j : Nat} {x : Int32} (h : nwX wn mo Ba We U ke lg nw) (hl : lgOk lg) (hk : k < min ke 30) (hj : j < 3) (hx : x = nw (30 + 3 * k + j)) : keptR lg ke (nI k) (nI j) (Int32.toInt64 x) := by
  refine kR_1 (k, j) ⟨hk, rfl, hj, rfl⟩ ?_
  have h1 := h.2.2.2.2.2 k hk
  have h2 := hl (ke - min ke 30 + k)
  rw [hx]
  rcases (show j = 0 ∨ j = 1 ∨ j = 2 by omega) with rfl | rfl | rfl
  · rw [show 30 + 3 * k + 0 = 30 + 3 * k by omega, h1.1, kx_i2l (by omega)]; rfl
  · rw [h1.2.1, kx_i2l (by omega)]; rfl
  · rw [h1.2.2, kx_i2l (by omega)]; rfl
theorem kept_w {lg : KLg} {ke : Nat} {k w : Int32} (h : ¬ kIn w 3) : keptR lg ke k w (-1000000000000000) := kR_0 (fun x q => h ⟨x.2, q.2.2.1, q.2.2.2⟩) rfl
/-! acts -/
theorem set_w {dy : Nat} {n : KN} {ac : Nat} {su : Nat → KN} {rf rf2 : Nat → Int32} {d w o : Int32} (h : ¬ kIn w 2) (e : rf2 = upd rf 2 (rf 2 + 1)) : setR dy n ac su rf d w o 0 n ac su rf2 := set_n (fun x q => by
  rcases q.2.2.2.2 with ⟨a, -⟩ | ⟨a, -⟩
  · exact h ⟨0, by decide, a⟩
  · exact h ⟨1, by decide, a⟩) e
theorem mut_w {dy : Nat} {n : KN} {ac : Nat} {su : Nat → KN} {rf rf2 : Nat → Int32} {d w : Int32} (h : ¬ kIn w 2) (e : rf2 = upd rf 2 (rf 2 + 1)) : muteR dy n ac su rf d w 0 n ac su rf2 := kR_0 (fun x q => by
  rcases q.2.2 with ⟨a, -⟩ | ⟨a, -⟩
  · exact h ⟨1, by decide, a⟩
  · exact h ⟨0, by decide, a⟩) ⟨rfl, rfl, rfl, rfl, e⟩
theorem stat_n {rf : Nat → Int32} {w : Int32} (h : ¬ kIn w 6) : statR rf w (-1) := Or.inl ⟨h, rfl⟩
theorem stat_y {rf : Nat → Int32} {k : Nat} {x : Int32} (h : k < 6) (hx : x = rf k) : statR rf (nI k) x := Or.inr ⟨k, h, rfl, hx⟩
/-! draws, as the reference does them -/
theorem kdr_rem (x : Nat) (h : x < 2147483648) : (1103515245 * Int64.ofNat x + 12345) - (1103515245 * Int64.ofNat x + 12345) / 2147483648 * 2147483648 = Int64.ofNat (kdr x) := by
  have h1 : (1103515245 : Int64) * Int64.ofNat x + 12345 = Int64.ofNat (1103515245 * x + 12345) := by
    rw [Int64.ofNat_add, Int64.ofNat_mul]; rfl
  have h2 : (2147483648 : Int64) = Int64.ofNat 2147483648 := rfl
  rw [h1, h2, kofn_rem (by omega) (by omega) (by omega)]
  rfl
set_option maxHeartbeats 4000000 in
set_option maxRecDepth 100000 in
theorem c_nm_isIn (l : Launch) (D : va_G) (cI cJ cC cZ cS : ClassId) (v : Int64) (y : Int64) (z : Int64)  : skM l yX12_isIn cX12_isIn 6 (some .boolean) 0 0 0 0 D (skT cI cJ cC cZ cS) [.long v, .long y, .long z] [] (skI D (skT cI cJ cC cZ cS) (fun (r : Int32) (u : va_W) => ∃ (b : Nat), ((b = 0 ∧ ¬ (y ≤ v ∧ v ≤ z)) ∨ (b = 1 ∧ y ≤ v ∧ v ≤ z)) ∧ r = nI b ∧ u = [])) := by
  refine skM_of pf_X12_isIn (Nat.le_of_ble_eq_true rfl) ?_
  intro p e s m below meth c A ls E hP hD hl
  refine skE_el E (fun hx hb hr hml hlocks hin hown hts hK hA => ?_)
  have hown : s.vm.findClass RX12 = some m.cls := hown
  have hS : va_S A s.heap s.heap [] := va_S.rf
  have hl : lv_has ls 6 [(0, .long v), (2, .long y), (4, .long z)] := hl
  refine lv_lload_n hx hb dX12_isIn_0 rfl (lv_at hl 0 rfl) ?_
  refine lv_lload_n hx hb dX12_isIn_1 rfl (lv_at hl 1 rfl) ?_
  refine W.lcmp hx hb dX12_isIn_2 ?_
  refine lv_if_lt (tgt := 17) hx hb dX12_isIn_3 (by decide) (fun c_1 => ?_) (fun c_1 => ?_)
  · skip
    refine lv_iconst (v := 0) hx hb dX12_isIn_17 (by decide) ?_
    exact sk_iret hx hb hr rfl hlocks hK hP hD hS (⟨0, Or.inl ⟨rfl, fun q => absurd q.1 (Int64.not_le.mpr ((lg_cmp_lt _ _).mp c_1))⟩, rfl, rfl⟩) (Nat.le_of_ble_eq_true rfl) (Nat.le_of_ble_eq_true rfl) dX12_isIn_18
  · skip
    refine lv_lload_n hx hb dX12_isIn_6 rfl (lv_at hl 0 rfl) ?_
    refine lv_lload hx hb dX12_isIn_7 (lv_at hl 2 rfl) ?_
    refine W.lcmp hx hb dX12_isIn_9 ?_
    refine lv_if_gt (tgt := 17) hx hb dX12_isIn_10 (by decide) (fun c_2 => ?_) (fun c_2 => ?_)
    · skip
      refine lv_iconst (v := 0) hx hb dX12_isIn_17 (by decide) ?_
      exact sk_iret hx hb hr rfl hlocks hK hP hD hS (⟨0, Or.inl ⟨rfl, fun q => absurd q.2 (Int64.not_le.mpr ((lg_cmp_gt _ _).mp c_2))⟩, rfl, rfl⟩) (Nat.le_of_ble_eq_true rfl) (Nat.le_of_ble_eq_true rfl) dX12_isIn_18
    · skip
      refine lv_iconst (v := 1) hx hb dX12_isIn_13 (by decide) ?_
      refine lv_goto (tgt := 18) hx hb dX12_isIn_14 (by decide) ?_
      exact sk_iret hx hb hr rfl hlocks hK hP hD hS (⟨1, Or.inr ⟨rfl, lg_ge c_1, lg_le c_2⟩, rfl, rfl⟩) (Nat.le_of_ble_eq_true rfl) (Nat.le_of_ble_eq_true rfl) dX12_isIn_18
set_option maxHeartbeats 4000000 in
set_option maxRecDepth 100000 in
theorem c_nm_isDay (l : Launch) (D : va_G) (cI cJ cC cZ cS : ClassId) (mm : Nat) (g : Nat → Nat) (ta : Nat) (pa : Nat) (pe : Nat) (pd : Int32) (pb : Nat) (pp : Int32) (pf : Int32) (pg : Int32) (pn : Int32) (rt : Int32) (rn : Int32) (cd : Nat) (sn : Int32) (il : Nat) (tk : Int32) (am : Int32) (at_ : Int32) (aa : Int32) (wt : Int32) (wy : Int64) (rm : Nat) (ud : Nat) (nu : Nat) (sd : Int64) (qn : Nat) (qw : Nat) (qo : Int32) (qb : Nat) (qp : Nat) (qa : Int64) (qi : Nat) (oc : Nat) (d : Int32) (l0 : Nat) (l1 : Nat) (dm : Nat) (l3 : Nat) (hdm : dm ≤ 9) : skM l yX12_isDay cX12_isDay 2 (some .boolean) 1 25 0 0 D (skT cI cJ cC cZ cS) [.ref mm, .int d] [(mm, .inr (12, mo g (nI ta) (nI pa) (nI pe) pd (nI pb) pp pf pg pn rt rn (nI cd) sn (nI il) tk am at_ aa 0 0 (-1) wt wy 0 (nI rm) (nI ud) (nI nu) sd (nI qn) (nI qw) qo (nI qb) (nI qp) qa (nI qi) (nI oc))), (g 20, .inl (cI, 4, .inl (l4 (nI l0) (nI l1) (nI dm) (nI l3))))] (skI D (skT cI cJ cC cZ cS) (fun (r : Int32) (u : va_W) => ∃ (b : Nat), ((b = 0 ∧ ¬ kIn d dm) ∨ (b = 1 ∧ kIn d dm)) ∧ r = nI b ∧ u = [(mm, .inr (12, mo g (nI ta) (nI pa) (nI pe) pd (nI pb) pp pf pg pn rt rn (nI cd) sn (nI il) tk am at_ aa 0 0 (-1) wt wy 0 (nI rm) (nI ud) (nI nu) sd (nI qn) (nI qw) qo (nI qb) (nI qp) qa (nI qi) (nI oc))), (g 20, .inl (cI, 4, .inl (l4 (nI l0) (nI l1) (nI dm) (nI l3))))])) := by
  refine skM_of pf_X12_isDay (Nat.le_of_ble_eq_true rfl) ?_
  intro p e s m below meth c A ls E hP hD hl
  refine skE_el E (fun hx hb hr hml hlocks hin hown hts hK hA => ?_)
  have hown : s.vm.findClass RX12 = some m.cls := hown
  have hS : va_S A s.heap s.heap [] := va_S.rf
  have hl : lv_has ls 2 [(0, .ref mm), (1, .int d)] := hl
  refine lv_iload_n hx hb dX12_isDay_0 rfl (lv_at hl 1 rfl) ?_
  refine lv_i2l hx hb dX12_isDay_1 rfl ?_
  refine lv_lconst (v := 0) hx hb dX12_isDay_2 (by decide) ?_
  refine lv_aload_n hx hb dX12_isDay_3 rfl (lv_at hl 0 rfl) ?_
  refine sk_Vi (q0 := 0) (n := 0) (rest := [.long 0, .long (Int32.toInt64 d)]) (wr := fmR om_2_3 _) ⟨hx, hb, hml, hown, hts⟩ hl.1 (c_m_dayMany l D cI cJ cC cZ cS mm g ta pa pe pd pb pp pf pg pn rt rn cd sn il tk am at_ aa 0 0 (-1) wt wy 0 rm ud nu sd qn qw qo qb qp qa qi oc l0 l1 dm l3) w_7_98 w_7_100 w_0_69 w_1_14 w_7_101 hd_X12_dayMany_0 ⟨⟨(Nat.le_of_ble_eq_true rfl), (Nat.le_of_ble_eq_true rfl)⟩, (Nat.le_of_ble_eq_true rfl), (Nat.le_of_ble_eq_true rfl)⟩ hK hP hD hS hA (fmT om_2_3 0) (fmF om_2_3 0) (fm_C1 rfl rfl) (fm_R rfl rfl) (fm_nT om_2_3 0) (fm_nF om_2_3 0) (fm_di om_2_3 0) rfl rfl rfl rfl (Nat.le_of_ble_eq_true rfl) dX12_isDay_4 (fun r_1 u H locs hw hP hD hS => ?_)
  refine anE hw (fun er_3 eu_2 => ?_)
  clear hw
  subst er_3
  refine o_mgE (ws' := [(mm, .inr (12, mo g (nI ta) (nI pa) (nI pe) pd (nI pb) pp pf pg pn rt rn (nI cd) sn (nI il) tk am at_ aa 0 0 (-1) wt wy 0 (nI rm) (nI ud) (nI nu) sd (nI qn) (nI qw) qo (nI qb) (nI qp) qa (nI qi) (nI oc))), (g 20, .inl (cI, 4, .inl (l4 (nI l0) (nI l1) (nI dm) (nI l3))))]) eu_2 hP hD rfl (fun hP hD => ?_)
  refine lv_iconst (v := 1) hx hb dX12_isDay_7 (by decide) ?_
  refine lv_isub hx hb dX12_isDay_8 ?_
  refine lv_i2l hx hb dX12_isDay_9 rfl ?_
  refine sk_Si (n := 3) (rest := []) (wr := [(mm, .inr (12, mo g (nI ta) (nI pa) (nI pe) pd (nI pb) pp pf pg pn rt rn (nI cd) sn (nI il) tk am at_ aa 0 0 (-1) wt wy 0 (nI rm) (nI ud) (nI nu) sd (nI qn) (nI qw) qo (nI qb) (nI qp) qa (nI qi) (nI oc))), (g 20, .inl (cI, 4, .inl (l4 (nI l0) (nI l1) (nI dm) (nI l3))))]) ⟨hx, hb, hml, hown, hts⟩ hl.1 (c_nm_isIn l D cI cJ cC cZ cS (Int32.toInt64 d) 0 (Int32.toInt64 (nI dm - 1))) w_7_0 w_7_1 w_1_14 w_7_2 hd_X12_isIn_3 ⟨⟨(Nat.le_of_ble_eq_true rfl), (Nat.le_of_ble_eq_true rfl)⟩, (Nat.le_of_ble_eq_true rfl), (Nat.le_of_ble_eq_true rfl)⟩ hK hP hD hS hA [] [0, 1] rfl rfl (by decide +kernel) (by decide +kernel) (by decide +kernel) rfl rfl (Nat.le_of_ble_eq_true rfl) dX12_isDay_10 (fun r_5 u H locs hw hP hD hS => ?_)
  obtain ⟨b_4, hb1_6, rfl, rfl⟩ := hw
  refine o_re (ws' := [(mm, .inr (12, mo g (nI ta) (nI pa) (nI pe) pd (nI pb) pp pf pg pn rt rn (nI cd) sn (nI il) tk am at_ aa 0 0 (-1) wt wy 0 (nI rm) (nI ud) (nI nu) sd (nI qn) (nI qw) qo (nI qb) (nI qp) qa (nI qi) (nI oc))), (g 20, .inl (cI, 4, .inl (l4 (nI l0) (nI l1) (nI dm) (nI l3))))]) hP hD rfl (fun hP hD => ?_)
  exact sk_iret hx hb hr (nbool b_4 (by omega)) hlocks hK hP hD hS (⟨b_4, (by rcases hb1_6 with ⟨h1, h2⟩ | ⟨h1, h2, h3⟩; exact Or.inl ⟨h1, fun hq => h2 ((kin0 (n := dm) (by rw [lgp dm (by omega)]; omega) (by omega)).mpr hq)⟩; exact Or.inr ⟨h1, (kin0 (n := dm) (by rw [lgp dm (by omega)]; omega) (by omega)).mp ⟨h2, h3⟩⟩), rfl, rfl⟩) (Nat.le_of_ble_eq_true rfl) (Nat.le_of_ble_eq_true rfl) dX12_isDay_13
set_option maxHeartbeats 4000000 in
set_option maxRecDepth 100000 in
theorem c_nm_isMood (l : Launch) (D : va_G) (cI cJ cC cZ cS : ClassId) (mm : Nat) (g : Nat → Nat) (ta : Nat) (pa : Nat) (pe : Nat) (pd : Int32) (pb : Nat) (pp : Int32) (pf : Int32) (pg : Int32) (pn : Int32) (rt : Int32) (rn : Int32) (cd : Nat) (sn : Int32) (il : Nat) (tk : Int32) (am : Int32) (at_ : Int32) (aa : Int32) (wt : Int32) (wy : Int64) (rm : Nat) (ud : Nat) (nu : Nat) (sd : Int64) (qn : Nat) (qw : Nat) (qo : Int32) (qb : Nat) (qp : Nat) (qa : Int64) (qi : Nat) (oc : Nat) (d : Int32)  : skM l yX12_isMood cX12_isMood 2 (some .boolean) 1 25 0 0 D (skT cI cJ cC cZ cS) [.ref mm, .int d] [(mm, .inr (12, mo g (nI ta) (nI pa) (nI pe) pd (nI pb) pp pf pg pn rt rn (nI cd) sn (nI il) tk am at_ aa 0 0 (-1) wt wy 0 (nI rm) (nI ud) (nI nu) sd (nI qn) (nI qw) qo (nI qb) (nI qp) qa (nI qi) (nI oc)))] (skI D (skT cI cJ cC cZ cS) (fun (r : Int32) (u : va_W) => ∃ (b : Nat), ((b = 0 ∧ ¬ kIn d 10) ∨ (b = 1 ∧ kIn d 10)) ∧ r = nI b ∧ u = [(mm, .inr (12, mo g (nI ta) (nI pa) (nI pe) pd (nI pb) pp pf pg pn rt rn (nI cd) sn (nI il) tk am at_ aa 0 0 (-1) wt wy 0 (nI rm) (nI ud) (nI nu) sd (nI qn) (nI qw) qo (nI qb) (nI qp) qa (nI qi) (nI oc)))])) := by
  refine skM_of pf_X12_isMood (Nat.le_of_ble_eq_true rfl) ?_
  intro p e s m below meth c A ls E hP hD hl
  refine skE_el E (fun hx hb hr hml hlocks hin hown hts hK hA => ?_)
  have hown : s.vm.findClass RX12 = some m.cls := hown
  have hS : va_S A s.heap s.heap [] := va_S.rf
  have hl : lv_has ls 2 [(0, .ref mm), (1, .int d)] := hl
  refine lv_iload_n hx hb dX12_isMood_0 rfl (lv_at hl 1 rfl) ?_
  refine lv_i2l hx hb dX12_isMood_1 rfl ?_
  refine lv_lconst (v := 0) hx hb dX12_isMood_2 (by decide) ?_
  refine lv_ldc2 (v := 9) hx hb hown (hts _ w_7_130) dX12_isMood_3 ?_
  refine sk_Si (n := 3) (rest := []) (wr := [(mm, .inr (12, mo g (nI ta) (nI pa) (nI pe) pd (nI pb) pp pf pg pn rt rn (nI cd) sn (nI il) tk am at_ aa 0 0 (-1) wt wy 0 (nI rm) (nI ud) (nI nu) sd (nI qn) (nI qw) qo (nI qb) (nI qp) qa (nI qi) (nI oc)))]) ⟨hx, hb, hml, hown, hts⟩ hl.1 (c_nm_isIn l D cI cJ cC cZ cS (Int32.toInt64 d) 0 9) w_7_0 w_7_1 w_1_14 w_7_2 hd_X12_isIn_3 ⟨⟨(Nat.le_of_ble_eq_true rfl), (Nat.le_of_ble_eq_true rfl)⟩, (Nat.le_of_ble_eq_true rfl), (Nat.le_of_ble_eq_true rfl)⟩ hK hP hD hS hA [] [0] rfl rfl (by decide +kernel) (by decide +kernel) (by decide +kernel) rfl rfl (Nat.le_of_ble_eq_true rfl) dX12_isMood_6 (fun r_2 u H locs hw hP hD hS => ?_)
  obtain ⟨b_1, hb1_3, rfl, rfl⟩ := hw
  refine o_re (ws' := [(mm, .inr (12, mo g (nI ta) (nI pa) (nI pe) pd (nI pb) pp pf pg pn rt rn (nI cd) sn (nI il) tk am at_ aa 0 0 (-1) wt wy 0 (nI rm) (nI ud) (nI nu) sd (nI qn) (nI qw) qo (nI qb) (nI qp) qa (nI qi) (nI oc)))]) hP hD rfl (fun hP hD => ?_)
  exact sk_iret hx hb hr (nbool b_1 (by omega)) hlocks hK hP hD hS (⟨b_1, (by rcases hb1_3 with ⟨h1, h2⟩ | ⟨h1, h2, h3⟩; exact Or.inl ⟨h1, fun hq => h2 ((kin0 (n := 10) (by decide) (by omega)).mpr hq)⟩; exact Or.inr ⟨h1, (kin0 (n := 10) (by decide) (by omega)).mp ⟨h2, h3⟩⟩), rfl, rfl⟩) (Nat.le_of_ble_eq_true rfl) (Nat.le_of_ble_eq_true rfl) dX12_isMood_9
set_option maxHeartbeats 4000000 in
set_option maxRecDepth 100000 in
theorem c_nm_isMute (l : Launch) (D : va_G) (cI cJ cC cZ cS : ClassId) (mm : Nat) (g : Nat → Nat) (ta : Nat) (pa : Nat) (pe : Nat) (pd : Int32) (pb : Nat) (pp : Int32) (pf : Int32) (pg : Int32) (pn : Int32) (rt : Int32) (rn : Int32) (cd : Nat) (sn : Int32) (il : Nat) (tk : Int32) (am : Int32) (at_ : Int32) (aa : Int32) (wt : Int32) (wy : Int64) (rm : Nat) (ud : Nat) (nu : Nat) (sd : Int64) (qn : Nat) (qw : Nat) (qo : Int32) (qb : Nat) (qp : Nat) (qa : Int64) (qi : Nat) (oc : Nat) (d : Nat) (nw : Nat → Int32) (wn : Nat) (mN : Nat) (Ba : Nat → Nat) (We : Nat → Nat) (U : Nat → Bool) (ke : Nat) (lg : KLg) (hd : d < 9) (hnw : nwX wn mN Ba We U ke lg nw) : skM l yX12_isMute cX12_isMute 2 (some .boolean) 0 0 0 0 D (skT cI cJ cC cZ cS) [.ref mm, .int (nI d)] [(mm, .inr (12, mo g (nI ta) (nI pa) (nI pe) pd (nI pb) pp pf pg pn rt rn (nI cd) sn (nI il) tk am at_ aa 0 0 (-1) wt wy 0 (nI rm) (nI ud) (nI nu) sd (nI qn) (nI qw) qo (nI qb) (nI qp) qa (nI qi) (nI oc))), (g 31, .inl (cI, 120, .inl nw))] (skI D (skT cI cJ cC cZ cS) (fun (r : Int32) (u : va_W) => ∃ (b : Nat), ((b = 1 ∧ U d = true) ∨ (b = 0 ∧ ¬ U d = true)) ∧ r = nI b ∧ u = [(mm, .inr (12, mo g (nI ta) (nI pa) (nI pe) pd (nI pb) pp pf pg pn rt rn (nI cd) sn (nI il) tk am at_ aa 0 0 (-1) wt wy 0 (nI rm) (nI ud) (nI nu) sd (nI qn) (nI qw) qo (nI qb) (nI qp) qa (nI qi) (nI oc))), (g 31, .inl (cI, 120, .inl nw))])) := by
  refine skM_of pf_X12_isMute (Nat.le_of_ble_eq_true rfl) ?_
  intro p e s m below meth c A ls E hP hD hl
  refine skE_el E (fun hx hb hr hml hlocks hin hown hts hK hA => ?_)
  have hown : s.vm.findClass RX12 = some m.cls := hown
  have hS : va_S A s.heap s.heap [] := va_S.rf
  have hl : lv_has ls 2 [(0, .ref mm), (1, .int (nI d))] := hl
  refine lv_aload_n hx hb dX12_isMute_0 rfl (lv_at hl 0 rfl) ?_
  refine sk_get (v := .ref (g 31)) (C := RX12) (T := TX12) (N := 92) hx hb hts inlX12 hown hK hP 0 rfl rfl 31 (by decide) w_5_186 rfl dX12_isMute_1 ?_
  refine lv_iconst (v := 2) hx hb dX12_isMute_4 (by decide) ?_
  refine lv_iconst (v := 3) hx hb dX12_isMute_5 (by decide) ?_
  refine lv_iload_n hx hb dX12_isMute_6 rfl (lv_at hl 1 rfl) ?_
  refine lv_imul hx hb dX12_isMute_7 ?_
  refine sk_top (nI (3 * d)) (nmul 3 d) ?_
  refine lv_iadd hx hb dX12_isMute_8 ?_
  refine sk_top (nI (2 + (3 * d))) (nI_add 2 (3 * d)) ?_
  refine lv_iconst (v := 2) hx hb dX12_isMute_9 (by decide) ?_
  refine lv_iadd hx hb dX12_isMute_10 ?_
  refine sk_top (nI (2 + (3 * d) + 2)) (nI_add (2 + (3 * d)) 2) ?_
  refine va_iald hx hb hK.1 hP 1 0 rfl rfl (vin (2 + (3 * d) + 2) 120 (by omega) (by omega)) dX12_isMute_11 ?_
  refine lv_iconst (v := 1) hx hb dX12_isMute_12 (by decide) ?_
  refine lv_icmp_ne (tgt := 20) hx hb dX12_isMute_13 (by decide) (fun c_1 => ?_) (fun c_1 => ?_)
  · skip
    refine lv_iconst (v := 0) hx hb dX12_isMute_20 (by decide) ?_
    exact sk_iret hx hb hr rfl hlocks hK hP hD hS (⟨0, Or.inr ⟨rfl, fun hq => c_1 ((nwX_m1 hnw hd).mpr hq)⟩, rfl, rfl⟩) (Nat.le_of_ble_eq_true rfl) (Nat.le_of_ble_eq_true rfl) dX12_isMute_21
  · skip
    refine lv_iconst (v := 1) hx hb dX12_isMute_16 (by decide) ?_
    refine lv_goto (tgt := 21) hx hb dX12_isMute_17 (by decide) ?_
    exact sk_iret hx hb hr rfl hlocks hK hP hD hS (⟨1, Or.inl ⟨rfl, (nwX_m1 hnw hd).mp c_1⟩, rfl, rfl⟩) (Nat.le_of_ble_eq_true rfl) (Nat.le_of_ble_eq_true rfl) dX12_isMute_21
