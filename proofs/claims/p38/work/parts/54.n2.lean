/-! the reference's lock, words and deeds -/
theorem kx_c3 {kind c : Nat} (hk : kind < 2) (h : kcN1 kind c) : (1 ≤ c ∧ c ≤ 6) ∨ (1000 ≤ c ∧ c < 11000) ∨ (40 ≤ c ∧ c < 47) := by
  rcases kx_cls hk h with ⟨a, b, -⟩ | ⟨a, b, -⟩ | ⟨a, b, -⟩
  · exact Or.inl ⟨a, b⟩
  · exact Or.inr (Or.inl ⟨a, b⟩)
  · exact Or.inr (Or.inr ⟨a, b⟩)
def mwO (L : LkS) (w : Nat) (u v : Int32) (cs : Nat → Nat) : Prop := match lG L w with
  | none => u = -1
  | some p => u = nI p.1 ∧ v = nI p.2 ∧ ∀ j, j < (lK L).length → cs (1600 + j) = (lK L).getD j 0
theorem mw_none {L : LkS} {w : Nat} {u v : Int32} {cs : Nat → Nat} (hL : kcLk L) (hl : (lK L).length ≤ 1600) (h : mwO L w u v cs) (hu : u = -1) : lG L w = none := by
  cases hg : lG L w with
  | none => rfl
  | some p =>
    unfold mwO at h
    rw [hg] at h
    have h1 := (hL w p hg)
    have h2 : nI p.1 = -1 := h.1.symm.trans hu
    have h3 : (nI p.1).toInt = -1 := by rw [h2]; rfl
    rw [nI_toInt (by omega)] at h3
    omega
theorem mw_some {L : LkS} {w : Nat} {u v : Int32} {cs : Nat → Nat} (hL : kcLk L) (h : mwO L w u v cs) (hu : ¬ u = -1) : ∃ a b : Nat, u = nI a ∧ v = nI b ∧ a ≤ b ∧ b ≤ (lK L).length ∧ (∀ j, j < (lK L).length → cs (1600 + j) = (lK L).getD j 0) ∧ lG L w = some (a, b) := by
  cases hg : lG L w with
  | none =>
    unfold mwO at h
    rw [hg] at h
    exact absurd h hu
  | some p =>
    unfold mwO at h
    rw [hg] at h
    have h1 := (hL w p hg)
    exact ⟨p.1, p.2, h.1, h.2.1, Nat.le_of_lt h1.1, h1.2.1, h.2.2, rfl⟩
theorem kw_ex {L : LkS} {w a b : Nat} (h : kcLk L) (hw : w < 3) (hp : lG L w = some (a, b)) (nm : Nat → Int64) : kcEx nm 64 (kcSub (lK L) (a, b)) [] = some [kcV L w nm] := by
  have h1 := kcV_ex h hw nm
  rw [kcSeg_some h hp] at h1
  exact h1
theorem kw_ns {L : LkS} {w k a b : Nat} (h : kcLk L) (hk : k = if w = 1 then 1 else 0) (hp : lG L w = some (a, b)) : kcNs k (kcSub (lK L) (a, b)) := by
  rw [hk]; exact (h w (a, b) hp).2.2.2
theorem kten_n {m : Nat} (h : m < 10) : kcTen (Int64.ofNat m) = m := by
  unfold kcTen
  rw [Int64.toInt_ofNat_of_lt (by omega)]
  omega
/-- a day as the reference has it -/
def mdO (nw : Nat → Int32) (wk b w d : Nat) : Prop := nw 0 = nI wk ∧ nw (2 + 3 * d) = nI b ∧ nw (2 + 3 * d + 1) = nI w
theorem mn_of {nw : Nat → Int32} {wk b w d m t al : Nat} {am at_ aa : Int32} (h : mdO nw wk b w d) (hm : am = nI m) (ht : at_ = nI t) (ha : aa = nI al) (h1 : wk < 2147483648) (h2 : b < 2147483648) (h3 : w < 2147483648) (h4 : d < 2147483648) (h5 : m < 2147483648) (h6 : t < 2147483648) (h7 : al < 2147483648) : mnO (kcNm wk b w d m t al) am at_ aa nw d := by
  obtain ⟨a1, a2, a3⟩ := h
  refine ⟨?_, ?_, ?_, ?_, ?_, ?_, ?_⟩
  · rw [hm, kx_i2l h5]; rfl
  · rw [a2, kx_i2l h2]; rfl
  · rw [a3, kx_i2l h3]; rfl
  · rw [kx_i2l h4]; rfl
  · rw [a1, kx_i2l h1]; rfl
  · rw [ht, kx_i2l h6]; rfl
  · rw [ha, kx_i2l h7]; rfl
/-- words and wages do not ask what he is told -/
theorem mn_any {nw : Nat → Int32} {wk b w d m : Nat} {am at_ aa : Int32} (h : mdO nw wk b w d) (hm : am = nI m) (h1 : wk < 2147483648) (h2 : b < 2147483648) (h3 : w < 2147483648) (h4 : d < 2147483648) (h5 : m < 2147483648) : ∃ nm, mnO nm am at_ aa nw d ∧ ∀ j, j < 5 → nm j = kcNm wk b w d m 0 0 j := by
  obtain ⟨a1, a2, a3⟩ := h
  refine ⟨fun k => if k < 5 then kcNm wk b w d m 0 0 k else if k = 5 then Int32.toInt64 at_ else Int32.toInt64 aa, ⟨?_, ?_, ?_, ?_, ?_, rfl, rfl⟩, fun j hj => if_pos hj⟩
  · rw [hm, kx_i2l h5]; rfl
  · rw [a2, kx_i2l h2]; rfl
  · rw [a3, kx_i2l h3]; rfl
  · rw [kx_i2l h4]; rfl
  · rw [a1, kx_i2l h1]; rfl
set_option maxHeartbeats 4000000 in
set_option maxRecDepth 100000 in
theorem c_nm_bargeOf (l : Launch) (D : va_G) (cI cJ cC cZ cS : ClassId) (mm : Nat) (g : Nat → Nat) (ta : Nat) (pa : Nat) (pe : Nat) (pd : Int32) (pb : Nat) (pp : Int32) (pf : Int32) (pg : Int32) (pn : Int32) (rt : Int32) (rn : Int32) (cd : Nat) (sn : Int32) (il : Nat) (tk : Int32) (am : Int32) (at_ : Int32) (aa : Int32) (mt_ : Int32) (wt : Int32) (wy : Int64) (it_ : Nat) (rm : Nat) (ud : Nat) (nu : Nat) (sd : Int64) (qn : Nat) (qw : Nat) (qo : Int32) (qb : Nat) (qp : Nat) (qa : Int64) (qi : Nat) (oc : Nat) (d : Nat) (nw : Nat → Int32) (hd : d < 9) (hnw : nowOk nw) : skM l yX12_bargeOf cX12_bargeOf 2 (some .int) 0 0 0 0 D (skT cI cJ cC cZ cS) [.ref mm, .int (nI d)] [ro_ mm 12 (mo g (nI ta) (nI pa) (nI pe) pd (nI pb) pp pf pg pn rt rn (nI cd) sn (nI il) tk am at_ aa mt_ 0 (-1) wt wy (nI it_) (nI rm) (nI ud) (nI nu) sd (nI qn) (nI qw) qo (nI qb) (nI qp) qa (nI qi) (nI oc)), ra_I (g 31) cI 120 nw] (skI D (skT cI cJ cC cZ cS) (fun (r : Int32) (u : va_W) => r = nw (2 + 3 * d) ∧ u = [ro_ mm 12 (mo g (nI ta) (nI pa) (nI pe) pd (nI pb) pp pf pg pn rt rn (nI cd) sn (nI il) tk am at_ aa mt_ 0 (-1) wt wy (nI it_) (nI rm) (nI ud) (nI nu) sd (nI qn) (nI qw) qo (nI qb) (nI qp) qa (nI qi) (nI oc)), ra_I (g 31) cI 120 nw])) := by
  refine skM_of pf_X12_bargeOf (Nat.le_of_ble_eq_true rfl) ?_
  intro p e s m below meth c A ls E hP hD hl
  refine skE_el E (fun hx hb hr hml hlocks hin hown hts hK hA => ?_)
  have hown : s.vm.findClass RX12 = some m.cls := hown
  have hS : va_S A s.heap s.heap [] := va_S.rf
  have hl : lv_has ls 2 [(0, .ref mm), (1, .int (nI d))] := hl
  refine lv_aload_n hx hb dX12_bargeOf_0 rfl (lv_at hl 0 rfl) ?_
  refine sk_get (v := .ref (g 31)) (C := RX12) (T := TX12) (N := 92) hx hb hts inlX12 hown hK hP 0 rfl rfl 31 (Nat.le_of_ble_eq_true rfl) w_5_186 rfl dX12_bargeOf_1 ?_
  refine lv_iconst (v := 2) hx hb dX12_bargeOf_4 ic_2 ?_
  refine lv_iconst (v := 3) hx hb dX12_bargeOf_5 ic_3 ?_
  refine lv_iload_n hx hb dX12_bargeOf_6 rfl (lv_at hl 1 rfl) ?_
  refine lv_imul hx hb dX12_bargeOf_7 ?_
  refine sk_top (nI (3 * d)) (nmul 3 d) ?_
  refine lv_iadd hx hb dX12_bargeOf_8 ?_
  refine sk_top (nI (2 + (3 * d))) (nI_add 2 (3 * d)) ?_
  refine va_iald hx hb hK.1 hP 1 0 rfl rfl (vin (2 + (3 * d)) 120 (by omega) (Nat.le_of_ble_eq_true rfl)) dX12_bargeOf_9 ?_
  refine sk_top (nw (2 + 3 * d)) (by rw [nI_clamp (by omega)]) ?_
  exact sk_iret hx hb hr rfl hlocks hK hP hD hS (⟨rfl, rfl⟩) (Nat.le_of_ble_eq_true rfl) (Nat.le_of_ble_eq_true rfl) dX12_bargeOf_10
set_option maxHeartbeats 4000000 in
set_option maxRecDepth 100000 in
theorem c_nm_wetOf (l : Launch) (D : va_G) (cI cJ cC cZ cS : ClassId) (mm : Nat) (g : Nat → Nat) (ta : Nat) (pa : Nat) (pe : Nat) (pd : Int32) (pb : Nat) (pp : Int32) (pf : Int32) (pg : Int32) (pn : Int32) (rt : Int32) (rn : Int32) (cd : Nat) (sn : Int32) (il : Nat) (tk : Int32) (am : Int32) (at_ : Int32) (aa : Int32) (mt_ : Int32) (wt : Int32) (wy : Int64) (it_ : Nat) (rm : Nat) (ud : Nat) (nu : Nat) (sd : Int64) (qn : Nat) (qw : Nat) (qo : Int32) (qb : Nat) (qp : Nat) (qa : Int64) (qi : Nat) (oc : Nat) (d : Nat) (nw : Nat → Int32) (hd : d < 9) (hnw : nowOk nw) : skM l yX12_wetOf cX12_wetOf 2 (some .int) 0 0 0 0 D (skT cI cJ cC cZ cS) [.ref mm, .int (nI d)] [ro_ mm 12 (mo g (nI ta) (nI pa) (nI pe) pd (nI pb) pp pf pg pn rt rn (nI cd) sn (nI il) tk am at_ aa mt_ 0 (-1) wt wy (nI it_) (nI rm) (nI ud) (nI nu) sd (nI qn) (nI qw) qo (nI qb) (nI qp) qa (nI qi) (nI oc)), ra_I (g 31) cI 120 nw] (skI D (skT cI cJ cC cZ cS) (fun (r : Int32) (u : va_W) => r = nw (2 + 3 * d + 1) ∧ u = [ro_ mm 12 (mo g (nI ta) (nI pa) (nI pe) pd (nI pb) pp pf pg pn rt rn (nI cd) sn (nI il) tk am at_ aa mt_ 0 (-1) wt wy (nI it_) (nI rm) (nI ud) (nI nu) sd (nI qn) (nI qw) qo (nI qb) (nI qp) qa (nI qi) (nI oc)), ra_I (g 31) cI 120 nw])) := by
  refine skM_of pf_X12_wetOf (Nat.le_of_ble_eq_true rfl) ?_
  intro p e s m below meth c A ls E hP hD hl
  refine skE_el E (fun hx hb hr hml hlocks hin hown hts hK hA => ?_)
  have hown : s.vm.findClass RX12 = some m.cls := hown
  have hS : va_S A s.heap s.heap [] := va_S.rf
  have hl : lv_has ls 2 [(0, .ref mm), (1, .int (nI d))] := hl
  refine lv_aload_n hx hb dX12_wetOf_0 rfl (lv_at hl 0 rfl) ?_
  refine sk_get (v := .ref (g 31)) (C := RX12) (T := TX12) (N := 92) hx hb hts inlX12 hown hK hP 0 rfl rfl 31 (Nat.le_of_ble_eq_true rfl) w_5_186 rfl dX12_wetOf_1 ?_
  refine lv_iconst (v := 2) hx hb dX12_wetOf_4 ic_2 ?_
  refine lv_iconst (v := 3) hx hb dX12_wetOf_5 ic_3 ?_
  refine lv_iload_n hx hb dX12_wetOf_6 rfl (lv_at hl 1 rfl) ?_
  refine lv_imul hx hb dX12_wetOf_7 ?_
  refine sk_top (nI (3 * d)) (nmul 3 d) ?_
  refine lv_iadd hx hb dX12_wetOf_8 ?_
  refine sk_top (nI (2 + (3 * d))) (nI_add 2 (3 * d)) ?_
  refine lv_iconst (v := 1) hx hb dX12_wetOf_9 ic_1 ?_
  refine lv_iadd hx hb dX12_wetOf_10 ?_
  refine sk_top (nI (2 + (3 * d) + 1)) (nI_add (2 + (3 * d)) 1) ?_
  refine va_iald hx hb hK.1 hP 1 0 rfl rfl (vin (2 + (3 * d) + 1) 120 (by omega) (Nat.le_of_ble_eq_true rfl)) dX12_wetOf_11 ?_
  refine sk_top (nw (2 + 3 * d + 1)) (by rw [nI_clamp (by omega)]) ?_
  exact sk_iret hx hb hr rfl hlocks hK hP hD hS (⟨rfl, rfl⟩) (Nat.le_of_ble_eq_true rfl) (Nat.le_of_ble_eq_true rfl) dX12_wetOf_12
set_option maxHeartbeats 4000000 in
set_option maxRecDepth 100000 in
theorem c_nm_qPartOf (l : Launch) (D : va_G) (cI cJ cC cZ cS : ClassId) (mm : Nat) (g : Nat → Nat) (ta : Nat) (pa : Nat) (pe : Nat) (pd : Int32) (pb : Nat) (pp : Int32) (pf : Int32) (pg : Int32) (pn : Int32) (rt : Int32) (rn : Int32) (cd : Nat) (sn : Int32) (il : Nat) (tk : Int32) (am : Int32) (at_ : Int32) (aa : Int32) (mt_ : Int32) (wt : Int32) (wy : Int64) (it_ : Nat) (rm : Nat) (ud : Nat) (nu : Nat) (sd : Int64) (qn : Nat) (qw : Nat) (qo : Int32) (qb : Nat) (qp : Nat) (qa : Int64) (qi : Nat) (oc : Nat) (k : Nat) (d : Nat) (nw : Nat → Int32) (pt : Nat → Nat) (nm : Nat → Int64) (hd : d < 9) (hk7 : k < 7) (hnm : mnO nm am at_ aa nw d) (hnw : nowOk nw) (hpt : ∀ j, pt j ≤ 9) : skM l yX12_qPartOf cX12_qPartOf 3 (some .long) 1 21 0 0 D (skT cI cJ cC cZ cS) [.ref mm, .int (nI k), .int (nI d)] [ro_ mm 12 (mo g (nI ta) (nI pa) (nI pe) pd (nI pb) pp pf pg pn rt rn (nI cd) sn (nI il) tk am at_ aa mt_ 0 (-1) wt wy (nI it_) (nI rm) (nI ud) (nI nu) sd (nI qn) (nI qw) qo (nI qb) (nI qp) qa (nI qi) (nI oc)), ra_I (g 31) cI 120 nw, ra_N (g 46) cI 9 pt] (skL D (skT cI cJ cC cZ cS) (fun (r : Int64) (u : va_W) => r = nm k ∧ u = [ro_ mm 12 (mo g (nI ta) (nI pa) (nI pe) pd (nI pb) pp pf pg pn rt rn (nI cd) sn (nI il) tk am at_ aa mt_ 0 (-1) wt wy (nI it_) (nI rm) (nI ud) (nI nu) sd (nI qn) (nI qw) qo (nI qb) (nI qp) qa (nI qi) (nI oc)), ra_I (g 31) cI 120 nw, ra_N (g 46) cI 9 pt])) := by
  refine skM_of pf_X12_qPartOf (Nat.le_of_ble_eq_true rfl) ?_
  intro p e s m below meth c A ls E hP hD hl
  refine skE_el E (fun hx hb hr hml hlocks hin hown hts hK hA => ?_)
  have hown : s.vm.findClass RX12 = some m.cls := hown
  have hS : va_S A s.heap s.heap [] := va_S.rf
  have hl : lv_has ls 3 [(0, .ref mm), (1, .int (nI k)), (2, .int (nI d))] := hl
  refine lv_iload_n hx hb dX12_qPartOf_0 rfl (lv_at hl 1 rfl) ?_
  by_cases g_1 : nI k = 0
  · refine lv_tableIn (off := 51) (tgt := 52) hx hb dX12_qPartOf_1 (by rw [g_1]; decide) (by rw [g_1]; decide) (by rw [g_1]; rfl) (by decide) ?_
    refine lv_aload_n hx hb dX12_qPartOf_52 rfl (lv_at hl 0 rfl) ?_
    refine sk_get (v := .int am) (C := RX12) (T := TX12) (N := 92) hx hb hts inlX12 hown hK hP 0 rfl rfl 33 (Nat.le_of_ble_eq_true rfl) w_5_188 rfl dX12_qPartOf_53 ?_
    refine lv_i2l hx hb dX12_qPartOf_56 rfl ?_
    exact sk_lret hx hb hr hlocks hK hP hD hS (⟨(by obtain rfl := mn_k (j := 0) g_1 hk7 (by decide); exact hnm.1), rfl⟩) (Nat.le_of_ble_eq_true rfl) (Nat.le_of_ble_eq_true rfl) dX12_qPartOf_57
  by_cases g_2 : nI k = 1
  · refine lv_tableIn (off := 57) (tgt := 58) hx hb dX12_qPartOf_1 (by rw [g_2]; decide) (by rw [g_2]; decide) (by rw [g_2]; rfl) (by decide) ?_
    refine lv_aload_n hx hb dX12_qPartOf_58 rfl (lv_at hl 0 rfl) ?_
    refine lv_iload_n hx hb dX12_qPartOf_59 rfl (lv_at hl 2 rfl) ?_
    refine sk_Vi (q0 := 0) (n := 1) (rest := []) (wr := fmR om_3_6 _) ⟨hx, hb, hml, hown, hts⟩ hl.1 (c_nm_bargeOf l D cI cJ cC cZ cS mm g ta pa pe pd pb pp pf pg pn rt rn cd sn il tk am at_ aa mt_ wt wy it_ rm ud nu sd qn qw qo qb qp qa qi oc d nw hd hnw) w_7_147 w_7_149 w_0_78 w_1_14 w_7_150 hd_X12_bargeOf_1 ⟨⟨(Nat.le_of_ble_eq_true rfl), (Nat.le_of_ble_eq_true rfl)⟩, (Nat.le_of_ble_eq_true rfl), (Nat.le_of_ble_eq_true rfl)⟩ hK hP hD hS hA (fmT om_3_6 0) (fmF om_3_6 0) (fm_C1 rfl rfl) (fm_R rfl rfl) (fm_nT om_3_6 0) (fm_nF om_3_6 0) (fm_di om_3_6 0) rfl rfl rfl rfl (Nat.le_of_ble_eq_true rfl) dX12_qPartOf_60 (fun r_3 u H locs hw hP hD hS => ?_)
    refine anE hw (fun hr_4 eu_5 => ?_)
    clear hw
    refine o_mgE (ws' := [ro_ mm 12 (mo g (nI ta) (nI pa) (nI pe) pd (nI pb) pp pf pg pn rt rn (nI cd) sn (nI il) tk am at_ aa mt_ 0 (-1) wt wy (nI it_) (nI rm) (nI ud) (nI nu) sd (nI qn) (nI qw) qo (nI qb) (nI qp) qa (nI qi) (nI oc)), ra_I (g 31) cI 120 nw, ra_N (g 46) cI 9 pt]) eu_5 hP hD rfl (fun hP hD => ?_)
    subst hr_4
    refine lv_i2l hx hb dX12_qPartOf_63 rfl ?_
    exact sk_lret hx hb hr hlocks hK hP hD hS (⟨(by obtain rfl := mn_k (j := 1) g_2 hk7 (by decide); exact hnm.2.1), rfl⟩) (Nat.le_of_ble_eq_true rfl) (Nat.le_of_ble_eq_true rfl) dX12_qPartOf_64
  by_cases g_6 : nI k = 2
  · refine lv_tableIn (off := 64) (tgt := 65) hx hb dX12_qPartOf_1 (by rw [g_6]; decide) (by rw [g_6]; decide) (by rw [g_6]; rfl) (by decide) ?_
    refine lv_aload_n hx hb dX12_qPartOf_65 rfl (lv_at hl 0 rfl) ?_
    refine lv_iload_n hx hb dX12_qPartOf_66 rfl (lv_at hl 2 rfl) ?_
    refine sk_Vi (q0 := 0) (n := 1) (rest := []) (wr := fmR om_3_6 _) ⟨hx, hb, hml, hown, hts⟩ hl.1 (c_nm_wetOf l D cI cJ cC cZ cS mm g ta pa pe pd pb pp pf pg pn rt rn cd sn il tk am at_ aa mt_ wt wy it_ rm ud nu sd qn qw qo qb qp qa qi oc d nw hd hnw) w_7_151 w_7_153 w_0_79 w_1_14 w_7_154 hd_X12_wetOf_1 ⟨⟨(Nat.le_of_ble_eq_true rfl), (Nat.le_of_ble_eq_true rfl)⟩, (Nat.le_of_ble_eq_true rfl), (Nat.le_of_ble_eq_true rfl)⟩ hK hP hD hS hA (fmT om_3_6 0) (fmF om_3_6 0) (fm_C1 rfl rfl) (fm_R rfl rfl) (fm_nT om_3_6 0) (fm_nF om_3_6 0) (fm_di om_3_6 0) rfl rfl rfl rfl (Nat.le_of_ble_eq_true rfl) dX12_qPartOf_67 (fun r_7 u H locs hw hP hD hS => ?_)
    refine anE hw (fun hr_8 eu_9 => ?_)
    clear hw
    refine o_mgE (ws' := [ro_ mm 12 (mo g (nI ta) (nI pa) (nI pe) pd (nI pb) pp pf pg pn rt rn (nI cd) sn (nI il) tk am at_ aa mt_ 0 (-1) wt wy (nI it_) (nI rm) (nI ud) (nI nu) sd (nI qn) (nI qw) qo (nI qb) (nI qp) qa (nI qi) (nI oc)), ra_I (g 31) cI 120 nw, ra_N (g 46) cI 9 pt]) eu_9 hP hD rfl (fun hP hD => ?_)
    subst hr_8
    refine lv_i2l hx hb dX12_qPartOf_70 rfl ?_
    exact sk_lret hx hb hr hlocks hK hP hD hS (⟨(by obtain rfl := mn_k (j := 2) g_6 hk7 (by decide); exact hnm.2.2.1), rfl⟩) (Nat.le_of_ble_eq_true rfl) (Nat.le_of_ble_eq_true rfl) dX12_qPartOf_71
  by_cases g_10 : nI k = 3
  · refine lv_tableIn (off := 71) (tgt := 72) hx hb dX12_qPartOf_1 (by rw [g_10]; decide) (by rw [g_10]; decide) (by rw [g_10]; rfl) (by decide) ?_
    refine lv_iload_n hx hb dX12_qPartOf_72 rfl (lv_at hl 2 rfl) ?_
    refine lv_i2l hx hb dX12_qPartOf_73 rfl ?_
    exact sk_lret hx hb hr hlocks hK hP hD hS (⟨(by obtain rfl := mn_k (j := 3) g_10 hk7 (by decide); exact hnm.2.2.2.1), rfl⟩) (Nat.le_of_ble_eq_true rfl) (Nat.le_of_ble_eq_true rfl) dX12_qPartOf_74
  by_cases g_11 : nI k = 4
  · refine lv_tableIn (off := 74) (tgt := 75) hx hb dX12_qPartOf_1 (by rw [g_11]; decide) (by rw [g_11]; decide) (by rw [g_11]; rfl) (by decide) ?_
    refine lv_aload_n hx hb dX12_qPartOf_75 rfl (lv_at hl 0 rfl) ?_
    refine sk_get (v := .ref (g 31)) (C := RX12) (T := TX12) (N := 92) hx hb hts inlX12 hown hK hP 0 rfl rfl 31 (Nat.le_of_ble_eq_true rfl) w_5_186 rfl dX12_qPartOf_76 ?_
    refine lv_iconst (v := 0) hx hb dX12_qPartOf_79 ic_0 ?_
    refine va_iald hx hb hK.1 hP 1 0 rfl rfl (by unfold vp_in; decide) dX12_qPartOf_80 ?_
    refine sk_top (nw 0) (rfl) ?_
    refine lv_i2l hx hb dX12_qPartOf_81 rfl ?_
    exact sk_lret hx hb hr hlocks hK hP hD hS (⟨(by obtain rfl := mn_k (j := 4) g_11 hk7 (by decide); exact hnm.2.2.2.2.1), rfl⟩) (Nat.le_of_ble_eq_true rfl) (Nat.le_of_ble_eq_true rfl) dX12_qPartOf_82
  by_cases g_12 : nI k = 5
  · refine lv_tableIn (off := 82) (tgt := 83) hx hb dX12_qPartOf_1 (by rw [g_12]; decide) (by rw [g_12]; decide) (by rw [g_12]; rfl) (by decide) ?_
    refine lv_aload_n hx hb dX12_qPartOf_83 rfl (lv_at hl 0 rfl) ?_
    refine sk_get (v := .int at_) (C := RX12) (T := TX12) (N := 92) hx hb hts inlX12 hown hK hP 0 rfl rfl 34 (Nat.le_of_ble_eq_true rfl) w_5_189 rfl dX12_qPartOf_84 ?_
    refine lv_i2l hx hb dX12_qPartOf_87 rfl ?_
    exact sk_lret hx hb hr hlocks hK hP hD hS (⟨(by obtain rfl := mn_k (j := 5) g_12 hk7 (by decide); exact hnm.2.2.2.2.2.1), rfl⟩) (Nat.le_of_ble_eq_true rfl) (Nat.le_of_ble_eq_true rfl) dX12_qPartOf_88
  by_cases g_13 : nI k = 6
  · refine lv_tableIn (off := 88) (tgt := 89) hx hb dX12_qPartOf_1 (by rw [g_13]; decide) (by rw [g_13]; decide) (by rw [g_13]; rfl) (by decide) ?_
    refine lv_aload_n hx hb dX12_qPartOf_89 rfl (lv_at hl 0 rfl) ?_
    refine sk_get (v := .int aa) (C := RX12) (T := TX12) (N := 92) hx hb hts inlX12 hown hK hP 0 rfl rfl 35 (Nat.le_of_ble_eq_true rfl) w_5_190 rfl dX12_qPartOf_90 ?_
    refine lv_i2l hx hb dX12_qPartOf_93 rfl ?_
    exact sk_lret hx hb hr hlocks hK hP hD hS (⟨(by obtain rfl := mn_k (j := 6) g_13 hk7 (by decide); exact hnm.2.2.2.2.2.2), rfl⟩) (Nat.le_of_ble_eq_true rfl) (Nat.le_of_ble_eq_true rfl) dX12_qPartOf_94
  by_cases g_14 : nI k = 7
  · refine lv_tableIn (off := 94) (tgt := 95) hx hb dX12_qPartOf_1 (by rw [g_14]; decide) (by rw [g_14]; decide) (by rw [g_14]; rfl) (by decide) ?_
    refine lv_iload_n hx hb dX12_qPartOf_95 rfl (lv_at hl 2 rfl) ?_
    refine lv_i2l hx hb dX12_qPartOf_96 rfl ?_
    exact sk_lret hx hb hr hlocks hK hP hD hS (⟨mn_x (j := 7) g_14 hk7 (by decide) (by decide), rfl⟩) (Nat.le_of_ble_eq_true rfl) (Nat.le_of_ble_eq_true rfl) dX12_qPartOf_97
  by_cases g_15 : nI k = 8
  · refine lv_tableIn (off := 97) (tgt := 98) hx hb dX12_qPartOf_1 (by rw [g_15]; decide) (by rw [g_15]; decide) (by rw [g_15]; rfl) (by decide) ?_
    refine lv_aload_n hx hb dX12_qPartOf_98 rfl (lv_at hl 0 rfl) ?_
    refine lv_iload_n hx hb dX12_qPartOf_99 rfl (lv_at hl 2 rfl) ?_
    refine sk_Vi (q0 := 0) (n := 1) (rest := []) (wr := fmR om_3_6 _) ⟨hx, hb, hml, hown, hts⟩ hl.1 (c_m_isMute l D cI cJ cC cZ cS mm g ta pa pe pd pb pp pf pg pn rt rn cd sn il tk am at_ aa mt_ 0 (-1) wt wy it_ rm ud nu sd qn qw qo qb qp qa qi oc d nw hd hnw) w_7_106 w_7_108 w_0_71 w_1_14 w_7_109 hd_X12_isMute_1 ⟨⟨(Nat.le_of_ble_eq_true rfl), (Nat.le_of_ble_eq_true rfl)⟩, (Nat.le_of_ble_eq_true rfl), (Nat.le_of_ble_eq_true rfl)⟩ hK hP hD hS hA (fmT om_3_6 0) (fmF om_3_6 0) (fm_C1 rfl rfl) (fm_R rfl rfl) (fm_nT om_3_6 0) (fm_nF om_3_6 0) (fm_di om_3_6 0) rfl rfl rfl rfl (Nat.le_of_ble_eq_true rfl) dX12_qPartOf_100 (fun r_17 u H locs hw hP hD hS => ?_)
    refine exE hw (fun b_16 hw1 => anE hw1 (fun hb1_18 hw2 => anE hw2 (fun hb2_19 hw3 => anE hw3 (fun er_21 eu_20 => ?_))))
    clear hw hw1 hw2 hw3
    subst er_21
    refine o_mgE (ws' := [ro_ mm 12 (mo g (nI ta) (nI pa) (nI pe) pd (nI pb) pp pf pg pn rt rn (nI cd) sn (nI il) tk am at_ aa mt_ 0 (-1) wt wy (nI it_) (nI rm) (nI ud) (nI nu) sd (nI qn) (nI qw) qo (nI qb) (nI qp) qa (nI qi) (nI oc)), ra_I (g 31) cI 120 nw, ra_N (g 46) cI 9 pt]) eu_20 hP hD rfl (fun hP hD => ?_)
    refine lv_if_eq (tgt := 110) hx hb dX12_qPartOf_103 (by decide) (fun c_22 => ?_) (fun c_22 => ?_)
    · have c_22 : b_16 = 0 := (neq b_16 0 (by omega) (Nat.le_of_ble_eq_true rfl)).mp c_22
      refine lv_lconst (v := 0) hx hb dX12_qPartOf_110 (by decide) ?_
      exact sk_lret hx hb hr hlocks hK hP hD hS (⟨mn_x (j := 8) g_15 hk7 (by decide) (by decide), rfl⟩) (Nat.le_of_ble_eq_true rfl) (Nat.le_of_ble_eq_true rfl) dX12_qPartOf_111
    · have c_22 : ¬ (b_16 = 0) := fun h => c_22 ((neq b_16 0 (by omega) (Nat.le_of_ble_eq_true rfl)).mpr h)
      refine lv_lconst (v := 1) hx hb dX12_qPartOf_106 (by decide) ?_
      refine lv_goto (tgt := 111) hx hb dX12_qPartOf_107 (by decide) ?_
      exact sk_lret hx hb hr hlocks hK hP hD hS (⟨mn_x (j := 8) g_15 hk7 (by decide) (by decide), rfl⟩) (Nat.le_of_ble_eq_true rfl) (Nat.le_of_ble_eq_true rfl) dX12_qPartOf_111
  refine lv_tableOut (tgt := 112) hx hb dX12_qPartOf_1 (sk_out (n := 8) (by intro k hk; rcases (show k = 0 ∨ k = 1 ∨ k = 2 ∨ k = 3 ∨ k = 4 ∨ k = 5 ∨ k = 6 ∨ k = 7 ∨ k = 8 by omega) with rfl | rfl | rfl | rfl | rfl | rfl | rfl | rfl | rfl <;> assumption)) (by decide) ?_
  refine lv_aload_n hx hb dX12_qPartOf_112 rfl (lv_at hl 0 rfl) ?_
  refine sk_get (v := .long wy) (C := RX12) (T := TX12) (N := 92) hx hb hts inlX12 hown hK hP 0 rfl rfl 45 (Nat.le_of_ble_eq_true rfl) w_5_200 rfl dX12_qPartOf_113 ?_
  refine lv_lconst (v := 0) hx hb dX12_qPartOf_116 (by decide) ?_
  refine W.lcmp hx hb dX12_qPartOf_117 ?_
  refine lv_if_ne (tgt := 127) hx hb dX12_qPartOf_118 (by decide) (fun c_23 => ?_) (fun c_23 => ?_)
  · skip
    refine lv_aload_n hx hb dX12_qPartOf_127 rfl (lv_at hl 0 rfl) ?_
    refine sk_get (v := .ref (g 46)) (C := RX12) (T := TX12) (N := 92) hx hb hts inlX12 hown hK hP 0 rfl rfl 46 (Nat.le_of_ble_eq_true rfl) w_5_201 rfl dX12_qPartOf_128 ?_
    refine lv_iload_n hx hb dX12_qPartOf_131 rfl (lv_at hl 2 rfl) ?_
    refine va_iald hx hb hK.1 hP 2 0 rfl rfl (vin d 9 (by omega) (Nat.le_of_ble_eq_true rfl)) dX12_qPartOf_132 ?_
    refine sk_top (nI (pt d)) (nrd pt d (by omega)) ?_
    have hb_24 := hpt d
    refine lv_i2l hx hb dX12_qPartOf_133 rfl ?_
    exact sk_lret hx hb hr hlocks hK hP hD hS (⟨(mn_f hk7 (by assumption) (by assumption) (by assumption) (by assumption) (by assumption) (by assumption) (by assumption)).elim, rfl⟩) (Nat.le_of_ble_eq_true rfl) (Nat.le_of_ble_eq_true rfl) dX12_qPartOf_134
  · skip
    refine lv_ldc2 (v := (-1)) hx hb hown (hts _ w_7_155) dX12_qPartOf_121 ?_
    refine lv_goto (tgt := 134) hx hb dX12_qPartOf_124 (by decide) ?_
    exact sk_lret hx hb hr hlocks hK hP hD hS (⟨(mn_f hk7 (by assumption) (by assumption) (by assumption) (by assumption) (by assumption) (by assumption) (by assumption)).elim, rfl⟩) (Nat.le_of_ble_eq_true rfl) (Nat.le_of_ble_eq_true rfl) dX12_qPartOf_134
set_option maxHeartbeats 4000000 in
set_option maxRecDepth 100000 in
theorem c_nm_codesTell0 (l : Launch) (D : va_G) (cI cJ cC cZ cS : ClassId) (mm : Nat) (g : Nat → Nat) (ta : Nat) (pa : Nat) (pe : Nat) (pd : Int32) (pb : Nat) (pp : Int32) (pf : Int32) (pg : Int32) (pn : Int32) (rt : Int32) (rn : Int32) (cd : Nat) (sn : Int32) (il : Nat) (tk : Int32) (am : Int32) (at_ : Int32) (aa : Int32) (mt_ : Int32) (wt : Int32) (wy : Int64) (it_ : Nat) (rm : Nat) (ud : Nat) (nu : Nat) (sd : Int64) (qn : Nat) (qw : Nat) (qo : Int32) (qb : Nat) (qp : Nat) (qa : Int64) (qi : Nat) (oc : Nat) (d : Nat) (u0 : Int32) (u1 : Int32) (u2 : Int32) (u4 : Int32) (u5 : Int32) (ca : Nat) (v0 : Int32) (v1 : Int32) (v2 : Int32) (v4 : Int32) (v5 : Int32) (cb : Nat) (cs : Nat → Nat) (nw : Nat → Int32) (pt : Nat → Nat) (ql : Nat → Int64) (K : List Nat) (nm : Nat → Int64) (v : Int64) (kn : Nat) (hd : d < 9) (hab : ca ≤ cb) (hbk : cb ≤ K.length) (hkl : K.length ≤ 1600) (hKc : ∀ j, j < K.length → cs (1600 + j) = K.getD j 0) (hkn : kn < 2) (hns : kcNs kn (kcSub K (ca, cb))) (hnm : mnO nm am at_ aa nw d) (hex : kcEx nm 64 (kcSub K (ca, cb)) [] = some [v]) (hcs : ∀ j, cs j ≤ 20000) (hnw : nowOk nw) (hpt : ∀ j, pt j ≤ 9) : skM l yX12_codesTell cX12_codesTell 5 (some .long) 2 50 0 0 D (skT cI cJ cC cZ cS) [.ref mm, .int 0, .int (nI d)] [ro_ mm 12 (mo g (nI ta) (nI pa) (nI pe) pd (nI pb) pp pf pg pn rt rn (nI cd) sn (nI il) tk am at_ aa mt_ 0 (-1) wt wy (nI it_) (nI rm) (nI ud) (nI nu) sd (nI qn) (nI qw) qo (nI qb) (nI qp) qa (nI qi) (nI oc)), ra_I (g 24) cI 6 (l6 u0 u1 u2 (nI ca) u4 u5), ra_I (g 25) cI 6 (l6 v0 v1 v2 (nI cb) v4 v5), ra_N (g 26) cI 3200 cs, ra_I (g 31) cI 120 nw, ra_N (g 46) cI 9 pt, ra_J (g 86) cJ 1700 ql] (skL D (skT cI cJ cC cZ cS) (fun (r : Int64) (u : va_W) => ∃ (qp2 : Nat), ∃ (ql2 : Nat → Int64), r = v ∧ u = [ro_ mm 12 (mo g (nI ta) (nI pa) (nI pe) pd (nI pb) pp pf pg pn rt rn (nI cd) sn (nI il) 0 am at_ aa mt_ 0 (-1) wt wy (nI it_) (nI rm) (nI ud) (nI nu) sd (nI qn) (nI qw) qo (nI qb) (nI qp2) qa (nI qi) (nI oc)), ra_I (g 24) cI 6 (l6 u0 u1 u2 (nI ca) u4 u5), ra_I (g 25) cI 6 (l6 v0 v1 v2 (nI cb) v4 v5), ra_N (g 26) cI 3200 cs, ra_I (g 31) cI 120 nw, ra_N (g 46) cI 9 pt, ra_J (g 86) cJ 1700 ql2])) := by
  refine skM_of pf_X12_codesTell (Nat.le_of_ble_eq_true rfl) ?_
  intro p e s m below meth c A ls E hP hD hl
  refine skE_el E (fun hx hb hr hml hlocks hin hown hts hK hA => ?_)
  have hown : s.vm.findClass RX12 = some m.cls := hown
  have hS : va_S A s.heap s.heap [] := va_S.rf
  have hl : lv_has ls 5 [(0, .ref mm), (1, .int 0), (2, .int (nI d))] := hl
  refine lv_aload_n hx hb dX12_codesTell_0 rfl (lv_at hl 0 rfl) ?_
  refine lv_iload_n hx hb dX12_codesTell_1 rfl (lv_at hl 1 rfl) ?_
  refine lv_iconst (v := 1) hx hb dX12_codesTell_2 ic_1 ?_
  refine lv_icmp_ne (tgt := 10) hx hb dX12_codesTell_3 (by decide) (fun c_1 => ?_) (fun c => absurd c (by decide))
  refine lv_iconst (v := 0) hx hb dX12_codesTell_10 ic_0 ?_
  refine sk_put (ws' := [ro_ mm 12 (mo g (nI ta) (nI pa) (nI pe) pd (nI pb) pp pf pg pn rt rn (nI cd) sn (nI il) 0 am at_ aa mt_ 0 (-1) wt wy (nI it_) (nI rm) (nI ud) (nI nu) sd (nI qn) (nI qw) qo (nI qb) (nI qp) qa (nI qi) (nI oc)), ra_I (g 24) cI 6 (l6 u0 u1 u2 (nI ca) u4 u5), ra_I (g 25) cI 6 (l6 v0 v1 v2 (nI cb) v4 v5), ra_N (g 26) cI 3200 cs, ra_I (g 31) cI 120 nw, ra_N (g 46) cI 9 pt, ra_J (g 86) cJ 1700 ql]) (C := RX12) (T := TX12) (N := 92) (v := .int 0) hx hb hts inlX12 tyX12 tyX12_ok nmX12 hown hK hP hD hS 0 rfl rfl 30 (Nat.le_of_ble_eq_true rfl) w_5_185 rfl rfl rfl (Nat.le_of_ble_eq_true rfl) rfl dX12_codesTell_11 (fun H locs hP hD hS => ?_)
  refine lv_aload_n hx hb dX12_codesTell_14 rfl (lv_at hl 0 rfl) ?_
  refine lv_iconst (v := 0) hx hb dX12_codesTell_15 ic_0 ?_
  refine sk_put (ws' := [ro_ mm 12 (mo g (nI ta) (nI pa) (nI pe) pd (nI pb) pp pf pg pn rt rn (nI cd) sn (nI il) 0 am at_ aa mt_ 0 (-1) wt wy (nI it_) (nI rm) (nI ud) (nI nu) sd (nI qn) (nI qw) qo (nI qb) 0 qa (nI qi) (nI oc)), ra_I (g 24) cI 6 (l6 u0 u1 u2 (nI ca) u4 u5), ra_I (g 25) cI 6 (l6 v0 v1 v2 (nI cb) v4 v5), ra_N (g 26) cI 3200 cs, ra_I (g 31) cI 120 nw, ra_N (g 46) cI 9 pt, ra_J (g 86) cJ 1700 ql]) (C := RX12) (T := TX12) (N := 92) (v := .int 0) hx hb hts inlX12 tyX12 tyX12_ok nmX12 hown hK hP hD hS 0 rfl rfl 87 (Nat.le_of_ble_eq_true rfl) w_6_2 rfl rfl rfl (Nat.le_of_ble_eq_true rfl) rfl dX12_codesTell_16 (fun H locs hP hD hS => ?_)
  refine lv_aload_n hx hb dX12_codesTell_19 rfl (lv_at hl 0 rfl) ?_
  refine sk_get (v := .ref (g 24)) (C := RX12) (T := TX12) (N := 92) hx hb hts inlX12 hown hK hP 0 rfl rfl 24 (Nat.le_of_ble_eq_true rfl) w_5_179 rfl dX12_codesTell_20 ?_
  refine lv_iconst (v := 3) hx hb dX12_codesTell_23 ic_3 ?_
  refine lv_iload_n hx hb dX12_codesTell_24 rfl (lv_at hl 1 rfl) ?_
  refine lv_iadd hx hb dX12_codesTell_25 ?_
  refine sk_top 3 (by decide) ?_
  refine va_iald hx hb hK.1 hP 1 0 rfl rfl (by unfold vp_in; decide) dX12_codesTell_26 ?_
  refine sk_top (nI ca) rfl ?_
  refine lv_istore_n (lv' := [(3, .int (nI ca)), (0, .ref mm), (1, .int 0), (2, .int (nI d))]) hx hb dX12_codesTell_27 rfl hl (by decide) rfl (fun ls hl => ?_)
  have lp_2 : ∀ (n_3 : Nat) (i : Nat) (zq : Nat) (zl : Nat → Int64) (SS : List Int64) (H : Heap) (locs : List Loc) (ls : Array Slot), cb - i < n_3 → (ca ≤ i) → (i ≤ cb) → (zq = SS.length) → (zq ≤ 64) → (stkO zl SS) → (kcNs kn (kcSub K (i, cb))) → (kcEx nm 64 (kcSub K (i, cb)) SS = some [v]) → va_P D vwCl [ro_ mm 12 (mo g (nI ta) (nI pa) (nI pe) pd (nI pb) pp pf pg pn rt rn (nI cd) sn (nI il) 0 am at_ aa mt_ 0 (-1) wt wy (nI it_) (nI rm) (nI ud) (nI nu) sd (nI qn) (nI qw) qo (nI qb) (nI zq) qa (nI qi) (nI oc)), ra_I (g 24) cI 6 (l6 u0 u1 u2 (nI ca) u4 u5), ra_I (g 25) cI 6 (l6 v0 v1 v2 (nI cb) v4 v5), ra_N (g 26) cI 3200 cs, ra_I (g 31) cI 120 nw, ra_N (g 46) cI 9 pt, ra_J (g 86) cJ 1700 zl] H → va_D A [ro_ mm 12 (mo g (nI ta) (nI pa) (nI pe) pd (nI pb) pp pf pg pn rt rn (nI cd) sn (nI il) 0 am at_ aa mt_ 0 (-1) wt wy (nI it_) (nI rm) (nI ud) (nI nu) sd (nI qn) (nI qw) qo (nI qb) (nI zq) qa (nI qi) (nI oc)), ra_I (g 24) cI 6 (l6 u0 u1 u2 (nI ca) u4 u5), ra_I (g 25) cI 6 (l6 v0 v1 v2 (nI cb) v4 v5), ra_N (g 26) cI 3200 cs, ra_I (g 31) cI 120 nw, ra_N (g 46) cI 9 pt, ra_J (g 86) cJ 1700 zl] → va_S A s.heap H locs → lv_has ls 5 [(3, .int (nI i)), (0, .ref mm), (1, .int 0), (2, .int (nI d))] → W p l e { frames := 2, cells := 0, slots := 0, locals := 50 } s m ([.ref mm, .int 0, .int (nI d)] : List Value).toArray below meth c H locs 0 0 (MQ below (skL D (skT cI cJ cC cZ cS) (fun (r : Int64) (u : va_W) => ∃ (qp2 : Nat), ∃ (ql2 : Nat → Int64), r = v ∧ u = [ro_ mm 12 (mo g (nI ta) (nI pa) (nI pe) pd (nI pb) pp pf pg pn rt rn (nI cd) sn (nI il) 0 am at_ aa mt_ 0 (-1) wt wy (nI it_) (nI rm) (nI ud) (nI nu) sd (nI qn) (nI qw) qo (nI qb) (nI qp2) qa (nI qi) (nI oc)), ra_I (g 24) cI 6 (l6 u0 u1 u2 (nI ca) u4 u5), ra_I (g 25) cI 6 (l6 v0 v1 v2 (nI cb) v4 v5), ra_N (g 26) cI 3200 cs, ra_I (g 31) cI 120 nw, ra_N (g 46) cI 9 pt, ra_J (g 86) cJ 1700 ql2]) A) ([.ref mm, .int 0, .int (nI d)] : List Value).toArray s 0 0 A) (F0 m 28 ls []) := by
    intro n_3
    induction n_3 with
    | zero => intro i zq zl SS H locs ls hm; exact absurd hm (Nat.not_lt_zero _)
    | succ n_3 ih_lp_2 =>
      intro i zq zl SS H locs ls hm hi1 hi2 hzq0 hzq1 hst hns2 hex2 hP hD hS hl
      refine lv_iload_n hx hb dX12_codesTell_28 rfl (lv_at hl 0 rfl) ?_
      refine lv_aload_n hx hb dX12_codesTell_29 rfl (lv_at hl 1 rfl) ?_
      refine sk_get (v := .ref (g 25)) (C := RX12) (T := TX12) (N := 92) hx hb hts inlX12 hown hK hP 0 rfl rfl 25 (Nat.le_of_ble_eq_true rfl) w_5_180 rfl dX12_codesTell_30 ?_
      refine lv_iconst (v := 3) hx hb dX12_codesTell_33 ic_3 ?_
      refine lv_iload_n hx hb dX12_codesTell_34 rfl (lv_at hl 2 rfl) ?_
      refine lv_iadd hx hb dX12_codesTell_35 ?_
      refine sk_top 3 (by decide) ?_
      refine va_iald hx hb hK.1 hP 2 0 rfl rfl (by unfold vp_in; decide) dX12_codesTell_36 ?_
      refine sk_top (nI cb) rfl ?_
      refine lv_icmp_ge (tgt := 110) hx hb dX12_codesTell_37 (by decide) (fun c_4 => ?_) (fun c_4 => ?_)
      · have c_4 : cb ≤ i := (nle cb i (by omega) (by omega)).mp c_4
        obtain rfl := kx_end hex2 (by omega)
        have htp3 : zq = 1 := hzq0
        refine lv_aload_n hx hb dX12_codesTell_110 rfl (lv_at hl 1 rfl) ?_
        refine sk_get (v := .ref (g 86)) (C := RX12) (T := TX12) (N := 92) hx hb hts inlX12 hown hK hP 0 rfl rfl 86 (Nat.le_of_ble_eq_true rfl) w_6_1 rfl dX12_codesTell_111 ?_
        refine lv_iconst (v := 0) hx hb dX12_codesTell_114 ic_0 ?_
        refine va_lald hx hb hK.1 hP 6 1 rfl rfl (by unfold vp_in; decide) dX12_codesTell_115 ?_
        refine sk_topl v (hst.1) ?_
        exact sk_lret hx hb hr hlocks hK hP hD hS (⟨zq, zl, rfl, rfl⟩) (Nat.le_of_ble_eq_true rfl) (Nat.le_of_ble_eq_true rfl) dX12_codesTell_116
      · have c_4 : ¬ (cb ≤ i) := fun h => c_4 ((nle cb i (by omega) (by omega)).mpr h)
        have hib : i < cb := by omega
        rw [kcSub_c hib (by omega), ← hKc i (by omega)] at hex2 hns2
        have hns3 : kcNs kn (kcSub K (i + 1, cb)) := fun x hx => hns2 x (List.mem_cons_of_mem _ hx)
        obtain ⟨T, hT1, hT2, hT3⟩ := kcEx_c hex2
        rcases kx_c3 hkn (hns2 _ (List.mem_cons_self ..)) with ⟨hc1, hc2⟩ | ⟨hc1, hc2⟩ | ⟨hc1, hc2⟩
        · obtain ⟨b1, a1, R1, rfl, rfl⟩ := kcSt_two (by omega) hT1
          have htp2 : zq = R1.length + 2 := hzq0
          refine lv_aload_n hx hb dX12_codesTell_40 rfl (lv_at hl 1 rfl) ?_
          refine sk_get (v := .ref (g 26)) (C := RX12) (T := TX12) (N := 92) hx hb hts inlX12 hown hK hP 0 rfl rfl 26 (Nat.le_of_ble_eq_true rfl) w_5_181 rfl dX12_codesTell_41 ?_
          refine lv_sipush (v := 1600) hx hb dX12_codesTell_44 (by decide) ?_
          refine lv_iload_n hx hb dX12_codesTell_47 rfl (lv_at hl 0 rfl) ?_
          refine lv_iadd hx hb dX12_codesTell_48 ?_
          refine sk_top (nI (1600 + i)) (nI_add 1600 i) ?_
          refine va_iald hx hb hK.1 hP 3 0 rfl rfl (vin (1600 + i) 3200 (by omega) (Nat.le_of_ble_eq_true rfl)) dX12_codesTell_49 ?_
          refine sk_top (nI (cs (1600 + i))) (nrd cs (1600 + i) (by omega)) ?_
          have hb_5 := hcs (1600 + i)
          refine lv_istore (lv' := [(4, .int (nI (cs (1600 + i)))), (3, .int (nI i)), (0, .ref mm), (1, .int 0), (2, .int (nI d))]) hx hb dX12_codesTell_50 hl (by decide) rfl (fun ls hl => ?_)
          refine lv_iload hx hb dX12_codesTell_52 (lv_at hl 0 rfl) ?_
          refine lv_sipush (v := 1000) hx hb dX12_codesTell_54 (by decide) ?_
          refine lv_icmp_lt (tgt := 74) hx hb dX12_codesTell_57 (by decide) (fun c_6 => ?_) (fun c => absurd ((nlt (cs (1600 + i)) 1000 (by omega) (Nat.le_of_ble_eq_true rfl)).mpr (by omega)) c)
          refine lv_iload hx hb dX12_codesTell_74 (lv_at hl 0 rfl) ?_
          refine lv_bipush (v := 40) hx hb dX12_codesTell_76 (by decide) ?_
          refine lv_icmp_lt (tgt := 98) hx hb dX12_codesTell_78 (by decide) (fun c_7 => ?_) (fun c => absurd ((nlt (cs (1600 + i)) 40 (by omega) (Nat.le_of_ble_eq_true rfl)).mpr (by omega)) c)
          refine lv_aload_n hx hb dX12_codesTell_98 rfl (lv_at hl 2 rfl) ?_
          refine lv_iload hx hb dX12_codesTell_99 (lv_at hl 0 rfl) ?_
          refine sk_Vv (q0 := 0) (n := 1) (rest := []) (wr := fmR om_7_41 _) ⟨hx, hb, hml, hown, hts⟩ hl.1 (c_nm_qJoins l D cI cJ cC cZ cS mm g ta pa pe pd pb pp pf pg pn rt rn cd sn il 0 am at_ aa mt_ wt wy it_ rm ud nu sd qn qw qo qb zq qa qi oc (cs (1600 + i)) zl a1 b1 R1 (by omega) (by omega) hst (by omega) (by omega)) w_7_156 w_7_158 w_0_80 w_1_14 w_7_159 hd_X12_qJoins_1 ⟨⟨(Nat.le_of_ble_eq_true rfl), (Nat.le_of_ble_eq_true rfl)⟩, (Nat.le_of_ble_eq_true rfl), (Nat.le_of_ble_eq_true rfl)⟩ hK hP hD hS hA (fmT om_7_41 0) (fmF om_7_41 0) (fm_C1 rfl rfl) (fm_R rfl rfl) (fm_nT om_7_41 0) (fm_nF om_7_41 0) (fm_di om_7_41 0) rfl rfl rfl rfl (Nat.le_of_ble_eq_true rfl) dX12_codesTell_101 (fun u H locs hw hP hD hS => ?_)
          refine exE hw (fun ql2_8 hw1 => anE hw1 (fun hst2_9 eu_10 => ?_))
          clear hw hw1
          refine o_mgE (ws' := [ro_ mm 12 (mo g (nI ta) (nI pa) (nI pe) pd (nI pb) pp pf pg pn rt rn (nI cd) sn (nI il) 0 am at_ aa mt_ 0 (-1) wt wy (nI it_) (nI rm) (nI ud) (nI nu) sd (nI qn) (nI qw) qo (nI qb) (nI (zq - 2 + 1)) qa (nI qi) (nI oc)), ra_I (g 24) cI 6 (l6 u0 u1 u2 (nI ca) u4 u5), ra_I (g 25) cI 6 (l6 v0 v1 v2 (nI cb) v4 v5), ra_N (g 26) cI 3200 cs, ra_I (g 31) cI 120 nw, ra_N (g 46) cI 9 pt, ra_J (g 86) cJ 1700 ql2_8]) eu_10 hP hD rfl (fun hP hD => ?_)
          refine lv_iinc (v := nI (i + 1)) (lv' := [(3, .int (nI (i + 1))), (4, .int (nI (cs (1600 + i)))), (0, .ref mm), (1, .int 0), (2, .int (nI d))]) hx hb dX12_codesTell_104 hl (k := 1) rfl (ninc i 1 (by decide)) (by decide) rfl (fun ls hl => ?_)
          refine lv_goto (tgt := 28) hx hb dX12_codesTell_107 (by decide) ?_
          exact ih_lp_2 (i + 1) (zq - 2 + 1) ql2_8 (kcOp (cs (1600 + i)) a1 b1 :: R1) _ _ _ (by omega) (by omega) (by omega) (show _ = R1.length + 1 by omega) (by omega) hst2_9 hns3 hT3 hP hD hS (lv_sub hl [0, 2, 3, 4] rfl)
        · rw [kcSt_num (by omega)] at hT1
          obtain rfl := Option.some.inj hT1
          have htp2 : SS.length + 1 ≤ 64 := hT2
          refine lv_aload_n hx hb dX12_codesTell_40 rfl (lv_at hl 1 rfl) ?_
          refine sk_get (v := .ref (g 26)) (C := RX12) (T := TX12) (N := 92) hx hb hts inlX12 hown hK hP 0 rfl rfl 26 (Nat.le_of_ble_eq_true rfl) w_5_181 rfl dX12_codesTell_41 ?_
          refine lv_sipush (v := 1600) hx hb dX12_codesTell_44 (by decide) ?_
          refine lv_iload_n hx hb dX12_codesTell_47 rfl (lv_at hl 0 rfl) ?_
          refine lv_iadd hx hb dX12_codesTell_48 ?_
          refine sk_top (nI (1600 + i)) (nI_add 1600 i) ?_
          refine va_iald hx hb hK.1 hP 3 0 rfl rfl (vin (1600 + i) 3200 (by omega) (Nat.le_of_ble_eq_true rfl)) dX12_codesTell_49 ?_
          refine sk_top (nI (cs (1600 + i))) (nrd cs (1600 + i) (by omega)) ?_
          have hb_11 := hcs (1600 + i)
          refine lv_istore (lv' := [(4, .int (nI (cs (1600 + i)))), (3, .int (nI i)), (0, .ref mm), (1, .int 0), (2, .int (nI d))]) hx hb dX12_codesTell_50 hl (by decide) rfl (fun ls hl => ?_)
          refine lv_iload hx hb dX12_codesTell_52 (lv_at hl 0 rfl) ?_
          refine lv_sipush (v := 1000) hx hb dX12_codesTell_54 (by decide) ?_
          refine lv_icmp_lt (tgt := 74) hx hb dX12_codesTell_57 (by decide) (fun c => absurd ((nlt (cs (1600 + i)) 1000 (by omega) (Nat.le_of_ble_eq_true rfl)).mp c) (by omega)) (fun c_12 => ?_)
          refine lv_aload_n hx hb dX12_codesTell_60 rfl (lv_at hl 2 rfl) ?_
          refine lv_iload hx hb dX12_codesTell_61 (lv_at hl 0 rfl) ?_
          refine lv_sipush (v := 1000) hx hb dX12_codesTell_63 (by decide) ?_
          refine lv_isub hx hb dX12_codesTell_66 ?_
          refine sk_top (nI (cs (1600 + i) - 1000)) (nsub (cs (1600 + i)) 1000 (by omega)) ?_
          refine lv_i2l hx hb dX12_codesTell_67 rfl ?_
          refine sk_Vv (q0 := 0) (n := 1) (rest := []) (wr := fmR om_7_41 _) ⟨hx, hb, hml, hown, hts⟩ hl.1 (c_nm_qPuts l D cI cJ cC cZ cS mm g ta pa pe pd pb pp pf pg pn rt rn cd sn il 0 am at_ aa mt_ wt wy it_ rm ud nu sd qn qw qo qb zq qa qi oc (Int32.toInt64 (nI (cs (1600 + i) - 1000))) zl (by omega)) w_7_139 w_7_141 w_0_76 w_1_14 w_7_142 hd_X12_qPuts_1 ⟨⟨(Nat.le_of_ble_eq_true rfl), (Nat.le_of_ble_eq_true rfl)⟩, (Nat.le_of_ble_eq_true rfl), (Nat.le_of_ble_eq_true rfl)⟩ hK hP hD hS hA (fmT om_7_41 0) (fmF om_7_41 0) (fm_C1 rfl rfl) (fm_R rfl rfl) (fm_nT om_7_41 0) (fm_nF om_7_41 0) (fm_di om_7_41 0) rfl rfl rfl rfl (Nat.le_of_ble_eq_true rfl) dX12_codesTell_68 (fun u H locs hw hP hD hS => ?_)
          refine exE hw (fun ql2_13 hw1 => anE hw1 (fun hql_14 eu_15 => ?_))
          clear hw hw1
          refine o_mgE (ws' := [ro_ mm 12 (mo g (nI ta) (nI pa) (nI pe) pd (nI pb) pp pf pg pn rt rn (nI cd) sn (nI il) 0 am at_ aa mt_ 0 (-1) wt wy (nI it_) (nI rm) (nI ud) (nI nu) sd (nI qn) (nI qw) qo (nI qb) (nI (zq + 1)) qa (nI qi) (nI oc)), ra_I (g 24) cI 6 (l6 u0 u1 u2 (nI ca) u4 u5), ra_I (g 25) cI 6 (l6 v0 v1 v2 (nI cb) v4 v5), ra_N (g 26) cI 3200 cs, ra_I (g 31) cI 120 nw, ra_N (g 46) cI 9 pt, ra_J (g 86) cJ 1700 ql2_13]) eu_15 hP hD rfl (fun hP hD => ?_)
          have hs_16 := stk_push hst hzq0 hql_14 (kx_i2l (by omega))
          refine lv_goto (tgt := 104) hx hb dX12_codesTell_71 (by decide) ?_
          refine lv_iinc (v := nI (i + 1)) (lv' := [(3, .int (nI (i + 1))), (4, .int (nI (cs (1600 + i)))), (0, .ref mm), (1, .int 0), (2, .int (nI d))]) hx hb dX12_codesTell_104 hl (k := 1) rfl (ninc i 1 (by decide)) (by decide) rfl (fun ls hl => ?_)
          refine lv_goto (tgt := 28) hx hb dX12_codesTell_107 (by decide) ?_
          exact ih_lp_2 (i + 1) (zq + 1) ql2_13 (Int64.ofNat (cs (1600 + i) - 1000) :: SS) _ _ _ (by omega) (by omega) (by omega) (show _ = SS.length + 1 by omega) (by omega) hs_16 hns3 hT3 hP hD hS (lv_sub hl [0, 2, 3, 4] rfl)
        · rw [kcSt_nm (by omega) (by omega)] at hT1
          obtain rfl := Option.some.inj hT1
          have htp2 : SS.length + 1 ≤ 64 := hT2
          refine lv_aload_n hx hb dX12_codesTell_40 rfl (lv_at hl 1 rfl) ?_
          refine sk_get (v := .ref (g 26)) (C := RX12) (T := TX12) (N := 92) hx hb hts inlX12 hown hK hP 0 rfl rfl 26 (Nat.le_of_ble_eq_true rfl) w_5_181 rfl dX12_codesTell_41 ?_
          refine lv_sipush (v := 1600) hx hb dX12_codesTell_44 (by decide) ?_
          refine lv_iload_n hx hb dX12_codesTell_47 rfl (lv_at hl 0 rfl) ?_
          refine lv_iadd hx hb dX12_codesTell_48 ?_
          refine sk_top (nI (1600 + i)) (nI_add 1600 i) ?_
          refine va_iald hx hb hK.1 hP 3 0 rfl rfl (vin (1600 + i) 3200 (by omega) (Nat.le_of_ble_eq_true rfl)) dX12_codesTell_49 ?_
          refine sk_top (nI (cs (1600 + i))) (nrd cs (1600 + i) (by omega)) ?_
          have hb_17 := hcs (1600 + i)
          refine lv_istore (lv' := [(4, .int (nI (cs (1600 + i)))), (3, .int (nI i)), (0, .ref mm), (1, .int 0), (2, .int (nI d))]) hx hb dX12_codesTell_50 hl (by decide) rfl (fun ls hl => ?_)
          refine lv_iload hx hb dX12_codesTell_52 (lv_at hl 0 rfl) ?_
          refine lv_sipush (v := 1000) hx hb dX12_codesTell_54 (by decide) ?_
          refine lv_icmp_lt (tgt := 74) hx hb dX12_codesTell_57 (by decide) (fun c_18 => ?_) (fun c => absurd ((nlt (cs (1600 + i)) 1000 (by omega) (Nat.le_of_ble_eq_true rfl)).mpr (by omega)) c)
          refine lv_iload hx hb dX12_codesTell_74 (lv_at hl 0 rfl) ?_
          refine lv_bipush (v := 40) hx hb dX12_codesTell_76 (by decide) ?_
          refine lv_icmp_lt (tgt := 98) hx hb dX12_codesTell_78 (by decide) (fun c => absurd ((nlt (cs (1600 + i)) 40 (by omega) (Nat.le_of_ble_eq_true rfl)).mp c) (by omega)) (fun c_19 => ?_)
          refine lv_aload_n hx hb dX12_codesTell_81 rfl (lv_at hl 2 rfl) ?_
          refine lv_aload_n hx hb dX12_codesTell_82 rfl (lv_at hl 2 rfl) ?_
          refine lv_iload hx hb dX12_codesTell_83 (lv_at hl 0 rfl) ?_
          refine lv_bipush (v := 40) hx hb dX12_codesTell_85 (by decide) ?_
          refine lv_isub hx hb dX12_codesTell_87 ?_
          refine sk_top (nI (cs (1600 + i) - 40)) (nsub (cs (1600 + i)) 40 (by omega)) ?_
          refine lv_iload_n hx hb dX12_codesTell_88 rfl (lv_at hl 4 rfl) ?_
          refine sk_Vl (q0 := 0) (n := 2) (rest := [.ref mm]) (wr := fmR om_7_46 _) ⟨hx, hb, hml, hown, hts⟩ hl.1 (c_nm_qPartOf l D cI cJ cC cZ cS mm g ta pa pe pd pb pp pf pg pn rt rn cd sn il 0 am at_ aa mt_ wt wy it_ rm ud nu sd qn qw qo qb zq qa qi oc (cs (1600 + i) - 40) d nw pt nm hd (by omega) hnm hnw hpt) w_7_143 w_7_145 w_0_77 w_1_14 w_7_146 hd_X12_qPartOf_2 ⟨⟨(Nat.le_of_ble_eq_true rfl), (Nat.le_of_ble_eq_true rfl)⟩, (Nat.le_of_ble_eq_true rfl), (Nat.le_of_ble_eq_true rfl)⟩ hK hP hD hS hA (fmT om_7_46 0) (fmF om_7_46 0) (fm_C1 rfl rfl) (fm_R rfl rfl) (fm_nT om_7_46 0) (fm_nF om_7_46 0) (fm_di om_7_46 0) rfl rfl rfl rfl (Nat.le_of_ble_eq_true rfl) dX12_codesTell_89 (fun r_20 u H locs hw hP hD hS => ?_)
          refine anE hw (fun hr_21 eu_22 => ?_)
          clear hw
          refine o_mgE (ws' := [ro_ mm 12 (mo g (nI ta) (nI pa) (nI pe) pd (nI pb) pp pf pg pn rt rn (nI cd) sn (nI il) 0 am at_ aa mt_ 0 (-1) wt wy (nI it_) (nI rm) (nI ud) (nI nu) sd (nI qn) (nI qw) qo (nI qb) (nI zq) qa (nI qi) (nI oc)), ra_I (g 24) cI 6 (l6 u0 u1 u2 (nI ca) u4 u5), ra_I (g 25) cI 6 (l6 v0 v1 v2 (nI cb) v4 v5), ra_N (g 26) cI 3200 cs, ra_I (g 31) cI 120 nw, ra_N (g 46) cI 9 pt, ra_J (g 86) cJ 1700 zl]) eu_22 hP hD rfl (fun hP hD => ?_)
          subst hr_21
          refine sk_Vv (q0 := 0) (n := 1) (rest := []) (wr := fmR om_7_41 _) ⟨hx, hb, hml, hown, hts⟩ hl.1 (c_nm_qPuts l D cI cJ cC cZ cS mm g ta pa pe pd pb pp pf pg pn rt rn cd sn il 0 am at_ aa mt_ wt wy it_ rm ud nu sd qn qw qo qb zq qa qi oc (nm (cs (1600 + i) - 40)) zl (by omega)) w_7_139 w_7_141 w_0_76 w_1_14 w_7_142 hd_X12_qPuts_1 ⟨⟨(Nat.le_of_ble_eq_true rfl), (Nat.le_of_ble_eq_true rfl)⟩, (Nat.le_of_ble_eq_true rfl), (Nat.le_of_ble_eq_true rfl)⟩ hK hP hD hS hA (fmT om_7_41 0) (fmF om_7_41 0) (fm_C1 rfl rfl) (fm_R rfl rfl) (fm_nT om_7_41 0) (fm_nF om_7_41 0) (fm_di om_7_41 0) rfl rfl rfl rfl (Nat.le_of_ble_eq_true rfl) dX12_codesTell_92 (fun u H locs hw hP hD hS => ?_)
          refine exE hw (fun ql2_23 hw1 => anE hw1 (fun hql_24 eu_25 => ?_))
          clear hw hw1
          refine o_mgE (ws' := [ro_ mm 12 (mo g (nI ta) (nI pa) (nI pe) pd (nI pb) pp pf pg pn rt rn (nI cd) sn (nI il) 0 am at_ aa mt_ 0 (-1) wt wy (nI it_) (nI rm) (nI ud) (nI nu) sd (nI qn) (nI qw) qo (nI qb) (nI (zq + 1)) qa (nI qi) (nI oc)), ra_I (g 24) cI 6 (l6 u0 u1 u2 (nI ca) u4 u5), ra_I (g 25) cI 6 (l6 v0 v1 v2 (nI cb) v4 v5), ra_N (g 26) cI 3200 cs, ra_I (g 31) cI 120 nw, ra_N (g 46) cI 9 pt, ra_J (g 86) cJ 1700 ql2_23]) eu_25 hP hD rfl (fun hP hD => ?_)
          have hs_26 := stk_push hst hzq0 hql_24 rfl
          refine lv_goto (tgt := 104) hx hb dX12_codesTell_95 (by decide) ?_
          refine lv_iinc (v := nI (i + 1)) (lv' := [(3, .int (nI (i + 1))), (4, .int (nI (cs (1600 + i)))), (0, .ref mm), (1, .int 0), (2, .int (nI d))]) hx hb dX12_codesTell_104 hl (k := 1) rfl (ninc i 1 (by decide)) (by decide) rfl (fun ls hl => ?_)
          refine lv_goto (tgt := 28) hx hb dX12_codesTell_107 (by decide) ?_
          exact ih_lp_2 (i + 1) (zq + 1) ql2_23 (nm (cs (1600 + i) - 40) :: SS) _ _ _ (by omega) (by omega) (by omega) (show _ = SS.length + 1 by omega) (by omega) hs_26 hns3 hT3 hP hD hS (lv_sub hl [0, 2, 3, 4] rfl)
  exact lp_2 (cb - ca + 1) ca 0 ql ([]) _ _ _ (Nat.lt_succ_self _) (by omega) hab rfl (by omega) True.intro hns hex hP hD hS (lv_sub hl [0, 1, 2, 3] rfl)
set_option maxHeartbeats 4000000 in
set_option maxRecDepth 100000 in
theorem c_nm_codesTell1 (l : Launch) (D : va_G) (cI cJ cC cZ cS : ClassId) (mm : Nat) (g : Nat → Nat) (ta : Nat) (pa : Nat) (pe : Nat) (pd : Int32) (pb : Nat) (pp : Int32) (pf : Int32) (pg : Int32) (pn : Int32) (rt : Int32) (rn : Int32) (cd : Nat) (sn : Int32) (il : Nat) (tk : Int32) (am : Int32) (at_ : Int32) (aa : Int32) (mt_ : Int32) (wt : Int32) (wy : Int64) (it_ : Nat) (rm : Nat) (ud : Nat) (nu : Nat) (sd : Int64) (qn : Nat) (qw : Nat) (qo : Int32) (qb : Nat) (qp : Nat) (qa : Int64) (qi : Nat) (oc : Nat) (d : Nat) (u0 : Int32) (u1 : Int32) (u2 : Int32) (u3 : Int32) (u5 : Int32) (ca : Nat) (v0 : Int32) (v1 : Int32) (v2 : Int32) (v3 : Int32) (v5 : Int32) (cb : Nat) (cs : Nat → Nat) (nw : Nat → Int32) (pt : Nat → Nat) (ql : Nat → Int64) (K : List Nat) (nm : Nat → Int64) (v : Int64) (kn : Nat) (hd : d < 9) (hab : ca ≤ cb) (hbk : cb ≤ K.length) (hkl : K.length ≤ 1600) (hKc : ∀ j, j < K.length → cs (1600 + j) = K.getD j 0) (hkn : kn < 2) (hns : kcNs kn (kcSub K (ca, cb))) (hnm : mnO nm am at_ aa nw d) (hex : kcEx nm 64 (kcSub K (ca, cb)) [] = some [v]) (hcs : ∀ j, cs j ≤ 20000) (hnw : nowOk nw) (hpt : ∀ j, pt j ≤ 9) : skM l yX12_codesTell cX12_codesTell 5 (some .long) 2 50 0 0 D (skT cI cJ cC cZ cS) [.ref mm, .int 1, .int (nI d)] [ro_ mm 12 (mo g (nI ta) (nI pa) (nI pe) pd (nI pb) pp pf pg pn rt rn (nI cd) sn (nI il) tk am at_ aa mt_ 0 (-1) wt wy (nI it_) (nI rm) (nI ud) (nI nu) sd (nI qn) (nI qw) qo (nI qb) (nI qp) qa (nI qi) (nI oc)), ra_I (g 24) cI 6 (l6 u0 u1 u2 u3 (nI ca) u5), ra_I (g 25) cI 6 (l6 v0 v1 v2 v3 (nI cb) v5), ra_N (g 26) cI 3200 cs, ra_I (g 31) cI 120 nw, ra_N (g 46) cI 9 pt, ra_J (g 86) cJ 1700 ql] (skL D (skT cI cJ cC cZ cS) (fun (r : Int64) (u : va_W) => ∃ (qp2 : Nat), ∃ (ql2 : Nat → Int64), r = v ∧ u = [ro_ mm 12 (mo g (nI ta) (nI pa) (nI pe) pd (nI pb) pp pf pg pn rt rn (nI cd) sn (nI il) 1 am at_ aa mt_ 0 (-1) wt wy (nI it_) (nI rm) (nI ud) (nI nu) sd (nI qn) (nI qw) qo (nI qb) (nI qp2) qa (nI qi) (nI oc)), ra_I (g 24) cI 6 (l6 u0 u1 u2 u3 (nI ca) u5), ra_I (g 25) cI 6 (l6 v0 v1 v2 v3 (nI cb) v5), ra_N (g 26) cI 3200 cs, ra_I (g 31) cI 120 nw, ra_N (g 46) cI 9 pt, ra_J (g 86) cJ 1700 ql2])) := by
  refine skM_of pf_X12_codesTell (Nat.le_of_ble_eq_true rfl) ?_
  intro p e s m below meth c A ls E hP hD hl
  refine skE_el E (fun hx hb hr hml hlocks hin hown hts hK hA => ?_)
  have hown : s.vm.findClass RX12 = some m.cls := hown
  have hS : va_S A s.heap s.heap [] := va_S.rf
  have hl : lv_has ls 5 [(0, .ref mm), (1, .int 1), (2, .int (nI d))] := hl
  refine lv_aload_n hx hb dX12_codesTell_0 rfl (lv_at hl 0 rfl) ?_
  refine lv_iload_n hx hb dX12_codesTell_1 rfl (lv_at hl 1 rfl) ?_
  refine lv_iconst (v := 1) hx hb dX12_codesTell_2 ic_1 ?_
  refine lv_icmp_ne (tgt := 10) hx hb dX12_codesTell_3 (by decide) (fun c => absurd c (by decide)) (fun c_1 => ?_)
  refine lv_iconst (v := 1) hx hb dX12_codesTell_6 ic_1 ?_
  refine lv_goto (tgt := 11) hx hb dX12_codesTell_7 (by decide) ?_
  refine sk_put (ws' := [ro_ mm 12 (mo g (nI ta) (nI pa) (nI pe) pd (nI pb) pp pf pg pn rt rn (nI cd) sn (nI il) 1 am at_ aa mt_ 0 (-1) wt wy (nI it_) (nI rm) (nI ud) (nI nu) sd (nI qn) (nI qw) qo (nI qb) (nI qp) qa (nI qi) (nI oc)), ra_I (g 24) cI 6 (l6 u0 u1 u2 u3 (nI ca) u5), ra_I (g 25) cI 6 (l6 v0 v1 v2 v3 (nI cb) v5), ra_N (g 26) cI 3200 cs, ra_I (g 31) cI 120 nw, ra_N (g 46) cI 9 pt, ra_J (g 86) cJ 1700 ql]) (C := RX12) (T := TX12) (N := 92) (v := .int 1) hx hb hts inlX12 tyX12 tyX12_ok nmX12 hown hK hP hD hS 0 rfl rfl 30 (Nat.le_of_ble_eq_true rfl) w_5_185 rfl rfl rfl (Nat.le_of_ble_eq_true rfl) rfl dX12_codesTell_11 (fun H locs hP hD hS => ?_)
  refine lv_aload_n hx hb dX12_codesTell_14 rfl (lv_at hl 0 rfl) ?_
  refine lv_iconst (v := 0) hx hb dX12_codesTell_15 ic_0 ?_
  refine sk_put (ws' := [ro_ mm 12 (mo g (nI ta) (nI pa) (nI pe) pd (nI pb) pp pf pg pn rt rn (nI cd) sn (nI il) 1 am at_ aa mt_ 0 (-1) wt wy (nI it_) (nI rm) (nI ud) (nI nu) sd (nI qn) (nI qw) qo (nI qb) 0 qa (nI qi) (nI oc)), ra_I (g 24) cI 6 (l6 u0 u1 u2 u3 (nI ca) u5), ra_I (g 25) cI 6 (l6 v0 v1 v2 v3 (nI cb) v5), ra_N (g 26) cI 3200 cs, ra_I (g 31) cI 120 nw, ra_N (g 46) cI 9 pt, ra_J (g 86) cJ 1700 ql]) (C := RX12) (T := TX12) (N := 92) (v := .int 0) hx hb hts inlX12 tyX12 tyX12_ok nmX12 hown hK hP hD hS 0 rfl rfl 87 (Nat.le_of_ble_eq_true rfl) w_6_2 rfl rfl rfl (Nat.le_of_ble_eq_true rfl) rfl dX12_codesTell_16 (fun H locs hP hD hS => ?_)
  refine lv_aload_n hx hb dX12_codesTell_19 rfl (lv_at hl 0 rfl) ?_
  refine sk_get (v := .ref (g 24)) (C := RX12) (T := TX12) (N := 92) hx hb hts inlX12 hown hK hP 0 rfl rfl 24 (Nat.le_of_ble_eq_true rfl) w_5_179 rfl dX12_codesTell_20 ?_
  refine lv_iconst (v := 3) hx hb dX12_codesTell_23 ic_3 ?_
  refine lv_iload_n hx hb dX12_codesTell_24 rfl (lv_at hl 1 rfl) ?_
  refine lv_iadd hx hb dX12_codesTell_25 ?_
  refine sk_top 4 (by decide) ?_
  refine va_iald hx hb hK.1 hP 1 0 rfl rfl (by unfold vp_in; decide) dX12_codesTell_26 ?_
  refine sk_top (nI ca) rfl ?_
  refine lv_istore_n (lv' := [(3, .int (nI ca)), (0, .ref mm), (1, .int 1), (2, .int (nI d))]) hx hb dX12_codesTell_27 rfl hl (by decide) rfl (fun ls hl => ?_)
  have lp_2 : ∀ (n_3 : Nat) (i : Nat) (zq : Nat) (zl : Nat → Int64) (SS : List Int64) (H : Heap) (locs : List Loc) (ls : Array Slot), cb - i < n_3 → (ca ≤ i) → (i ≤ cb) → (zq = SS.length) → (zq ≤ 64) → (stkO zl SS) → (kcNs kn (kcSub K (i, cb))) → (kcEx nm 64 (kcSub K (i, cb)) SS = some [v]) → va_P D vwCl [ro_ mm 12 (mo g (nI ta) (nI pa) (nI pe) pd (nI pb) pp pf pg pn rt rn (nI cd) sn (nI il) 1 am at_ aa mt_ 0 (-1) wt wy (nI it_) (nI rm) (nI ud) (nI nu) sd (nI qn) (nI qw) qo (nI qb) (nI zq) qa (nI qi) (nI oc)), ra_I (g 24) cI 6 (l6 u0 u1 u2 u3 (nI ca) u5), ra_I (g 25) cI 6 (l6 v0 v1 v2 v3 (nI cb) v5), ra_N (g 26) cI 3200 cs, ra_I (g 31) cI 120 nw, ra_N (g 46) cI 9 pt, ra_J (g 86) cJ 1700 zl] H → va_D A [ro_ mm 12 (mo g (nI ta) (nI pa) (nI pe) pd (nI pb) pp pf pg pn rt rn (nI cd) sn (nI il) 1 am at_ aa mt_ 0 (-1) wt wy (nI it_) (nI rm) (nI ud) (nI nu) sd (nI qn) (nI qw) qo (nI qb) (nI zq) qa (nI qi) (nI oc)), ra_I (g 24) cI 6 (l6 u0 u1 u2 u3 (nI ca) u5), ra_I (g 25) cI 6 (l6 v0 v1 v2 v3 (nI cb) v5), ra_N (g 26) cI 3200 cs, ra_I (g 31) cI 120 nw, ra_N (g 46) cI 9 pt, ra_J (g 86) cJ 1700 zl] → va_S A s.heap H locs → lv_has ls 5 [(3, .int (nI i)), (0, .ref mm), (1, .int 1), (2, .int (nI d))] → W p l e { frames := 2, cells := 0, slots := 0, locals := 50 } s m ([.ref mm, .int 1, .int (nI d)] : List Value).toArray below meth c H locs 0 0 (MQ below (skL D (skT cI cJ cC cZ cS) (fun (r : Int64) (u : va_W) => ∃ (qp2 : Nat), ∃ (ql2 : Nat → Int64), r = v ∧ u = [ro_ mm 12 (mo g (nI ta) (nI pa) (nI pe) pd (nI pb) pp pf pg pn rt rn (nI cd) sn (nI il) 1 am at_ aa mt_ 0 (-1) wt wy (nI it_) (nI rm) (nI ud) (nI nu) sd (nI qn) (nI qw) qo (nI qb) (nI qp2) qa (nI qi) (nI oc)), ra_I (g 24) cI 6 (l6 u0 u1 u2 u3 (nI ca) u5), ra_I (g 25) cI 6 (l6 v0 v1 v2 v3 (nI cb) v5), ra_N (g 26) cI 3200 cs, ra_I (g 31) cI 120 nw, ra_N (g 46) cI 9 pt, ra_J (g 86) cJ 1700 ql2]) A) ([.ref mm, .int 1, .int (nI d)] : List Value).toArray s 0 0 A) (F0 m 28 ls []) := by
    intro n_3
    induction n_3 with
    | zero => intro i zq zl SS H locs ls hm; exact absurd hm (Nat.not_lt_zero _)
    | succ n_3 ih_lp_2 =>
      intro i zq zl SS H locs ls hm hi1 hi2 hzq0 hzq1 hst hns2 hex2 hP hD hS hl
      refine lv_iload_n hx hb dX12_codesTell_28 rfl (lv_at hl 0 rfl) ?_
      refine lv_aload_n hx hb dX12_codesTell_29 rfl (lv_at hl 1 rfl) ?_
      refine sk_get (v := .ref (g 25)) (C := RX12) (T := TX12) (N := 92) hx hb hts inlX12 hown hK hP 0 rfl rfl 25 (Nat.le_of_ble_eq_true rfl) w_5_180 rfl dX12_codesTell_30 ?_
      refine lv_iconst (v := 3) hx hb dX12_codesTell_33 ic_3 ?_
      refine lv_iload_n hx hb dX12_codesTell_34 rfl (lv_at hl 2 rfl) ?_
      refine lv_iadd hx hb dX12_codesTell_35 ?_
      refine sk_top 4 (by decide) ?_
      refine va_iald hx hb hK.1 hP 2 0 rfl rfl (by unfold vp_in; decide) dX12_codesTell_36 ?_
      refine sk_top (nI cb) rfl ?_
      refine lv_icmp_ge (tgt := 110) hx hb dX12_codesTell_37 (by decide) (fun c_4 => ?_) (fun c_4 => ?_)
      · have c_4 : cb ≤ i := (nle cb i (by omega) (by omega)).mp c_4
        obtain rfl := kx_end hex2 (by omega)
        have htp3 : zq = 1 := hzq0
        refine lv_aload_n hx hb dX12_codesTell_110 rfl (lv_at hl 1 rfl) ?_
        refine sk_get (v := .ref (g 86)) (C := RX12) (T := TX12) (N := 92) hx hb hts inlX12 hown hK hP 0 rfl rfl 86 (Nat.le_of_ble_eq_true rfl) w_6_1 rfl dX12_codesTell_111 ?_
        refine lv_iconst (v := 0) hx hb dX12_codesTell_114 ic_0 ?_
        refine va_lald hx hb hK.1 hP 6 1 rfl rfl (by unfold vp_in; decide) dX12_codesTell_115 ?_
        refine sk_topl v (hst.1) ?_
        exact sk_lret hx hb hr hlocks hK hP hD hS (⟨zq, zl, rfl, rfl⟩) (Nat.le_of_ble_eq_true rfl) (Nat.le_of_ble_eq_true rfl) dX12_codesTell_116
      · have c_4 : ¬ (cb ≤ i) := fun h => c_4 ((nle cb i (by omega) (by omega)).mpr h)
        have hib : i < cb := by omega
        rw [kcSub_c hib (by omega), ← hKc i (by omega)] at hex2 hns2
        have hns3 : kcNs kn (kcSub K (i + 1, cb)) := fun x hx => hns2 x (List.mem_cons_of_mem _ hx)
        obtain ⟨T, hT1, hT2, hT3⟩ := kcEx_c hex2
        rcases kx_c3 hkn (hns2 _ (List.mem_cons_self ..)) with ⟨hc1, hc2⟩ | ⟨hc1, hc2⟩ | ⟨hc1, hc2⟩
        · obtain ⟨b1, a1, R1, rfl, rfl⟩ := kcSt_two (by omega) hT1
          have htp2 : zq = R1.length + 2 := hzq0
          refine lv_aload_n hx hb dX12_codesTell_40 rfl (lv_at hl 1 rfl) ?_
          refine sk_get (v := .ref (g 26)) (C := RX12) (T := TX12) (N := 92) hx hb hts inlX12 hown hK hP 0 rfl rfl 26 (Nat.le_of_ble_eq_true rfl) w_5_181 rfl dX12_codesTell_41 ?_
          refine lv_sipush (v := 1600) hx hb dX12_codesTell_44 (by decide) ?_
          refine lv_iload_n hx hb dX12_codesTell_47 rfl (lv_at hl 0 rfl) ?_
          refine lv_iadd hx hb dX12_codesTell_48 ?_
          refine sk_top (nI (1600 + i)) (nI_add 1600 i) ?_
          refine va_iald hx hb hK.1 hP 3 0 rfl rfl (vin (1600 + i) 3200 (by omega) (Nat.le_of_ble_eq_true rfl)) dX12_codesTell_49 ?_
          refine sk_top (nI (cs (1600 + i))) (nrd cs (1600 + i) (by omega)) ?_
          have hb_5 := hcs (1600 + i)
          refine lv_istore (lv' := [(4, .int (nI (cs (1600 + i)))), (3, .int (nI i)), (0, .ref mm), (1, .int 1), (2, .int (nI d))]) hx hb dX12_codesTell_50 hl (by decide) rfl (fun ls hl => ?_)
          refine lv_iload hx hb dX12_codesTell_52 (lv_at hl 0 rfl) ?_
          refine lv_sipush (v := 1000) hx hb dX12_codesTell_54 (by decide) ?_
          refine lv_icmp_lt (tgt := 74) hx hb dX12_codesTell_57 (by decide) (fun c_6 => ?_) (fun c => absurd ((nlt (cs (1600 + i)) 1000 (by omega) (Nat.le_of_ble_eq_true rfl)).mpr (by omega)) c)
          refine lv_iload hx hb dX12_codesTell_74 (lv_at hl 0 rfl) ?_
          refine lv_bipush (v := 40) hx hb dX12_codesTell_76 (by decide) ?_
          refine lv_icmp_lt (tgt := 98) hx hb dX12_codesTell_78 (by decide) (fun c_7 => ?_) (fun c => absurd ((nlt (cs (1600 + i)) 40 (by omega) (Nat.le_of_ble_eq_true rfl)).mpr (by omega)) c)
          refine lv_aload_n hx hb dX12_codesTell_98 rfl (lv_at hl 2 rfl) ?_
          refine lv_iload hx hb dX12_codesTell_99 (lv_at hl 0 rfl) ?_
          refine sk_Vv (q0 := 0) (n := 1) (rest := []) (wr := fmR om_7_41 _) ⟨hx, hb, hml, hown, hts⟩ hl.1 (c_nm_qJoins l D cI cJ cC cZ cS mm g ta pa pe pd pb pp pf pg pn rt rn cd sn il 1 am at_ aa mt_ wt wy it_ rm ud nu sd qn qw qo qb zq qa qi oc (cs (1600 + i)) zl a1 b1 R1 (by omega) (by omega) hst (by omega) (by omega)) w_7_156 w_7_158 w_0_80 w_1_14 w_7_159 hd_X12_qJoins_1 ⟨⟨(Nat.le_of_ble_eq_true rfl), (Nat.le_of_ble_eq_true rfl)⟩, (Nat.le_of_ble_eq_true rfl), (Nat.le_of_ble_eq_true rfl)⟩ hK hP hD hS hA (fmT om_7_41 0) (fmF om_7_41 0) (fm_C1 rfl rfl) (fm_R rfl rfl) (fm_nT om_7_41 0) (fm_nF om_7_41 0) (fm_di om_7_41 0) rfl rfl rfl rfl (Nat.le_of_ble_eq_true rfl) dX12_codesTell_101 (fun u H locs hw hP hD hS => ?_)
          refine exE hw (fun ql2_8 hw1 => anE hw1 (fun hst2_9 eu_10 => ?_))
          clear hw hw1
          refine o_mgE (ws' := [ro_ mm 12 (mo g (nI ta) (nI pa) (nI pe) pd (nI pb) pp pf pg pn rt rn (nI cd) sn (nI il) 1 am at_ aa mt_ 0 (-1) wt wy (nI it_) (nI rm) (nI ud) (nI nu) sd (nI qn) (nI qw) qo (nI qb) (nI (zq - 2 + 1)) qa (nI qi) (nI oc)), ra_I (g 24) cI 6 (l6 u0 u1 u2 u3 (nI ca) u5), ra_I (g 25) cI 6 (l6 v0 v1 v2 v3 (nI cb) v5), ra_N (g 26) cI 3200 cs, ra_I (g 31) cI 120 nw, ra_N (g 46) cI 9 pt, ra_J (g 86) cJ 1700 ql2_8]) eu_10 hP hD rfl (fun hP hD => ?_)
          refine lv_iinc (v := nI (i + 1)) (lv' := [(3, .int (nI (i + 1))), (4, .int (nI (cs (1600 + i)))), (0, .ref mm), (1, .int 1), (2, .int (nI d))]) hx hb dX12_codesTell_104 hl (k := 1) rfl (ninc i 1 (by decide)) (by decide) rfl (fun ls hl => ?_)
          refine lv_goto (tgt := 28) hx hb dX12_codesTell_107 (by decide) ?_
          exact ih_lp_2 (i + 1) (zq - 2 + 1) ql2_8 (kcOp (cs (1600 + i)) a1 b1 :: R1) _ _ _ (by omega) (by omega) (by omega) (show _ = R1.length + 1 by omega) (by omega) hst2_9 hns3 hT3 hP hD hS (lv_sub hl [0, 2, 3, 4] rfl)
        · rw [kcSt_num (by omega)] at hT1
          obtain rfl := Option.some.inj hT1
          have htp2 : SS.length + 1 ≤ 64 := hT2
          refine lv_aload_n hx hb dX12_codesTell_40 rfl (lv_at hl 1 rfl) ?_
          refine sk_get (v := .ref (g 26)) (C := RX12) (T := TX12) (N := 92) hx hb hts inlX12 hown hK hP 0 rfl rfl 26 (Nat.le_of_ble_eq_true rfl) w_5_181 rfl dX12_codesTell_41 ?_
          refine lv_sipush (v := 1600) hx hb dX12_codesTell_44 (by decide) ?_
          refine lv_iload_n hx hb dX12_codesTell_47 rfl (lv_at hl 0 rfl) ?_
          refine lv_iadd hx hb dX12_codesTell_48 ?_
          refine sk_top (nI (1600 + i)) (nI_add 1600 i) ?_
          refine va_iald hx hb hK.1 hP 3 0 rfl rfl (vin (1600 + i) 3200 (by omega) (Nat.le_of_ble_eq_true rfl)) dX12_codesTell_49 ?_
          refine sk_top (nI (cs (1600 + i))) (nrd cs (1600 + i) (by omega)) ?_
          have hb_11 := hcs (1600 + i)
          refine lv_istore (lv' := [(4, .int (nI (cs (1600 + i)))), (3, .int (nI i)), (0, .ref mm), (1, .int 1), (2, .int (nI d))]) hx hb dX12_codesTell_50 hl (by decide) rfl (fun ls hl => ?_)
          refine lv_iload hx hb dX12_codesTell_52 (lv_at hl 0 rfl) ?_
          refine lv_sipush (v := 1000) hx hb dX12_codesTell_54 (by decide) ?_
          refine lv_icmp_lt (tgt := 74) hx hb dX12_codesTell_57 (by decide) (fun c => absurd ((nlt (cs (1600 + i)) 1000 (by omega) (Nat.le_of_ble_eq_true rfl)).mp c) (by omega)) (fun c_12 => ?_)
          refine lv_aload_n hx hb dX12_codesTell_60 rfl (lv_at hl 2 rfl) ?_
          refine lv_iload hx hb dX12_codesTell_61 (lv_at hl 0 rfl) ?_
          refine lv_sipush (v := 1000) hx hb dX12_codesTell_63 (by decide) ?_
          refine lv_isub hx hb dX12_codesTell_66 ?_
          refine sk_top (nI (cs (1600 + i) - 1000)) (nsub (cs (1600 + i)) 1000 (by omega)) ?_
          refine lv_i2l hx hb dX12_codesTell_67 rfl ?_
          refine sk_Vv (q0 := 0) (n := 1) (rest := []) (wr := fmR om_7_41 _) ⟨hx, hb, hml, hown, hts⟩ hl.1 (c_nm_qPuts l D cI cJ cC cZ cS mm g ta pa pe pd pb pp pf pg pn rt rn cd sn il 1 am at_ aa mt_ wt wy it_ rm ud nu sd qn qw qo qb zq qa qi oc (Int32.toInt64 (nI (cs (1600 + i) - 1000))) zl (by omega)) w_7_139 w_7_141 w_0_76 w_1_14 w_7_142 hd_X12_qPuts_1 ⟨⟨(Nat.le_of_ble_eq_true rfl), (Nat.le_of_ble_eq_true rfl)⟩, (Nat.le_of_ble_eq_true rfl), (Nat.le_of_ble_eq_true rfl)⟩ hK hP hD hS hA (fmT om_7_41 0) (fmF om_7_41 0) (fm_C1 rfl rfl) (fm_R rfl rfl) (fm_nT om_7_41 0) (fm_nF om_7_41 0) (fm_di om_7_41 0) rfl rfl rfl rfl (Nat.le_of_ble_eq_true rfl) dX12_codesTell_68 (fun u H locs hw hP hD hS => ?_)
          refine exE hw (fun ql2_13 hw1 => anE hw1 (fun hql_14 eu_15 => ?_))
          clear hw hw1
          refine o_mgE (ws' := [ro_ mm 12 (mo g (nI ta) (nI pa) (nI pe) pd (nI pb) pp pf pg pn rt rn (nI cd) sn (nI il) 1 am at_ aa mt_ 0 (-1) wt wy (nI it_) (nI rm) (nI ud) (nI nu) sd (nI qn) (nI qw) qo (nI qb) (nI (zq + 1)) qa (nI qi) (nI oc)), ra_I (g 24) cI 6 (l6 u0 u1 u2 u3 (nI ca) u5), ra_I (g 25) cI 6 (l6 v0 v1 v2 v3 (nI cb) v5), ra_N (g 26) cI 3200 cs, ra_I (g 31) cI 120 nw, ra_N (g 46) cI 9 pt, ra_J (g 86) cJ 1700 ql2_13]) eu_15 hP hD rfl (fun hP hD => ?_)
          have hs_16 := stk_push hst hzq0 hql_14 (kx_i2l (by omega))
          refine lv_goto (tgt := 104) hx hb dX12_codesTell_71 (by decide) ?_
          refine lv_iinc (v := nI (i + 1)) (lv' := [(3, .int (nI (i + 1))), (4, .int (nI (cs (1600 + i)))), (0, .ref mm), (1, .int 1), (2, .int (nI d))]) hx hb dX12_codesTell_104 hl (k := 1) rfl (ninc i 1 (by decide)) (by decide) rfl (fun ls hl => ?_)
          refine lv_goto (tgt := 28) hx hb dX12_codesTell_107 (by decide) ?_
          exact ih_lp_2 (i + 1) (zq + 1) ql2_13 (Int64.ofNat (cs (1600 + i) - 1000) :: SS) _ _ _ (by omega) (by omega) (by omega) (show _ = SS.length + 1 by omega) (by omega) hs_16 hns3 hT3 hP hD hS (lv_sub hl [0, 2, 3, 4] rfl)
        · rw [kcSt_nm (by omega) (by omega)] at hT1
          obtain rfl := Option.some.inj hT1
          have htp2 : SS.length + 1 ≤ 64 := hT2
          refine lv_aload_n hx hb dX12_codesTell_40 rfl (lv_at hl 1 rfl) ?_
          refine sk_get (v := .ref (g 26)) (C := RX12) (T := TX12) (N := 92) hx hb hts inlX12 hown hK hP 0 rfl rfl 26 (Nat.le_of_ble_eq_true rfl) w_5_181 rfl dX12_codesTell_41 ?_
          refine lv_sipush (v := 1600) hx hb dX12_codesTell_44 (by decide) ?_
          refine lv_iload_n hx hb dX12_codesTell_47 rfl (lv_at hl 0 rfl) ?_
          refine lv_iadd hx hb dX12_codesTell_48 ?_
          refine sk_top (nI (1600 + i)) (nI_add 1600 i) ?_
          refine va_iald hx hb hK.1 hP 3 0 rfl rfl (vin (1600 + i) 3200 (by omega) (Nat.le_of_ble_eq_true rfl)) dX12_codesTell_49 ?_
          refine sk_top (nI (cs (1600 + i))) (nrd cs (1600 + i) (by omega)) ?_
          have hb_17 := hcs (1600 + i)
          refine lv_istore (lv' := [(4, .int (nI (cs (1600 + i)))), (3, .int (nI i)), (0, .ref mm), (1, .int 1), (2, .int (nI d))]) hx hb dX12_codesTell_50 hl (by decide) rfl (fun ls hl => ?_)
          refine lv_iload hx hb dX12_codesTell_52 (lv_at hl 0 rfl) ?_
          refine lv_sipush (v := 1000) hx hb dX12_codesTell_54 (by decide) ?_
          refine lv_icmp_lt (tgt := 74) hx hb dX12_codesTell_57 (by decide) (fun c_18 => ?_) (fun c => absurd ((nlt (cs (1600 + i)) 1000 (by omega) (Nat.le_of_ble_eq_true rfl)).mpr (by omega)) c)
          refine lv_iload hx hb dX12_codesTell_74 (lv_at hl 0 rfl) ?_
          refine lv_bipush (v := 40) hx hb dX12_codesTell_76 (by decide) ?_
          refine lv_icmp_lt (tgt := 98) hx hb dX12_codesTell_78 (by decide) (fun c => absurd ((nlt (cs (1600 + i)) 40 (by omega) (Nat.le_of_ble_eq_true rfl)).mp c) (by omega)) (fun c_19 => ?_)
          refine lv_aload_n hx hb dX12_codesTell_81 rfl (lv_at hl 2 rfl) ?_
          refine lv_aload_n hx hb dX12_codesTell_82 rfl (lv_at hl 2 rfl) ?_
          refine lv_iload hx hb dX12_codesTell_83 (lv_at hl 0 rfl) ?_
          refine lv_bipush (v := 40) hx hb dX12_codesTell_85 (by decide) ?_
          refine lv_isub hx hb dX12_codesTell_87 ?_
          refine sk_top (nI (cs (1600 + i) - 40)) (nsub (cs (1600 + i)) 40 (by omega)) ?_
          refine lv_iload_n hx hb dX12_codesTell_88 rfl (lv_at hl 4 rfl) ?_
          refine sk_Vl (q0 := 0) (n := 2) (rest := [.ref mm]) (wr := fmR om_7_46 _) ⟨hx, hb, hml, hown, hts⟩ hl.1 (c_nm_qPartOf l D cI cJ cC cZ cS mm g ta pa pe pd pb pp pf pg pn rt rn cd sn il 1 am at_ aa mt_ wt wy it_ rm ud nu sd qn qw qo qb zq qa qi oc (cs (1600 + i) - 40) d nw pt nm hd (by omega) hnm hnw hpt) w_7_143 w_7_145 w_0_77 w_1_14 w_7_146 hd_X12_qPartOf_2 ⟨⟨(Nat.le_of_ble_eq_true rfl), (Nat.le_of_ble_eq_true rfl)⟩, (Nat.le_of_ble_eq_true rfl), (Nat.le_of_ble_eq_true rfl)⟩ hK hP hD hS hA (fmT om_7_46 0) (fmF om_7_46 0) (fm_C1 rfl rfl) (fm_R rfl rfl) (fm_nT om_7_46 0) (fm_nF om_7_46 0) (fm_di om_7_46 0) rfl rfl rfl rfl (Nat.le_of_ble_eq_true rfl) dX12_codesTell_89 (fun r_20 u H locs hw hP hD hS => ?_)
          refine anE hw (fun hr_21 eu_22 => ?_)
          clear hw
          refine o_mgE (ws' := [ro_ mm 12 (mo g (nI ta) (nI pa) (nI pe) pd (nI pb) pp pf pg pn rt rn (nI cd) sn (nI il) 1 am at_ aa mt_ 0 (-1) wt wy (nI it_) (nI rm) (nI ud) (nI nu) sd (nI qn) (nI qw) qo (nI qb) (nI zq) qa (nI qi) (nI oc)), ra_I (g 24) cI 6 (l6 u0 u1 u2 u3 (nI ca) u5), ra_I (g 25) cI 6 (l6 v0 v1 v2 v3 (nI cb) v5), ra_N (g 26) cI 3200 cs, ra_I (g 31) cI 120 nw, ra_N (g 46) cI 9 pt, ra_J (g 86) cJ 1700 zl]) eu_22 hP hD rfl (fun hP hD => ?_)
          subst hr_21
          refine sk_Vv (q0 := 0) (n := 1) (rest := []) (wr := fmR om_7_41 _) ⟨hx, hb, hml, hown, hts⟩ hl.1 (c_nm_qPuts l D cI cJ cC cZ cS mm g ta pa pe pd pb pp pf pg pn rt rn cd sn il 1 am at_ aa mt_ wt wy it_ rm ud nu sd qn qw qo qb zq qa qi oc (nm (cs (1600 + i) - 40)) zl (by omega)) w_7_139 w_7_141 w_0_76 w_1_14 w_7_142 hd_X12_qPuts_1 ⟨⟨(Nat.le_of_ble_eq_true rfl), (Nat.le_of_ble_eq_true rfl)⟩, (Nat.le_of_ble_eq_true rfl), (Nat.le_of_ble_eq_true rfl)⟩ hK hP hD hS hA (fmT om_7_41 0) (fmF om_7_41 0) (fm_C1 rfl rfl) (fm_R rfl rfl) (fm_nT om_7_41 0) (fm_nF om_7_41 0) (fm_di om_7_41 0) rfl rfl rfl rfl (Nat.le_of_ble_eq_true rfl) dX12_codesTell_92 (fun u H locs hw hP hD hS => ?_)
          refine exE hw (fun ql2_23 hw1 => anE hw1 (fun hql_24 eu_25 => ?_))
          clear hw hw1
          refine o_mgE (ws' := [ro_ mm 12 (mo g (nI ta) (nI pa) (nI pe) pd (nI pb) pp pf pg pn rt rn (nI cd) sn (nI il) 1 am at_ aa mt_ 0 (-1) wt wy (nI it_) (nI rm) (nI ud) (nI nu) sd (nI qn) (nI qw) qo (nI qb) (nI (zq + 1)) qa (nI qi) (nI oc)), ra_I (g 24) cI 6 (l6 u0 u1 u2 u3 (nI ca) u5), ra_I (g 25) cI 6 (l6 v0 v1 v2 v3 (nI cb) v5), ra_N (g 26) cI 3200 cs, ra_I (g 31) cI 120 nw, ra_N (g 46) cI 9 pt, ra_J (g 86) cJ 1700 ql2_23]) eu_25 hP hD rfl (fun hP hD => ?_)
          have hs_26 := stk_push hst hzq0 hql_24 rfl
          refine lv_goto (tgt := 104) hx hb dX12_codesTell_95 (by decide) ?_
          refine lv_iinc (v := nI (i + 1)) (lv' := [(3, .int (nI (i + 1))), (4, .int (nI (cs (1600 + i)))), (0, .ref mm), (1, .int 1), (2, .int (nI d))]) hx hb dX12_codesTell_104 hl (k := 1) rfl (ninc i 1 (by decide)) (by decide) rfl (fun ls hl => ?_)
          refine lv_goto (tgt := 28) hx hb dX12_codesTell_107 (by decide) ?_
          exact ih_lp_2 (i + 1) (zq + 1) ql2_23 (nm (cs (1600 + i) - 40) :: SS) _ _ _ (by omega) (by omega) (by omega) (show _ = SS.length + 1 by omega) (by omega) hs_26 hns3 hT3 hP hD hS (lv_sub hl [0, 2, 3, 4] rfl)
  exact lp_2 (cb - ca + 1) ca 0 ql ([]) _ _ _ (Nat.lt_succ_self _) (by omega) hab rfl (by omega) True.intro hns hex hP hD hS (lv_sub hl [0, 1, 2, 3] rfl)
section KwZ
variable {p : Program} {l : Launch} {e : Env} {R : Room} {s : State} {m : MethodId} {args : Array Value} {below : List Frame} {meth : Method} {c : Code} {H : Heap} {locs : List Loc} {cells slots : Nat} {Q : State → Prop}
variable {cc : ByteArray} {pc : Nat} {ls : Array Slot} {rest : List Value} {D : va_G} {tys : List (ClassId × FieldType)} {ws : va_W} {A : Nat → Prop} {H0 : Heap} {a : Nat}
theorem sk_zastE (hexec : p.tables.exec = Jvm.exec) (hb : c.code = cc) (hK : skK D tys s) (hP : va_P D vwCl ws H) (hD : va_D A ws) (hS : va_S A H0 H locs) (q0 t0 : Nat) {cA : ClassId} {n : Nat} {f : Nat → Int32} {ws' : (Nat → Int32) → va_W} (ha : ws[q0]? = some (a, .inl (cA, n, .inl f))) (ht : tys[t0]? = some (cA, .boolean)) {k : Nat} {x y : Int32} (hk : k < n) (hn : n < 2147483648) (hw' : ∀ f', ws.set q0 (a, .inl (cA, n, .inl f')) = ws' f') (hy : vp_nar .boolean x = y) (hdg : decode cc pc = .ok (.bastore, 1))
    (kk : ∀ (f' : Nat → Int32) (H1 : Heap) (locs1 : List Loc), f' = upd f k y → va_P D vwCl (ws' f') H1 → va_D A (ws' f') → va_S A H0 H1 locs1 → W p l e R s m args below meth c H1 locs1 cells slots Q (F0 m (pc + 1) ls rest)) : W p l e R s m args below meth c H locs cells slots Q (F0 m pc ls (.int x :: .int (nI k) :: .ref a :: rest)) :=
  va_zast hexec hb hK.1 hP hD hS q0 t0 ha ht (vin k n hk hn) hdg (fun H1 locs1 h1 h2 h3 => kk _ H1 locs1 (by rw [nI_clamp (by omega), hy]) ((hw' _) ▸ h1) ((hw' _) ▸ h2) h3)
end KwZ
theorem kw_said {L : LkS} {wk b w d m : Nat} (hm : m < 10) (h : lG L 0 = none) : m = kcSaid L wk b w d m := by
  unfold kcSaid
  rw [kcV_none (by decide) h, if_neg (by decide)]
  exact (kten_n hm).symm
theorem kw_said2 {L : LkS} {nm : Nat → Int64} {wk b w d m : Nat} (hL : kcLk L) (h : ∀ j, j < 5 → nm j = kcNm wk b w d m 0 0 j) : kcTen (kcV L 0 nm) = kcSaid L wk b w d m := by
  unfold kcSaid
  rw [kcV_cg (w := 0) (nm2 := kcNm wk b w d m 0 0) hL (by decide) h]
theorem kw_bec {L : LkS} {wk b w d m t al : Nat} (ht : t < 10) (h : lG L 1 = none) : t = kcBec L wk b w d m t al := by
  unfold kcBec
  rw [kcV_none (by decide) h, if_pos rfl]
  exact (kten_n ht).symm
/-! the days, laid -/
def mlS (L : LkS) (wk : Nat) (B W : Nat → Nat) (li d : Nat) (f : Nat → Int32) (n : Nat) : Prop := ∀ m, m < n → f (10 * d + m) = nI ((kcSaid L wk (B d) (W d) d m + li) % 10)
def kone (q : Prop) [Decidable q] : Int32 := if q then 1 else 0
def mlW (L : LkS) (wk : Nat) (B W : Nat → Nat) (li d a m : Nat) : Int32 := kone (kcBec L wk (B d) (W d) d a ((kcSaid L wk (B d) (W d) d m + li) % 10) 0 = m)
def mlO (L : LkS) (wk : Nat) (B W : Nat → Nat) (d a m : Nat) : Int32 := kone (kcBec L wk (B d) (W d) d a 0 1 = m)
set_option maxHeartbeats 4000000 in
set_option maxRecDepth 100000 in
theorem c_nm_wordOf (l : Launch) (D : va_G) (cI cJ cC cZ cS : ClassId) (mm : Nat) (g : Nat → Nat) (ta : Nat) (pa : Nat) (pe : Nat) (pd : Int32) (pb : Nat) (pp : Int32) (pf : Int32) (pg : Int32) (pn : Int32) (rt : Int32) (rn : Int32) (cd : Nat) (sn : Int32) (il : Nat) (tk : Int32) (am : Int32) (at_ : Int32) (aa : Int32) (mt_ : Int32) (wt : Int32) (wy : Int64) (it_ : Nat) (rm : Nat) (ud : Nat) (nu : Nat) (sd : Int64) (qn : Nat) (qw : Nat) (qo : Int32) (qb : Nat) (qp : Nat) (qa : Int64) (qi : Nat) (oc : Nat) (d : Nat) (mq : Nat) (u0 : Int32) (u1 : Int32) (u2 : Int32) (u3 : Int32) (u4 : Int32) (u5 : Int32) (v0 : Int32) (v1 : Int32) (v2 : Int32) (v3 : Int32) (v4 : Int32) (v5 : Int32) (cs : Nat → Nat) (nw : Nat → Int32) (pt : Nat → Nat) (ql : Nat → Int64) (L : LkS) (wk : Nat) (b : Nat) (w : Nat) (hd : d < 9) (hm : mq < 10) (hLk : kcLk L) (hkl : (lK L).length ≤ 1600) (hmd : mdO nw wk b w d) (hwk : wk ≤ 999) (hb9 : b ≤ 9) (hw9 : w ≤ 9) (hmw0 : mwO L 0 u3 v3 cs) (hcs : ∀ j, cs j ≤ 20000) (hnw : nowOk nw) (hpt : ∀ j, pt j ≤ 9) : skM l yX12_wordOf cX12_wordOf 3 (some .int) 3 74 0 0 D (skT cI cJ cC cZ cS) [.ref mm, .int (nI d), .int (nI mq)] [ro_ mm 12 (mo g (nI ta) (nI pa) (nI pe) pd (nI pb) pp pf pg pn rt rn (nI cd) sn (nI il) tk am at_ aa mt_ 0 (-1) wt wy (nI it_) (nI rm) (nI ud) (nI nu) sd (nI qn) (nI qw) qo (nI qb) (nI qp) qa (nI qi) (nI oc)), ra_I (g 24) cI 6 (l6 u0 u1 u2 u3 u4 u5), ra_I (g 25) cI 6 (l6 v0 v1 v2 v3 v4 v5), ra_N (g 26) cI 3200 cs, ra_I (g 31) cI 120 nw, ra_N (g 46) cI 9 pt, ra_J (g 86) cJ 1700 ql] (skI D (skT cI cJ cC cZ cS) (fun (r : Int32) (u : va_W) => ∃ (v : Nat), ∃ (tk2 : Int32), ∃ (qp2 : Nat), ∃ (am2 : Int32), ∃ (ql2 : Nat → Int64), v = kcSaid L wk b w d mq ∧ r = nI v ∧ u = [ro_ mm 12 (mo g (nI ta) (nI pa) (nI pe) pd (nI pb) pp pf pg pn rt rn (nI cd) sn (nI il) tk2 am2 at_ aa mt_ 0 (-1) wt wy (nI it_) (nI rm) (nI ud) (nI nu) sd (nI qn) (nI qw) qo (nI qb) (nI qp2) qa (nI qi) (nI oc)), ra_I (g 24) cI 6 (l6 u0 u1 u2 u3 u4 u5), ra_I (g 25) cI 6 (l6 v0 v1 v2 v3 v4 v5), ra_N (g 26) cI 3200 cs, ra_I (g 31) cI 120 nw, ra_N (g 46) cI 9 pt, ra_J (g 86) cJ 1700 ql2])) := by
  refine skM_of pf_X12_wordOf (Nat.le_of_ble_eq_true rfl) ?_
  intro p e s m below meth c A ls E hP hD hl
  refine skE_el E (fun hx hb hr hml hlocks hin hown hts hK hA => ?_)
  have hown : s.vm.findClass RX12 = some m.cls := hown
  have hS : va_S A s.heap s.heap [] := va_S.rf
  have hl : lv_has ls 3 [(0, .ref mm), (1, .int (nI d)), (2, .int (nI mq))] := hl
  refine lv_aload_n hx hb dX12_wordOf_0 rfl (lv_at hl 0 rfl) ?_
  refine sk_get (v := .ref (g 24)) (C := RX12) (T := TX12) (N := 92) hx hb hts inlX12 hown hK hP 0 rfl rfl 24 (Nat.le_of_ble_eq_true rfl) w_5_179 rfl dX12_wordOf_1 ?_
  refine lv_iconst (v := 3) hx hb dX12_wordOf_4 ic_3 ?_
  refine va_iald hx hb hK.1 hP 1 0 rfl rfl (by unfold vp_in; decide) dX12_wordOf_5 ?_
  refine sk_top u3 rfl ?_
  refine lv_iconst (v := (-1)) hx hb dX12_wordOf_6 (by decide) ?_
  refine lv_icmp_ne (tgt := 12) hx hb dX12_wordOf_7 (by decide) (fun c_1 => ?_) (fun c_1 => ?_)
  · skip
    refine lv_aload_n hx hb dX12_wordOf_12 rfl (lv_at hl 0 rfl) ?_
    refine lv_iload_n hx hb dX12_wordOf_13 rfl (lv_at hl 2 rfl) ?_
    refine sk_put (ws' := [ro_ mm 12 (mo g (nI ta) (nI pa) (nI pe) pd (nI pb) pp pf pg pn rt rn (nI cd) sn (nI il) tk (nI mq) at_ aa mt_ 0 (-1) wt wy (nI it_) (nI rm) (nI ud) (nI nu) sd (nI qn) (nI qw) qo (nI qb) (nI qp) qa (nI qi) (nI oc)), ra_I (g 24) cI 6 (l6 u0 u1 u2 u3 u4 u5), ra_I (g 25) cI 6 (l6 v0 v1 v2 v3 v4 v5), ra_N (g 26) cI 3200 cs, ra_I (g 31) cI 120 nw, ra_N (g 46) cI 9 pt, ra_J (g 86) cJ 1700 ql]) (C := RX12) (T := TX12) (N := 92) (v := .int (nI mq)) hx hb hts inlX12 tyX12 tyX12_ok nmX12 hown hK hP hD hS 0 rfl rfl 33 (Nat.le_of_ble_eq_true rfl) w_5_188 rfl rfl rfl (Nat.le_of_ble_eq_true rfl) rfl dX12_wordOf_14 (fun H locs hP hD hS => ?_)
    refine lv_aload_n hx hb dX12_wordOf_17 rfl (lv_at hl 0 rfl) ?_
    refine lv_iconst (v := 0) hx hb dX12_wordOf_18 ic_0 ?_
    refine lv_iload_n hx hb dX12_wordOf_19 rfl (lv_at hl 1 rfl) ?_
    obtain ⟨ca, cb, rfl, rfl, hab_, hbk_, hKc_, hG_⟩ := mw_some hLk hmw0 c_1
    obtain ⟨nm, hnm, hn5⟩ := mn_any (am := nI mq) (at_ := at_) (aa := aa) hmd rfl (by omega) (by omega) (by omega) (by omega) (by omega)
    refine sk_Vl (q0 := 0) (n := 2) (rest := []) (wr := fmR om_7_7f _) ⟨hx, hb, hml, hown, hts⟩ hl.1 (c_nm_codesTell0 l D cI cJ cC cZ cS mm g ta pa pe pd pb pp pf pg pn rt rn cd sn il tk (nI mq) at_ aa mt_ wt wy it_ rm ud nu sd qn qw qo qb qp qa qi oc d u0 u1 u2 u4 u5 ca v0 v1 v2 v4 v5 cb cs nw pt ql (lK L) nm (kcV L 0 nm) 0 hd hab_ hbk_ hkl hKc_ (by decide) (kw_ns hLk rfl hG_) hnm (kw_ex hLk (by decide) hG_ nm) hcs hnw hpt) w_7_135 w_7_137 w_0_75 w_1_14 w_7_138 hd_X12_codesTell_2 ⟨⟨(Nat.le_of_ble_eq_true rfl), (Nat.le_of_ble_eq_true rfl)⟩, (Nat.le_of_ble_eq_true rfl), (Nat.le_of_ble_eq_true rfl)⟩ hK hP hD hS hA (fmT om_7_7f 0) (fmF om_7_7f 0) (fm_C1 rfl rfl) (fm_R rfl rfl) (fm_nT om_7_7f 0) (fm_nF om_7_7f 0) (fm_di om_7_7f 0) rfl rfl rfl rfl (Nat.le_of_ble_eq_true rfl) dX12_wordOf_20 (fun r_4 u H locs hw hP hD hS => ?_)
    refine exE hw (fun qp2_2 hw1 => exE hw1 (fun ql2_3 hw2 => anE hw2 (fun er_6 eu_5 => ?_)))
    clear hw hw1 hw2
    subst er_6
    refine o_mgE (ws' := [ro_ mm 12 (mo g (nI ta) (nI pa) (nI pe) pd (nI pb) pp pf pg pn rt rn (nI cd) sn (nI il) 0 (nI mq) at_ aa mt_ 0 (-1) wt wy (nI it_) (nI rm) (nI ud) (nI nu) sd (nI qn) (nI qw) qo (nI qb) (nI qp2_2) qa (nI qi) (nI oc)), ra_I (g 24) cI 6 (l6 u0 u1 u2 (nI ca) u4 u5), ra_I (g 25) cI 6 (l6 v0 v1 v2 (nI cb) v4 v5), ra_N (g 26) cI 3200 cs, ra_I (g 31) cI 120 nw, ra_N (g 46) cI 9 pt, ra_J (g 86) cJ 1700 ql2_3]) eu_5 hP hD rfl (fun hP hD => ?_)
    refine sk_Si (n := 1) (rest := []) (wr := [ro_ mm 12 (mo g (nI ta) (nI pa) (nI pe) pd (nI pb) pp pf pg pn rt rn (nI cd) sn (nI il) 0 (nI mq) at_ aa mt_ 0 (-1) wt wy (nI it_) (nI rm) (nI ud) (nI nu) sd (nI qn) (nI qw) qo (nI qb) (nI qp2_2) qa (nI qi) (nI oc)), ra_I (g 24) cI 6 (l6 u0 u1 u2 (nI ca) u4 u5), ra_I (g 25) cI 6 (l6 v0 v1 v2 (nI cb) v4 v5), ra_N (g 26) cI 3200 cs, ra_I (g 31) cI 120 nw, ra_N (g 46) cI 9 pt, ra_J (g 86) cJ 1700 ql2_3]) ⟨hx, hb, hml, hown, hts⟩ hl.1 (c_nm_byTen l D cI cJ cC cZ cS (kcV L 0 nm)) w_7_168 w_7_169 w_1_14 w_7_170 hd_X12_byTen_1 ⟨⟨(Nat.le_of_ble_eq_true rfl), (Nat.le_of_ble_eq_true rfl)⟩, (Nat.le_of_ble_eq_true rfl), (Nat.le_of_ble_eq_true rfl)⟩ hK hP hD hS hA [] [0, 1, 2, 3, 4, 5, 6] rfl rfl (by decide +kernel) (by decide +kernel) (by decide +kernel) rfl rfl (Nat.le_of_ble_eq_true rfl) dX12_wordOf_23 (fun r_7 u H locs hw hP hD hS => ?_)
    obtain ⟨rfl, rfl⟩ := hw
    refine o_re (ws' := [ro_ mm 12 (mo g (nI ta) (nI pa) (nI pe) pd (nI pb) pp pf pg pn rt rn (nI cd) sn (nI il) 0 (nI mq) at_ aa mt_ 0 (-1) wt wy (nI it_) (nI rm) (nI ud) (nI nu) sd (nI qn) (nI qw) qo (nI qb) (nI qp2_2) qa (nI qi) (nI oc)), ra_I (g 24) cI 6 (l6 u0 u1 u2 (nI ca) u4 u5), ra_I (g 25) cI 6 (l6 v0 v1 v2 (nI cb) v4 v5), ra_N (g 26) cI 3200 cs, ra_I (g 31) cI 120 nw, ra_N (g 46) cI 9 pt, ra_J (g 86) cJ 1700 ql2_3]) hP hD rfl (fun hP hD => ?_)
    exact sk_iret hx hb hr rfl hlocks hK hP hD hS (⟨kcTen (kcV L 0 nm), 0, qp2_2, nI mq, ql2_3, kw_said2 hLk hn5, rfl, rfl⟩) (Nat.le_of_ble_eq_true rfl) (Nat.le_of_ble_eq_true rfl) dX12_wordOf_26
  · skip
    refine lv_iload_n hx hb dX12_wordOf_10 rfl (lv_at hl 2 rfl) ?_
    exact sk_iret hx hb hr rfl hlocks hK hP hD hS (⟨mq, tk, qp, am, ql, kw_said hm (mw_none hLk hkl hmw0 c_1), rfl, rfl⟩) (Nat.le_of_ble_eq_true rfl) (Nat.le_of_ble_eq_true rfl) dX12_wordOf_11
set_option maxHeartbeats 4000000 in
set_option maxRecDepth 100000 in
theorem c_nm_becomesBy0 (l : Launch) (D : va_G) (cI cJ cC cZ cS : ClassId) (mm : Nat) (g : Nat → Nat) (ta : Nat) (pa : Nat) (pe : Nat) (pd : Int32) (pb : Nat) (pp : Int32) (pf : Int32) (pg : Int32) (pn : Int32) (rt : Int32) (rn : Int32) (cd : Nat) (sn : Int32) (il : Nat) (tk : Int32) (am : Int32) (at_ : Int32) (aa : Int32) (mt_ : Int32) (wt : Int32) (wy : Int64) (it_ : Nat) (rm : Nat) (ud : Nat) (nu : Nat) (sd : Int64) (qn : Nat) (qw : Nat) (qo : Int32) (qb : Nat) (qp : Nat) (qa : Int64) (qi : Nat) (oc : Nat) (d : Nat) (mq : Nat) (t : Nat) (u0 : Int32) (u1 : Int32) (u2 : Int32) (u3 : Int32) (u4 : Int32) (u5 : Int32) (v0 : Int32) (v1 : Int32) (v2 : Int32) (v3 : Int32) (v4 : Int32) (v5 : Int32) (cs : Nat → Nat) (nw : Nat → Int32) (pt : Nat → Nat) (ql : Nat → Int64) (L : LkS) (wk : Nat) (b : Nat) (w : Nat) (hd : d < 9) (hm : mq < 10) (ht : t < 10) (hLk : kcLk L) (hkl : (lK L).length ≤ 1600) (hmd : mdO nw wk b w d) (hwk : wk ≤ 999) (hb9 : b ≤ 9) (hw9 : w ≤ 9) (hmw1 : mwO L 1 u4 v4 cs) (hcs : ∀ j, cs j ≤ 20000) (hnw : nowOk nw) (hpt : ∀ j, pt j ≤ 9) : skM l yX12_becomesBy cX12_becomesBy 5 (some .int) 3 74 0 0 D (skT cI cJ cC cZ cS) [.ref mm, .int (nI d), .int (nI mq), .int (nI t), .int 0] [ro_ mm 12 (mo g (nI ta) (nI pa) (nI pe) pd (nI pb) pp pf pg pn rt rn (nI cd) sn (nI il) tk am at_ aa mt_ 0 (-1) wt wy (nI it_) (nI rm) (nI ud) (nI nu) sd (nI qn) (nI qw) qo (nI qb) (nI qp) qa (nI qi) (nI oc)), ra_I (g 24) cI 6 (l6 u0 u1 u2 u3 u4 u5), ra_I (g 25) cI 6 (l6 v0 v1 v2 v3 v4 v5), ra_N (g 26) cI 3200 cs, ra_I (g 31) cI 120 nw, ra_N (g 46) cI 9 pt, ra_J (g 86) cJ 1700 ql] (skI D (skT cI cJ cC cZ cS) (fun (r : Int32) (u : va_W) => ∃ (v : Nat), ∃ (tk2 : Int32), ∃ (qp2 : Nat), ∃ (am2 : Int32), ∃ (at_2 : Int32), ∃ (aa2 : Int32), ∃ (ql2 : Nat → Int64), v = kcBec L wk b w d mq t 0 ∧ r = nI v ∧ u = [ro_ mm 12 (mo g (nI ta) (nI pa) (nI pe) pd (nI pb) pp pf pg pn rt rn (nI cd) sn (nI il) tk2 am2 at_2 aa2 mt_ 0 (-1) wt wy (nI it_) (nI rm) (nI ud) (nI nu) sd (nI qn) (nI qw) qo (nI qb) (nI qp2) qa (nI qi) (nI oc)), ra_I (g 24) cI 6 (l6 u0 u1 u2 u3 u4 u5), ra_I (g 25) cI 6 (l6 v0 v1 v2 v3 v4 v5), ra_N (g 26) cI 3200 cs, ra_I (g 31) cI 120 nw, ra_N (g 46) cI 9 pt, ra_J (g 86) cJ 1700 ql2])) := by
  refine skM_of pf_X12_becomesBy (Nat.le_of_ble_eq_true rfl) ?_
  intro p e s m below meth c A ls E hP hD hl
  refine skE_el E (fun hx hb hr hml hlocks hin hown hts hK hA => ?_)
  have hown : s.vm.findClass RX12 = some m.cls := hown
  have hS : va_S A s.heap s.heap [] := va_S.rf
  have hl : lv_has ls 5 [(0, .ref mm), (1, .int (nI d)), (2, .int (nI mq)), (3, .int (nI t)), (4, .int 0)] := hl
  refine lv_aload_n hx hb dX12_becomesBy_0 rfl (lv_at hl 0 rfl) ?_
  refine lv_iload_n hx hb dX12_becomesBy_1 rfl (lv_at hl 2 rfl) ?_
  refine sk_put (ws' := [ro_ mm 12 (mo g (nI ta) (nI pa) (nI pe) pd (nI pb) pp pf pg pn rt rn (nI cd) sn (nI il) tk (nI mq) at_ aa mt_ 0 (-1) wt wy (nI it_) (nI rm) (nI ud) (nI nu) sd (nI qn) (nI qw) qo (nI qb) (nI qp) qa (nI qi) (nI oc)), ra_I (g 24) cI 6 (l6 u0 u1 u2 u3 u4 u5), ra_I (g 25) cI 6 (l6 v0 v1 v2 v3 v4 v5), ra_N (g 26) cI 3200 cs, ra_I (g 31) cI 120 nw, ra_N (g 46) cI 9 pt, ra_J (g 86) cJ 1700 ql]) (C := RX12) (T := TX12) (N := 92) (v := .int (nI mq)) hx hb hts inlX12 tyX12 tyX12_ok nmX12 hown hK hP hD hS 0 rfl rfl 33 (Nat.le_of_ble_eq_true rfl) w_5_188 rfl rfl rfl (Nat.le_of_ble_eq_true rfl) rfl dX12_becomesBy_2 (fun H locs hP hD hS => ?_)
  refine lv_aload_n hx hb dX12_becomesBy_5 rfl (lv_at hl 0 rfl) ?_
  refine lv_iload hx hb dX12_becomesBy_6 (lv_at hl 4 rfl) ?_
  refine lv_if_eq (tgt := 15) hx hb dX12_becomesBy_8 (by decide) (fun c_1 => ?_) (fun c => absurd c (by decide))
  refine lv_iload_n hx hb dX12_becomesBy_15 rfl (lv_at hl 3 rfl) ?_
  refine sk_put (ws' := [ro_ mm 12 (mo g (nI ta) (nI pa) (nI pe) pd (nI pb) pp pf pg pn rt rn (nI cd) sn (nI il) tk (nI mq) (nI t) aa mt_ 0 (-1) wt wy (nI it_) (nI rm) (nI ud) (nI nu) sd (nI qn) (nI qw) qo (nI qb) (nI qp) qa (nI qi) (nI oc)), ra_I (g 24) cI 6 (l6 u0 u1 u2 u3 u4 u5), ra_I (g 25) cI 6 (l6 v0 v1 v2 v3 v4 v5), ra_N (g 26) cI 3200 cs, ra_I (g 31) cI 120 nw, ra_N (g 46) cI 9 pt, ra_J (g 86) cJ 1700 ql]) (C := RX12) (T := TX12) (N := 92) (v := .int (nI t)) hx hb hts inlX12 tyX12 tyX12_ok nmX12 hown hK hP hD hS 0 rfl rfl 34 (Nat.le_of_ble_eq_true rfl) w_5_189 rfl rfl rfl (Nat.le_of_ble_eq_true rfl) rfl dX12_becomesBy_16 (fun H locs hP hD hS => ?_)
  refine lv_aload_n hx hb dX12_becomesBy_19 rfl (lv_at hl 0 rfl) ?_
  refine lv_iload hx hb dX12_becomesBy_20 (lv_at hl 4 rfl) ?_
  refine lv_if_eq (tgt := 29) hx hb dX12_becomesBy_22 (by decide) (fun c_2 => ?_) (fun c => absurd c (by decide))
  refine lv_iconst (v := 0) hx hb dX12_becomesBy_29 ic_0 ?_
  refine sk_put (ws' := [ro_ mm 12 (mo g (nI ta) (nI pa) (nI pe) pd (nI pb) pp pf pg pn rt rn (nI cd) sn (nI il) tk (nI mq) (nI t) 0 mt_ 0 (-1) wt wy (nI it_) (nI rm) (nI ud) (nI nu) sd (nI qn) (nI qw) qo (nI qb) (nI qp) qa (nI qi) (nI oc)), ra_I (g 24) cI 6 (l6 u0 u1 u2 u3 u4 u5), ra_I (g 25) cI 6 (l6 v0 v1 v2 v3 v4 v5), ra_N (g 26) cI 3200 cs, ra_I (g 31) cI 120 nw, ra_N (g 46) cI 9 pt, ra_J (g 86) cJ 1700 ql]) (C := RX12) (T := TX12) (N := 92) (v := .int 0) hx hb hts inlX12 tyX12 tyX12_ok nmX12 hown hK hP hD hS 0 rfl rfl 35 (Nat.le_of_ble_eq_true rfl) w_5_190 rfl rfl rfl (Nat.le_of_ble_eq_true rfl) rfl dX12_becomesBy_30 (fun H locs hP hD hS => ?_)
  refine lv_aload_n hx hb dX12_becomesBy_33 rfl (lv_at hl 0 rfl) ?_
  refine sk_get (v := .ref (g 24)) (C := RX12) (T := TX12) (N := 92) hx hb hts inlX12 hown hK hP 0 rfl rfl 24 (Nat.le_of_ble_eq_true rfl) w_5_179 rfl dX12_becomesBy_34 ?_
  refine lv_iconst (v := 4) hx hb dX12_becomesBy_37 ic_4 ?_
  refine va_iald hx hb hK.1 hP 1 0 rfl rfl (by unfold vp_in; decide) dX12_becomesBy_38 ?_
  refine sk_top u4 rfl ?_
  refine lv_iconst (v := (-1)) hx hb dX12_becomesBy_39 (by decide) ?_
  refine lv_icmp_ne (tgt := 50) hx hb dX12_becomesBy_40 (by decide) (fun c_3 => ?_) (fun c_3 => ?_)
  · skip
    refine lv_aload_n hx hb dX12_becomesBy_50 rfl (lv_at hl 0 rfl) ?_
    refine lv_iconst (v := 1) hx hb dX12_becomesBy_51 ic_1 ?_
    refine lv_iload_n hx hb dX12_becomesBy_52 rfl (lv_at hl 1 rfl) ?_
    obtain ⟨ca, cb, rfl, rfl, hab_, hbk_, hKc_, hG_⟩ := mw_some hLk hmw1 c_3
    have hnm := mn_of (m := mq) (t := t) (al := 0) hmd rfl rfl rfl (by omega) (by omega) (by omega) (by omega) (by omega) (by omega) (by omega)
    generalize hq9 : kcNm wk b w d mq t 0 = nm at hnm
    refine sk_Vl (q0 := 0) (n := 2) (rest := []) (wr := fmR om_7_7f _) ⟨hx, hb, hml, hown, hts⟩ hl.1 (c_nm_codesTell1 l D cI cJ cC cZ cS mm g ta pa pe pd pb pp pf pg pn rt rn cd sn il tk (nI mq) (nI t) 0 mt_ wt wy it_ rm ud nu sd qn qw qo qb qp qa qi oc d u0 u1 u2 u3 u5 ca v0 v1 v2 v3 v5 cb cs nw pt ql (lK L) nm (kcV L 1 nm) 1 hd hab_ hbk_ hkl hKc_ (by decide) (kw_ns hLk rfl hG_) hnm (kw_ex hLk (by decide) hG_ nm) hcs hnw hpt) w_7_135 w_7_137 w_0_75 w_1_14 w_7_138 hd_X12_codesTell_2 ⟨⟨(Nat.le_of_ble_eq_true rfl), (Nat.le_of_ble_eq_true rfl)⟩, (Nat.le_of_ble_eq_true rfl), (Nat.le_of_ble_eq_true rfl)⟩ hK hP hD hS hA (fmT om_7_7f 0) (fmF om_7_7f 0) (fm_C1 rfl rfl) (fm_R rfl rfl) (fm_nT om_7_7f 0) (fm_nF om_7_7f 0) (fm_di om_7_7f 0) rfl rfl rfl rfl (Nat.le_of_ble_eq_true rfl) dX12_becomesBy_53 (fun r_6 u H locs hw hP hD hS => ?_)
    refine exE hw (fun qp2_4 hw1 => exE hw1 (fun ql2_5 hw2 => anE hw2 (fun er_8 eu_7 => ?_)))
    clear hw hw1 hw2
    subst er_8
    refine o_mgE (ws' := [ro_ mm 12 (mo g (nI ta) (nI pa) (nI pe) pd (nI pb) pp pf pg pn rt rn (nI cd) sn (nI il) 1 (nI mq) (nI t) 0 mt_ 0 (-1) wt wy (nI it_) (nI rm) (nI ud) (nI nu) sd (nI qn) (nI qw) qo (nI qb) (nI qp2_4) qa (nI qi) (nI oc)), ra_I (g 24) cI 6 (l6 u0 u1 u2 u3 (nI ca) u5), ra_I (g 25) cI 6 (l6 v0 v1 v2 v3 (nI cb) v5), ra_N (g 26) cI 3200 cs, ra_I (g 31) cI 120 nw, ra_N (g 46) cI 9 pt, ra_J (g 86) cJ 1700 ql2_5]) eu_7 hP hD rfl (fun hP hD => ?_)
    refine sk_Si (n := 1) (rest := []) (wr := [ro_ mm 12 (mo g (nI ta) (nI pa) (nI pe) pd (nI pb) pp pf pg pn rt rn (nI cd) sn (nI il) 1 (nI mq) (nI t) 0 mt_ 0 (-1) wt wy (nI it_) (nI rm) (nI ud) (nI nu) sd (nI qn) (nI qw) qo (nI qb) (nI qp2_4) qa (nI qi) (nI oc)), ra_I (g 24) cI 6 (l6 u0 u1 u2 u3 (nI ca) u5), ra_I (g 25) cI 6 (l6 v0 v1 v2 v3 (nI cb) v5), ra_N (g 26) cI 3200 cs, ra_I (g 31) cI 120 nw, ra_N (g 46) cI 9 pt, ra_J (g 86) cJ 1700 ql2_5]) ⟨hx, hb, hml, hown, hts⟩ hl.1 (c_nm_byTen l D cI cJ cC cZ cS (kcV L 1 nm)) w_7_168 w_7_169 w_1_14 w_7_170 hd_X12_byTen_1 ⟨⟨(Nat.le_of_ble_eq_true rfl), (Nat.le_of_ble_eq_true rfl)⟩, (Nat.le_of_ble_eq_true rfl), (Nat.le_of_ble_eq_true rfl)⟩ hK hP hD hS hA [] [0, 1, 2, 3, 4, 5, 6] rfl rfl (by decide +kernel) (by decide +kernel) (by decide +kernel) rfl rfl (Nat.le_of_ble_eq_true rfl) dX12_becomesBy_56 (fun r_9 u H locs hw hP hD hS => ?_)
    obtain ⟨rfl, rfl⟩ := hw
    refine o_re (ws' := [ro_ mm 12 (mo g (nI ta) (nI pa) (nI pe) pd (nI pb) pp pf pg pn rt rn (nI cd) sn (nI il) 1 (nI mq) (nI t) 0 mt_ 0 (-1) wt wy (nI it_) (nI rm) (nI ud) (nI nu) sd (nI qn) (nI qw) qo (nI qb) (nI qp2_4) qa (nI qi) (nI oc)), ra_I (g 24) cI 6 (l6 u0 u1 u2 u3 (nI ca) u5), ra_I (g 25) cI 6 (l6 v0 v1 v2 v3 (nI cb) v5), ra_N (g 26) cI 3200 cs, ra_I (g 31) cI 120 nw, ra_N (g 46) cI 9 pt, ra_J (g 86) cJ 1700 ql2_5]) hP hD rfl (fun hP hD => ?_)
    exact sk_iret hx hb hr rfl hlocks hK hP hD hS (⟨kcTen (kcV L 1 nm), 1, qp2_4, nI mq, nI t, 0, ql2_5, (by rw [← hq9]; rfl), rfl, rfl⟩) (Nat.le_of_ble_eq_true rfl) (Nat.le_of_ble_eq_true rfl) dX12_becomesBy_59
  · skip
    refine lv_aload_n hx hb dX12_becomesBy_43 rfl (lv_at hl 0 rfl) ?_
    refine sk_get (v := .int (nI t)) (C := RX12) (T := TX12) (N := 92) hx hb hts inlX12 hown hK hP 0 rfl rfl 34 (Nat.le_of_ble_eq_true rfl) w_5_189 rfl dX12_becomesBy_44 ?_
    refine lv_goto (tgt := 59) hx hb dX12_becomesBy_47 (by decide) ?_
    exact sk_iret hx hb hr rfl hlocks hK hP hD hS (⟨t, tk, qp, nI mq, nI t, 0, ql, kw_bec (by omega) (mw_none hLk hkl hmw1 c_3), rfl, rfl⟩) (Nat.le_of_ble_eq_true rfl) (Nat.le_of_ble_eq_true rfl) dX12_becomesBy_59
set_option maxHeartbeats 4000000 in
set_option maxRecDepth 100000 in
theorem c_nm_becomesBy1 (l : Launch) (D : va_G) (cI cJ cC cZ cS : ClassId) (mm : Nat) (g : Nat → Nat) (ta : Nat) (pa : Nat) (pe : Nat) (pd : Int32) (pb : Nat) (pp : Int32) (pf : Int32) (pg : Int32) (pn : Int32) (rt : Int32) (rn : Int32) (cd : Nat) (sn : Int32) (il : Nat) (tk : Int32) (am : Int32) (at_ : Int32) (aa : Int32) (mt_ : Int32) (wt : Int32) (wy : Int64) (it_ : Nat) (rm : Nat) (ud : Nat) (nu : Nat) (sd : Int64) (qn : Nat) (qw : Nat) (qo : Int32) (qb : Nat) (qp : Nat) (qa : Int64) (qi : Nat) (oc : Nat) (d : Nat) (mq : Nat) (t : Nat) (u0 : Int32) (u1 : Int32) (u2 : Int32) (u3 : Int32) (u4 : Int32) (u5 : Int32) (v0 : Int32) (v1 : Int32) (v2 : Int32) (v3 : Int32) (v4 : Int32) (v5 : Int32) (cs : Nat → Nat) (nw : Nat → Int32) (pt : Nat → Nat) (ql : Nat → Int64) (L : LkS) (wk : Nat) (b : Nat) (w : Nat) (hd : d < 9) (hm : mq < 10) (ht : t < 10) (hLk : kcLk L) (hkl : (lK L).length ≤ 1600) (hmd : mdO nw wk b w d) (hwk : wk ≤ 999) (hb9 : b ≤ 9) (hw9 : w ≤ 9) (hmw1 : mwO L 1 u4 v4 cs) (hcs : ∀ j, cs j ≤ 20000) (hnw : nowOk nw) (hpt : ∀ j, pt j ≤ 9) : skM l yX12_becomesBy cX12_becomesBy 5 (some .int) 3 74 0 0 D (skT cI cJ cC cZ cS) [.ref mm, .int (nI d), .int (nI mq), .int (nI t), .int 1] [ro_ mm 12 (mo g (nI ta) (nI pa) (nI pe) pd (nI pb) pp pf pg pn rt rn (nI cd) sn (nI il) tk am at_ aa mt_ 0 (-1) wt wy (nI it_) (nI rm) (nI ud) (nI nu) sd (nI qn) (nI qw) qo (nI qb) (nI qp) qa (nI qi) (nI oc)), ra_I (g 24) cI 6 (l6 u0 u1 u2 u3 u4 u5), ra_I (g 25) cI 6 (l6 v0 v1 v2 v3 v4 v5), ra_N (g 26) cI 3200 cs, ra_I (g 31) cI 120 nw, ra_N (g 46) cI 9 pt, ra_J (g 86) cJ 1700 ql] (skI D (skT cI cJ cC cZ cS) (fun (r : Int32) (u : va_W) => ∃ (v : Nat), ∃ (tk2 : Int32), ∃ (qp2 : Nat), ∃ (am2 : Int32), ∃ (at_2 : Int32), ∃ (aa2 : Int32), ∃ (ql2 : Nat → Int64), v = kcBec L wk b w d mq 0 1 ∧ r = nI v ∧ u = [ro_ mm 12 (mo g (nI ta) (nI pa) (nI pe) pd (nI pb) pp pf pg pn rt rn (nI cd) sn (nI il) tk2 am2 at_2 aa2 mt_ 0 (-1) wt wy (nI it_) (nI rm) (nI ud) (nI nu) sd (nI qn) (nI qw) qo (nI qb) (nI qp2) qa (nI qi) (nI oc)), ra_I (g 24) cI 6 (l6 u0 u1 u2 u3 u4 u5), ra_I (g 25) cI 6 (l6 v0 v1 v2 v3 v4 v5), ra_N (g 26) cI 3200 cs, ra_I (g 31) cI 120 nw, ra_N (g 46) cI 9 pt, ra_J (g 86) cJ 1700 ql2])) := by
  refine skM_of pf_X12_becomesBy (Nat.le_of_ble_eq_true rfl) ?_
  intro p e s m below meth c A ls E hP hD hl
  refine skE_el E (fun hx hb hr hml hlocks hin hown hts hK hA => ?_)
  have hown : s.vm.findClass RX12 = some m.cls := hown
  have hS : va_S A s.heap s.heap [] := va_S.rf
  have hl : lv_has ls 5 [(0, .ref mm), (1, .int (nI d)), (2, .int (nI mq)), (3, .int (nI t)), (4, .int 1)] := hl
  refine lv_aload_n hx hb dX12_becomesBy_0 rfl (lv_at hl 0 rfl) ?_
  refine lv_iload_n hx hb dX12_becomesBy_1 rfl (lv_at hl 2 rfl) ?_
  refine sk_put (ws' := [ro_ mm 12 (mo g (nI ta) (nI pa) (nI pe) pd (nI pb) pp pf pg pn rt rn (nI cd) sn (nI il) tk (nI mq) at_ aa mt_ 0 (-1) wt wy (nI it_) (nI rm) (nI ud) (nI nu) sd (nI qn) (nI qw) qo (nI qb) (nI qp) qa (nI qi) (nI oc)), ra_I (g 24) cI 6 (l6 u0 u1 u2 u3 u4 u5), ra_I (g 25) cI 6 (l6 v0 v1 v2 v3 v4 v5), ra_N (g 26) cI 3200 cs, ra_I (g 31) cI 120 nw, ra_N (g 46) cI 9 pt, ra_J (g 86) cJ 1700 ql]) (C := RX12) (T := TX12) (N := 92) (v := .int (nI mq)) hx hb hts inlX12 tyX12 tyX12_ok nmX12 hown hK hP hD hS 0 rfl rfl 33 (Nat.le_of_ble_eq_true rfl) w_5_188 rfl rfl rfl (Nat.le_of_ble_eq_true rfl) rfl dX12_becomesBy_2 (fun H locs hP hD hS => ?_)
  refine lv_aload_n hx hb dX12_becomesBy_5 rfl (lv_at hl 0 rfl) ?_
  refine lv_iload hx hb dX12_becomesBy_6 (lv_at hl 4 rfl) ?_
  refine lv_if_eq (tgt := 15) hx hb dX12_becomesBy_8 (by decide) (fun c => absurd c (by decide)) (fun c_1 => ?_)
  refine lv_iconst (v := 0) hx hb dX12_becomesBy_11 ic_0 ?_
  refine lv_goto (tgt := 16) hx hb dX12_becomesBy_12 (by decide) ?_
  refine sk_put (ws' := [ro_ mm 12 (mo g (nI ta) (nI pa) (nI pe) pd (nI pb) pp pf pg pn rt rn (nI cd) sn (nI il) tk (nI mq) 0 aa mt_ 0 (-1) wt wy (nI it_) (nI rm) (nI ud) (nI nu) sd (nI qn) (nI qw) qo (nI qb) (nI qp) qa (nI qi) (nI oc)), ra_I (g 24) cI 6 (l6 u0 u1 u2 u3 u4 u5), ra_I (g 25) cI 6 (l6 v0 v1 v2 v3 v4 v5), ra_N (g 26) cI 3200 cs, ra_I (g 31) cI 120 nw, ra_N (g 46) cI 9 pt, ra_J (g 86) cJ 1700 ql]) (C := RX12) (T := TX12) (N := 92) (v := .int 0) hx hb hts inlX12 tyX12 tyX12_ok nmX12 hown hK hP hD hS 0 rfl rfl 34 (Nat.le_of_ble_eq_true rfl) w_5_189 rfl rfl rfl (Nat.le_of_ble_eq_true rfl) rfl dX12_becomesBy_16 (fun H locs hP hD hS => ?_)
  refine lv_aload_n hx hb dX12_becomesBy_19 rfl (lv_at hl 0 rfl) ?_
  refine lv_iload hx hb dX12_becomesBy_20 (lv_at hl 4 rfl) ?_
  refine lv_if_eq (tgt := 29) hx hb dX12_becomesBy_22 (by decide) (fun c => absurd c (by decide)) (fun c_2 => ?_)
  refine lv_iconst (v := 1) hx hb dX12_becomesBy_25 ic_1 ?_
  refine lv_goto (tgt := 30) hx hb dX12_becomesBy_26 (by decide) ?_
  refine sk_put (ws' := [ro_ mm 12 (mo g (nI ta) (nI pa) (nI pe) pd (nI pb) pp pf pg pn rt rn (nI cd) sn (nI il) tk (nI mq) 0 1 mt_ 0 (-1) wt wy (nI it_) (nI rm) (nI ud) (nI nu) sd (nI qn) (nI qw) qo (nI qb) (nI qp) qa (nI qi) (nI oc)), ra_I (g 24) cI 6 (l6 u0 u1 u2 u3 u4 u5), ra_I (g 25) cI 6 (l6 v0 v1 v2 v3 v4 v5), ra_N (g 26) cI 3200 cs, ra_I (g 31) cI 120 nw, ra_N (g 46) cI 9 pt, ra_J (g 86) cJ 1700 ql]) (C := RX12) (T := TX12) (N := 92) (v := .int 1) hx hb hts inlX12 tyX12 tyX12_ok nmX12 hown hK hP hD hS 0 rfl rfl 35 (Nat.le_of_ble_eq_true rfl) w_5_190 rfl rfl rfl (Nat.le_of_ble_eq_true rfl) rfl dX12_becomesBy_30 (fun H locs hP hD hS => ?_)
  refine lv_aload_n hx hb dX12_becomesBy_33 rfl (lv_at hl 0 rfl) ?_
  refine sk_get (v := .ref (g 24)) (C := RX12) (T := TX12) (N := 92) hx hb hts inlX12 hown hK hP 0 rfl rfl 24 (Nat.le_of_ble_eq_true rfl) w_5_179 rfl dX12_becomesBy_34 ?_
  refine lv_iconst (v := 4) hx hb dX12_becomesBy_37 ic_4 ?_
  refine va_iald hx hb hK.1 hP 1 0 rfl rfl (by unfold vp_in; decide) dX12_becomesBy_38 ?_
  refine sk_top u4 rfl ?_
  refine lv_iconst (v := (-1)) hx hb dX12_becomesBy_39 (by decide) ?_
  refine lv_icmp_ne (tgt := 50) hx hb dX12_becomesBy_40 (by decide) (fun c_3 => ?_) (fun c_3 => ?_)
  · skip
    refine lv_aload_n hx hb dX12_becomesBy_50 rfl (lv_at hl 0 rfl) ?_
    refine lv_iconst (v := 1) hx hb dX12_becomesBy_51 ic_1 ?_
    refine lv_iload_n hx hb dX12_becomesBy_52 rfl (lv_at hl 1 rfl) ?_
    obtain ⟨ca, cb, rfl, rfl, hab_, hbk_, hKc_, hG_⟩ := mw_some hLk hmw1 c_3
    have hnm := mn_of (m := mq) (t := 0) (al := 1) hmd rfl (show (0 : Int32) = nI 0 from rfl) (show (1 : Int32) = nI 1 from rfl) (by omega) (by omega) (by omega) (by omega) (by omega) (by omega) (by omega)
    generalize hq9 : kcNm wk b w d mq 0 1 = nm at hnm
    refine sk_Vl (q0 := 0) (n := 2) (rest := []) (wr := fmR om_7_7f _) ⟨hx, hb, hml, hown, hts⟩ hl.1 (c_nm_codesTell1 l D cI cJ cC cZ cS mm g ta pa pe pd pb pp pf pg pn rt rn cd sn il tk (nI mq) 0 1 mt_ wt wy it_ rm ud nu sd qn qw qo qb qp qa qi oc d u0 u1 u2 u3 u5 ca v0 v1 v2 v3 v5 cb cs nw pt ql (lK L) nm (kcV L 1 nm) 1 hd hab_ hbk_ hkl hKc_ (by decide) (kw_ns hLk rfl hG_) hnm (kw_ex hLk (by decide) hG_ nm) hcs hnw hpt) w_7_135 w_7_137 w_0_75 w_1_14 w_7_138 hd_X12_codesTell_2 ⟨⟨(Nat.le_of_ble_eq_true rfl), (Nat.le_of_ble_eq_true rfl)⟩, (Nat.le_of_ble_eq_true rfl), (Nat.le_of_ble_eq_true rfl)⟩ hK hP hD hS hA (fmT om_7_7f 0) (fmF om_7_7f 0) (fm_C1 rfl rfl) (fm_R rfl rfl) (fm_nT om_7_7f 0) (fm_nF om_7_7f 0) (fm_di om_7_7f 0) rfl rfl rfl rfl (Nat.le_of_ble_eq_true rfl) dX12_becomesBy_53 (fun r_6 u H locs hw hP hD hS => ?_)
    refine exE hw (fun qp2_4 hw1 => exE hw1 (fun ql2_5 hw2 => anE hw2 (fun er_8 eu_7 => ?_)))
    clear hw hw1 hw2
    subst er_8
    refine o_mgE (ws' := [ro_ mm 12 (mo g (nI ta) (nI pa) (nI pe) pd (nI pb) pp pf pg pn rt rn (nI cd) sn (nI il) 1 (nI mq) 0 1 mt_ 0 (-1) wt wy (nI it_) (nI rm) (nI ud) (nI nu) sd (nI qn) (nI qw) qo (nI qb) (nI qp2_4) qa (nI qi) (nI oc)), ra_I (g 24) cI 6 (l6 u0 u1 u2 u3 (nI ca) u5), ra_I (g 25) cI 6 (l6 v0 v1 v2 v3 (nI cb) v5), ra_N (g 26) cI 3200 cs, ra_I (g 31) cI 120 nw, ra_N (g 46) cI 9 pt, ra_J (g 86) cJ 1700 ql2_5]) eu_7 hP hD rfl (fun hP hD => ?_)
    refine sk_Si (n := 1) (rest := []) (wr := [ro_ mm 12 (mo g (nI ta) (nI pa) (nI pe) pd (nI pb) pp pf pg pn rt rn (nI cd) sn (nI il) 1 (nI mq) 0 1 mt_ 0 (-1) wt wy (nI it_) (nI rm) (nI ud) (nI nu) sd (nI qn) (nI qw) qo (nI qb) (nI qp2_4) qa (nI qi) (nI oc)), ra_I (g 24) cI 6 (l6 u0 u1 u2 u3 (nI ca) u5), ra_I (g 25) cI 6 (l6 v0 v1 v2 v3 (nI cb) v5), ra_N (g 26) cI 3200 cs, ra_I (g 31) cI 120 nw, ra_N (g 46) cI 9 pt, ra_J (g 86) cJ 1700 ql2_5]) ⟨hx, hb, hml, hown, hts⟩ hl.1 (c_nm_byTen l D cI cJ cC cZ cS (kcV L 1 nm)) w_7_168 w_7_169 w_1_14 w_7_170 hd_X12_byTen_1 ⟨⟨(Nat.le_of_ble_eq_true rfl), (Nat.le_of_ble_eq_true rfl)⟩, (Nat.le_of_ble_eq_true rfl), (Nat.le_of_ble_eq_true rfl)⟩ hK hP hD hS hA [] [0, 1, 2, 3, 4, 5, 6] rfl rfl (by decide +kernel) (by decide +kernel) (by decide +kernel) rfl rfl (Nat.le_of_ble_eq_true rfl) dX12_becomesBy_56 (fun r_9 u H locs hw hP hD hS => ?_)
    obtain ⟨rfl, rfl⟩ := hw
    refine o_re (ws' := [ro_ mm 12 (mo g (nI ta) (nI pa) (nI pe) pd (nI pb) pp pf pg pn rt rn (nI cd) sn (nI il) 1 (nI mq) 0 1 mt_ 0 (-1) wt wy (nI it_) (nI rm) (nI ud) (nI nu) sd (nI qn) (nI qw) qo (nI qb) (nI qp2_4) qa (nI qi) (nI oc)), ra_I (g 24) cI 6 (l6 u0 u1 u2 u3 (nI ca) u5), ra_I (g 25) cI 6 (l6 v0 v1 v2 v3 (nI cb) v5), ra_N (g 26) cI 3200 cs, ra_I (g 31) cI 120 nw, ra_N (g 46) cI 9 pt, ra_J (g 86) cJ 1700 ql2_5]) hP hD rfl (fun hP hD => ?_)
    exact sk_iret hx hb hr rfl hlocks hK hP hD hS (⟨kcTen (kcV L 1 nm), 1, qp2_4, nI mq, 0, 1, ql2_5, (by rw [← hq9]; rfl), rfl, rfl⟩) (Nat.le_of_ble_eq_true rfl) (Nat.le_of_ble_eq_true rfl) dX12_becomesBy_59
  · skip
    refine lv_aload_n hx hb dX12_becomesBy_43 rfl (lv_at hl 0 rfl) ?_
    refine sk_get (v := .int 0) (C := RX12) (T := TX12) (N := 92) hx hb hts inlX12 hown hK hP 0 rfl rfl 34 (Nat.le_of_ble_eq_true rfl) w_5_189 rfl dX12_becomesBy_44 ?_
    refine lv_goto (tgt := 59) hx hb dX12_becomesBy_47 (by decide) ?_
    exact sk_iret hx hb hr rfl hlocks hK hP hD hS (⟨0, tk, qp, nI mq, 0, 1, ql, kw_bec (by omega) (mw_none hLk hkl hmw1 c_3), rfl, rfl⟩) (Nat.le_of_ble_eq_true rfl) (Nat.le_of_ble_eq_true rfl) dX12_becomesBy_59
def mlD (L : LkS) (wk : Nat) (B W : Nat → Nat) (li n : Nat) (ws yw yo : Nat → Int32) : Prop := ∀ d, d < n → mlS L wk B W li d ws 10 ∧ ∀ a m, a < 10 → m < 10 → yw (100 * d + 10 * a + m) = mlW L wk B W li d a m ∧ yo (100 * d + 10 * a + m) = mlO L wk B W d a m
def mlA (L : LkS) (wk : Nat) (B W : Nat → Nat) (li d ja jm : Nat) (yw yo : Nat → Int32) : Prop := ∀ a m, a < 10 → m < 10 → a < ja ∨ (a = ja ∧ m < jm) → yw (100 * d + 10 * a + m) = mlW L wk B W li d a m ∧ yo (100 * d + 10 * a + m) = mlO L wk B W d a m
theorem mlD_0 (L : LkS) (wk : Nat) (B W : Nat → Nat) (li : Nat) (ws yw yo : Nat → Int32) : mlD L wk B W li 0 ws yw yo := fun d hd => absurd hd (Nat.not_lt_zero d)
theorem mlD_w {L : LkS} {wk : Nat} {B W : Nat → Nat} {li i j : Nat} {ws wt yw yo : Nat → Int32} {x : Int32} (h : mlD L wk B W li i ws yw yo) (e : wt = upd ws (10 * i + j) x) : mlD L wk B W li i wt yw yo := fun d hd => by
  obtain ⟨h1, h2⟩ := h d hd
  exact ⟨fun m hm => by rw [kui_n e (by omega)]; exact h1 m hm, h2⟩
theorem mlS_0 (L : LkS) (wk : Nat) (B W : Nat → Nat) (li d : Nat) (f : Nat → Int32) : mlS L wk B W li d f 0 := fun m hm => absurd hm (Nat.not_lt_zero m)
theorem mlS_s {L : LkS} {wk : Nat} {B W : Nat → Nat} {li d j v : Nat} {f g : Nat → Int32} (h : mlS L wk B W li d f j) (e : g = upd f (10 * d + j) (nI ((v + li) % 10))) (hv : v = kcSaid L wk (B d) (W d) d j) : mlS L wk B W li d g (j + 1) := fun m hm => by
  by_cases q : m = j
  · subst q; rw [kui_s e, hv]
  · rw [kui_n e (by omega)]; exact h m (by omega)
theorem mlA_0 (L : LkS) (wk : Nat) (B W : Nat → Nat) (li d : Nat) (yw yo : Nat → Int32) : mlA L wk B W li d 0 0 yw yo := fun a m _ _ h => absurd h (by omega)
theorem mlA_n {L : LkS} {wk : Nat} {B W : Nat → Nat} {li d ja jm : Nat} {yw yo : Nat → Int32} (h : mlA L wk B W li d ja jm yw yo) (hm : 10 ≤ jm) : mlA L wk B W li d (ja + 1) 0 yw yo := fun a m ha hm2 q => h a m ha hm2 (by omega)
theorem mlA_s {L : LkS} {wk : Nat} {B W : Nat → Nat} {li d ja jm : Nat} {yw yo yw2 yo2 : Nat → Int32} {x y : Int32} (h : mlA L wk B W li d ja jm yw yo) (e1 : yw2 = upd yw (100 * d + 10 * ja + jm) x) (e2 : yo2 = upd yo (100 * d + 10 * ja + jm) y) (hja : ja < 10) (hjm : jm < 10) (hx : x = mlW L wk B W li d ja jm) (hy : y = mlO L wk B W d ja jm) : mlA L wk B W li d ja (jm + 1) yw2 yo2 := fun a m ha hm q => by
  by_cases e : a = ja ∧ m = jm
  · obtain ⟨rfl, rfl⟩ := e
    rw [kui_s e1, kui_s e2]; exact ⟨hx, hy⟩
  · rw [kui_n e1 (by omega), kui_n e2 (by omega)]; exact h a m ha hm (by omega)
theorem mlD_a {L : LkS} {wk : Nat} {B W : Nat → Nat} {li i k : Nat} {ws yw yo yw2 yo2 : Nat → Int32} {x y : Int32} (h : mlD L wk B W li i ws yw yo) (e1 : yw2 = upd yw k x) (e2 : yo2 = upd yo k y) (hk : 100 * i ≤ k) : mlD L wk B W li i ws yw2 yo2 := fun d hd => by
  obtain ⟨h1, h2⟩ := h d hd
  exact ⟨h1, fun a m ha hm => by rw [kui_n e1 (by omega), kui_n e2 (by omega)]; exact h2 a m ha hm⟩
theorem mlD_s {L : LkS} {wk : Nat} {B W : Nat → Nat} {li i ja jm : Nat} {ws yw yo : Nat → Int32} (h : mlD L wk B W li i ws yw yo) (h1 : mlS L wk B W li i ws 10) (h2 : mlA L wk B W li i ja jm yw yo) (hja : 10 ≤ ja) : mlD L wk B W li (i + 1) ws yw yo := fun d hd => by
  by_cases q : d = i
  · subst q; exact ⟨h1, fun a m ha hm => h2 a m ha hm (by omega)⟩
  · exact h d (by omega)
theorem kone_t {q : Prop} [Decidable q] (h : q) : (1 : Int32) = kone q := by unfold kone; rw [if_pos h]
theorem kone_f {q : Prop} [Decidable q] (h : ¬ q) : (0 : Int32) = kone q := by unfold kone; rw [if_neg h]
theorem kone_0 {q : Prop} [Decidable q] : kone q = 0 ↔ ¬ q := by
  unfold kone
  by_cases h : q
  · rw [if_pos h]; exact ⟨fun e => absurd e (by decide), fun e => absurd h e⟩
  · rw [if_neg h]; exact ⟨fun _ => h, fun _ => rfl⟩
/-- which mood may follow, as the class has it -/
theorem cf_Fo {L : LkS} {wk : Nat} {B W : Nat → Nat} {U : Nat → Bool} {li n : Nat} {nw ws yw yo : Nat → Int32} {mt : Int32} (h : mlD L wk B W li n ws yw yo) (hn : n ≤ 9) (hU : ∀ d, d < n → mtN nw mt d = U d) {d a m : Nat} (hd : d < n) (ha : a < 10) (hm : m < 10) : cfN nw yw yo mt d a m = kcFo L wk B W U li d a m := by
  obtain ⟨h1, h2⟩ := (h d hd).2 a m ha hm
  unfold cfN kcFo
  rw [hU d hd, nI_clamp (by omega), h1, h2]
  cases hu : U d with
  | true =>
    rw [if_pos rfl, if_pos rfl]
    unfold mlO
    by_cases q : kcBec L wk (B d) (W d) d a 0 1 = m
    · rw [decide_eq_false (fun e => kone_0.mp e q), q]; simp
    · rw [decide_eq_true (kone_0.mpr q)]; simp [q]
  | false =>
    rw [if_neg (by decide), if_neg (by decide)]
    unfold mlW
    by_cases q : kcBec L wk (B d) (W d) d a ((kcSaid L wk (B d) (W d) d m + li) % 10) 0 = m
    · rw [decide_eq_false (fun e => kone_0.mp e q), q]; simp
    · rw [decide_eq_true (kone_0.mpr q)]; simp [q]
set_option maxHeartbeats 4000000 in
set_option maxRecDepth 100000 in
theorem c_nm_laysDays (l : Launch) (D : va_G) (cI cJ cC cZ cS : ClassId) (mm : Nat) (g : Nat → Nat) (ta : Nat) (pa : Nat) (pe : Nat) (pd : Int32) (pb : Nat) (pp : Int32) (pf : Int32) (pg : Int32) (pn : Int32) (rt : Int32) (rn : Int32) (cd : Nat) (sn : Int32) (il : Nat) (tk : Int32) (am : Int32) (at_ : Int32) (aa : Int32) (mt_ : Int32) (wt : Int32) (wy : Int64) (it_ : Nat) (rm : Nat) (ud : Nat) (nu : Nat) (sd : Int64) (qn : Nat) (qw : Nat) (qo : Int32) (qb : Nat) (qp : Nat) (qa : Int64) (qi : Nat) (oc : Nat) (li : Nat) (u0 : Int32) (u1 : Int32) (u2 : Int32) (u3 : Int32) (u4 : Int32) (u5 : Int32) (v0 : Int32) (v1 : Int32) (v2 : Int32) (v3 : Int32) (v4 : Int32) (v5 : Int32) (cs : Nat → Nat) (nw : Nat → Int32) (pt : Nat → Nat) (ql : Nat → Int64) (l0 : Nat) (l1 : Nat) (dm : Nat) (l3 : Nat) (ws_ : Nat → Int32) (yw : Nat → Int32) (yo : Nat → Int32) (L : LkS) (wk : Nat) (Ba : Nat → Nat) (We : Nat → Nat) (hdm : dm ≤ 9) (hli : li < 10) (hLk : kcLk L) (hkl : (lK L).length ≤ 1600) (hmw0 : mwO L 0 u3 v3 cs) (hmw1 : mwO L 1 u4 v4 cs) (hB9 : ∀ j, Ba j ≤ 9) (hW9 : ∀ j, We j ≤ 9) (hwk : wk ≤ 999) (hmds : ∀ d, d < dm → mdO nw wk (Ba d) (We d) d) (hcs : ∀ j, cs j ≤ 20000) (hnw : nowOk nw) (hpt : ∀ j, pt j ≤ 9) : skM l yX12_laysDays cX12_laysDays 5 none 4 98 0 0 D (skT cI cJ cC cZ cS) [.ref mm, .int (nI li)] [ro_ mm 12 (mo g (nI ta) (nI pa) (nI pe) pd (nI pb) pp pf pg pn rt rn (nI cd) sn (nI il) tk am at_ aa mt_ 0 (-1) wt wy (nI it_) (nI rm) (nI ud) (nI nu) sd (nI qn) (nI qw) qo (nI qb) (nI qp) qa (nI qi) (nI oc)), ra_I (g 24) cI 6 (l6 u0 u1 u2 u3 u4 u5), ra_I (g 25) cI 6 (l6 v0 v1 v2 v3 v4 v5), ra_N (g 26) cI 3200 cs, ra_I (g 31) cI 120 nw, ra_N (g 46) cI 9 pt, ra_J (g 86) cJ 1700 ql, ra_I (g 20) cI 4 (l4 (nI l0) (nI l1) (nI dm) (nI l3)), ra_I (g 38) cI 90 ws_, ra_I (g 36) cZ 900 yw, ra_I (g 37) cZ 900 yo] (skV D (skT cI cJ cC cZ cS) (fun (u : va_W) => ∃ (tk2 : Int32), ∃ (qp2 : Nat), ∃ (am2 : Int32), ∃ (at_2 : Int32), ∃ (aa2 : Int32), ∃ (ql2 : Nat → Int64), ∃ (ws_2 : Nat → Int32), ∃ (yw2 : Nat → Int32), ∃ (yo2 : Nat → Int32), mlD L wk Ba We li dm ws_2 yw2 yo2 ∧ u = [ro_ mm 12 (mo g (nI ta) (nI pa) (nI pe) pd (nI pb) pp pf pg pn rt rn (nI cd) sn (nI il) tk2 am2 at_2 aa2 mt_ 0 (-1) wt wy (nI it_) (nI rm) (nI ud) (nI nu) sd (nI qn) (nI qw) qo (nI qb) (nI qp2) qa (nI qi) (nI oc)), ra_I (g 24) cI 6 (l6 u0 u1 u2 u3 u4 u5), ra_I (g 25) cI 6 (l6 v0 v1 v2 v3 v4 v5), ra_N (g 26) cI 3200 cs, ra_I (g 31) cI 120 nw, ra_N (g 46) cI 9 pt, ra_J (g 86) cJ 1700 ql2, ra_I (g 20) cI 4 (l4 (nI l0) (nI l1) (nI dm) (nI l3)), ra_I (g 38) cI 90 ws_2, ra_I (g 36) cZ 900 yw2, ra_I (g 37) cZ 900 yo2])) := by
  refine skM_of pf_X12_laysDays (Nat.le_of_ble_eq_true rfl) ?_
  intro p e s m below meth c A ls E hP hD hl
  refine skE_el E (fun hx hb hr hml hlocks hin hown hts hK hA => ?_)
  have hown : s.vm.findClass RX12 = some m.cls := hown
  have hS : va_S A s.heap s.heap [] := va_S.rf
  have hl : lv_has ls 5 [(0, .ref mm), (1, .int (nI li))] := hl
  refine lv_iconst (v := 0) hx hb dX12_laysDays_0 ic_0 ?_
  refine lv_istore_n (lv' := [(2, .int 0), (0, .ref mm), (1, .int (nI li))]) hx hb dX12_laysDays_1 rfl hl (by decide) rfl (fun ls hl => ?_)
  have lp_1 : ∀ (n_2 : Nat) (i : Nat) (zam : Int32) (zat_ : Int32) (zaa : Int32) (ztk : Int32) (zqp : Nat) (zl : Nat → Int64) (zs : Nat → Int32) (zw : Nat → Int32) (zo : Nat → Int32) (H : Heap) (locs : List Loc) (ls : Array Slot), dm - i < n_2 → (i ≤ dm) → (mlD L wk Ba We li i zs zw zo) → va_P D vwCl [ro_ mm 12 (mo g (nI ta) (nI pa) (nI pe) pd (nI pb) pp pf pg pn rt rn (nI cd) sn (nI il) ztk zam zat_ zaa mt_ 0 (-1) wt wy (nI it_) (nI rm) (nI ud) (nI nu) sd (nI qn) (nI qw) qo (nI qb) (nI zqp) qa (nI qi) (nI oc)), ra_I (g 24) cI 6 (l6 u0 u1 u2 u3 u4 u5), ra_I (g 25) cI 6 (l6 v0 v1 v2 v3 v4 v5), ra_N (g 26) cI 3200 cs, ra_I (g 31) cI 120 nw, ra_N (g 46) cI 9 pt, ra_J (g 86) cJ 1700 zl, ra_I (g 20) cI 4 (l4 (nI l0) (nI l1) (nI dm) (nI l3)), ra_I (g 38) cI 90 zs, ra_I (g 36) cZ 900 zw, ra_I (g 37) cZ 900 zo] H → va_D A [ro_ mm 12 (mo g (nI ta) (nI pa) (nI pe) pd (nI pb) pp pf pg pn rt rn (nI cd) sn (nI il) ztk zam zat_ zaa mt_ 0 (-1) wt wy (nI it_) (nI rm) (nI ud) (nI nu) sd (nI qn) (nI qw) qo (nI qb) (nI zqp) qa (nI qi) (nI oc)), ra_I (g 24) cI 6 (l6 u0 u1 u2 u3 u4 u5), ra_I (g 25) cI 6 (l6 v0 v1 v2 v3 v4 v5), ra_N (g 26) cI 3200 cs, ra_I (g 31) cI 120 nw, ra_N (g 46) cI 9 pt, ra_J (g 86) cJ 1700 zl, ra_I (g 20) cI 4 (l4 (nI l0) (nI l1) (nI dm) (nI l3)), ra_I (g 38) cI 90 zs, ra_I (g 36) cZ 900 zw, ra_I (g 37) cZ 900 zo] → va_S A s.heap H locs → lv_has ls 5 [(2, .int (nI i)), (0, .ref mm), (1, .int (nI li))] → W p l e { frames := 4, cells := 0, slots := 0, locals := 98 } s m ([.ref mm, .int (nI li)] : List Value).toArray below meth c H locs 0 0 (MQ below (skV D (skT cI cJ cC cZ cS) (fun (u : va_W) => ∃ (tk2 : Int32), ∃ (qp2 : Nat), ∃ (am2 : Int32), ∃ (at_2 : Int32), ∃ (aa2 : Int32), ∃ (ql2 : Nat → Int64), ∃ (ws_2 : Nat → Int32), ∃ (yw2 : Nat → Int32), ∃ (yo2 : Nat → Int32), mlD L wk Ba We li dm ws_2 yw2 yo2 ∧ u = [ro_ mm 12 (mo g (nI ta) (nI pa) (nI pe) pd (nI pb) pp pf pg pn rt rn (nI cd) sn (nI il) tk2 am2 at_2 aa2 mt_ 0 (-1) wt wy (nI it_) (nI rm) (nI ud) (nI nu) sd (nI qn) (nI qw) qo (nI qb) (nI qp2) qa (nI qi) (nI oc)), ra_I (g 24) cI 6 (l6 u0 u1 u2 u3 u4 u5), ra_I (g 25) cI 6 (l6 v0 v1 v2 v3 v4 v5), ra_N (g 26) cI 3200 cs, ra_I (g 31) cI 120 nw, ra_N (g 46) cI 9 pt, ra_J (g 86) cJ 1700 ql2, ra_I (g 20) cI 4 (l4 (nI l0) (nI l1) (nI dm) (nI l3)), ra_I (g 38) cI 90 ws_2, ra_I (g 36) cZ 900 yw2, ra_I (g 37) cZ 900 yo2]) A) ([.ref mm, .int (nI li)] : List Value).toArray s 0 0 A) (F0 m 2 ls []) := by
    intro n_2
    induction n_2 with
    | zero => intro i zam zat_ zaa ztk zqp zl zs zw zo H locs ls hm; exact absurd hm (Nat.not_lt_zero _)
    | succ n_2 ih_lp_1 =>
      intro i zam zat_ zaa ztk zqp zl zs zw zo H locs ls hm hi hmi hP hD hS hl
      refine lv_iload_n hx hb dX12_laysDays_2 rfl (lv_at hl 0 rfl) ?_
      refine lv_aload_n hx hb dX12_laysDays_3 rfl (lv_at hl 1 rfl) ?_
      refine sk_Vi (q0 := 0) (n := 0) (rest := [.int (nI i)]) (wr := fmR om_11_408 _) ⟨hx, hb, hml, hown, hts⟩ hl.1 (c_m_dayMany l D cI cJ cC cZ cS mm g ta pa pe pd pb pp pf pg pn rt rn cd sn il ztk zam zat_ zaa mt_ 0 (-1) wt wy it_ rm ud nu sd qn qw qo qb zqp qa qi oc l0 l1 dm l3) w_7_98 w_7_100 w_0_69 w_1_14 w_7_101 hd_X12_dayMany_0 ⟨⟨(Nat.le_of_ble_eq_true rfl), (Nat.le_of_ble_eq_true rfl)⟩, (Nat.le_of_ble_eq_true rfl), (Nat.le_of_ble_eq_true rfl)⟩ hK hP hD hS hA (fmT om_11_408 0) (fmF om_11_408 0) (fm_C1 rfl rfl) (fm_R rfl rfl) (fm_nT om_11_408 0) (fm_nF om_11_408 0) (fm_di om_11_408 0) rfl rfl rfl rfl (Nat.le_of_ble_eq_true rfl) dX12_laysDays_4 (fun r_3 u H locs hw hP hD hS => ?_)
      refine anE hw (fun er_5 eu_4 => ?_)
      clear hw
      subst er_5
      refine o_mgE (ws' := [ro_ mm 12 (mo g (nI ta) (nI pa) (nI pe) pd (nI pb) pp pf pg pn rt rn (nI cd) sn (nI il) ztk zam zat_ zaa mt_ 0 (-1) wt wy (nI it_) (nI rm) (nI ud) (nI nu) sd (nI qn) (nI qw) qo (nI qb) (nI zqp) qa (nI qi) (nI oc)), ra_I (g 24) cI 6 (l6 u0 u1 u2 u3 u4 u5), ra_I (g 25) cI 6 (l6 v0 v1 v2 v3 v4 v5), ra_N (g 26) cI 3200 cs, ra_I (g 31) cI 120 nw, ra_N (g 46) cI 9 pt, ra_J (g 86) cJ 1700 zl, ra_I (g 20) cI 4 (l4 (nI l0) (nI l1) (nI dm) (nI l3)), ra_I (g 38) cI 90 zs, ra_I (g 36) cZ 900 zw, ra_I (g 37) cZ 900 zo]) eu_4 hP hD rfl (fun hP hD => ?_)
      refine lv_icmp_ge (tgt := 163) hx hb dX12_laysDays_7 (by decide) (fun c_6 => ?_) (fun c_6 => ?_)
      · have c_6 : dm ≤ i := (nle dm i (by omega) (by omega)).mp c_6
        exact sk_vret hx hb hr hlocks hK hP hD hS (⟨ztk, zqp, zam, zat_, zaa, zl, zs, zw, zo, (show mlD L wk Ba We li dm zs zw zo by rw [show dm = i by omega]; exact hmi), rfl⟩) (Nat.le_of_ble_eq_true rfl) (Nat.le_of_ble_eq_true rfl) dX12_laysDays_163
      · have c_6 : ¬ (dm ≤ i) := fun h => c_6 ((nle dm i (by omega) (by omega)).mpr h)
        refine lv_iconst (v := 0) hx hb dX12_laysDays_10 ic_0 ?_
        refine lv_istore_n (lv' := [(3, .int 0), (2, .int (nI i)), (0, .ref mm), (1, .int (nI li))]) hx hb dX12_laysDays_11 rfl hl (by decide) rfl (fun ls hl => ?_)
        have lp_7 : ∀ (n_8 : Nat) (jj : Nat) (zamb : Int32) (zat_b : Int32) (zaab : Int32) (ztkb : Int32) (zqpb : Nat) (zlb : Nat → Int64) (zsb : Nat → Int32) (H : Heap) (locs : List Loc) (ls : Array Slot), 10 - jj < n_8 → (jj ≤ 10) → (mlD L wk Ba We li i zsb zw zo) → (mlS L wk Ba We li i zsb jj) → va_P D vwCl [ro_ mm 12 (mo g (nI ta) (nI pa) (nI pe) pd (nI pb) pp pf pg pn rt rn (nI cd) sn (nI il) ztkb zamb zat_b zaab mt_ 0 (-1) wt wy (nI it_) (nI rm) (nI ud) (nI nu) sd (nI qn) (nI qw) qo (nI qb) (nI zqpb) qa (nI qi) (nI oc)), ra_I (g 24) cI 6 (l6 u0 u1 u2 u3 u4 u5), ra_I (g 25) cI 6 (l6 v0 v1 v2 v3 v4 v5), ra_N (g 26) cI 3200 cs, ra_I (g 31) cI 120 nw, ra_N (g 46) cI 9 pt, ra_J (g 86) cJ 1700 zlb, ra_I (g 20) cI 4 (l4 (nI l0) (nI l1) (nI dm) (nI l3)), ra_I (g 38) cI 90 zsb, ra_I (g 36) cZ 900 zw, ra_I (g 37) cZ 900 zo] H → va_D A [ro_ mm 12 (mo g (nI ta) (nI pa) (nI pe) pd (nI pb) pp pf pg pn rt rn (nI cd) sn (nI il) ztkb zamb zat_b zaab mt_ 0 (-1) wt wy (nI it_) (nI rm) (nI ud) (nI nu) sd (nI qn) (nI qw) qo (nI qb) (nI zqpb) qa (nI qi) (nI oc)), ra_I (g 24) cI 6 (l6 u0 u1 u2 u3 u4 u5), ra_I (g 25) cI 6 (l6 v0 v1 v2 v3 v4 v5), ra_N (g 26) cI 3200 cs, ra_I (g 31) cI 120 nw, ra_N (g 46) cI 9 pt, ra_J (g 86) cJ 1700 zlb, ra_I (g 20) cI 4 (l4 (nI l0) (nI l1) (nI dm) (nI l3)), ra_I (g 38) cI 90 zsb, ra_I (g 36) cZ 900 zw, ra_I (g 37) cZ 900 zo] → va_S A s.heap H locs → lv_has ls 5 [(3, .int (nI jj)), (2, .int (nI i)), (0, .ref mm), (1, .int (nI li))] → W p l e { frames := 4, cells := 0, slots := 0, locals := 98 } s m ([.ref mm, .int (nI li)] : List Value).toArray below meth c H locs 0 0 (MQ below (skV D (skT cI cJ cC cZ cS) (fun (u : va_W) => ∃ (tk2 : Int32), ∃ (qp2 : Nat), ∃ (am2 : Int32), ∃ (at_2 : Int32), ∃ (aa2 : Int32), ∃ (ql2 : Nat → Int64), ∃ (ws_2 : Nat → Int32), ∃ (yw2 : Nat → Int32), ∃ (yo2 : Nat → Int32), mlD L wk Ba We li dm ws_2 yw2 yo2 ∧ u = [ro_ mm 12 (mo g (nI ta) (nI pa) (nI pe) pd (nI pb) pp pf pg pn rt rn (nI cd) sn (nI il) tk2 am2 at_2 aa2 mt_ 0 (-1) wt wy (nI it_) (nI rm) (nI ud) (nI nu) sd (nI qn) (nI qw) qo (nI qb) (nI qp2) qa (nI qi) (nI oc)), ra_I (g 24) cI 6 (l6 u0 u1 u2 u3 u4 u5), ra_I (g 25) cI 6 (l6 v0 v1 v2 v3 v4 v5), ra_N (g 26) cI 3200 cs, ra_I (g 31) cI 120 nw, ra_N (g 46) cI 9 pt, ra_J (g 86) cJ 1700 ql2, ra_I (g 20) cI 4 (l4 (nI l0) (nI l1) (nI dm) (nI l3)), ra_I (g 38) cI 90 ws_2, ra_I (g 36) cZ 900 yw2, ra_I (g 37) cZ 900 yo2]) A) ([.ref mm, .int (nI li)] : List Value).toArray s 0 0 A) (F0 m 12 ls []) := by
          intro n_8
          induction n_8 with
          | zero => intro jj zamb zat_b zaab ztkb zqpb zlb zsb H locs ls hm; exact absurd hm (Nat.not_lt_zero _)
          | succ n_8 ih_lp_7 =>
            intro jj zamb zat_b zaab ztkb zqpb zlb zsb H locs ls hm hjj hmb hms hP hD hS hl
            refine lv_iload_n hx hb dX12_laysDays_12 rfl (lv_at hl 0 rfl) ?_
            refine lv_bipush (v := 10) hx hb dX12_laysDays_13 (by decide) ?_
            refine lv_icmp_ge (tgt := 46) hx hb dX12_laysDays_15 (by decide) (fun c_9 => ?_) (fun c_9 => ?_)
            · have c_9 : 10 ≤ jj := (nle 10 jj (Nat.le_of_ble_eq_true rfl) (by omega)).mp c_9
              refine lv_iconst (v := 0) hx hb dX12_laysDays_46 ic_0 ?_
              refine lv_istore_n (lv' := [(3, .int 0), (2, .int (nI i)), (0, .ref mm), (1, .int (nI li))]) hx hb dX12_laysDays_47 rfl hl (by decide) rfl (fun ls hl => ?_)
              have lp_10 : ∀ (n_11 : Nat) (ja : Nat) (zamc : Int32) (zat_c : Int32) (zaac : Int32) (ztkc : Int32) (zqpc : Nat) (zlc : Nat → Int64) (zwc : Nat → Int32) (zoc : Nat → Int32) (H : Heap) (locs : List Loc) (ls : Array Slot), 10 - ja < n_11 → (ja ≤ 10) → (mlS L wk Ba We li i zsb 10) → (mlD L wk Ba We li i zsb zwc zoc) → (mlA L wk Ba We li i ja 0 zwc zoc) → va_P D vwCl [ro_ mm 12 (mo g (nI ta) (nI pa) (nI pe) pd (nI pb) pp pf pg pn rt rn (nI cd) sn (nI il) ztkc zamc zat_c zaac mt_ 0 (-1) wt wy (nI it_) (nI rm) (nI ud) (nI nu) sd (nI qn) (nI qw) qo (nI qb) (nI zqpc) qa (nI qi) (nI oc)), ra_I (g 24) cI 6 (l6 u0 u1 u2 u3 u4 u5), ra_I (g 25) cI 6 (l6 v0 v1 v2 v3 v4 v5), ra_N (g 26) cI 3200 cs, ra_I (g 31) cI 120 nw, ra_N (g 46) cI 9 pt, ra_J (g 86) cJ 1700 zlc, ra_I (g 20) cI 4 (l4 (nI l0) (nI l1) (nI dm) (nI l3)), ra_I (g 38) cI 90 zsb, ra_I (g 36) cZ 900 zwc, ra_I (g 37) cZ 900 zoc] H → va_D A [ro_ mm 12 (mo g (nI ta) (nI pa) (nI pe) pd (nI pb) pp pf pg pn rt rn (nI cd) sn (nI il) ztkc zamc zat_c zaac mt_ 0 (-1) wt wy (nI it_) (nI rm) (nI ud) (nI nu) sd (nI qn) (nI qw) qo (nI qb) (nI zqpc) qa (nI qi) (nI oc)), ra_I (g 24) cI 6 (l6 u0 u1 u2 u3 u4 u5), ra_I (g 25) cI 6 (l6 v0 v1 v2 v3 v4 v5), ra_N (g 26) cI 3200 cs, ra_I (g 31) cI 120 nw, ra_N (g 46) cI 9 pt, ra_J (g 86) cJ 1700 zlc, ra_I (g 20) cI 4 (l4 (nI l0) (nI l1) (nI dm) (nI l3)), ra_I (g 38) cI 90 zsb, ra_I (g 36) cZ 900 zwc, ra_I (g 37) cZ 900 zoc] → va_S A s.heap H locs → lv_has ls 5 [(3, .int (nI ja)), (2, .int (nI i)), (0, .ref mm), (1, .int (nI li))] → W p l e { frames := 4, cells := 0, slots := 0, locals := 98 } s m ([.ref mm, .int (nI li)] : List Value).toArray below meth c H locs 0 0 (MQ below (skV D (skT cI cJ cC cZ cS) (fun (u : va_W) => ∃ (tk2 : Int32), ∃ (qp2 : Nat), ∃ (am2 : Int32), ∃ (at_2 : Int32), ∃ (aa2 : Int32), ∃ (ql2 : Nat → Int64), ∃ (ws_2 : Nat → Int32), ∃ (yw2 : Nat → Int32), ∃ (yo2 : Nat → Int32), mlD L wk Ba We li dm ws_2 yw2 yo2 ∧ u = [ro_ mm 12 (mo g (nI ta) (nI pa) (nI pe) pd (nI pb) pp pf pg pn rt rn (nI cd) sn (nI il) tk2 am2 at_2 aa2 mt_ 0 (-1) wt wy (nI it_) (nI rm) (nI ud) (nI nu) sd (nI qn) (nI qw) qo (nI qb) (nI qp2) qa (nI qi) (nI oc)), ra_I (g 24) cI 6 (l6 u0 u1 u2 u3 u4 u5), ra_I (g 25) cI 6 (l6 v0 v1 v2 v3 v4 v5), ra_N (g 26) cI 3200 cs, ra_I (g 31) cI 120 nw, ra_N (g 46) cI 9 pt, ra_J (g 86) cJ 1700 ql2, ra_I (g 20) cI 4 (l4 (nI l0) (nI l1) (nI dm) (nI l3)), ra_I (g 38) cI 90 ws_2, ra_I (g 36) cZ 900 yw2, ra_I (g 37) cZ 900 yo2]) A) ([.ref mm, .int (nI li)] : List Value).toArray s 0 0 A) (F0 m 48 ls []) := by
                intro n_11
                induction n_11 with
                | zero => intro ja zamc zat_c zaac ztkc zqpc zlc zwc zoc H locs ls hm; exact absurd hm (Nat.not_lt_zero _)
                | succ n_11 ih_lp_10 =>
                  intro ja zamc zat_c zaac ztkc zqpc zlc zwc zoc H locs ls hm hja hms10 hmc hma hP hD hS hl
                  refine lv_iload_n hx hb dX12_laysDays_48 rfl (lv_at hl 0 rfl) ?_
                  refine lv_bipush (v := 10) hx hb dX12_laysDays_49 (by decide) ?_
                  refine lv_icmp_ge (tgt := 157) hx hb dX12_laysDays_51 (by decide) (fun c_12 => ?_) (fun c_12 => ?_)
                  · have c_12 : 10 ≤ ja := (nle 10 ja (Nat.le_of_ble_eq_true rfl) (by omega)).mp c_12
                    refine lv_iinc (v := nI (i + 1)) (lv' := [(2, .int (nI (i + 1))), (3, .int (nI ja)), (0, .ref mm), (1, .int (nI li))]) hx hb dX12_laysDays_157 hl (k := 1) rfl (ninc i 1 (by decide)) (by decide) rfl (fun ls hl => ?_)
                    refine lv_goto (tgt := 2) hx hb dX12_laysDays_160 (by decide) ?_
                    exact ih_lp_1 (i + 1) zamc zat_c zaac ztkc zqpc zlc zsb zwc zoc _ _ _ (by omega) (by omega) (mlD_s hmc hms10 hma (by omega)) hP hD hS (lv_sub hl [0, 2, 3] rfl)
                  · have c_12 : ¬ (10 ≤ ja) := fun h => c_12 ((nle 10 ja (Nat.le_of_ble_eq_true rfl) (by omega)).mpr h)
                    refine lv_iconst (v := 0) hx hb dX12_laysDays_54 ic_0 ?_
                    refine lv_istore (lv' := [(4, .int 0), (3, .int (nI ja)), (2, .int (nI i)), (0, .ref mm), (1, .int (nI li))]) hx hb dX12_laysDays_55 hl (by decide) rfl (fun ls hl => ?_)
                    have lp_13 : ∀ (n_14 : Nat) (jm : Nat) (zamd : Int32) (zat_d : Int32) (zaad : Int32) (ztkd : Int32) (zqpd : Nat) (zld : Nat → Int64) (zwd : Nat → Int32) (zod : Nat → Int32) (H : Heap) (locs : List Loc) (ls : Array Slot), 10 - jm < n_14 → (jm ≤ 10) → (mlD L wk Ba We li i zsb zwd zod) → (mlA L wk Ba We li i ja jm zwd zod) → va_P D vwCl [ro_ mm 12 (mo g (nI ta) (nI pa) (nI pe) pd (nI pb) pp pf pg pn rt rn (nI cd) sn (nI il) ztkd zamd zat_d zaad mt_ 0 (-1) wt wy (nI it_) (nI rm) (nI ud) (nI nu) sd (nI qn) (nI qw) qo (nI qb) (nI zqpd) qa (nI qi) (nI oc)), ra_I (g 24) cI 6 (l6 u0 u1 u2 u3 u4 u5), ra_I (g 25) cI 6 (l6 v0 v1 v2 v3 v4 v5), ra_N (g 26) cI 3200 cs, ra_I (g 31) cI 120 nw, ra_N (g 46) cI 9 pt, ra_J (g 86) cJ 1700 zld, ra_I (g 20) cI 4 (l4 (nI l0) (nI l1) (nI dm) (nI l3)), ra_I (g 38) cI 90 zsb, ra_I (g 36) cZ 900 zwd, ra_I (g 37) cZ 900 zod] H → va_D A [ro_ mm 12 (mo g (nI ta) (nI pa) (nI pe) pd (nI pb) pp pf pg pn rt rn (nI cd) sn (nI il) ztkd zamd zat_d zaad mt_ 0 (-1) wt wy (nI it_) (nI rm) (nI ud) (nI nu) sd (nI qn) (nI qw) qo (nI qb) (nI zqpd) qa (nI qi) (nI oc)), ra_I (g 24) cI 6 (l6 u0 u1 u2 u3 u4 u5), ra_I (g 25) cI 6 (l6 v0 v1 v2 v3 v4 v5), ra_N (g 26) cI 3200 cs, ra_I (g 31) cI 120 nw, ra_N (g 46) cI 9 pt, ra_J (g 86) cJ 1700 zld, ra_I (g 20) cI 4 (l4 (nI l0) (nI l1) (nI dm) (nI l3)), ra_I (g 38) cI 90 zsb, ra_I (g 36) cZ 900 zwd, ra_I (g 37) cZ 900 zod] → va_S A s.heap H locs → lv_has ls 5 [(4, .int (nI jm)), (3, .int (nI ja)), (2, .int (nI i)), (0, .ref mm), (1, .int (nI li))] → W p l e { frames := 4, cells := 0, slots := 0, locals := 98 } s m ([.ref mm, .int (nI li)] : List Value).toArray below meth c H locs 0 0 (MQ below (skV D (skT cI cJ cC cZ cS) (fun (u : va_W) => ∃ (tk2 : Int32), ∃ (qp2 : Nat), ∃ (am2 : Int32), ∃ (at_2 : Int32), ∃ (aa2 : Int32), ∃ (ql2 : Nat → Int64), ∃ (ws_2 : Nat → Int32), ∃ (yw2 : Nat → Int32), ∃ (yo2 : Nat → Int32), mlD L wk Ba We li dm ws_2 yw2 yo2 ∧ u = [ro_ mm 12 (mo g (nI ta) (nI pa) (nI pe) pd (nI pb) pp pf pg pn rt rn (nI cd) sn (nI il) tk2 am2 at_2 aa2 mt_ 0 (-1) wt wy (nI it_) (nI rm) (nI ud) (nI nu) sd (nI qn) (nI qw) qo (nI qb) (nI qp2) qa (nI qi) (nI oc)), ra_I (g 24) cI 6 (l6 u0 u1 u2 u3 u4 u5), ra_I (g 25) cI 6 (l6 v0 v1 v2 v3 v4 v5), ra_N (g 26) cI 3200 cs, ra_I (g 31) cI 120 nw, ra_N (g 46) cI 9 pt, ra_J (g 86) cJ 1700 ql2, ra_I (g 20) cI 4 (l4 (nI l0) (nI l1) (nI dm) (nI l3)), ra_I (g 38) cI 90 ws_2, ra_I (g 36) cZ 900 yw2, ra_I (g 37) cZ 900 yo2]) A) ([.ref mm, .int (nI li)] : List Value).toArray s 0 0 A) (F0 m 57 ls []) := by
                      intro n_14
                      induction n_14 with
                      | zero => intro jm zamd zat_d zaad ztkd zqpd zld zwd zod H locs ls hm; exact absurd hm (Nat.not_lt_zero _)
                      | succ n_14 ih_lp_13 =>
                        intro jm zamd zat_d zaad ztkd zqpd zld zwd zod H locs ls hm hjm hmd_ hmaj hP hD hS hl
                        refine lv_iload hx hb dX12_laysDays_57 (lv_at hl 0 rfl) ?_
                        refine lv_bipush (v := 10) hx hb dX12_laysDays_59 (by decide) ?_
                        refine lv_icmp_ge (tgt := 151) hx hb dX12_laysDays_61 (by decide) (fun c_15 => ?_) (fun c_15 => ?_)
                        · have c_15 : 10 ≤ jm := (nle 10 jm (Nat.le_of_ble_eq_true rfl) (by omega)).mp c_15
                          refine lv_iinc (v := nI (ja + 1)) (lv' := [(3, .int (nI (ja + 1))), (4, .int (nI jm)), (2, .int (nI i)), (0, .ref mm), (1, .int (nI li))]) hx hb dX12_laysDays_151 hl (k := 1) rfl (ninc ja 1 (by decide)) (by decide) rfl (fun ls hl => ?_)
                          refine lv_goto (tgt := 48) hx hb dX12_laysDays_154 (by decide) ?_
                          exact ih_lp_10 (ja + 1) zamd zat_d zaad ztkd zqpd zld zwd zod _ _ _ (by omega) (by omega) hms10 hmd_ (mlA_n hmaj (by omega)) hP hD hS (lv_sub hl [0, 2, 3, 4] rfl)
                        · have c_15 : ¬ (10 ≤ jm) := fun h => c_15 ((nle 10 jm (Nat.le_of_ble_eq_true rfl) (by omega)).mpr h)
                          refine lv_aload_n hx hb dX12_laysDays_64 rfl (lv_at hl 3 rfl) ?_
                          refine sk_get (v := .ref (g 36)) (C := RX12) (T := TX12) (N := 92) hx hb hts inlX12 hown hK hP 0 rfl rfl 36 (Nat.le_of_ble_eq_true rfl) w_5_191 rfl dX12_laysDays_65 ?_
                          refine lv_bipush (v := 100) hx hb dX12_laysDays_68 (by decide) ?_
                          refine lv_iload_n hx hb dX12_laysDays_70 rfl (lv_at hl 2 rfl) ?_
                          refine lv_imul hx hb dX12_laysDays_71 ?_
                          refine sk_top (nI (100 * i)) (nmul 100 i) ?_
                          refine lv_bipush (v := 10) hx hb dX12_laysDays_72 (by decide) ?_
                          refine lv_iload_n hx hb dX12_laysDays_74 rfl (lv_at hl 1 rfl) ?_
                          refine lv_imul hx hb dX12_laysDays_75 ?_
                          refine sk_top (nI (10 * ja)) (nmul 10 ja) ?_
                          refine lv_iadd hx hb dX12_laysDays_76 ?_
                          refine sk_top (nI (100 * i + (10 * ja))) (nI_add (100 * i) (10 * ja)) ?_
                          refine lv_iload hx hb dX12_laysDays_77 (lv_at hl 0 rfl) ?_
                          refine lv_iadd hx hb dX12_laysDays_79 ?_
                          refine sk_top (nI (100 * i + (10 * ja) + jm)) (nI_add (100 * i + (10 * ja)) jm) ?_
                          refine lv_aload_n hx hb dX12_laysDays_80 rfl (lv_at hl 3 rfl) ?_
                          refine lv_iload_n hx hb dX12_laysDays_81 rfl (lv_at hl 2 rfl) ?_
                          refine lv_iload_n hx hb dX12_laysDays_82 rfl (lv_at hl 1 rfl) ?_
                          refine lv_aload_n hx hb dX12_laysDays_83 rfl (lv_at hl 3 rfl) ?_
                          refine sk_get (v := .ref (g 38)) (C := RX12) (T := TX12) (N := 92) hx hb hts inlX12 hown hK hP 0 rfl rfl 38 (Nat.le_of_ble_eq_true rfl) w_5_193 rfl dX12_laysDays_84 ?_
                          refine lv_bipush (v := 10) hx hb dX12_laysDays_87 (by decide) ?_
                          refine lv_iload_n hx hb dX12_laysDays_89 rfl (lv_at hl 2 rfl) ?_
                          refine lv_imul hx hb dX12_laysDays_90 ?_
                          refine sk_top (nI (10 * i)) (nmul 10 i) ?_
                          refine lv_iload hx hb dX12_laysDays_91 (lv_at hl 0 rfl) ?_
                          refine lv_iadd hx hb dX12_laysDays_93 ?_
                          refine sk_top (nI (10 * i + jm)) (nI_add (10 * i) jm) ?_
                          refine va_iald hx hb hK.1 hP 8 0 rfl rfl (vin (10 * i + jm) 90 (by omega) (Nat.le_of_ble_eq_true rfl)) dX12_laysDays_94 ?_
                          refine sk_top (nI ((kcSaid L wk (Ba i) (We i) i jm + li) % 10)) (by rw [nI_clamp (by omega)]; exact hms10 jm (by omega)) ?_
                          refine lv_iconst (v := 0) hx hb dX12_laysDays_95 ic_0 ?_
                          refine sk_Vi (q0 := 0) (n := 4) (rest := [.int (nI (100 * i + (10 * ja) + jm)), .ref (g 36)]) (wr := fmR om_11_7f0 _) ⟨hx, hb, hml, hown, hts⟩ hl.1 (c_nm_becomesBy0 l D cI cJ cC cZ cS mm g ta pa pe pd pb pp pf pg pn rt rn cd sn il ztkd zamd zat_d zaad mt_ wt wy it_ rm ud nu sd qn qw qo qb zqpd qa qi oc i ja ((kcSaid L wk (Ba i) (We i) i jm + li) % 10) u0 u1 u2 u3 u4 u5 v0 v1 v2 v3 v4 v5 cs nw pt zld L wk (Ba i) (We i) (by omega) (by omega) (by omega) hLk hkl (hmds i (by omega)) hwk (hB9 i) (hW9 i) hmw1 hcs hnw hpt) w_7_176 w_7_178 w_0_81 w_1_14 w_7_179 hd_X12_becomesBy_4 ⟨⟨(Nat.le_of_ble_eq_true rfl), (Nat.le_of_ble_eq_true rfl)⟩, (Nat.le_of_ble_eq_true rfl), (Nat.le_of_ble_eq_true rfl)⟩ hK hP hD hS hA (fmT om_11_7f0 0) (fmF om_11_7f0 0) (fm_C1 rfl rfl) (fm_R rfl rfl) (fm_nT om_11_7f0 0) (fm_nF om_11_7f0 0) (fm_di om_11_7f0 0) rfl rfl rfl rfl (Nat.le_of_ble_eq_true rfl) dX12_laysDays_96 (fun r_23 u H locs hw hP hD hS => ?_)
                          refine exE hw (fun v_16 hw1 => exE hw1 (fun tk2_17 hw2 => exE hw2 (fun qp2_18 hw3 => exE hw3 (fun am2_19 hw4 => exE hw4 (fun at_2_20 hw5 => exE hw5 (fun aa2_21 hw6 => exE hw6 (fun ql2_22 hw7 => anE hw7 (fun hv_24 hw8 => anE hw8 (fun er_26 eu_25 => ?_)))))))))
                          clear hw hw1 hw2 hw3 hw4 hw5 hw6 hw7 hw8
                          subst er_26
                          refine o_mgE (ws' := [ro_ mm 12 (mo g (nI ta) (nI pa) (nI pe) pd (nI pb) pp pf pg pn rt rn (nI cd) sn (nI il) tk2_17 am2_19 at_2_20 aa2_21 mt_ 0 (-1) wt wy (nI it_) (nI rm) (nI ud) (nI nu) sd (nI qn) (nI qw) qo (nI qb) (nI qp2_18) qa (nI qi) (nI oc)), ra_I (g 24) cI 6 (l6 u0 u1 u2 u3 u4 u5), ra_I (g 25) cI 6 (l6 v0 v1 v2 v3 v4 v5), ra_N (g 26) cI 3200 cs, ra_I (g 31) cI 120 nw, ra_N (g 46) cI 9 pt, ra_J (g 86) cJ 1700 ql2_22, ra_I (g 20) cI 4 (l4 (nI l0) (nI l1) (nI dm) (nI l3)), ra_I (g 38) cI 90 zsb, ra_I (g 36) cZ 900 zwd, ra_I (g 37) cZ 900 zod]) eu_25 hP hD rfl (fun hP hD => ?_)
                          have hl_27 : v_16 < 10 := by rw [hv_24]; exact kcTen_lt _
                          refine lv_iload hx hb dX12_laysDays_99 (lv_at hl 0 rfl) ?_
                          refine lv_icmp_ne (tgt := 108) hx hb dX12_laysDays_101 (by decide) (fun c_28 => ?_) (fun c_28 => ?_)
                          · have c_28 : ¬ (v_16 = jm) := fun h => c_28 ((neq v_16 jm (by omega) (by omega)).mpr h)
                            refine lv_iconst (v := 0) hx hb dX12_laysDays_108 ic_0 ?_
                            refine sk_zastE (k := (100 * i + (10 * ja) + jm)) (y := 0) (ws' := fun f_29 => [ro_ mm 12 (mo g (nI ta) (nI pa) (nI pe) pd (nI pb) pp pf pg pn rt rn (nI cd) sn (nI il) tk2_17 am2_19 at_2_20 aa2_21 mt_ 0 (-1) wt wy (nI it_) (nI rm) (nI ud) (nI nu) sd (nI qn) (nI qw) qo (nI qb) (nI qp2_18) qa (nI qi) (nI oc)), ra_I (g 24) cI 6 (l6 u0 u1 u2 u3 u4 u5), ra_I (g 25) cI 6 (l6 v0 v1 v2 v3 v4 v5), ra_N (g 26) cI 3200 cs, ra_I (g 31) cI 120 nw, ra_N (g 46) cI 9 pt, ra_J (g 86) cJ 1700 ql2_22, ra_I (g 20) cI 4 (l4 (nI l0) (nI l1) (nI dm) (nI l3)), ra_I (g 38) cI 90 zsb, ra_I (g 36) cZ 900 f_29, ra_I (g 37) cZ 900 zod]) hx hb hK hP hD hS 9 3 rfl rfl (by omega) (by omega) (fun _ => rfl) rfl dX12_laysDays_109 (fun f_29 H locs ef_30 hP hD hS => ?_)
                            refine lv_aload_n hx hb dX12_laysDays_110 rfl (lv_at hl 3 rfl) ?_
                            refine sk_get (v := .ref (g 37)) (C := RX12) (T := TX12) (N := 92) hx hb hts inlX12 hown hK hP 0 rfl rfl 37 (Nat.le_of_ble_eq_true rfl) w_5_192 rfl dX12_laysDays_111 ?_
                            refine lv_bipush (v := 100) hx hb dX12_laysDays_114 (by decide) ?_
                            refine lv_iload_n hx hb dX12_laysDays_116 rfl (lv_at hl 2 rfl) ?_
                            refine lv_imul hx hb dX12_laysDays_117 ?_
                            refine sk_top (nI (100 * i)) (nmul 100 i) ?_
                            refine lv_bipush (v := 10) hx hb dX12_laysDays_118 (by decide) ?_
                            refine lv_iload_n hx hb dX12_laysDays_120 rfl (lv_at hl 1 rfl) ?_
                            refine lv_imul hx hb dX12_laysDays_121 ?_
                            refine sk_top (nI (10 * ja)) (nmul 10 ja) ?_
                            refine lv_iadd hx hb dX12_laysDays_122 ?_
                            refine sk_top (nI (100 * i + (10 * ja))) (nI_add (100 * i) (10 * ja)) ?_
                            refine lv_iload hx hb dX12_laysDays_123 (lv_at hl 0 rfl) ?_
                            refine lv_iadd hx hb dX12_laysDays_125 ?_
                            refine sk_top (nI (100 * i + (10 * ja) + jm)) (nI_add (100 * i + (10 * ja)) jm) ?_
                            refine lv_aload_n hx hb dX12_laysDays_126 rfl (lv_at hl 3 rfl) ?_
                            refine lv_iload_n hx hb dX12_laysDays_127 rfl (lv_at hl 2 rfl) ?_
                            refine lv_iload_n hx hb dX12_laysDays_128 rfl (lv_at hl 1 rfl) ?_
                            refine lv_iconst (v := 0) hx hb dX12_laysDays_129 ic_0 ?_
                            refine lv_iconst (v := 1) hx hb dX12_laysDays_130 ic_1 ?_
                            refine sk_Vi (q0 := 0) (n := 4) (rest := [.int (nI (100 * i + (10 * ja) + jm)), .ref (g 37)]) (wr := fmR om_11_7f0 _) ⟨hx, hb, hml, hown, hts⟩ hl.1 (c_nm_becomesBy1 l D cI cJ cC cZ cS mm g ta pa pe pd pb pp pf pg pn rt rn cd sn il tk2_17 am2_19 at_2_20 aa2_21 mt_ wt wy it_ rm ud nu sd qn qw qo qb qp2_18 qa qi oc i ja 0 u0 u1 u2 u3 u4 u5 v0 v1 v2 v3 v4 v5 cs nw pt ql2_22 L wk (Ba i) (We i) (by omega) (by omega) (by omega) hLk hkl (hmds i (by omega)) hwk (hB9 i) (hW9 i) hmw1 hcs hnw hpt) w_7_176 w_7_178 w_0_81 w_1_14 w_7_179 hd_X12_becomesBy_4 ⟨⟨(Nat.le_of_ble_eq_true rfl), (Nat.le_of_ble_eq_true rfl)⟩, (Nat.le_of_ble_eq_true rfl), (Nat.le_of_ble_eq_true rfl)⟩ hK hP hD hS hA (fmT om_11_7f0 0) (fmF om_11_7f0 0) (fm_C1 rfl rfl) (fm_R rfl rfl) (fm_nT om_11_7f0 0) (fm_nF om_11_7f0 0) (fm_di om_11_7f0 0) rfl rfl rfl rfl (Nat.le_of_ble_eq_true rfl) dX12_laysDays_131 (fun r_38 u H locs hw hP hD hS => ?_)
                            refine exE hw (fun v_31 hw1 => exE hw1 (fun tk2_32 hw2 => exE hw2 (fun qp2_33 hw3 => exE hw3 (fun am2_34 hw4 => exE hw4 (fun at_2_35 hw5 => exE hw5 (fun aa2_36 hw6 => exE hw6 (fun ql2_37 hw7 => anE hw7 (fun hv_39 hw8 => anE hw8 (fun er_41 eu_40 => ?_)))))))))
                            clear hw hw1 hw2 hw3 hw4 hw5 hw6 hw7 hw8
                            subst er_41
                            refine o_mgE (ws' := [ro_ mm 12 (mo g (nI ta) (nI pa) (nI pe) pd (nI pb) pp pf pg pn rt rn (nI cd) sn (nI il) tk2_32 am2_34 at_2_35 aa2_36 mt_ 0 (-1) wt wy (nI it_) (nI rm) (nI ud) (nI nu) sd (nI qn) (nI qw) qo (nI qb) (nI qp2_33) qa (nI qi) (nI oc)), ra_I (g 24) cI 6 (l6 u0 u1 u2 u3 u4 u5), ra_I (g 25) cI 6 (l6 v0 v1 v2 v3 v4 v5), ra_N (g 26) cI 3200 cs, ra_I (g 31) cI 120 nw, ra_N (g 46) cI 9 pt, ra_J (g 86) cJ 1700 ql2_37, ra_I (g 20) cI 4 (l4 (nI l0) (nI l1) (nI dm) (nI l3)), ra_I (g 38) cI 90 zsb, ra_I (g 36) cZ 900 f_29, ra_I (g 37) cZ 900 zod]) eu_40 hP hD rfl (fun hP hD => ?_)
                            have hl_42 : v_31 < 10 := by rw [hv_39]; exact kcTen_lt _
                            refine lv_iload hx hb dX12_laysDays_134 (lv_at hl 0 rfl) ?_
                            refine lv_icmp_ne (tgt := 143) hx hb dX12_laysDays_136 (by decide) (fun c_43 => ?_) (fun c_43 => ?_)
                            · have c_43 : ¬ (v_31 = jm) := fun h => c_43 ((neq v_31 jm (by omega) (by omega)).mpr h)
                              refine lv_iconst (v := 0) hx hb dX12_laysDays_143 ic_0 ?_
                              refine sk_zastE (k := (100 * i + (10 * ja) + jm)) (y := 0) (ws' := fun f_44 => [ro_ mm 12 (mo g (nI ta) (nI pa) (nI pe) pd (nI pb) pp pf pg pn rt rn (nI cd) sn (nI il) tk2_32 am2_34 at_2_35 aa2_36 mt_ 0 (-1) wt wy (nI it_) (nI rm) (nI ud) (nI nu) sd (nI qn) (nI qw) qo (nI qb) (nI qp2_33) qa (nI qi) (nI oc)), ra_I (g 24) cI 6 (l6 u0 u1 u2 u3 u4 u5), ra_I (g 25) cI 6 (l6 v0 v1 v2 v3 v4 v5), ra_N (g 26) cI 3200 cs, ra_I (g 31) cI 120 nw, ra_N (g 46) cI 9 pt, ra_J (g 86) cJ 1700 ql2_37, ra_I (g 20) cI 4 (l4 (nI l0) (nI l1) (nI dm) (nI l3)), ra_I (g 38) cI 90 zsb, ra_I (g 36) cZ 900 f_29, ra_I (g 37) cZ 900 f_44]) hx hb hK hP hD hS 10 3 rfl rfl (by omega) (by omega) (fun _ => rfl) rfl dX12_laysDays_144 (fun f_44 H locs ef_45 hP hD hS => ?_)
                              refine lv_iinc (v := nI (jm + 1)) (lv' := [(4, .int (nI (jm + 1))), (3, .int (nI ja)), (2, .int (nI i)), (0, .ref mm), (1, .int (nI li))]) hx hb dX12_laysDays_145 hl (k := 0) rfl (ninc jm 1 (by decide)) (by decide) rfl (fun ls hl => ?_)
                              refine lv_goto (tgt := 57) hx hb dX12_laysDays_148 (by decide) ?_
                              exact ih_lp_13 (jm + 1) am2_34 at_2_35 aa2_36 tk2_32 qp2_33 ql2_37 f_29 f_44 _ _ _ (by omega) (by omega) (mlD_a hmd_ ef_30 ef_45 (by omega)) (mlA_s hmaj ef_30 ef_45 (by omega) (by omega) (kone_f (by rw [← hv_24]; exact c_28)) (kone_f (by rw [← hv_39]; exact c_43))) hP hD hS (lv_sub hl [0, 1, 2, 3, 4] rfl)
                            · have c_43 : v_31 = jm := (neq v_31 jm (by omega) (by omega)).mp c_43
                              refine lv_iconst (v := 1) hx hb dX12_laysDays_139 ic_1 ?_
                              refine lv_goto (tgt := 144) hx hb dX12_laysDays_140 (by decide) ?_
                              refine sk_zastE (k := (100 * i + (10 * ja) + jm)) (y := 1) (ws' := fun f_46 => [ro_ mm 12 (mo g (nI ta) (nI pa) (nI pe) pd (nI pb) pp pf pg pn rt rn (nI cd) sn (nI il) tk2_32 am2_34 at_2_35 aa2_36 mt_ 0 (-1) wt wy (nI it_) (nI rm) (nI ud) (nI nu) sd (nI qn) (nI qw) qo (nI qb) (nI qp2_33) qa (nI qi) (nI oc)), ra_I (g 24) cI 6 (l6 u0 u1 u2 u3 u4 u5), ra_I (g 25) cI 6 (l6 v0 v1 v2 v3 v4 v5), ra_N (g 26) cI 3200 cs, ra_I (g 31) cI 120 nw, ra_N (g 46) cI 9 pt, ra_J (g 86) cJ 1700 ql2_37, ra_I (g 20) cI 4 (l4 (nI l0) (nI l1) (nI dm) (nI l3)), ra_I (g 38) cI 90 zsb, ra_I (g 36) cZ 900 f_29, ra_I (g 37) cZ 900 f_46]) hx hb hK hP hD hS 10 3 rfl rfl (by omega) (by omega) (fun _ => rfl) rfl dX12_laysDays_144 (fun f_46 H locs ef_47 hP hD hS => ?_)
                              refine lv_iinc (v := nI (jm + 1)) (lv' := [(4, .int (nI (jm + 1))), (3, .int (nI ja)), (2, .int (nI i)), (0, .ref mm), (1, .int (nI li))]) hx hb dX12_laysDays_145 hl (k := 0) rfl (ninc jm 1 (by decide)) (by decide) rfl (fun ls hl => ?_)
                              refine lv_goto (tgt := 57) hx hb dX12_laysDays_148 (by decide) ?_
                              exact ih_lp_13 (jm + 1) am2_34 at_2_35 aa2_36 tk2_32 qp2_33 ql2_37 f_29 f_46 _ _ _ (by omega) (by omega) (mlD_a hmd_ ef_30 ef_47 (by omega)) (mlA_s hmaj ef_30 ef_47 (by omega) (by omega) (kone_f (by rw [← hv_24]; exact c_28)) (kone_t (by rw [← hv_39]; exact c_43))) hP hD hS (lv_sub hl [0, 1, 2, 3, 4] rfl)
                          · have c_28 : v_16 = jm := (neq v_16 jm (by omega) (by omega)).mp c_28
                            refine lv_iconst (v := 1) hx hb dX12_laysDays_104 ic_1 ?_
                            refine lv_goto (tgt := 109) hx hb dX12_laysDays_105 (by decide) ?_
                            refine sk_zastE (k := (100 * i + (10 * ja) + jm)) (y := 1) (ws' := fun f_48 => [ro_ mm 12 (mo g (nI ta) (nI pa) (nI pe) pd (nI pb) pp pf pg pn rt rn (nI cd) sn (nI il) tk2_17 am2_19 at_2_20 aa2_21 mt_ 0 (-1) wt wy (nI it_) (nI rm) (nI ud) (nI nu) sd (nI qn) (nI qw) qo (nI qb) (nI qp2_18) qa (nI qi) (nI oc)), ra_I (g 24) cI 6 (l6 u0 u1 u2 u3 u4 u5), ra_I (g 25) cI 6 (l6 v0 v1 v2 v3 v4 v5), ra_N (g 26) cI 3200 cs, ra_I (g 31) cI 120 nw, ra_N (g 46) cI 9 pt, ra_J (g 86) cJ 1700 ql2_22, ra_I (g 20) cI 4 (l4 (nI l0) (nI l1) (nI dm) (nI l3)), ra_I (g 38) cI 90 zsb, ra_I (g 36) cZ 900 f_48, ra_I (g 37) cZ 900 zod]) hx hb hK hP hD hS 9 3 rfl rfl (by omega) (by omega) (fun _ => rfl) rfl dX12_laysDays_109 (fun f_48 H locs ef_49 hP hD hS => ?_)
                            refine lv_aload_n hx hb dX12_laysDays_110 rfl (lv_at hl 3 rfl) ?_
                            refine sk_get (v := .ref (g 37)) (C := RX12) (T := TX12) (N := 92) hx hb hts inlX12 hown hK hP 0 rfl rfl 37 (Nat.le_of_ble_eq_true rfl) w_5_192 rfl dX12_laysDays_111 ?_
                            refine lv_bipush (v := 100) hx hb dX12_laysDays_114 (by decide) ?_
                            refine lv_iload_n hx hb dX12_laysDays_116 rfl (lv_at hl 2 rfl) ?_
                            refine lv_imul hx hb dX12_laysDays_117 ?_
                            refine sk_top (nI (100 * i)) (nmul 100 i) ?_
                            refine lv_bipush (v := 10) hx hb dX12_laysDays_118 (by decide) ?_
                            refine lv_iload_n hx hb dX12_laysDays_120 rfl (lv_at hl 1 rfl) ?_
                            refine lv_imul hx hb dX12_laysDays_121 ?_
                            refine sk_top (nI (10 * ja)) (nmul 10 ja) ?_
                            refine lv_iadd hx hb dX12_laysDays_122 ?_
                            refine sk_top (nI (100 * i + (10 * ja))) (nI_add (100 * i) (10 * ja)) ?_
                            refine lv_iload hx hb dX12_laysDays_123 (lv_at hl 0 rfl) ?_
                            refine lv_iadd hx hb dX12_laysDays_125 ?_
                            refine sk_top (nI (100 * i + (10 * ja) + jm)) (nI_add (100 * i + (10 * ja)) jm) ?_
                            refine lv_aload_n hx hb dX12_laysDays_126 rfl (lv_at hl 3 rfl) ?_
                            refine lv_iload_n hx hb dX12_laysDays_127 rfl (lv_at hl 2 rfl) ?_
                            refine lv_iload_n hx hb dX12_laysDays_128 rfl (lv_at hl 1 rfl) ?_
                            refine lv_iconst (v := 0) hx hb dX12_laysDays_129 ic_0 ?_
                            refine lv_iconst (v := 1) hx hb dX12_laysDays_130 ic_1 ?_
                            refine sk_Vi (q0 := 0) (n := 4) (rest := [.int (nI (100 * i + (10 * ja) + jm)), .ref (g 37)]) (wr := fmR om_11_7f0 _) ⟨hx, hb, hml, hown, hts⟩ hl.1 (c_nm_becomesBy1 l D cI cJ cC cZ cS mm g ta pa pe pd pb pp pf pg pn rt rn cd sn il tk2_17 am2_19 at_2_20 aa2_21 mt_ wt wy it_ rm ud nu sd qn qw qo qb qp2_18 qa qi oc i ja 0 u0 u1 u2 u3 u4 u5 v0 v1 v2 v3 v4 v5 cs nw pt ql2_22 L wk (Ba i) (We i) (by omega) (by omega) (by omega) hLk hkl (hmds i (by omega)) hwk (hB9 i) (hW9 i) hmw1 hcs hnw hpt) w_7_176 w_7_178 w_0_81 w_1_14 w_7_179 hd_X12_becomesBy_4 ⟨⟨(Nat.le_of_ble_eq_true rfl), (Nat.le_of_ble_eq_true rfl)⟩, (Nat.le_of_ble_eq_true rfl), (Nat.le_of_ble_eq_true rfl)⟩ hK hP hD hS hA (fmT om_11_7f0 0) (fmF om_11_7f0 0) (fm_C1 rfl rfl) (fm_R rfl rfl) (fm_nT om_11_7f0 0) (fm_nF om_11_7f0 0) (fm_di om_11_7f0 0) rfl rfl rfl rfl (Nat.le_of_ble_eq_true rfl) dX12_laysDays_131 (fun r_57 u H locs hw hP hD hS => ?_)
                            refine exE hw (fun v_50 hw1 => exE hw1 (fun tk2_51 hw2 => exE hw2 (fun qp2_52 hw3 => exE hw3 (fun am2_53 hw4 => exE hw4 (fun at_2_54 hw5 => exE hw5 (fun aa2_55 hw6 => exE hw6 (fun ql2_56 hw7 => anE hw7 (fun hv_58 hw8 => anE hw8 (fun er_60 eu_59 => ?_)))))))))
                            clear hw hw1 hw2 hw3 hw4 hw5 hw6 hw7 hw8
                            subst er_60
                            refine o_mgE (ws' := [ro_ mm 12 (mo g (nI ta) (nI pa) (nI pe) pd (nI pb) pp pf pg pn rt rn (nI cd) sn (nI il) tk2_51 am2_53 at_2_54 aa2_55 mt_ 0 (-1) wt wy (nI it_) (nI rm) (nI ud) (nI nu) sd (nI qn) (nI qw) qo (nI qb) (nI qp2_52) qa (nI qi) (nI oc)), ra_I (g 24) cI 6 (l6 u0 u1 u2 u3 u4 u5), ra_I (g 25) cI 6 (l6 v0 v1 v2 v3 v4 v5), ra_N (g 26) cI 3200 cs, ra_I (g 31) cI 120 nw, ra_N (g 46) cI 9 pt, ra_J (g 86) cJ 1700 ql2_56, ra_I (g 20) cI 4 (l4 (nI l0) (nI l1) (nI dm) (nI l3)), ra_I (g 38) cI 90 zsb, ra_I (g 36) cZ 900 f_48, ra_I (g 37) cZ 900 zod]) eu_59 hP hD rfl (fun hP hD => ?_)
                            have hl_61 : v_50 < 10 := by rw [hv_58]; exact kcTen_lt _
                            refine lv_iload hx hb dX12_laysDays_134 (lv_at hl 0 rfl) ?_
                            refine lv_icmp_ne (tgt := 143) hx hb dX12_laysDays_136 (by decide) (fun c_62 => ?_) (fun c_62 => ?_)
                            · have c_62 : ¬ (v_50 = jm) := fun h => c_62 ((neq v_50 jm (by omega) (by omega)).mpr h)
                              refine lv_iconst (v := 0) hx hb dX12_laysDays_143 ic_0 ?_
                              refine sk_zastE (k := (100 * i + (10 * ja) + jm)) (y := 0) (ws' := fun f_63 => [ro_ mm 12 (mo g (nI ta) (nI pa) (nI pe) pd (nI pb) pp pf pg pn rt rn (nI cd) sn (nI il) tk2_51 am2_53 at_2_54 aa2_55 mt_ 0 (-1) wt wy (nI it_) (nI rm) (nI ud) (nI nu) sd (nI qn) (nI qw) qo (nI qb) (nI qp2_52) qa (nI qi) (nI oc)), ra_I (g 24) cI 6 (l6 u0 u1 u2 u3 u4 u5), ra_I (g 25) cI 6 (l6 v0 v1 v2 v3 v4 v5), ra_N (g 26) cI 3200 cs, ra_I (g 31) cI 120 nw, ra_N (g 46) cI 9 pt, ra_J (g 86) cJ 1700 ql2_56, ra_I (g 20) cI 4 (l4 (nI l0) (nI l1) (nI dm) (nI l3)), ra_I (g 38) cI 90 zsb, ra_I (g 36) cZ 900 f_48, ra_I (g 37) cZ 900 f_63]) hx hb hK hP hD hS 10 3 rfl rfl (by omega) (by omega) (fun _ => rfl) rfl dX12_laysDays_144 (fun f_63 H locs ef_64 hP hD hS => ?_)
                              refine lv_iinc (v := nI (jm + 1)) (lv' := [(4, .int (nI (jm + 1))), (3, .int (nI ja)), (2, .int (nI i)), (0, .ref mm), (1, .int (nI li))]) hx hb dX12_laysDays_145 hl (k := 0) rfl (ninc jm 1 (by decide)) (by decide) rfl (fun ls hl => ?_)
                              refine lv_goto (tgt := 57) hx hb dX12_laysDays_148 (by decide) ?_
                              exact ih_lp_13 (jm + 1) am2_53 at_2_54 aa2_55 tk2_51 qp2_52 ql2_56 f_48 f_63 _ _ _ (by omega) (by omega) (mlD_a hmd_ ef_49 ef_64 (by omega)) (mlA_s hmaj ef_49 ef_64 (by omega) (by omega) (kone_t (by rw [← hv_24]; exact c_28)) (kone_f (by rw [← hv_58]; exact c_62))) hP hD hS (lv_sub hl [0, 1, 2, 3, 4] rfl)
                            · have c_62 : v_50 = jm := (neq v_50 jm (by omega) (by omega)).mp c_62
                              refine lv_iconst (v := 1) hx hb dX12_laysDays_139 ic_1 ?_
                              refine lv_goto (tgt := 144) hx hb dX12_laysDays_140 (by decide) ?_
                              refine sk_zastE (k := (100 * i + (10 * ja) + jm)) (y := 1) (ws' := fun f_65 => [ro_ mm 12 (mo g (nI ta) (nI pa) (nI pe) pd (nI pb) pp pf pg pn rt rn (nI cd) sn (nI il) tk2_51 am2_53 at_2_54 aa2_55 mt_ 0 (-1) wt wy (nI it_) (nI rm) (nI ud) (nI nu) sd (nI qn) (nI qw) qo (nI qb) (nI qp2_52) qa (nI qi) (nI oc)), ra_I (g 24) cI 6 (l6 u0 u1 u2 u3 u4 u5), ra_I (g 25) cI 6 (l6 v0 v1 v2 v3 v4 v5), ra_N (g 26) cI 3200 cs, ra_I (g 31) cI 120 nw, ra_N (g 46) cI 9 pt, ra_J (g 86) cJ 1700 ql2_56, ra_I (g 20) cI 4 (l4 (nI l0) (nI l1) (nI dm) (nI l3)), ra_I (g 38) cI 90 zsb, ra_I (g 36) cZ 900 f_48, ra_I (g 37) cZ 900 f_65]) hx hb hK hP hD hS 10 3 rfl rfl (by omega) (by omega) (fun _ => rfl) rfl dX12_laysDays_144 (fun f_65 H locs ef_66 hP hD hS => ?_)
                              refine lv_iinc (v := nI (jm + 1)) (lv' := [(4, .int (nI (jm + 1))), (3, .int (nI ja)), (2, .int (nI i)), (0, .ref mm), (1, .int (nI li))]) hx hb dX12_laysDays_145 hl (k := 0) rfl (ninc jm 1 (by decide)) (by decide) rfl (fun ls hl => ?_)
                              refine lv_goto (tgt := 57) hx hb dX12_laysDays_148 (by decide) ?_
                              exact ih_lp_13 (jm + 1) am2_53 at_2_54 aa2_55 tk2_51 qp2_52 ql2_56 f_48 f_65 _ _ _ (by omega) (by omega) (mlD_a hmd_ ef_49 ef_66 (by omega)) (mlA_s hmaj ef_49 ef_66 (by omega) (by omega) (kone_t (by rw [← hv_24]; exact c_28)) (kone_t (by rw [← hv_58]; exact c_62))) hP hD hS (lv_sub hl [0, 1, 2, 3, 4] rfl)
                    exact lp_13 (10 - 0 + 1) 0 zamc zat_c zaac ztkc zqpc zlc zwc zoc _ _ _ (Nat.lt_succ_self _) (by omega) hmc hma hP hD hS (lv_sub hl [0, 1, 2, 3, 4] rfl)
              exact lp_10 (10 - 0 + 1) 0 zamb zat_b zaab ztkb zqpb zlb zw zo _ _ _ (Nat.lt_succ_self _) (by omega) (show mlS L wk Ba We li i zsb 10 by rw [show 10 = jj by omega]; exact hms) hmb (mlA_0 _ _ _ _ _ _ _ _) hP hD hS (lv_sub hl [0, 1, 2, 3] rfl)
            · have c_9 : ¬ (10 ≤ jj) := fun h => c_9 ((nle 10 jj (Nat.le_of_ble_eq_true rfl) (by omega)).mpr h)
              refine lv_aload_n hx hb dX12_laysDays_18 rfl (lv_at hl 2 rfl) ?_
              refine sk_get (v := .ref (g 38)) (C := RX12) (T := TX12) (N := 92) hx hb hts inlX12 hown hK hP 0 rfl rfl 38 (Nat.le_of_ble_eq_true rfl) w_5_193 rfl dX12_laysDays_19 ?_
              refine lv_bipush (v := 10) hx hb dX12_laysDays_22 (by decide) ?_
              refine lv_iload_n hx hb dX12_laysDays_24 rfl (lv_at hl 1 rfl) ?_
              refine lv_imul hx hb dX12_laysDays_25 ?_
              refine sk_top (nI (10 * i)) (nmul 10 i) ?_
              refine lv_iload_n hx hb dX12_laysDays_26 rfl (lv_at hl 0 rfl) ?_
              refine lv_iadd hx hb dX12_laysDays_27 ?_
              refine sk_top (nI (10 * i + jj)) (nI_add (10 * i) jj) ?_
              refine lv_aload_n hx hb dX12_laysDays_28 rfl (lv_at hl 2 rfl) ?_
              refine lv_iload_n hx hb dX12_laysDays_29 rfl (lv_at hl 1 rfl) ?_
              refine lv_iload_n hx hb dX12_laysDays_30 rfl (lv_at hl 0 rfl) ?_
              refine sk_Vi (q0 := 0) (n := 2) (rest := [.int (nI (10 * i + jj)), .ref (g 38)]) (wr := fmR om_11_7f0 _) ⟨hx, hb, hml, hown, hts⟩ hl.1 (c_nm_wordOf l D cI cJ cC cZ cS mm g ta pa pe pd pb pp pf pg pn rt rn cd sn il ztkb zamb zat_b zaab mt_ wt wy it_ rm ud nu sd qn qw qo qb zqpb qa qi oc i jj u0 u1 u2 u3 u4 u5 v0 v1 v2 v3 v4 v5 cs nw pt zlb L wk (Ba i) (We i) (by omega) (by omega) hLk hkl (hmds i (by omega)) hwk (hB9 i) (hW9 i) hmw0 hcs hnw hpt) w_7_131 w_7_133 w_0_74 w_1_14 w_7_134 hd_X12_wordOf_2 ⟨⟨(Nat.le_of_ble_eq_true rfl), (Nat.le_of_ble_eq_true rfl)⟩, (Nat.le_of_ble_eq_true rfl), (Nat.le_of_ble_eq_true rfl)⟩ hK hP hD hS hA (fmT om_11_7f0 0) (fmF om_11_7f0 0) (fm_C1 rfl rfl) (fm_R rfl rfl) (fm_nT om_11_7f0 0) (fm_nF om_11_7f0 0) (fm_di om_11_7f0 0) rfl rfl rfl rfl (Nat.le_of_ble_eq_true rfl) dX12_laysDays_31 (fun r_72 u H locs hw hP hD hS => ?_)
              refine exE hw (fun v_67 hw1 => exE hw1 (fun tk2_68 hw2 => exE hw2 (fun qp2_69 hw3 => exE hw3 (fun am2_70 hw4 => exE hw4 (fun ql2_71 hw5 => anE hw5 (fun hv_73 hw6 => anE hw6 (fun er_75 eu_74 => ?_)))))))
              clear hw hw1 hw2 hw3 hw4 hw5 hw6
              subst er_75
              refine o_mgE (ws' := [ro_ mm 12 (mo g (nI ta) (nI pa) (nI pe) pd (nI pb) pp pf pg pn rt rn (nI cd) sn (nI il) tk2_68 am2_70 zat_b zaab mt_ 0 (-1) wt wy (nI it_) (nI rm) (nI ud) (nI nu) sd (nI qn) (nI qw) qo (nI qb) (nI qp2_69) qa (nI qi) (nI oc)), ra_I (g 24) cI 6 (l6 u0 u1 u2 u3 u4 u5), ra_I (g 25) cI 6 (l6 v0 v1 v2 v3 v4 v5), ra_N (g 26) cI 3200 cs, ra_I (g 31) cI 120 nw, ra_N (g 46) cI 9 pt, ra_J (g 86) cJ 1700 ql2_71, ra_I (g 20) cI 4 (l4 (nI l0) (nI l1) (nI dm) (nI l3)), ra_I (g 38) cI 90 zsb, ra_I (g 36) cZ 900 zw, ra_I (g 37) cZ 900 zo]) eu_74 hP hD rfl (fun hP hD => ?_)
              have hl_76 : v_67 < 10 := by rw [hv_73]; exact kcTen_lt _
              refine lv_iload_n hx hb dX12_laysDays_34 rfl (lv_at hl 3 rfl) ?_
              refine lv_iadd hx hb dX12_laysDays_35 ?_
              refine sk_top (nI (v_67 + li)) (nI_add v_67 li) ?_
              refine lv_bipush (v := 10) hx hb dX12_laysDays_36 (by decide) ?_
              refine lv_irem hx hb dX12_laysDays_38 (by decide) ?_
              refine sk_top (nI ((v_67 + li) % 10)) (nrem (v_67 + li) 10 (by omega) (by omega) (by omega)) ?_
              refine sk_iastE (k := (10 * i + jj)) (ws' := fun f_77 => [ro_ mm 12 (mo g (nI ta) (nI pa) (nI pe) pd (nI pb) pp pf pg pn rt rn (nI cd) sn (nI il) tk2_68 am2_70 zat_b zaab mt_ 0 (-1) wt wy (nI it_) (nI rm) (nI ud) (nI nu) sd (nI qn) (nI qw) qo (nI qb) (nI qp2_69) qa (nI qi) (nI oc)), ra_I (g 24) cI 6 (l6 u0 u1 u2 u3 u4 u5), ra_I (g 25) cI 6 (l6 v0 v1 v2 v3 v4 v5), ra_N (g 26) cI 3200 cs, ra_I (g 31) cI 120 nw, ra_N (g 46) cI 9 pt, ra_J (g 86) cJ 1700 ql2_71, ra_I (g 20) cI 4 (l4 (nI l0) (nI l1) (nI dm) (nI l3)), ra_I (g 38) cI 90 f_77, ra_I (g 36) cZ 900 zw, ra_I (g 37) cZ 900 zo]) hx hb hK hP hD hS 8 0 rfl rfl (by omega) (by omega) (fun _ => rfl) dX12_laysDays_39 (fun f_77 H locs ef_78 hP hD hS => ?_)
              refine lv_iinc (v := nI (jj + 1)) (lv' := [(3, .int (nI (jj + 1))), (2, .int (nI i)), (0, .ref mm), (1, .int (nI li))]) hx hb dX12_laysDays_40 hl (k := 0) rfl (ninc jj 1 (by decide)) (by decide) rfl (fun ls hl => ?_)
              refine lv_goto (tgt := 12) hx hb dX12_laysDays_43 (by decide) ?_
              exact ih_lp_7 (jj + 1) am2_70 zat_b zaab tk2_68 qp2_69 ql2_71 f_77 _ _ _ (by omega) (by omega) (mlD_w hmb ef_78) (mlS_s hms ef_78 hv_73) hP hD hS (lv_sub hl [0, 1, 2, 3] rfl)
        exact lp_7 (10 - 0 + 1) 0 zam zat_ zaa ztk zqp zl zs _ _ _ (Nat.lt_succ_self _) (by omega) hmi (mlS_0 _ _ _ _ _ _ _) hP hD hS (lv_sub hl [0, 1, 2, 3] rfl)
  exact lp_1 (dm - 0 + 1) 0 am at_ aa tk qp ql ws_ yw yo _ _ _ (Nat.lt_succ_self _) (by omega) (mlD_0 _ _ _ _ _ _ _ _) hP hD hS (lv_sub hl [0, 1, 2] rfl)
theorem kcT_lt {w : Nat → Nat} {j y : Nat} (h : y < kcT w (10 - j) j) : j < 10 := Nat.lt_of_not_le (fun q => kcT_e q h)
theorem kW_bk {C : Nat → Nat → Nat → Bool} {n d a m : Nat} (h : C d a m = true) : kcW C n d a m = bk C (n - 1 - d) d m := by
  rw [← gA_W]; unfold gA; rw [if_pos h]
theorem kW_no {C : Nat → Nat → Nat → Bool} {n d a m : Nat} (h : C d a m = false) : kcW C n d a m = 0 := by
  unfold kcW; rw [if_neg (by rw [h]; decide)]
theorem kbk_le (C : Nat → Nat → Nat → Bool) {n : Nat} (h : n ≤ 9) (d m : Nat) : bk C (n - 1 - d) d m ≤ 1000000000 := by
  rw [bk_C]; exact kcC_9 C (by omega) _ _
def mpO (C : Nat → Nat → Nat → Bool) (n a0 x i : Nat) (f : Nat → Nat) : Prop := ∀ d, d < i → f d = kcM C n a0 x d
theorem mp_0 (C : Nat → Nat → Nat → Bool) (n a0 x : Nat) (f : Nat → Nat) : mpO C n a0 x 0 f := fun d hd => absurd hd (Nat.not_lt_zero d)
theorem mp_s {C : Nat → Nat → Nat → Bool} {n a0 x i v : Nat} {f g : Nat → Nat} (h : mpO C n a0 x i f) (e : g = updN f i v) (hv : (kcA C n a0 x (i + 1)).1 = v) : mpO C n a0 x (i + 1) g := fun d hd => by
  by_cases q : d = i
  · subst q; rw [kun_s e, ← hv]; rfl
  · rw [kun_n e q]; exact h d (by omega)
theorem mp_e {C : Nat → Nat → Nat → Bool} {n a0 x i : Nat} {f : Nat → Nat} (h : mpO C n a0 x i f) (e : n = i) : mpO C n a0 x n f := by
  subst e; exact h
theorem klt_m {a b : Nat} (h : ¬ lg_cmp (nL a) (nL b) < 0) (ha : a < 9223372036854775808) (hb : b < 9223372036854775808) : b ≤ a := Nat.le_of_not_lt (fun q => h ((nL_lt ha hb).mpr q))
/-- the week of a number goes by what may follow alone -/
theorem kcA_cg {E F : Nat → Nat → Nat → Bool} {n a0 x : Nat} (h : ∀ d, d < n → ∀ a m, a < 10 → m < 10 → E d a m = F d a m) (h0 : a0 < 10) (hx : x < kcC E n 0 a0) : ∀ d, d ≤ n → kcA E n a0 x d = kcA F n a0 x d
  | 0, _ => rfl
  | d + 1, hd => by
    have ih := kcA_cg h h0 hx d (by omega)
    have h1 := (kcA_ok h0 hx d (by omega)).1
    rw [kcA_s, kcA_s, ← ih]
    have key : ∀ f m y, m + f ≤ 10 → kcP (kcW E n d (kcA E n a0 x d).1) f m y = kcP (kcW F n d (kcA E n a0 x d).1) f m y := by
      intro f
      induction f with
      | zero => intro m y _; rfl
      | succ f ihf =>
        intro m y hm
        have e : kcW E n d (kcA E n a0 x d).1 m = kcW F n d (kcA E n a0 x d).1 m := by
          unfold kcW
          rw [h d (by omega) _ m h1 (by omega), kcC_cg (F := F) (n - (d + 1)) (d + 1) m (fun e h2 h3 a b ha hb => h e (by omega) a b ha hb) (by omega)]
        rw [kcP_s, kcP_s, e, ihf (m + 1) _ (by omega)]
    exact key 10 0 _ (by omega)
set_option maxHeartbeats 4000000 in
set_option maxRecDepth 100000 in
theorem c_nm_walksTo (l : Launch) (D : va_G) (cI cJ cC cZ cS : ClassId) (mm : Nat) (g : Nat → Nat) (ta : Nat) (pa : Nat) (pe : Nat) (pd : Int32) (pb : Nat) (pp : Int32) (pf : Int32) (pg : Int32) (pn : Int32) (rt : Int32) (rn : Int32) (cd : Nat) (sn : Int32) (il : Nat) (tk : Int32) (am : Int32) (at_ : Int32) (aa : Int32) (mt_ : Int32) (wt : Int32) (wy : Int64) (it_ : Nat) (rm : Nat) (ud : Nat) (nu : Nat) (sd : Int64) (qn : Nat) (qw : Nat) (qo : Int32) (qb : Nat) (qp : Nat) (qa : Int64) (qi : Nat) (oc : Nat) (l0 : Nat) (l1 : Nat) (dm : Nat) (l3 : Nat) (nw : Nat → Int32) (yo : Nat → Int32) (yw : Nat → Int32) (be : Nat → Int64) (pt : Nat → Nat) (nz : Nat) (hdm : dm ≤ 9) (hdm1 : 1 ≤ dm) (hbe : beOk (cfN nw yw yo mt_) dm 0 be) (hnu : nz < kcC (cfN nw yw yo mt_) dm 0 (a0N nw)) (hnw : nowOk nw) (hpt : ∀ j, pt j ≤ 9) : skM l yX12_walksTo cX12_walksTo 6 none 3 66 0 0 D (skT cI cJ cC cZ cS) [.ref mm, .long (nL nz)] [ro_ mm 12 (mo g (nI ta) (nI pa) (nI pe) pd (nI pb) pp pf pg pn rt rn (nI cd) sn (nI il) tk am at_ aa mt_ 0 (-1) wt wy (nI it_) (nI rm) (nI ud) (nI nu) sd (nI qn) (nI qw) qo (nI qb) (nI qp) qa (nI qi) (nI oc)), ra_I (g 20) cI 4 (l4 (nI l0) (nI l1) (nI dm) (nI l3)), ra_I (g 31) cI 120 nw, ra_I (g 37) cZ 900 yo, ra_I (g 36) cZ 900 yw, ra_J (g 43) cJ 90 be, ra_N (g 46) cI 9 pt] (skV D (skT cI cJ cC cZ cS) (fun (u : va_W) => ∃ (pt2 : Nat → Nat), mpO (cfN nw yw yo mt_) dm (a0N nw) nz dm pt2 ∧ (∀ j, pt2 j ≤ 9) ∧ u = [ro_ mm 12 (mo g (nI ta) (nI pa) (nI pe) pd (nI pb) pp pf pg pn rt rn (nI cd) sn (nI il) tk am at_ aa mt_ 0 (-1) wt wy (nI it_) (nI rm) (nI ud) (nI nu) sd (nI qn) (nI qw) qo (nI qb) (nI qp) qa (nI qi) (nI oc)), ra_I (g 20) cI 4 (l4 (nI l0) (nI l1) (nI dm) (nI l3)), ra_I (g 31) cI 120 nw, ra_I (g 37) cZ 900 yo, ra_I (g 36) cZ 900 yw, ra_J (g 43) cJ 90 be, ra_N (g 46) cI 9 pt2])) := by
  refine skM_of pf_X12_walksTo (Nat.le_of_ble_eq_true rfl) ?_
  intro p e s m below meth c A ls E hP hD hl
  refine skE_el E (fun hx hb hr hml hlocks hin hown hts hK hA => ?_)
  have hown : s.vm.findClass RX12 = some m.cls := hown
  have hS : va_S A s.heap s.heap [] := va_S.rf
  have hl : lv_has ls 6 [(0, .ref mm), (1, .long (nL nz))] := hl
  refine lv_aload_n hx hb dX12_walksTo_0 rfl (lv_at hl 0 rfl) ?_
  refine sk_get (v := .ref (g 31)) (C := RX12) (T := TX12) (N := 92) hx hb hts inlX12 hown hK hP 0 rfl rfl 31 (Nat.le_of_ble_eq_true rfl) w_5_186 rfl dX12_walksTo_1 ?_
  refine lv_iconst (v := 1) hx hb dX12_walksTo_4 ic_1 ?_
  refine va_iald hx hb hK.1 hP 2 0 rfl rfl (by unfold vp_in; decide) dX12_walksTo_5 ?_
  obtain ⟨k_1, hk_1, ek_1⟩ := nowOk_1 hnw
  refine sk_top (nI k_1) ek_1 ?_
  have ha0 := a0_eq ek_1 hk_1
  refine lv_istore_n (lv' := [(3, .int (nI k_1)), (0, .ref mm), (1, .long (nL nz))]) hx hb dX12_walksTo_6 rfl hl (by decide) rfl (fun ls hl => ?_)
  refine lv_iconst (v := 0) hx hb dX12_walksTo_7 ic_0 ?_
  refine lv_istore (lv' := [(4, .int 0), (3, .int (nI k_1)), (0, .ref mm), (1, .long (nL nz))]) hx hb dX12_walksTo_8 hl (by decide) rfl (fun ls hl => ?_)
  have lp_2 : ∀ (n_3 : Nat) (i : Nat) (ah : Nat) (xk : Int64) (zp : Nat → Nat) (H : Heap) (locs : List Loc) (ls : Array Slot), dm - i < n_3 → (∀ j, zp j ≤ 9) → (i ≤ dm) → (ah ≤ 9) → ((kcA (cfN nw yw yo mt_) dm (a0N nw) nz i).1 = ah) → (xk = nL (kcA (cfN nw yw yo mt_) dm (a0N nw) nz i).2) → (mpO (cfN nw yw yo mt_) dm (a0N nw) nz i zp) → va_P D vwCl [ro_ mm 12 (mo g (nI ta) (nI pa) (nI pe) pd (nI pb) pp pf pg pn rt rn (nI cd) sn (nI il) tk am at_ aa mt_ 0 (-1) wt wy (nI it_) (nI rm) (nI ud) (nI nu) sd (nI qn) (nI qw) qo (nI qb) (nI qp) qa (nI qi) (nI oc)), ra_I (g 20) cI 4 (l4 (nI l0) (nI l1) (nI dm) (nI l3)), ra_I (g 31) cI 120 nw, ra_I (g 37) cZ 900 yo, ra_I (g 36) cZ 900 yw, ra_J (g 43) cJ 90 be, ra_N (g 46) cI 9 zp] H → va_D A [ro_ mm 12 (mo g (nI ta) (nI pa) (nI pe) pd (nI pb) pp pf pg pn rt rn (nI cd) sn (nI il) tk am at_ aa mt_ 0 (-1) wt wy (nI it_) (nI rm) (nI ud) (nI nu) sd (nI qn) (nI qw) qo (nI qb) (nI qp) qa (nI qi) (nI oc)), ra_I (g 20) cI 4 (l4 (nI l0) (nI l1) (nI dm) (nI l3)), ra_I (g 31) cI 120 nw, ra_I (g 37) cZ 900 yo, ra_I (g 36) cZ 900 yw, ra_J (g 43) cJ 90 be, ra_N (g 46) cI 9 zp] → va_S A s.heap H locs → lv_has ls 6 [(4, .int (nI i)), (3, .int (nI ah)), (0, .ref mm), (1, .long xk)] → W p l e { frames := 3, cells := 0, slots := 0, locals := 66 } s m ([.ref mm, .long (nL nz)] : List Value).toArray below meth c H locs 0 0 (MQ below (skV D (skT cI cJ cC cZ cS) (fun (u : va_W) => ∃ (pt2 : Nat → Nat), mpO (cfN nw yw yo mt_) dm (a0N nw) nz dm pt2 ∧ (∀ j, pt2 j ≤ 9) ∧ u = [ro_ mm 12 (mo g (nI ta) (nI pa) (nI pe) pd (nI pb) pp pf pg pn rt rn (nI cd) sn (nI il) tk am at_ aa mt_ 0 (-1) wt wy (nI it_) (nI rm) (nI ud) (nI nu) sd (nI qn) (nI qw) qo (nI qb) (nI qp) qa (nI qi) (nI oc)), ra_I (g 20) cI 4 (l4 (nI l0) (nI l1) (nI dm) (nI l3)), ra_I (g 31) cI 120 nw, ra_I (g 37) cZ 900 yo, ra_I (g 36) cZ 900 yw, ra_J (g 43) cJ 90 be, ra_N (g 46) cI 9 pt2]) A) ([.ref mm, .long (nL nz)] : List Value).toArray s 0 0 A) (F0 m 10 ls []) := by
    intro n_3
    induction n_3 with
    | zero => intro i ah xk zp H locs ls hm; exact absurd hm (Nat.not_lt_zero _)
    | succ n_3 ih_lp_2 =>
      intro i ah xk zp H locs ls hm hzp hi hah haa hxk hrr hP hD hS hl
      refine lv_iload hx hb dX12_walksTo_10 (lv_at hl 0 rfl) ?_
      refine lv_aload_n hx hb dX12_walksTo_12 rfl (lv_at hl 2 rfl) ?_
      refine sk_Vi (q0 := 0) (n := 0) (rest := [.int (nI i)]) (wr := fmR om_7_60 _) ⟨hx, hb, hml, hown, hts⟩ hl.1 (c_m_dayMany l D cI cJ cC cZ cS mm g ta pa pe pd pb pp pf pg pn rt rn cd sn il tk am at_ aa mt_ 0 (-1) wt wy it_ rm ud nu sd qn qw qo qb qp qa qi oc l0 l1 dm l3) w_7_98 w_7_100 w_0_69 w_1_14 w_7_101 hd_X12_dayMany_0 ⟨⟨(Nat.le_of_ble_eq_true rfl), (Nat.le_of_ble_eq_true rfl)⟩, (Nat.le_of_ble_eq_true rfl), (Nat.le_of_ble_eq_true rfl)⟩ hK hP hD hS hA (fmT om_7_60 0) (fmF om_7_60 0) (fm_C1 rfl rfl) (fm_R rfl rfl) (fm_nT om_7_60 0) (fm_nF om_7_60 0) (fm_di om_7_60 0) rfl rfl rfl rfl (Nat.le_of_ble_eq_true rfl) dX12_walksTo_13 (fun r_4 u H locs hw hP hD hS => ?_)
      refine anE hw (fun er_6 eu_5 => ?_)
      clear hw
      subst er_6
      refine o_mgE (ws' := [ro_ mm 12 (mo g (nI ta) (nI pa) (nI pe) pd (nI pb) pp pf pg pn rt rn (nI cd) sn (nI il) tk am at_ aa mt_ 0 (-1) wt wy (nI it_) (nI rm) (nI ud) (nI nu) sd (nI qn) (nI qw) qo (nI qb) (nI qp) qa (nI qi) (nI oc)), ra_I (g 20) cI 4 (l4 (nI l0) (nI l1) (nI dm) (nI l3)), ra_I (g 31) cI 120 nw, ra_I (g 37) cZ 900 yo, ra_I (g 36) cZ 900 yw, ra_J (g 43) cJ 90 be, ra_N (g 46) cI 9 zp]) eu_5 hP hD rfl (fun hP hD => ?_)
      refine lv_icmp_ge (tgt := 104) hx hb dX12_walksTo_16 (by decide) (fun c_7 => ?_) (fun c_7 => ?_)
      · have c_7 : dm ≤ i := (nle dm i (by omega) (by omega)).mp c_7
        exact sk_vret hx hb hr hlocks hK hP hD hS (⟨zp, mp_e hrr (by omega), hzp, rfl⟩) (Nat.le_of_ble_eq_true rfl) (Nat.le_of_ble_eq_true rfl) dX12_walksTo_104
      · have c_7 : ¬ (dm ≤ i) := fun h => c_7 ((nle dm i (by omega) (by omega)).mpr h)
        have hok := kcA_ok (by omega) hnu i (by omega)
        refine lv_iconst (v := 0) hx hb dX12_walksTo_19 ic_0 ?_
        refine lv_istore (lv' := [(5, .int 0), (4, .int (nI i)), (3, .int (nI ah)), (0, .ref mm), (1, .long xk)]) hx hb dX12_walksTo_20 hl (by decide) rfl (fun ls hl => ?_)
        have lp_8 : ∀ (n_9 : Nat) (jm : Nat) (xk2 : Int64) (yy : Nat) (H : Heap) (locs : List Loc) (ls : Array Slot), 10 - jm < n_9 → (xk2 = nL yy) → (kcP (kcW (cfN nw yw yo mt_) dm i ah) (10 - jm) jm yy = kcP (kcW (cfN nw yw yo mt_) dm i ah) 10 0 (kcA (cfN nw yw yo mt_) dm (a0N nw) nz i).2) → (yy < kcT (kcW (cfN nw yw yo mt_) dm i ah) (10 - jm) jm) → (jm < 10) → (yy ≤ 10000000000) → va_P D vwCl [ro_ mm 12 (mo g (nI ta) (nI pa) (nI pe) pd (nI pb) pp pf pg pn rt rn (nI cd) sn (nI il) tk am at_ aa mt_ 0 (-1) wt wy (nI it_) (nI rm) (nI ud) (nI nu) sd (nI qn) (nI qw) qo (nI qb) (nI qp) qa (nI qi) (nI oc)), ra_I (g 20) cI 4 (l4 (nI l0) (nI l1) (nI dm) (nI l3)), ra_I (g 31) cI 120 nw, ra_I (g 37) cZ 900 yo, ra_I (g 36) cZ 900 yw, ra_J (g 43) cJ 90 be, ra_N (g 46) cI 9 zp] H → va_D A [ro_ mm 12 (mo g (nI ta) (nI pa) (nI pe) pd (nI pb) pp pf pg pn rt rn (nI cd) sn (nI il) tk am at_ aa mt_ 0 (-1) wt wy (nI it_) (nI rm) (nI ud) (nI nu) sd (nI qn) (nI qw) qo (nI qb) (nI qp) qa (nI qi) (nI oc)), ra_I (g 20) cI 4 (l4 (nI l0) (nI l1) (nI dm) (nI l3)), ra_I (g 31) cI 120 nw, ra_I (g 37) cZ 900 yo, ra_I (g 36) cZ 900 yw, ra_J (g 43) cJ 90 be, ra_N (g 46) cI 9 zp] → va_S A s.heap H locs → lv_has ls 6 [(5, .int (nI jm)), (4, .int (nI i)), (3, .int (nI ah)), (0, .ref mm), (1, .long xk2)] → W p l e { frames := 3, cells := 0, slots := 0, locals := 66 } s m ([.ref mm, .long (nL nz)] : List Value).toArray below meth c H locs 0 0 (MQ below (skV D (skT cI cJ cC cZ cS) (fun (u : va_W) => ∃ (pt2 : Nat → Nat), mpO (cfN nw yw yo mt_) dm (a0N nw) nz dm pt2 ∧ (∀ j, pt2 j ≤ 9) ∧ u = [ro_ mm 12 (mo g (nI ta) (nI pa) (nI pe) pd (nI pb) pp pf pg pn rt rn (nI cd) sn (nI il) tk am at_ aa mt_ 0 (-1) wt wy (nI it_) (nI rm) (nI ud) (nI nu) sd (nI qn) (nI qw) qo (nI qb) (nI qp) qa (nI qi) (nI oc)), ra_I (g 20) cI 4 (l4 (nI l0) (nI l1) (nI dm) (nI l3)), ra_I (g 31) cI 120 nw, ra_I (g 37) cZ 900 yo, ra_I (g 36) cZ 900 yw, ra_J (g 43) cJ 90 be, ra_N (g 46) cI 9 pt2]) A) ([.ref mm, .long (nL nz)] : List Value).toArray s 0 0 A) (F0 m 22 ls []) := by
          intro n_9
          induction n_9 with
          | zero => intro jm xk2 yy H locs ls hm; exact absurd hm (Nat.not_lt_zero _)
          | succ n_9 ih_lp_8 =>
            intro jm xk2 yy H locs ls hm hx2 hyP hyT hjm hyl hP hD hS hl
            refine lv_aload_n hx hb dX12_walksTo_22 rfl (lv_at hl 3 rfl) ?_
            subst hx2
            have hbl := kbk_le (cfN nw yw yo mt_) hdm i jm
            refine lv_iload hx hb dX12_walksTo_23 (lv_at hl 1 rfl) ?_
            refine lv_iload_n hx hb dX12_walksTo_25 rfl (lv_at hl 2 rfl) ?_
            refine lv_iload hx hb dX12_walksTo_26 (lv_at hl 0 rfl) ?_
            refine sk_Vi (q0 := 0) (n := 3) (rest := []) (wr := fmR om_7_5c _) ⟨hx, hb, hml, hown, hts⟩ hl.1 (c_m_canFollow0 l D cI cJ cC cZ cS mm g ta pa pe pd pb pp pf pg pn rt rn cd sn il tk am at_ aa mt_ wt wy it_ rm ud nu sd qn qw qo qb qp qa qi oc i ah jm nw yo yw (by omega) hjm (by omega) hnw) w_7_201 w_7_203 w_0_85 w_1_14 w_7_204 hd_X12_canFollow_3 ⟨⟨(Nat.le_of_ble_eq_true rfl), (Nat.le_of_ble_eq_true rfl)⟩, (Nat.le_of_ble_eq_true rfl), (Nat.le_of_ble_eq_true rfl)⟩ hK hP hD hS hA (fmT om_7_5c 0) (fmF om_7_5c 0) (fm_C1 rfl rfl) (fm_R rfl rfl) (fm_nT om_7_5c 0) (fm_nF om_7_5c 0) (fm_di om_7_5c 0) rfl rfl rfl rfl (Nat.le_of_ble_eq_true rfl) dX12_walksTo_28 (fun r_11 u H locs hw hP hD hS => ?_)
            refine exE hw (fun b_10 hw1 => anE hw1 (fun hb1_12 hw2 => anE hw2 (fun hb2_13 hw3 => anE hw3 (fun er_15 eu_14 => ?_))))
            clear hw hw1 hw2 hw3
            subst er_15
            refine o_mgE (ws' := [ro_ mm 12 (mo g (nI ta) (nI pa) (nI pe) pd (nI pb) pp pf pg pn rt rn (nI cd) sn (nI il) tk am at_ aa mt_ 0 (-1) wt wy (nI it_) (nI rm) (nI ud) (nI nu) sd (nI qn) (nI qw) qo (nI qb) (nI qp) qa (nI qi) (nI oc)), ra_I (g 20) cI 4 (l4 (nI l0) (nI l1) (nI dm) (nI l3)), ra_I (g 31) cI 120 nw, ra_I (g 37) cZ 900 yo, ra_I (g 36) cZ 900 yw, ra_J (g 43) cJ 90 be, ra_N (g 46) cI 9 zp]) eu_14 hP hD rfl (fun hP hD => ?_)
            refine lv_if_eq (tgt := 52) hx hb dX12_walksTo_31 (by decide) (fun c_16 => ?_) (fun c_16 => ?_)
            · have c_16 : b_10 = 0 := (neq b_10 0 (by omega) (Nat.le_of_ble_eq_true rfl)).mp c_16
              refine lv_aload_n hx hb dX12_walksTo_52 rfl (lv_at hl 3 rfl) ?_
              refine lv_iload hx hb dX12_walksTo_53 (lv_at hl 1 rfl) ?_
              refine lv_iload_n hx hb dX12_walksTo_55 rfl (lv_at hl 2 rfl) ?_
              refine lv_iload hx hb dX12_walksTo_56 (lv_at hl 0 rfl) ?_
              refine sk_Vi (q0 := 0) (n := 3) (rest := []) (wr := fmR om_7_5c _) ⟨hx, hb, hml, hown, hts⟩ hl.1 (c_m_canFollow0 l D cI cJ cC cZ cS mm g ta pa pe pd pb pp pf pg pn rt rn cd sn il tk am at_ aa mt_ wt wy it_ rm ud nu sd qn qw qo qb qp qa qi oc i ah jm nw yo yw (by omega) hjm (by omega) hnw) w_7_201 w_7_203 w_0_85 w_1_14 w_7_204 hd_X12_canFollow_3 ⟨⟨(Nat.le_of_ble_eq_true rfl), (Nat.le_of_ble_eq_true rfl)⟩, (Nat.le_of_ble_eq_true rfl), (Nat.le_of_ble_eq_true rfl)⟩ hK hP hD hS hA (fmT om_7_5c 0) (fmF om_7_5c 0) (fm_C1 rfl rfl) (fm_R rfl rfl) (fm_nT om_7_5c 0) (fm_nF om_7_5c 0) (fm_di om_7_5c 0) rfl rfl rfl rfl (Nat.le_of_ble_eq_true rfl) dX12_walksTo_58 (fun r_18 u H locs hw hP hD hS => ?_)
              refine exE hw (fun b_17 hw1 => anE hw1 (fun hb1_19 hw2 => anE hw2 (fun hb2_20 hw3 => anE hw3 (fun er_22 eu_21 => ?_))))
              clear hw hw1 hw2 hw3
              subst er_22
              refine o_mgE (ws' := [ro_ mm 12 (mo g (nI ta) (nI pa) (nI pe) pd (nI pb) pp pf pg pn rt rn (nI cd) sn (nI il) tk am at_ aa mt_ 0 (-1) wt wy (nI it_) (nI rm) (nI ud) (nI nu) sd (nI qn) (nI qw) qo (nI qb) (nI qp) qa (nI qi) (nI oc)), ra_I (g 20) cI 4 (l4 (nI l0) (nI l1) (nI dm) (nI l3)), ra_I (g 31) cI 120 nw, ra_I (g 37) cZ 900 yo, ra_I (g 36) cZ 900 yw, ra_J (g 43) cJ 90 be, ra_N (g 46) cI 9 zp]) eu_21 hP hD rfl (fun hP hD => ?_)
              refine lv_if_eq (tgt := 80) hx hb dX12_walksTo_61 (by decide) (fun c_23 => ?_) (fun c => absurd ((or_1 hb1_19 (fun h => c (by rw [h]; rfl))).symm.trans (or_0 hb1_12 (by omega))) (by decide))
              refine lv_iinc (v := nI (jm + 1)) (lv' := [(5, .int (nI (jm + 1))), (4, .int (nI i)), (3, .int (nI ah)), (0, .ref mm), (1, .long (nL yy))]) hx hb dX12_walksTo_80 hl (k := 0) rfl (ninc jm 1 (by decide)) (by decide) rfl (fun ls hl => ?_)
              refine lv_goto (tgt := 22) hx hb dX12_walksTo_83 (by decide) ?_
              exact ih_lp_8 (jm + 1) (nL yy) yy _ _ _ (by omega) rfl (by have e9 := kW_no (n := dm) (or_0 hb1_12 (by omega)); have h9 := kcP_go (w := (kcW (cfN nw yw yo mt_) dm i ah)) (x := yy) hjm (by rw [e9]; omega); rw [e9, Nat.sub_zero] at h9; exact h9.symm.trans hyP) (by have e9 := kW_no (n := dm) (or_0 hb1_12 (by omega)); have h9 := kcT_s (w := (kcW (cfN nw yw yo mt_) dm i ah)) hjm hyT (by rw [e9]; omega); rw [e9, Nat.sub_zero] at h9; exact h9) (kcT_lt (by have e9 := kW_no (n := dm) (or_0 hb1_12 (by omega)); have h9 := kcT_s (w := (kcW (cfN nw yw yo mt_) dm i ah)) hjm hyT (by rw [e9]; omega); rw [e9, Nat.sub_zero] at h9; exact h9)) (by omega) hP hD hS (lv_sub hl [0, 1, 2, 3, 4] rfl)
            · have c_16 : ¬ (b_10 = 0) := fun h => c_16 ((neq b_10 0 (by omega) (Nat.le_of_ble_eq_true rfl)).mpr h)
              refine lv_lload_n hx hb dX12_walksTo_34 rfl (lv_at hl 4 rfl) ?_
              refine lv_aload_n hx hb dX12_walksTo_35 rfl (lv_at hl 3 rfl) ?_
              refine sk_get (v := .ref (g 43)) (C := RX12) (T := TX12) (N := 92) hx hb hts inlX12 hown hK hP 0 rfl rfl 43 (Nat.le_of_ble_eq_true rfl) w_5_198 rfl dX12_walksTo_36 ?_
              refine lv_bipush (v := 10) hx hb dX12_walksTo_39 (by decide) ?_
              refine lv_iload hx hb dX12_walksTo_41 (lv_at hl 1 rfl) ?_
              refine lv_imul hx hb dX12_walksTo_43 ?_
              refine sk_top (nI (10 * i)) (nmul 10 i) ?_
              refine lv_iload hx hb dX12_walksTo_44 (lv_at hl 0 rfl) ?_
              refine lv_iadd hx hb dX12_walksTo_46 ?_
              refine sk_top (nI (10 * i + jm)) (nI_add (10 * i) jm) ?_
              refine va_lald hx hb hK.1 hP 5 1 rfl rfl (vin (10 * i + jm) 90 (by omega) (Nat.le_of_ble_eq_true rfl)) dX12_walksTo_47 ?_
              refine sk_topl (nL (bk (cfN nw yw yo mt_) (dm - 1 - i) i jm)) (be_get hbe (by omega) (by omega) (by omega) (by omega) rfl) ?_
              refine W.lcmp hx hb dX12_walksTo_48 ?_
              refine lv_if_lt (tgt := 86) hx hb dX12_walksTo_49 (by decide) (fun c_24 => ?_) (fun c_24 => ?_)
              · skip
                refine lv_aload_n hx hb dX12_walksTo_86 rfl (lv_at hl 3 rfl) ?_
                refine sk_get (v := .ref (g 46)) (C := RX12) (T := TX12) (N := 92) hx hb hts inlX12 hown hK hP 0 rfl rfl 46 (Nat.le_of_ble_eq_true rfl) w_5_201 rfl dX12_walksTo_87 ?_
                refine lv_iload hx hb dX12_walksTo_90 (lv_at hl 1 rfl) ?_
                refine lv_iload hx hb dX12_walksTo_92 (lv_at hl 0 rfl) ?_
                refine sk_iastNE (k := i) (v := jm) (B := 9) (ws' := fun f_25 => [ro_ mm 12 (mo g (nI ta) (nI pa) (nI pe) pd (nI pb) pp pf pg pn rt rn (nI cd) sn (nI il) tk am at_ aa mt_ 0 (-1) wt wy (nI it_) (nI rm) (nI ud) (nI nu) sd (nI qn) (nI qw) qo (nI qb) (nI qp) qa (nI qi) (nI oc)), ra_I (g 20) cI 4 (l4 (nI l0) (nI l1) (nI dm) (nI l3)), ra_I (g 31) cI 120 nw, ra_I (g 37) cZ 900 yo, ra_I (g 36) cZ 900 yw, ra_J (g 43) cJ 90 be, ra_N (g 46) cI 9 f_25]) hx hb hK hP hD hS 6 0 rfl rfl (by omega) (by omega) hzp (by omega) (fun _ => rfl) dX12_walksTo_94 (fun f_25 H locs hf_27 ef_26 hP hD hS => ?_)
                have hk_28 : kcA (cfN nw yw yo mt_) dm (a0N nw) nz (i + 1) = (jm, yy) := by rw [kcA_s, haa, ← hyP]; exact kcP_at hjm (by rw [kW_bk (n := dm) (or_1 hb1_12 (by omega))]; exact (nL_lt (by omega) (by omega)).mp c_24)
                refine lv_iload hx hb dX12_walksTo_95 (lv_at hl 0 rfl) ?_
                refine lv_istore_n (lv' := [(3, .int (nI jm)), (5, .int (nI jm)), (4, .int (nI i)), (0, .ref mm), (1, .long (nL yy))]) hx hb dX12_walksTo_97 rfl hl (by decide) rfl (fun ls hl => ?_)
                refine lv_iinc (v := nI (i + 1)) (lv' := [(4, .int (nI (i + 1))), (3, .int (nI jm)), (5, .int (nI jm)), (0, .ref mm), (1, .long (nL yy))]) hx hb dX12_walksTo_98 hl (k := 2) rfl (ninc i 1 (by decide)) (by decide) rfl (fun ls hl => ?_)
                refine lv_goto (tgt := 10) hx hb dX12_walksTo_101 (by decide) ?_
                exact ih_lp_2 (i + 1) jm (nL yy) f_25 _ _ _ (by omega) hf_27 (by omega) (by omega) (by rw [hk_28]) (by rw [hk_28]) (mp_s hrr ef_26 (by rw [hk_28])) hP hD hS (lv_sub hl [0, 1, 3, 4] rfl)
              · skip
                refine lv_aload_n hx hb dX12_walksTo_52 rfl (lv_at hl 3 rfl) ?_
                refine lv_iload hx hb dX12_walksTo_53 (lv_at hl 1 rfl) ?_
                refine lv_iload_n hx hb dX12_walksTo_55 rfl (lv_at hl 2 rfl) ?_
                refine lv_iload hx hb dX12_walksTo_56 (lv_at hl 0 rfl) ?_
                refine sk_Vi (q0 := 0) (n := 3) (rest := []) (wr := fmR om_7_5c _) ⟨hx, hb, hml, hown, hts⟩ hl.1 (c_m_canFollow0 l D cI cJ cC cZ cS mm g ta pa pe pd pb pp pf pg pn rt rn cd sn il tk am at_ aa mt_ wt wy it_ rm ud nu sd qn qw qo qb qp qa qi oc i ah jm nw yo yw (by omega) hjm (by omega) hnw) w_7_201 w_7_203 w_0_85 w_1_14 w_7_204 hd_X12_canFollow_3 ⟨⟨(Nat.le_of_ble_eq_true rfl), (Nat.le_of_ble_eq_true rfl)⟩, (Nat.le_of_ble_eq_true rfl), (Nat.le_of_ble_eq_true rfl)⟩ hK hP hD hS hA (fmT om_7_5c 0) (fmF om_7_5c 0) (fm_C1 rfl rfl) (fm_R rfl rfl) (fm_nT om_7_5c 0) (fm_nF om_7_5c 0) (fm_di om_7_5c 0) rfl rfl rfl rfl (Nat.le_of_ble_eq_true rfl) dX12_walksTo_58 (fun r_30 u H locs hw hP hD hS => ?_)
                refine exE hw (fun b_29 hw1 => anE hw1 (fun hb1_31 hw2 => anE hw2 (fun hb2_32 hw3 => anE hw3 (fun er_34 eu_33 => ?_))))
                clear hw hw1 hw2 hw3
                subst er_34
                refine o_mgE (ws' := [ro_ mm 12 (mo g (nI ta) (nI pa) (nI pe) pd (nI pb) pp pf pg pn rt rn (nI cd) sn (nI il) tk am at_ aa mt_ 0 (-1) wt wy (nI it_) (nI rm) (nI ud) (nI nu) sd (nI qn) (nI qw) qo (nI qb) (nI qp) qa (nI qi) (nI oc)), ra_I (g 20) cI 4 (l4 (nI l0) (nI l1) (nI dm) (nI l3)), ra_I (g 31) cI 120 nw, ra_I (g 37) cZ 900 yo, ra_I (g 36) cZ 900 yw, ra_J (g 43) cJ 90 be, ra_N (g 46) cI 9 zp]) eu_33 hP hD rfl (fun hP hD => ?_)
                refine lv_if_eq (tgt := 80) hx hb dX12_walksTo_61 (by decide) (fun c => absurd ((or_0 hb1_31 ((neq _ 0 (by omega) (Nat.le_of_ble_eq_true rfl)).mp c)).symm.trans (or_1 hb1_12 (by omega))) (by decide)) (fun c_35 => ?_)
                refine lv_lload_n hx hb dX12_walksTo_64 rfl (lv_at hl 4 rfl) ?_
                refine lv_aload_n hx hb dX12_walksTo_65 rfl (lv_at hl 3 rfl) ?_
                refine sk_get (v := .ref (g 43)) (C := RX12) (T := TX12) (N := 92) hx hb hts inlX12 hown hK hP 0 rfl rfl 43 (Nat.le_of_ble_eq_true rfl) w_5_198 rfl dX12_walksTo_66 ?_
                refine lv_bipush (v := 10) hx hb dX12_walksTo_69 (by decide) ?_
                refine lv_iload hx hb dX12_walksTo_71 (lv_at hl 1 rfl) ?_
                refine lv_imul hx hb dX12_walksTo_73 ?_
                refine sk_top (nI (10 * i)) (nmul 10 i) ?_
                refine lv_iload hx hb dX12_walksTo_74 (lv_at hl 0 rfl) ?_
                refine lv_iadd hx hb dX12_walksTo_76 ?_
                refine sk_top (nI (10 * i + jm)) (nI_add (10 * i) jm) ?_
                refine va_lald hx hb hK.1 hP 5 1 rfl rfl (vin (10 * i + jm) 90 (by omega) (Nat.le_of_ble_eq_true rfl)) dX12_walksTo_77 ?_
                refine sk_topl (nL (bk (cfN nw yw yo mt_) (dm - 1 - i) i jm)) (be_get hbe (by omega) (by omega) (by omega) (by omega) rfl) ?_
                refine lv_lsub hx hb dX12_walksTo_78 ?_
                have hge := klt_m c_24 (by omega) (by omega)
                refine sk_topl (nL (yy - bk (cfN nw yw yo mt_) (dm - 1 - i) i jm)) (nL_sub hge) ?_
                refine lv_lstore_n (lv' := [(1, .long (nL (yy - bk (cfN nw yw yo mt_) (dm - 1 - i) i jm))), (5, .int (nI jm)), (4, .int (nI i)), (3, .int (nI ah)), (0, .ref mm)]) hx hb dX12_walksTo_79 rfl hl (by decide) rfl (fun ls hl => ?_)
                refine lv_iinc (v := nI (jm + 1)) (lv' := [(5, .int (nI (jm + 1))), (1, .long (nL (yy - bk (cfN nw yw yo mt_) (dm - 1 - i) i jm))), (4, .int (nI i)), (3, .int (nI ah)), (0, .ref mm)]) hx hb dX12_walksTo_80 hl (k := 1) rfl (ninc jm 1 (by decide)) (by decide) rfl (fun ls hl => ?_)
                refine lv_goto (tgt := 22) hx hb dX12_walksTo_83 (by decide) ?_
                exact ih_lp_8 (jm + 1) (nL (yy - bk (cfN nw yw yo mt_) (dm - 1 - i) i jm)) (yy - bk (cfN nw yw yo mt_) (dm - 1 - i) i jm) _ _ _ (by omega) rfl (by have e9 := kW_bk (n := dm) (or_1 hb1_12 (by omega)); have h9 := kcP_go (w := (kcW (cfN nw yw yo mt_) dm i ah)) (x := yy) hjm (by rw [e9]; omega); rw [e9] at h9; exact h9.symm.trans hyP) (by have e9 := kW_bk (n := dm) (or_1 hb1_12 (by omega)); have h9 := kcT_s (w := (kcW (cfN nw yw yo mt_) dm i ah)) hjm hyT (by rw [e9]; exact hge); rw [e9] at h9; exact h9) (kcT_lt (by have e9 := kW_bk (n := dm) (or_1 hb1_12 (by omega)); have h9 := kcT_s (w := (kcW (cfN nw yw yo mt_) dm i ah)) hjm hyT (by rw [e9]; exact hge); rw [e9] at h9; exact h9)) (by omega) hP hD hS (lv_sub hl [0, 2, 3, 4, 1] rfl)
        exact lp_8 (10 - 0 + 1) 0 xk ((kcA (cfN nw yw yo mt_) dm (a0N nw) nz i).2) _ _ _ (Nat.lt_succ_self _) hxk rfl (by have h9 := hok.2; rw [haa, ← kcW_S (show i < dm by omega), ← kcT_10] at h9; exact h9) (kcT_lt (by have h9 := hok.2; rw [haa, ← kcW_S (show i < dm by omega), ← kcT_10] at h9; exact h9)) (by have := kcC_9 (cfN nw yw yo mt_) (show dm - i ≤ 9 by omega) i (kcA (cfN nw yw yo mt_) dm (a0N nw) nz i).1; have h5 := hok.2; omega) hP hD hS (lv_sub hl [0, 1, 2, 3, 4] rfl)
  exact lp_2 (dm - 0 + 1) 0 k_1 (nL nz) pt _ _ _ (Nat.lt_succ_self _) hpt (by omega) (by omega) (show (a0N nw) = _ from ha0.symm) rfl (mp_0 _ _ _ _ _) hP hD hS (lv_sub hl [0, 1, 2, 3] rfl)
/-! the reference's state -/
def nwX (wn mo : Nat) (Ba We : Nat → Nat) (U : Nat → Bool) (ke : Nat) (lg : KLg) (f : Nat → Int32) : Prop := mo ≤ 9 ∧ f 0 = nI wn ∧ f 1 = nI mo ∧ (∀ d, d < 9 → f (2 + 3 * d) = nI (Ba d) ∧ f (2 + 3 * d + 1) = nI (We d) ∧ f (2 + 3 * d + 2) = (if U d = true then 1 else 0)) ∧ f 29 = nI (min ke 30) ∧ ∀ i, i < min ke 30 → f (30 + 3 * i) = nI (lg (ke - min ke 30 + i)).1 ∧ f (30 + 3 * i + 1) = nI (lg (ke - min ke 30 + i)).2.1 ∧ f (30 + 3 * i + 2) = nI (lg (ke - min ke 30 + i)).2.2
section KwX
variable {wn mo ke : Nat} {Ba We : Nat → Nat} {U : Nat → Bool} {lg : KLg} {f g : Nat → Int32}
theorem nwX_ok (h : nwX wn mo Ba We U ke lg f) : nowOk f := ⟨⟨mo, h.1, h.2.2.1⟩, ⟨min ke 30, by omega, h.2.2.2.2.1⟩⟩
theorem nwX_0 (h : nwX wn mo Ba We U ke lg f) : f (0 : Int32).toNatClampNeg = nI wn := h.2.1
theorem nwX_1 (h : nwX wn mo Ba We U ke lg f) : f (1 : Int32).toNatClampNeg = nI mo := h.2.2.1
theorem nwX_29 (h : nwX wn mo Ba We U ke lg f) : f (29 : Int32).toNatClampNeg = nI (min ke 30) := h.2.2.2.2.1
theorem nwX_b (h : nwX wn mo Ba We U ke lg f) {d : Nat} (hd : d < 9) : f (2 + 3 * d) = nI (Ba d) := (h.2.2.2.1 d hd).1
theorem nwX_w (h : nwX wn mo Ba We U ke lg f) {d : Nat} (hd : d < 9) : f (2 + 3 * d + 1) = nI (We d) := (h.2.2.2.1 d hd).2.1
theorem nwX_m (h : nwX wn mo Ba We U ke lg f) {d : Nat} (hd : d < 9) : f (2 + 3 * d + 2) = (if U d = true then 1 else 0) := (h.2.2.2.1 d hd).2.2
theorem nwX_m1 (h : nwX wn mo Ba We U ke lg f) {d : Nat} (hd : d < 9) : f (nI (2 + 3 * d + 2)).toNatClampNeg = 1 ↔ U d = true := by
  rw [nI_clamp (by omega), nwX_m h hd]
  by_cases q : U d = true
  · rw [if_pos q]; exact ⟨fun _ => q, fun _ => rfl⟩
  · rw [if_neg q]; exact ⟨fun e => absurd e (by decide), fun e => absurd e q⟩
theorem nwX_md (h : nwX wn mo Ba We U ke lg f) {d : Nat} (hd : d < 9) : mdO f wn (Ba d) (We d) d := ⟨h.2.1, nwX_b h hd, nwX_w h hd⟩
theorem nwX_a0 (h : nwX wn mo Ba We U ke lg f) : a0N f = mo := by
  have h1 := (h.2.2.1)
  unfold a0N
  rw [h1]
  exact nI_clamp (by have := h.1; omega)
theorem nwX_mt (h : nwX wn mo Ba We U ke lg f) {d : Nat} (hd : d < 9) : mtN f 0 d = U d := by
  have e0 : (0 : Int32) >>> (nI d &&& 31) &&& 1 = 0 := by
    have h1 : ∀ d, d < 9 → (0 : Int32) >>> (nI d &&& 31) &&& 1 = 0 := by decide +kernel
    exact h1 d hd
  have h1 := nwX_m1 h hd
  unfold mtN
  rw [e0]
  cases hu : U d with
  | true => rw [h1.mpr hu]; rfl
  | false =>
    have h2 : ¬ f (nI (2 + 3 * d + 2)).toNatClampNeg = 1 := fun q => by rw [h1.mp q] at hu; cases hu
    rw [decide_eq_false h2]
    rfl
end KwX
/-- the ways that may be are those of the class -/
theorem cfX {L : LkS} {wn mo ke dm : Nat} {Ba We : Nat → Nat} {U : Nat → Bool} {lg : KLg} {nw ws yw yo : Nat → Int32} (h : nwX wn mo Ba We U ke lg nw) (hm : mlD L wn Ba We 0 dm ws yw yo) (hd : dm ≤ 9) : ∀ d, d < dm → ∀ a m, a < 10 → m < 10 → cfN nw yw yo 0 d a m = kcFo L wn Ba We U 0 d a m := fun d h1 a m ha hm2 => cf_Fo hm hd (fun d h2 => nwX_mt h (by omega)) h1 ha hm2
theorem wyX {C E : Nat → Nat → Nat → Bool} {nw : Nat → Int32} {dm mo : Nat} (h : ∀ d, d < dm → ∀ a m, a < 10 → m < 10 → C d a m = E d a m) (h1 : 1 ≤ dm) (ha : a0N nw = mo) (hmo : mo ≤ 9) : wys C (a0N nw) (dm - 1) = kcC E dm 0 mo := by
  rw [wys_C C _ h1, ha]
  exact kcC_cg dm 0 mo (fun e _ h2 x m hx hm => h e (by omega) x m hx hm) (by omega)
theorem mpX {C E : Nat → Nat → Nat → Bool} {nw : Nat → Int32} {dm mo x : Nat} {f : Nat → Nat} (h : ∀ d, d < dm → ∀ a m, a < 10 → m < 10 → C d a m = E d a m) (ha : a0N nw = mo) (hmo : mo ≤ 9) (hx : x < kcC E dm 0 mo) (hp : mpO C dm (a0N nw) x dm f) : ∀ d, d < dm → f d = kcM E dm mo x d := fun d hd => by
  have e1 : kcC C dm 0 mo = kcC E dm 0 mo := kcC_cg dm 0 mo (fun e _ h2 x m hx hm => h e (by omega) x m hx hm) (by omega)
  rw [hp d hd, ha]
  unfold kcM
  rw [kcA_cg h (by omega) (by rw [e1]; exact hx) (d + 1) (by omega)]
theorem nuX {C E : Nat → Nat → Nat → Bool} {nw : Nat → Int32} {dm mo x : Nat} (h : ∀ d, d < dm → ∀ a m, a < 10 → m < 10 → C d a m = E d a m) (ha : a0N nw = mo) (hmo : mo ≤ 9) (hx : x < kcC E dm 0 mo) : x < kcC C dm 0 (a0N nw) := by
  rw [ha, kcC_cg (F := E) dm 0 mo (fun e _ h2 x m hx hm => h e (by omega) x m hx hm) (by omega)]
  exact hx
/-! a number of now becomes another one -/
section KwU
variable {wn mo ke : Nat} {Ba We : Nat → Nat} {U : Nat → Bool} {lg : KLg} {f g : Nat → Int32}
theorem nwX_up0 {v : Nat} (h : nwX wn mo Ba We U ke lg f) (e : g = upd f 0 (nI v)) : nwX v mo Ba We U ke lg g := by
  obtain ⟨h1, h2, h3, h4, h5, h6⟩ := h
  exact ⟨h1, kui_s e, by rw [kui_n e (by omega), h3], fun d hd => by rw [kui_n e (by omega), kui_n e (by omega), kui_n e (by omega)]; exact h4 d hd, by rw [kui_n e (by omega), h5], fun i hi => by rw [kui_n e (by omega), kui_n e (by omega), kui_n e (by omega)]; exact h6 i hi⟩
theorem nwX_up1 {v : Nat} (h : nwX wn mo Ba We U ke lg f) (e : g = upd f 1 (nI v)) (hv : v ≤ 9) : nwX wn v Ba We U ke lg g := by
  obtain ⟨h1, h2, h3, h4, h5, h6⟩ := h
  exact ⟨hv, by rw [kui_n e (by omega), h2], kui_s e, fun d hd => by rw [kui_n e (by omega), kui_n e (by omega), kui_n e (by omega)]; exact h4 d hd, by rw [kui_n e (by omega), h5], fun i hi => by rw [kui_n e (by omega), kui_n e (by omega), kui_n e (by omega)]; exact h6 i hi⟩
theorem nwX_upb {d v : Nat} (h : nwX wn mo Ba We U ke lg f) (e : g = upd f (2 + 3 * d) (nI v)) (hd : d < 9) : nwX wn mo (updG Ba d v) We U ke lg g := by
  obtain ⟨h1, h2, h3, h4, h5, h6⟩ := h
  refine ⟨h1, by rw [kui_n e (by omega), h2], by rw [kui_n e (by omega), h3], fun j hj => ?_, by rw [kui_n e (by omega), h5], fun i hi => by rw [kui_n e (by omega), kui_n e (by omega), kui_n e (by omega)]; exact h6 i hi⟩
  rw [kui_n e (show ¬ 2 + 3 * j + 1 = 2 + 3 * d by omega), kui_n e (show ¬ 2 + 3 * j + 2 = 2 + 3 * d by omega)]
  refine ⟨?_, (h4 j hj).2⟩
  unfold updG
  by_cases q : j = d
  · subst q; rw [if_pos rfl, kui_s e]
  · rw [if_neg q, kui_n e (by omega)]; exact (h4 j hj).1
theorem nwX_upw {d v : Nat} (h : nwX wn mo Ba We U ke lg f) (e : g = upd f (2 + 3 * d + 1) (nI v)) (hd : d < 9) : nwX wn mo Ba (updG We d v) U ke lg g := by
  obtain ⟨h1, h2, h3, h4, h5, h6⟩ := h
  refine ⟨h1, by rw [kui_n e (by omega), h2], by rw [kui_n e (by omega), h3], fun j hj => ?_, by rw [kui_n e (by omega), h5], fun i hi => by rw [kui_n e (by omega), kui_n e (by omega), kui_n e (by omega)]; exact h6 i hi⟩
  rw [kui_n e (show ¬ 2 + 3 * j = 2 + 3 * d + 1 by omega), kui_n e (show ¬ 2 + 3 * j + 2 = 2 + 3 * d + 1 by omega)]
  refine ⟨(h4 j hj).1, ?_, (h4 j hj).2.2⟩
  unfold updG
  by_cases q : j = d
  · subst q; rw [if_pos rfl, kui_s e]
  · rw [if_neg q, kui_n e (by omega)]; exact (h4 j hj).2.1
theorem nwX_upm {d : Nat} {b : Bool} {x : Int32} (h : nwX wn mo Ba We U ke lg f) (e : g = upd f (2 + 3 * d + 2) x) (hx : x = if b = true then 1 else 0) (hd : d < 9) : nwX wn mo Ba We (updG U d b) ke lg g := by
  obtain ⟨h1, h2, h3, h4, h5, h6⟩ := h
  refine ⟨h1, by rw [kui_n e (by omega), h2], by rw [kui_n e (by omega), h3], fun j hj => ?_, by rw [kui_n e (by omega), h5], fun i hi => by rw [kui_n e (by omega), kui_n e (by omega), kui_n e (by omega)]; exact h6 i hi⟩
  rw [kui_n e (show ¬ 2 + 3 * j = 2 + 3 * d + 2 by omega), kui_n e (show ¬ 2 + 3 * j + 1 = 2 + 3 * d + 2 by omega)]
  refine ⟨(h4 j hj).1, (h4 j hj).2.1, ?_⟩
  unfold updG
  by_cases q : j = d
  · subst q; rw [if_pos rfl, kui_s e, hx]
  · rw [if_neg q, kui_n e (by omega)]; exact (h4 j hj).2.2
/-! the log: thirty are told -/
/-- the first thirty-one weeks but one, shifted: weeks from i on stand as they were -/
def nwS (wn mo : Nat) (Ba We : Nat → Nat) (U : Nat → Bool) (ke : Nat) (lg : KLg) (i : Nat) (f : Nat → Int32) : Prop := mo ≤ 9 ∧ f 0 = nI wn ∧ f 1 = nI mo ∧ (∀ d, d < 9 → f (2 + 3 * d) = nI (Ba d) ∧ f (2 + 3 * d + 1) = nI (We d) ∧ f (2 + 3 * d + 2) = (if U d = true then 1 else 0)) ∧ f 29 = nI 30 ∧ ∃ h : Nat → Int32, nwX wn mo Ba We U ke lg h ∧ (∀ k, 30 ≤ k → k < i → f k = h (k + 3)) ∧ ∀ k, i ≤ k → k < 120 → f k = h k
theorem nwS_0 (h : nwX wn mo Ba We U ke lg f) (hk : 30 ≤ ke) : nwS wn mo Ba We U ke lg 30 f := by
  have h0 := h
  obtain ⟨h1, h2, h3, h4, h5, h6⟩ := h
  exact ⟨h1, h2, h3, h4, by rw [h5, Nat.min_eq_right hk], f, h0, fun k h7 h8 => absurd h7 (by omega), fun k _ _ => rfl⟩
theorem nwS_s {i : Nat} {x : Int32} (h : nwS wn mo Ba We U ke lg i f) (e : g = upd f i x) (hx : x = f (i + 3)) (h30 : 30 ≤ i) (hi : i < 117) : nwS wn mo Ba We U ke lg (i + 1) g := by
  obtain ⟨h1, h2, h3, h4, h5, z, h6, h7, h8⟩ := h
  refine ⟨h1, by rw [kui_n e (by omega), h2], by rw [kui_n e (by omega), h3], fun d hd => by rw [kui_n e (by omega), kui_n e (by omega), kui_n e (by omega)]; exact h4 d hd, by rw [kui_n e (by omega), h5], z, h6, fun k a b => ?_, fun k a b => by rw [kui_n e (by omega)]; exact h8 k (by omega) b⟩
  by_cases q : k = i
  · subst q; rw [kui_s e, hx, h8 (k + 3) (by omega) (by omega)]
  · rw [kui_n e q]; exact h7 k a (by omega)
/-- now with a place for one more -/
def nwT (wn mo : Nat) (Ba We : Nat → Nat) (U : Nat → Bool) (ke : Nat) (lg : KLg) (f : Nat → Int32) : Prop := mo ≤ 9 ∧ f 0 = nI wn ∧ f 1 = nI mo ∧ (∀ d, d < 9 → f (2 + 3 * d) = nI (Ba d) ∧ f (2 + 3 * d + 1) = nI (We d) ∧ f (2 + 3 * d + 2) = (if U d = true then 1 else 0)) ∧ f 29 = nI (min (ke + 1) 30) ∧ ∀ i, i + 1 < min (ke + 1) 30 → f (30 + 3 * i) = nI (lg (ke + 1 - min (ke + 1) 30 + i)).1 ∧ f (30 + 3 * i + 1) = nI (lg (ke + 1 - min (ke + 1) 30 + i)).2.1 ∧ f (30 + 3 * i + 2) = nI (lg (ke + 1 - min (ke + 1) 30 + i)).2.2
theorem nwT_of (h : nwS wn mo Ba We U ke lg 117 f) (hk : 30 ≤ ke) : nwT wn mo Ba We U ke lg f := by
  obtain ⟨h1, h2, h3, h4, h5, z, h6, h7, h8⟩ := h
  refine ⟨h1, h2, h3, h4, by rw [h5, Nat.min_eq_right (by omega)], fun i hi => ?_⟩
  have h9 := h6.2.2.2.2.2 (i + 1) (by omega)
  rw [h7 _ (by omega) (by omega), h7 _ (by omega) (by omega), h7 _ (by omega) (by omega), show ke + 1 - min (ke + 1) 30 + i = ke - min ke 30 + (i + 1) by omega]
  rw [show 30 + 3 * i + 3 = 30 + 3 * (i + 1) by omega, show 30 + 3 * i + 1 + 3 = 30 + 3 * (i + 1) + 1 by omega, show 30 + 3 * i + 2 + 3 = 30 + 3 * (i + 1) + 2 by omega]
  exact h9
theorem nwT_up {x : Int32} (h : nwX wn mo Ba We U ke lg f) (e : g = upd f 29 x) (hx : x = nI (min ke 30 + 1)) (hk : ke < 30) : nwT wn mo Ba We U ke lg g := by
  obtain ⟨h1, h2, h3, h4, h5, h6⟩ := h
  refine ⟨h1, by rw [kui_n e (by omega), h2], by rw [kui_n e (by omega), h3], fun d hd => by rw [kui_n e (by omega), kui_n e (by omega), kui_n e (by omega)]; exact h4 d hd, by rw [kui_s e, hx, show min ke 30 + 1 = min (ke + 1) 30 by omega], fun i hi => ?_⟩
  rw [kui_n e (by omega), kui_n e (by omega), kui_n e (by omega), show ke + 1 - min (ke + 1) 30 + i = ke - min ke 30 + i by omega]
  exact h6 i (by omega)
theorem nwT_29 (h : nwT wn mo Ba We U ke lg f) : f (29 : Int32).toNatClampNeg = nI (min (ke + 1) 30) := h.2.2.2.2.1
theorem nwT_0 (h : nwT wn mo Ba We U ke lg f) : f (0 : Int32).toNatClampNeg = nI wn := h.2.1
/-- the newest week is told -/
theorem nwT_3 {g1 g2 g3 : Nat → Int32} {k a b c : Nat} (h : nwT wn mo Ba We U ke lg f) (e1 : g1 = upd f k (nI a)) (e2 : g2 = upd g1 (k + 1) (nI b)) (e3 : g3 = upd g2 (k + 2) (nI c)) (hk : k = 30 + 3 * min (ke + 1) 30 - 3) : nwX wn mo Ba We U (ke + 1) (updG lg ke (a, b, c)) g3 := by
  obtain ⟨h1, h2, h3, h4, h5, h6⟩ := h
  have hn : ∀ j, ¬ j = k → ¬ j = k + 1 → ¬ j = k + 2 → g3 j = f j := fun j q1 q2 q3 => by rw [kui_n e3 q3, kui_n e2 q2, kui_n e1 q1]
  refine ⟨h1, by rw [hn 0 (by omega) (by omega) (by omega), h2], by rw [hn 1 (by omega) (by omega) (by omega), h3], fun d hd => by rw [hn _ (by omega) (by omega) (by omega), hn _ (by omega) (by omega) (by omega), hn _ (by omega) (by omega) (by omega)]; exact h4 d hd, by rw [hn 29 (by omega) (by omega) (by omega), h5], fun i hi => ?_⟩
  unfold updG
  by_cases q : ke + 1 - min (ke + 1) 30 + i = ke
  · rw [if_pos q]
    have ei : i = min (ke + 1) 30 - 1 := by omega
    have ek : 30 + 3 * i = k := by omega
    rw [ek]
    refine ⟨?_, ?_, ?_⟩
    · rw [kui_n e3 (by omega), kui_n e2 (by omega), kui_s e1]
    · rw [kui_n e3 (by omega), kui_s e2]
    · rw [kui_s e3]
  · rw [if_neg q, hn _ (by omega) (by omega) (by omega), hn _ (by omega) (by omega) (by omega), hn _ (by omega) (by omega) (by omega)]
    exact h6 i (by omega)
end KwU
/-! saved states -/
abbrev nwN (n : KN) (lg : KLg) (f : Nat → Int32) : Prop := nwX (nWk n) (nMo n) (nBa n) (nWe n) (nMu n) (nKe n) lg f
def kpX (ac nu : Nat) (su : Nat → KN) (lg : KLg) (kp : Nat → Int32) : Prop := ∀ j, j < ac → nwN (su j) lg (fun k => kp (120 * ((nu + 21 + j - ac) % 20) + k))
theorem nwX_lg {wn mo ke k : Nat} {Ba We : Nat → Nat} {U : Nat → Bool} {lg : KLg} {f : Nat → Int32} {x : Nat × Nat × Nat} (h : nwX wn mo Ba We U ke lg f) (hk : ke ≤ k) : nwX wn mo Ba We U ke (updG lg k x) f := by
  obtain ⟨h1, h2, h3, h4, h5, h6⟩ := h
  refine ⟨h1, h2, h3, h4, h5, fun i hi => ?_⟩
  unfold updG
  rw [if_neg (by omega)]
  exact h6 i hi
theorem kpX_lg {ac nu k : Nat} {su : Nat → KN} {lg : KLg} {kp : Nat → Int32} {x : Nat × Nat × Nat} (h : kpX ac nu su lg kp) (hk : ∀ j, j < ac → nKe (su j) ≤ k) : kpX ac nu su (updG lg k x) kp := fun j hj => nwX_lg (h j hj) (hk j hj)
theorem nwX_cg {wn mo ke : Nat} {Ba We : Nat → Nat} {U : Nat → Bool} {lg : KLg} {f g : Nat → Int32} (h : nwX wn mo Ba We U ke lg f) (e : ∀ k, k < 120 → g k = f k) : nwX wn mo Ba We U ke lg g := by
  obtain ⟨h1, h2, h3, h4, h5, h6⟩ := h
  exact ⟨h1, by rw [e 0 (by omega), h2], by rw [e 1 (by omega), h3], fun d hd => by rw [e _ (by omega), e _ (by omega), e _ (by omega)]; exact h4 d hd, by rw [e 29 (by omega), h5], fun i hi => by rw [e _ (by omega), e _ (by omega), e _ (by omega)]; exact h6 i hi⟩
theorem kpX_push {ac nu : Nat} {n : KN} {su : Nat → KN} {lg : KLg} {kp kq nw : Nat → Int32} (h : kpX ac nu su lg kp) (hn : nwN n lg nw) (hnu : nu < 20) (hac : ac ≤ 20) (e1 : ∀ k, k < 120 → kq (120 * ((nu + 1) % 20) + k) = nw k) (e2 : ∀ j, j < 120 * ((nu + 1) % 20) ∨ 120 * ((nu + 1) % 20) + 120 ≤ j → kq j = kp j) : kpX (min (ac + 1) 20) ((nu + 1) % 20) (psh ac su n) lg kq := fun j hj => by
  by_cases q : ac < 20
  · unfold psh
    rw [if_pos q]
    unfold updG
    by_cases e : j = ac
    · rw [if_pos e]
      refine nwX_cg hn (fun k hk => ?_)
      show kq (120 * (((nu + 1) % 20 + 21 + j - min (ac + 1) 20) % 20) + k) = nw k
      rw [show ((nu + 1) % 20 + 21 + j - min (ac + 1) 20) % 20 = (nu + 1) % 20 by omega]
      exact e1 k hk
    · rw [if_neg e]
      refine nwX_cg (h j (by omega)) (fun k hk => ?_)
      show kq (120 * (((nu + 1) % 20 + 21 + j - min (ac + 1) 20) % 20) + k) = kp (120 * ((nu + 21 + j - ac) % 20) + k)
      rw [show ((nu + 1) % 20 + 21 + j - min (ac + 1) 20) % 20 = (nu + 21 + j - ac) % 20 by omega]
      exact e2 _ (by omega)
  · unfold psh
    rw [if_neg q]
    unfold updG
    by_cases e : j = 19
    · rw [if_pos e]
      refine nwX_cg hn (fun k hk => ?_)
      show kq (120 * (((nu + 1) % 20 + 21 + j - min (ac + 1) 20) % 20) + k) = nw k
      rw [show ((nu + 1) % 20 + 21 + j - min (ac + 1) 20) % 20 = (nu + 1) % 20 by omega]
      exact e1 k hk
    · rw [if_neg e]
      unfold rotG
      rw [if_pos (by omega)]
      refine nwX_cg (h (j + 1) (by omega)) (fun k hk => ?_)
      show kq (120 * (((nu + 1) % 20 + 21 + j - min (ac + 1) 20) % 20) + k) = kp (120 * ((nu + 21 + (j + 1) - ac) % 20) + k)
      rw [show ((nu + 1) % 20 + 21 + j - min (ac + 1) 20) % 20 = (nu + 21 + (j + 1) - ac) % 20 by omega]
      exact e2 _ (by omega)
theorem kpX_top {ac nu : Nat} {su : Nat → KN} {lg : KLg} {kp : Nat → Int32} (h : kpX ac nu su lg kp) (h1 : 1 ≤ ac) (hnu : nu < 20) : nwN (su (ac - 1)) lg (fun k => kp (120 * nu + k)) := by
  refine nwX_cg (h (ac - 1) (by omega)) (fun k hk => ?_)
  show kp (120 * nu + k) = kp (120 * ((nu + 21 + (ac - 1) - ac) % 20) + k)
  rw [show (nu + 21 + (ac - 1) - ac) % 20 = nu by omega]
theorem kpX_pop {ac nu : Nat} {su : Nat → KN} {lg : KLg} {kp : Nat → Int32} (h : kpX ac nu su lg kp) (h20 : ac ≤ 20) : kpX (ac - 1) ((nu + 20 - 1) % 20) su lg kp := fun j hj => by
  refine nwX_cg (h j (by omega)) (fun k hk => ?_)
  show kp (120 * (((nu + 20 - 1) % 20 + 21 + j - (ac - 1)) % 20) + k) = kp (120 * ((nu + 21 + j - ac) % 20) + k)
  rw [show ((nu + 20 - 1) % 20 + 21 + j - (ac - 1)) % 20 = (nu + 21 + j - ac) % 20 by omega]
theorem kpX_0 (nu : Nat) (su : Nat → KN) (lg : KLg) (kp : Nat → Int32) : kpX 0 nu su lg kp := fun j hj => absurd hj (Nat.not_lt_zero j)
/-- a copy, so far -/
def kcp (o i : Nat) (f g h : Nat → Int32) : Prop := (∀ k, k < i → h (o + k) = g k) ∧ ∀ j, j < o ∨ o + 120 ≤ j → h j = f j
theorem kcp_0 (o : Nat) (f g : Nat → Int32) : kcp o 0 f g f := ⟨fun k hk => absurd hk (Nat.not_lt_zero k), fun j _ => rfl⟩
theorem kcp_s {o i : Nat} {f g h h2 : Nat → Int32} {x : Int32} (a : kcp o i f g h) (e : h2 = upd h (o + i) x) (hx : x = g i) (hi : i < 120) : kcp o (i + 1) f g h2 := by
  refine ⟨fun k hk => ?_, fun j hj => by rw [kui_n e (by omega)]; exact a.2 j hj⟩
  by_cases q : k = i
  · subst q; rw [kui_s e, hx]
  · rw [kui_n e (by omega)]; exact a.1 k (by omega)
def kc0 (i : Nat) (f h : Nat → Int32) : Prop := ∀ k, k < i → h k = f k
theorem kc0_0 (f h : Nat → Int32) : kc0 0 f h := fun k hk => absurd hk (Nat.not_lt_zero k)
theorem kc0_s {i : Nat} {f h h2 : Nat → Int32} {x : Int32} (a : kc0 i f h) (e : h2 = upd h i x) (hx : x = f i) : kc0 (i + 1) f h2 := fun k hk => by
  by_cases q : k = i
  · subst q; rw [kui_s e, hx]
  · rw [kui_n e q]; exact a k (by omega)
/-! a number, by its long -/
theorem kin0 {d : Int32} {z : Int64} {n : Nat} (hz : z.toInt + 1 = (n : Int)) (hn : n ≤ 2147483648) : ((0 : Int64) ≤ d.toInt64 ∧ d.toInt64 ≤ z) ↔ kIn d n := by
  constructor
  · intro h
    obtain ⟨k, hk, e⟩ := inK n h.1 h.2 (by omega)
    exact ⟨k, hk, e⟩
  · intro ⟨k, hk, e⟩
    subst e
    rw [Int64.le_iff_toInt_le, Int64.le_iff_toInt_le, lgv k (by omega)]
    have e0 : (0 : Int64).toInt = 0 := rfl
    omega
theorem kw_l2i {n : Nat} (h : n ≤ 1000000000) : (Int64.ofNat n).toInt32 = nI n := kten_i (by rw [kofn_int (by omega)]) (by omega)
set_option maxHeartbeats 4000000 in
set_option maxRecDepth 100000 in
theorem c_nm_laysAll (l : Launch) (D : va_G) (cI cJ cC cZ cS : ClassId) (mm : Nat) (g : Nat → Nat) (ta : Nat) (pa : Nat) (pe : Nat) (pd : Int32) (pb : Nat) (pp : Int32) (pf : Int32) (pg : Int32) (pn : Int32) (rt : Int32) (rn : Int32) (cd : Nat) (sn : Int32) (il : Nat) (tk : Int32) (am : Int32) (at_ : Int32) (aa : Int32) (wt : Int32) (wy : Int64) (it_ : Nat) (rm : Nat) (ud : Nat) (nu : Nat) (sd : Int64) (qn : Nat) (qw : Nat) (qo : Int32) (qb : Nat) (qp : Nat) (qa : Int64) (qi : Nat) (oc : Nat) (u0 : Int32) (u1 : Int32) (u2 : Int32) (u3 : Int32) (u4 : Int32) (u5 : Int32) (v0 : Int32) (v1 : Int32) (v2 : Int32) (v3 : Int32) (v4 : Int32) (v5 : Int32) (cs : Nat → Nat) (nw : Nat → Int32) (pt : Nat → Nat) (ql : Nat → Int64) (l0 : Nat) (l1 : Nat) (dm : Nat) (l3 : Nat) (ws_ : Nat → Int32) (yw : Nat → Int32) (yo : Nat → Int32) (be : Nat → Int64) (bf : Nat → Int64) (wn : Nat) (mN : Nat) (Ba : Nat → Nat) (We : Nat → Nat) (U : Nat → Bool) (ke : Nat) (lg : KLg) (L : LkS) (hdm : dm ≤ 9) (hdm1 : 1 ≤ dm) (hLk : kcLk L) (hkl : (lK L).length ≤ 1600) (hmw0 : mwO L 0 u3 v3 cs) (hmw1 : mwO L 1 u4 v4 cs) (hB9 : ∀ j, Ba j ≤ 9) (hW9 : ∀ j, We j ≤ 9) (hwk : wn ≤ 999) (hcs : ∀ j, cs j ≤ 20000) (hnw : nwX wn mN Ba We U ke lg nw) (hpt : ∀ j, pt j ≤ 9) : skM l yX12_laysAll cX12_laysAll 1 none 5 122 0 0 D (skT cI cJ cC cZ cS) [.ref mm] [ro_ mm 12 (mo g (nI ta) (nI pa) (nI pe) pd (nI pb) pp pf pg pn rt rn (nI cd) sn (nI il) tk am at_ aa 0 0 (-1) wt wy (nI it_) (nI rm) (nI ud) (nI nu) sd (nI qn) (nI qw) qo (nI qb) (nI qp) qa (nI qi) (nI oc)), ra_I (g 24) cI 6 (l6 u0 u1 u2 u3 u4 u5), ra_I (g 25) cI 6 (l6 v0 v1 v2 v3 v4 v5), ra_N (g 26) cI 3200 cs, ra_I (g 31) cI 120 nw, ra_N (g 46) cI 9 pt, ra_J (g 86) cJ 1700 ql, ra_I (g 20) cI 4 (l4 (nI l0) (nI l1) (nI dm) (nI l3)), ra_I (g 38) cI 90 ws_, ra_I (g 36) cZ 900 yw, ra_I (g 37) cZ 900 yo, ra_J (g 43) cJ 90 be, ra_J (g 44) cJ 90 bf] (skV D (skT cI cJ cC cZ cS) (fun (u : va_W) => ∃ (tk2 : Int32), ∃ (qp2 : Nat), ∃ (am2 : Int32), ∃ (at_2 : Int32), ∃ (aa2 : Int32), ∃ (wy2 : Int64), ∃ (ql2 : Nat → Int64), ∃ (ws_2 : Nat → Int32), ∃ (yw2 : Nat → Int32), ∃ (yo2 : Nat → Int32), ∃ (be2 : Nat → Int64), ∃ (bf2 : Nat → Int64), beOk (cfN nw yw2 yo2 0) dm 0 be2 ∧ (∀ d, d < dm → ∀ a m, a < 10 → m < 10 → (cfN nw yw2 yo2 0) d a m = (kcFo L wn Ba We U 0) d a m) ∧ wy2 = Int64.ofNat (kcC (kcFo L wn Ba We U 0) dm 0 mN) ∧ u = [ro_ mm 12 (mo g (nI ta) (nI pa) (nI pe) pd (nI pb) pp pf pg pn rt rn (nI cd) sn (nI il) tk2 am2 at_2 aa2 0 0 (-1) wt wy2 (nI it_) (nI rm) (nI ud) (nI nu) sd (nI qn) (nI qw) qo (nI qb) (nI qp2) qa (nI qi) (nI oc)), ra_I (g 24) cI 6 (l6 u0 u1 u2 u3 u4 u5), ra_I (g 25) cI 6 (l6 v0 v1 v2 v3 v4 v5), ra_N (g 26) cI 3200 cs, ra_I (g 31) cI 120 nw, ra_N (g 46) cI 9 pt, ra_J (g 86) cJ 1700 ql2, ra_I (g 20) cI 4 (l4 (nI l0) (nI l1) (nI dm) (nI l3)), ra_I (g 38) cI 90 ws_2, ra_I (g 36) cZ 900 yw2, ra_I (g 37) cZ 900 yo2, ra_J (g 43) cJ 90 be2, ra_J (g 44) cJ 90 bf2])) := by
  refine skM_of pf_X12_laysAll (Nat.le_of_ble_eq_true rfl) ?_
  intro p e s m below meth c A ls E hP hD hl
  refine skE_el E (fun hx hb hr hml hlocks hin hown hts hK hA => ?_)
  have hown : s.vm.findClass RX12 = some m.cls := hown
  have hS : va_S A s.heap s.heap [] := va_S.rf
  have hl : lv_has ls 1 [(0, .ref mm)] := hl
  refine lv_aload_n hx hb dX12_laysAll_0 rfl (lv_at hl 0 rfl) ?_
  refine lv_iconst (v := 0) hx hb dX12_laysAll_1 ic_0 ?_
  refine sk_Vv (q0 := 0) (n := 1) (rest := []) (wr := fmR om_13_1ffc _) ⟨hx, hb, hml, hown, hts⟩ hl.1 (c_nm_laysDays l D cI cJ cC cZ cS mm g ta pa pe pd pb pp pf pg pn rt rn cd sn il tk am at_ aa 0 wt wy it_ rm ud nu sd qn qw qo qb qp qa qi oc 0 u0 u1 u2 u3 u4 u5 v0 v1 v2 v3 v4 v5 cs nw pt ql l0 l1 dm l3 ws_ yw yo L wn Ba We hdm (by decide) hLk hkl hmw0 hmw1 hB9 hW9 hwk (fun d hd => nwX_md hnw (by omega)) hcs (nwX_ok hnw) hpt) w_7_193 w_7_195 w_0_83 w_1_14 w_7_196 hd_X12_laysDays_1 ⟨⟨(Nat.le_of_ble_eq_true rfl), (Nat.le_of_ble_eq_true rfl)⟩, (Nat.le_of_ble_eq_true rfl), (Nat.le_of_ble_eq_true rfl)⟩ hK hP hD hS hA (fmT om_13_1ffc 0) (fmF om_13_1ffc 0) (fm_C1 rfl rfl) (fm_R rfl rfl) (fm_nT om_13_1ffc 0) (fm_nF om_13_1ffc 0) (fm_di om_13_1ffc 0) rfl rfl rfl rfl (Nat.le_of_ble_eq_true rfl) dX12_laysAll_2 (fun u H locs hw hP hD hS => ?_)
  refine exE hw (fun tk2_1 hw1 => exE hw1 (fun qp2_2 hw2 => exE hw2 (fun am2_3 hw3 => exE hw3 (fun at_2_4 hw4 => exE hw4 (fun aa2_5 hw5 => exE hw5 (fun ql2_6 hw6 => exE hw6 (fun ws_2_7 hw7 => exE hw7 (fun yw2_8 hw8 => exE hw8 (fun yo2_9 hw9 => anE hw9 (fun hld_10 eu_11 => ?_))))))))))
  clear hw hw1 hw2 hw3 hw4 hw5 hw6 hw7 hw8 hw9
  refine o_mgE (ws' := [ro_ mm 12 (mo g (nI ta) (nI pa) (nI pe) pd (nI pb) pp pf pg pn rt rn (nI cd) sn (nI il) tk2_1 am2_3 at_2_4 aa2_5 0 0 (-1) wt wy (nI it_) (nI rm) (nI ud) (nI nu) sd (nI qn) (nI qw) qo (nI qb) (nI qp2_2) qa (nI qi) (nI oc)), ra_I (g 24) cI 6 (l6 u0 u1 u2 u3 u4 u5), ra_I (g 25) cI 6 (l6 v0 v1 v2 v3 v4 v5), ra_N (g 26) cI 3200 cs, ra_I (g 31) cI 120 nw, ra_N (g 46) cI 9 pt, ra_J (g 86) cJ 1700 ql2_6, ra_I (g 20) cI 4 (l4 (nI l0) (nI l1) (nI dm) (nI l3)), ra_I (g 38) cI 90 ws_2_7, ra_I (g 36) cZ 900 yw2_8, ra_I (g 37) cZ 900 yo2_9, ra_J (g 43) cJ 90 be, ra_J (g 44) cJ 90 bf]) eu_11 hP hD rfl (fun hP hD => ?_)
  refine lv_aload_n hx hb dX12_laysAll_5 rfl (lv_at hl 0 rfl) ?_
  refine sk_Vv (q0 := 0) (n := 0) (rest := []) (wr := fmR om_13_112f _) ⟨hx, hb, hml, hown, hts⟩ hl.1 (c_m_laysWays0 l D cI cJ cC cZ cS mm g ta pa pe pd pb pp pf pg pn rt rn cd sn il tk2_1 am2_3 at_2_4 aa2_5 0 wt wy it_ rm ud nu sd qn qw qo qb qp2_2 qa qi oc l0 l1 dm l3 nw yo2_9 yw2_8 be bf hdm hdm1 (nwX_ok hnw)) w_7_197 w_7_199 w_0_84 w_1_14 w_7_200 hd_X12_laysWays_0 ⟨⟨(Nat.le_of_ble_eq_true rfl), (Nat.le_of_ble_eq_true rfl)⟩, (Nat.le_of_ble_eq_true rfl), (Nat.le_of_ble_eq_true rfl)⟩ hK hP hD hS hA [0, 7, 4, 10, 9, 11, 12] (fmF om_13_112f 0) rfl (fm_R rfl rfl) (by decide +kernel) (fm_nF om_13_112f 0) (by decide +kernel) rfl rfl rfl rfl (Nat.le_of_ble_eq_true rfl) dX12_laysAll_6 (fun u H locs hw hP hD hS => ?_)
  refine exE hw (fun wy2_12 hw1 => exE hw1 (fun be2_13 hw2 => exE hw2 (fun bf2_14 hw3 => anE hw3 (fun hbe_15 hw4 => anE hw4 (fun hwy_16 eu_17 => ?_)))))
  clear hw hw1 hw2 hw3 hw4
  refine o_mgqE (ux := [ro_ mm 12 (mo g (nI ta) (nI pa) (nI pe) pd (nI pb) pp pf pg pn rt rn (nI cd) sn (nI il) tk2_1 am2_3 at_2_4 aa2_5 0 0 (-1) wt wy2_12 (nI it_) (nI rm) (nI ud) (nI nu) sd (nI qn) (nI qw) qo (nI qb) (nI qp2_2) qa (nI qi) (nI oc)), ra_I (g 31) cI 120 nw, ra_I (g 20) cI 4 (l4 (nI l0) (nI l1) (nI dm) (nI l3)), ra_I (g 36) cZ 900 yw2_8, ra_I (g 37) cZ 900 yo2_9, ra_J (g 43) cJ 90 be2_13, ra_J (g 44) cJ 90 bf2_14]) (ws' := [ro_ mm 12 (mo g (nI ta) (nI pa) (nI pe) pd (nI pb) pp pf pg pn rt rn (nI cd) sn (nI il) tk2_1 am2_3 at_2_4 aa2_5 0 0 (-1) wt wy2_12 (nI it_) (nI rm) (nI ud) (nI nu) sd (nI qn) (nI qw) qo (nI qb) (nI qp2_2) qa (nI qi) (nI oc)), ra_I (g 24) cI 6 (l6 u0 u1 u2 u3 u4 u5), ra_I (g 25) cI 6 (l6 v0 v1 v2 v3 v4 v5), ra_N (g 26) cI 3200 cs, ra_I (g 31) cI 120 nw, ra_N (g 46) cI 9 pt, ra_J (g 86) cJ 1700 ql2_6, ra_I (g 20) cI 4 (l4 (nI l0) (nI l1) (nI dm) (nI l3)), ra_I (g 38) cI 90 ws_2_7, ra_I (g 36) cZ 900 yw2_8, ra_I (g 37) cZ 900 yo2_9, ra_J (g 43) cJ 90 be2_13, ra_J (g 44) cJ 90 bf2_14]) eu_17 [0, 2, 1, 4, 3, 5, 6] (by decide +kernel) rfl hP hD rfl (fun hP hD => ?_)
  exact sk_vret hx hb hr hlocks hK hP hD hS (⟨tk2_1, qp2_2, am2_3, at_2_4, aa2_5, wy2_12, ql2_6, ws_2_7, yw2_8, yo2_9, be2_13, bf2_14, hbe_15, (cfX hnw hld_10 (by omega)), (hwy_16.trans (congrArg Int64.ofNat (wyX (cfX hnw hld_10 (by omega)) (by omega) (nwX_a0 hnw) hnw.1))), rfl⟩) (Nat.le_of_ble_eq_true rfl) (Nat.le_of_ble_eq_true rfl) dX12_laysAll_9
theorem dg_X12_isKept_0_0 : bqL cX12_isKept 0 [(0, [42]), (1, [180, 1, 135]), (4, [153, 0, 4]), (63, [16, 30]), (65, [6]), (66, [42]), (67, [180, 0, 63]), (70, [16, 29]), (72, [46]), (73, [104]), (74, [96]), (75, [6]), (76, [100]), (77, [60]), (78, [42]), (79, [180, 0, 63]), (82, [27]), (83, [42]), (84, [180, 0, 63]), (87, [3]), (88, [46]), (89, [79]), (90, [42]), (91, [180, 0, 63]), (94, [27]), (95, [4]), (96, [96]), (97, [42]), (98, [180, 1, 126]), (101, [136]), (102, [79]), (103, [42]), (104, [180, 0, 63]), (107, [27]), (108, [5]), (109, [96]), (110, [42]), (111, [180, 0, 89]), (114, [42]), (115, [182, 1, 59])] = true := by decide +kernel
theorem dX12_isKept_0 : decode cX12_isKept 0 = .ok (.aload_n 0, 1) := q_aload_n0 (bat_get dg_X12_isKept_0_0 0 rfl rfl)
theorem dX12_isKept_1 : decode cX12_isKept 1 = .ok (.getfield 391, 3) := q_getfield (bat_get dg_X12_isKept_0_0 1 rfl rfl) rfl
theorem dX12_isKept_4 : decode cX12_isKept 4 = .ok (.ifCond .eq 4, 3) := q_ifCond_eq (bat_get dg_X12_isKept_0_0 2 rfl rfl) rfl
theorem dX12_isKept_63 : decode cX12_isKept 63 = .ok (.bipush 30, 2) := q_bipush (bat_get dg_X12_isKept_0_0 3 rfl rfl) rfl
theorem dX12_isKept_65 : decode cX12_isKept 65 = .ok (.iconst 3, 1) := q_iconst3 (bat_get dg_X12_isKept_0_0 4 rfl rfl)
theorem dX12_isKept_66 : decode cX12_isKept 66 = .ok (.aload_n 0, 1) := q_aload_n0 (bat_get dg_X12_isKept_0_0 5 rfl rfl)
theorem dX12_isKept_67 : decode cX12_isKept 67 = .ok (.getfield 63, 3) := q_getfield (bat_get dg_X12_isKept_0_0 6 rfl rfl) rfl
theorem dX12_isKept_70 : decode cX12_isKept 70 = .ok (.bipush 29, 2) := q_bipush (bat_get dg_X12_isKept_0_0 7 rfl rfl) rfl
theorem dX12_isKept_72 : decode cX12_isKept 72 = .ok (.iaload, 1) := q_iaload (bat_get dg_X12_isKept_0_0 8 rfl rfl)
theorem dX12_isKept_73 : decode cX12_isKept 73 = .ok (.imul, 1) := q_imul (bat_get dg_X12_isKept_0_0 9 rfl rfl)
theorem dX12_isKept_74 : decode cX12_isKept 74 = .ok (.iadd, 1) := q_iadd (bat_get dg_X12_isKept_0_0 10 rfl rfl)
theorem dX12_isKept_75 : decode cX12_isKept 75 = .ok (.iconst 3, 1) := q_iconst3 (bat_get dg_X12_isKept_0_0 11 rfl rfl)
theorem dX12_isKept_76 : decode cX12_isKept 76 = .ok (.isub, 1) := q_isub (bat_get dg_X12_isKept_0_0 12 rfl rfl)
theorem dX12_isKept_77 : decode cX12_isKept 77 = .ok (.istore_n 1, 1) := q_istore_n1 (bat_get dg_X12_isKept_0_0 13 rfl rfl)
theorem dX12_isKept_78 : decode cX12_isKept 78 = .ok (.aload_n 0, 1) := q_aload_n0 (bat_get dg_X12_isKept_0_0 14 rfl rfl)
theorem dX12_isKept_79 : decode cX12_isKept 79 = .ok (.getfield 63, 3) := q_getfield (bat_get dg_X12_isKept_0_0 15 rfl rfl) rfl
theorem dX12_isKept_82 : decode cX12_isKept 82 = .ok (.iload_n 1, 1) := q_iload_n1 (bat_get dg_X12_isKept_0_0 16 rfl rfl)
theorem dX12_isKept_83 : decode cX12_isKept 83 = .ok (.aload_n 0, 1) := q_aload_n0 (bat_get dg_X12_isKept_0_0 17 rfl rfl)
theorem dX12_isKept_84 : decode cX12_isKept 84 = .ok (.getfield 63, 3) := q_getfield (bat_get dg_X12_isKept_0_0 18 rfl rfl) rfl
theorem dX12_isKept_87 : decode cX12_isKept 87 = .ok (.iconst 0, 1) := q_iconst0 (bat_get dg_X12_isKept_0_0 19 rfl rfl)
theorem dX12_isKept_88 : decode cX12_isKept 88 = .ok (.iaload, 1) := q_iaload (bat_get dg_X12_isKept_0_0 20 rfl rfl)
theorem dX12_isKept_89 : decode cX12_isKept 89 = .ok (.iastore, 1) := q_iastore (bat_get dg_X12_isKept_0_0 21 rfl rfl)
theorem dX12_isKept_90 : decode cX12_isKept 90 = .ok (.aload_n 0, 1) := q_aload_n0 (bat_get dg_X12_isKept_0_0 22 rfl rfl)
theorem dX12_isKept_91 : decode cX12_isKept 91 = .ok (.getfield 63, 3) := q_getfield (bat_get dg_X12_isKept_0_0 23 rfl rfl) rfl
theorem dX12_isKept_94 : decode cX12_isKept 94 = .ok (.iload_n 1, 1) := q_iload_n1 (bat_get dg_X12_isKept_0_0 24 rfl rfl)
theorem dX12_isKept_95 : decode cX12_isKept 95 = .ok (.iconst 1, 1) := q_iconst1 (bat_get dg_X12_isKept_0_0 25 rfl rfl)
theorem dX12_isKept_96 : decode cX12_isKept 96 = .ok (.iadd, 1) := q_iadd (bat_get dg_X12_isKept_0_0 26 rfl rfl)
theorem dX12_isKept_97 : decode cX12_isKept 97 = .ok (.aload_n 0, 1) := q_aload_n0 (bat_get dg_X12_isKept_0_0 27 rfl rfl)
theorem dX12_isKept_98 : decode cX12_isKept 98 = .ok (.getfield 382, 3) := q_getfield (bat_get dg_X12_isKept_0_0 28 rfl rfl) rfl
theorem dX12_isKept_101 : decode cX12_isKept 101 = .ok (.l2i, 1) := q_l2i (bat_get dg_X12_isKept_0_0 29 rfl rfl)
theorem dX12_isKept_102 : decode cX12_isKept 102 = .ok (.iastore, 1) := q_iastore (bat_get dg_X12_isKept_0_0 30 rfl rfl)
theorem dX12_isKept_103 : decode cX12_isKept 103 = .ok (.aload_n 0, 1) := q_aload_n0 (bat_get dg_X12_isKept_0_0 31 rfl rfl)
theorem dX12_isKept_104 : decode cX12_isKept 104 = .ok (.getfield 63, 3) := q_getfield (bat_get dg_X12_isKept_0_0 32 rfl rfl) rfl
theorem dX12_isKept_107 : decode cX12_isKept 107 = .ok (.iload_n 1, 1) := q_iload_n1 (bat_get dg_X12_isKept_0_0 33 rfl rfl)
theorem dX12_isKept_108 : decode cX12_isKept 108 = .ok (.iconst 2, 1) := q_iconst2 (bat_get dg_X12_isKept_0_0 34 rfl rfl)
theorem dX12_isKept_109 : decode cX12_isKept 109 = .ok (.iadd, 1) := q_iadd (bat_get dg_X12_isKept_0_0 35 rfl rfl)
theorem dX12_isKept_110 : decode cX12_isKept 110 = .ok (.aload_n 0, 1) := q_aload_n0 (bat_get dg_X12_isKept_0_0 36 rfl rfl)
theorem dX12_isKept_111 : decode cX12_isKept 111 = .ok (.getfield 89, 3) := q_getfield (bat_get dg_X12_isKept_0_0 37 rfl rfl) rfl
theorem dX12_isKept_114 : decode cX12_isKept 114 = .ok (.aload_n 0, 1) := q_aload_n0 (bat_get dg_X12_isKept_0_0 38 rfl rfl)
theorem dX12_isKept_115 : decode cX12_isKept 115 = .ok (.invokevirtual 315, 3) := q_invokevirtual (bat_get dg_X12_isKept_0_0 39 rfl rfl) rfl
theorem dg_X12_isKept_8_118 : bqL cX12_isKept 8 [(110, [4]), (111, [100]), (112, [46]), (113, [79]), (114, [177]), (0, [42]), (1, [180, 0, 63]), (4, [16, 29]), (6, [46]), (7, [16, 30]), (9, [160, 0, 35]), (44, [42]), (45, [180, 0, 63]), (48, [16, 29]), (50, [92]), (51, [46]), (52, [4]), (53, [96]), (54, [79]), (12, [16, 30]), (14, [60]), (15, [27]), (16, [16, 117]), (18, [162, 0, 23]), (41, [167, 0, 14]), (21, [42]), (22, [180, 0, 63]), (25, [27]), (26, [42]), (27, [180, 0, 63]), (30, [27]), (31, [6]), (32, [96]), (33, [46]), (34, [79]), (35, [132, 1, 1]), (38, [167, 255, 233])] = true := by decide +kernel
theorem dX12_isKept_118 : decode cX12_isKept 118 = .ok (.iconst 1, 1) := q_iconst1 (bat_get dg_X12_isKept_8_118 0 rfl rfl)
theorem dX12_isKept_119 : decode cX12_isKept 119 = .ok (.isub, 1) := q_isub (bat_get dg_X12_isKept_8_118 1 rfl rfl)
theorem dX12_isKept_120 : decode cX12_isKept 120 = .ok (.iaload, 1) := q_iaload (bat_get dg_X12_isKept_8_118 2 rfl rfl)
theorem dX12_isKept_121 : decode cX12_isKept 121 = .ok (.iastore, 1) := q_iastore (bat_get dg_X12_isKept_8_118 3 rfl rfl)
theorem dX12_isKept_122 : decode cX12_isKept 122 = .ok (.return_, 1) := q_return_ (bat_get dg_X12_isKept_8_118 4 rfl rfl)
theorem dX12_isKept_8 : decode cX12_isKept 8 = .ok (.aload_n 0, 1) := q_aload_n0 (bat_get dg_X12_isKept_8_118 5 rfl rfl)
theorem dX12_isKept_9 : decode cX12_isKept 9 = .ok (.getfield 63, 3) := q_getfield (bat_get dg_X12_isKept_8_118 6 rfl rfl) rfl
theorem dX12_isKept_12 : decode cX12_isKept 12 = .ok (.bipush 29, 2) := q_bipush (bat_get dg_X12_isKept_8_118 7 rfl rfl) rfl
theorem dX12_isKept_14 : decode cX12_isKept 14 = .ok (.iaload, 1) := q_iaload (bat_get dg_X12_isKept_8_118 8 rfl rfl)
theorem dX12_isKept_15 : decode cX12_isKept 15 = .ok (.bipush 30, 2) := q_bipush (bat_get dg_X12_isKept_8_118 9 rfl rfl) rfl
theorem dX12_isKept_17 : decode cX12_isKept 17 = .ok (.if_icmp .ne 35, 3) := q_if_icmp_ne (bat_get dg_X12_isKept_8_118 10 rfl rfl) rfl
theorem dX12_isKept_52 : decode cX12_isKept 52 = .ok (.aload_n 0, 1) := q_aload_n0 (bat_get dg_X12_isKept_8_118 11 rfl rfl)
theorem dX12_isKept_53 : decode cX12_isKept 53 = .ok (.getfield 63, 3) := q_getfield (bat_get dg_X12_isKept_8_118 12 rfl rfl) rfl
theorem dX12_isKept_56 : decode cX12_isKept 56 = .ok (.bipush 29, 2) := q_bipush (bat_get dg_X12_isKept_8_118 13 rfl rfl) rfl
theorem dX12_isKept_58 : decode cX12_isKept 58 = .ok (.dup2, 1) := q_dup2 (bat_get dg_X12_isKept_8_118 14 rfl rfl)
theorem dX12_isKept_59 : decode cX12_isKept 59 = .ok (.iaload, 1) := q_iaload (bat_get dg_X12_isKept_8_118 15 rfl rfl)
theorem dX12_isKept_60 : decode cX12_isKept 60 = .ok (.iconst 1, 1) := q_iconst1 (bat_get dg_X12_isKept_8_118 16 rfl rfl)
theorem dX12_isKept_61 : decode cX12_isKept 61 = .ok (.iadd, 1) := q_iadd (bat_get dg_X12_isKept_8_118 17 rfl rfl)
theorem dX12_isKept_62 : decode cX12_isKept 62 = .ok (.iastore, 1) := q_iastore (bat_get dg_X12_isKept_8_118 18 rfl rfl)
theorem dX12_isKept_20 : decode cX12_isKept 20 = .ok (.bipush 30, 2) := q_bipush (bat_get dg_X12_isKept_8_118 19 rfl rfl) rfl
theorem dX12_isKept_22 : decode cX12_isKept 22 = .ok (.istore_n 1, 1) := q_istore_n1 (bat_get dg_X12_isKept_8_118 20 rfl rfl)
theorem dX12_isKept_23 : decode cX12_isKept 23 = .ok (.iload_n 1, 1) := q_iload_n1 (bat_get dg_X12_isKept_8_118 21 rfl rfl)
theorem dX12_isKept_24 : decode cX12_isKept 24 = .ok (.bipush 117, 2) := q_bipush (bat_get dg_X12_isKept_8_118 22 rfl rfl) rfl
theorem dX12_isKept_26 : decode cX12_isKept 26 = .ok (.if_icmp .ge 23, 3) := q_if_icmp_ge (bat_get dg_X12_isKept_8_118 23 rfl rfl) rfl
theorem dX12_isKept_49 : decode cX12_isKept 49 = .ok (.goto 14, 3) := q_goto (bat_get dg_X12_isKept_8_118 24 rfl rfl) rfl
theorem dX12_isKept_29 : decode cX12_isKept 29 = .ok (.aload_n 0, 1) := q_aload_n0 (bat_get dg_X12_isKept_8_118 25 rfl rfl)
theorem dX12_isKept_30 : decode cX12_isKept 30 = .ok (.getfield 63, 3) := q_getfield (bat_get dg_X12_isKept_8_118 26 rfl rfl) rfl
theorem dX12_isKept_33 : decode cX12_isKept 33 = .ok (.iload_n 1, 1) := q_iload_n1 (bat_get dg_X12_isKept_8_118 27 rfl rfl)
theorem dX12_isKept_34 : decode cX12_isKept 34 = .ok (.aload_n 0, 1) := q_aload_n0 (bat_get dg_X12_isKept_8_118 28 rfl rfl)
theorem dX12_isKept_35 : decode cX12_isKept 35 = .ok (.getfield 63, 3) := q_getfield (bat_get dg_X12_isKept_8_118 29 rfl rfl) rfl
theorem dX12_isKept_38 : decode cX12_isKept 38 = .ok (.iload_n 1, 1) := q_iload_n1 (bat_get dg_X12_isKept_8_118 30 rfl rfl)
theorem dX12_isKept_39 : decode cX12_isKept 39 = .ok (.iconst 3, 1) := q_iconst3 (bat_get dg_X12_isKept_8_118 31 rfl rfl)
theorem dX12_isKept_40 : decode cX12_isKept 40 = .ok (.iadd, 1) := q_iadd (bat_get dg_X12_isKept_8_118 32 rfl rfl)
theorem dX12_isKept_41 : decode cX12_isKept 41 = .ok (.iaload, 1) := q_iaload (bat_get dg_X12_isKept_8_118 33 rfl rfl)
theorem dX12_isKept_42 : decode cX12_isKept 42 = .ok (.iastore, 1) := q_iastore (bat_get dg_X12_isKept_8_118 34 rfl rfl)
theorem dX12_isKept_43 : decode cX12_isKept 43 = .ok (.iinc 1 1, 3) := q_iinc (bat_get dg_X12_isKept_8_118 35 rfl rfl) rfl
theorem dX12_isKept_46 : decode cX12_isKept 46 = .ok (.goto (-23), 3) := q_goto (bat_get dg_X12_isKept_8_118 36 rfl rfl) rfl
theorem w_5_202 : (Cond.fieldLink RX12 391 "SameKeeperModel" "isThought" "Z") ∈ wsL_law := sk_mem (ck_5 _ (List.mem_of_getElem? (i := 202) rfl)) rfl
theorem w_8_24 : (Cond.code yX12_isKept cX12_isKept 2 none) ∈ wsL_law := sk_mem (ck_8 _ (List.mem_of_getElem? (i := 24) rfl)) rfl
set_option maxHeartbeats 4000000 in
set_option maxRecDepth 100000 in
theorem c_nm_isKept (l : Launch) (D : va_G) (cI cJ cC cZ cS : ClassId) (mm : Nat) (g : Nat → Nat) (ta : Nat) (pa : Nat) (pe : Nat) (pd : Int32) (pb : Nat) (pp : Int32) (pf : Int32) (pg : Int32) (pn : Int32) (rt : Int32) (rn : Int32) (cd : Nat) (sn : Int32) (il : Nat) (tk : Int32) (am : Int32) (at_ : Int32) (aa : Int32) (wt : Int32) (wy : Int64) (rm : Nat) (ud : Nat) (nu : Nat) (sd : Int64) (qn : Nat) (qw : Nat) (qo : Int32) (qb : Nat) (qp : Nat) (qa : Int64) (qi : Nat) (oc : Nat) (l0 : Nat) (l1 : Nat) (dm : Nat) (l3 : Nat) (nw : Nat → Int32) (pt : Nat → Nat) (wn : Nat) (mN : Nat) (Ba : Nat → Nat) (We : Nat → Nat) (U : Nat → Bool) (ke : Nat) (lg : KLg) (nn : Nat) (hdm : dm ≤ 9) (hdm1 : 1 ≤ dm) (hwyn : wy = Int64.ofNat nn) (hnn9 : nn ≤ 1000000000) (hnw : nwX wn mN Ba We U ke lg nw) (hpt : ∀ j, pt j ≤ 9) : skM l yX12_isKept cX12_isKept 2 none 1 20 0 0 D (skT cI cJ cC cZ cS) [.ref mm] [ro_ mm 12 (mo g (nI ta) (nI pa) (nI pe) pd (nI pb) pp pf pg pn rt rn (nI cd) sn (nI il) tk am at_ aa 0 0 (-1) wt wy 0 (nI rm) (nI ud) (nI nu) sd (nI qn) (nI qw) qo (nI qb) (nI qp) qa (nI qi) (nI oc)), ra_I (g 20) cI 4 (l4 (nI l0) (nI l1) (nI dm) (nI l3)), ra_I (g 31) cI 120 nw, ra_N (g 46) cI 9 pt] (skV D (skT cI cJ cC cZ cS) (fun (u : va_W) => ∃ (nw2 : Nat → Int32), nwX wn mN Ba We U (ke + 1) (updG lg ke (wn, nn, pt (dm - 1))) nw2 ∧ u = [ro_ mm 12 (mo g (nI ta) (nI pa) (nI pe) pd (nI pb) pp pf pg pn rt rn (nI cd) sn (nI il) tk am at_ aa 0 0 (-1) wt wy 0 (nI rm) (nI ud) (nI nu) sd (nI qn) (nI qw) qo (nI qb) (nI qp) qa (nI qi) (nI oc)), ra_I (g 20) cI 4 (l4 (nI l0) (nI l1) (nI dm) (nI l3)), ra_I (g 31) cI 120 nw2, ra_N (g 46) cI 9 pt])) := by
  refine skM_of pf_X12_isKept (Nat.le_of_ble_eq_true rfl) ?_
  intro p e s m below meth c A ls E hP hD hl
  refine skE_el E (fun hx hb hr hml hlocks hin hown hts hK hA => ?_)
  have hown : s.vm.findClass RX12 = some m.cls := hown
  have hS : va_S A s.heap s.heap [] := va_S.rf
  have hl : lv_has ls 2 [(0, .ref mm)] := hl
  refine lv_aload_n hx hb dX12_isKept_0 rfl (lv_at hl 0 rfl) ?_
  refine sk_get (v := .int 0) (C := RX12) (T := TX12) (N := 92) hx hb hts inlX12 hown hK hP 0 rfl rfl 47 (Nat.le_of_ble_eq_true rfl) w_5_202 rfl dX12_isKept_1 ?_
  refine lv_if_eq (tgt := 8) hx hb dX12_isKept_4 (by decide) (fun c_1 => ?_) (fun c => absurd c (by decide))
  have jn_2 : ∀ (zT : Nat → Int32) (H : Heap) (locs : List Loc) (ls : Array Slot), (nwT wn mN Ba We U ke lg zT) → va_P D vwCl [ro_ mm 12 (mo g (nI ta) (nI pa) (nI pe) pd (nI pb) pp pf pg pn rt rn (nI cd) sn (nI il) tk am at_ aa 0 0 (-1) wt wy 0 (nI rm) (nI ud) (nI nu) sd (nI qn) (nI qw) qo (nI qb) (nI qp) qa (nI qi) (nI oc)), ra_I (g 20) cI 4 (l4 (nI l0) (nI l1) (nI dm) (nI l3)), ra_I (g 31) cI 120 zT, ra_N (g 46) cI 9 pt] H → va_D A [ro_ mm 12 (mo g (nI ta) (nI pa) (nI pe) pd (nI pb) pp pf pg pn rt rn (nI cd) sn (nI il) tk am at_ aa 0 0 (-1) wt wy 0 (nI rm) (nI ud) (nI nu) sd (nI qn) (nI qw) qo (nI qb) (nI qp) qa (nI qi) (nI oc)), ra_I (g 20) cI 4 (l4 (nI l0) (nI l1) (nI dm) (nI l3)), ra_I (g 31) cI 120 zT, ra_N (g 46) cI 9 pt] → va_S A s.heap H locs → lv_has ls 2 [(0, .ref mm)] → W p l e { frames := 1, cells := 0, slots := 0, locals := 20 } s m ([.ref mm] : List Value).toArray below meth c H locs 0 0 (MQ below (skV D (skT cI cJ cC cZ cS) (fun (u : va_W) => ∃ (nw2 : Nat → Int32), nwX wn mN Ba We U (ke + 1) (updG lg ke (wn, nn, pt (dm - 1))) nw2 ∧ u = [ro_ mm 12 (mo g (nI ta) (nI pa) (nI pe) pd (nI pb) pp pf pg pn rt rn (nI cd) sn (nI il) tk am at_ aa 0 0 (-1) wt wy 0 (nI rm) (nI ud) (nI nu) sd (nI qn) (nI qw) qo (nI qb) (nI qp) qa (nI qi) (nI oc)), ra_I (g 20) cI 4 (l4 (nI l0) (nI l1) (nI dm) (nI l3)), ra_I (g 31) cI 120 nw2, ra_N (g 46) cI 9 pt]) A) ([.ref mm] : List Value).toArray s 0 0 A) (F0 m 63 ls []) := by
    intro zT H locs ls hT hP hD hS hl
    refine lv_bipush (v := 30) hx hb dX12_isKept_63 (by decide) ?_
    refine lv_iconst (v := 3) hx hb dX12_isKept_65 ic_3 ?_
    refine lv_aload_n hx hb dX12_isKept_66 rfl (lv_at hl 0 rfl) ?_
    refine sk_get (v := .ref (g 31)) (C := RX12) (T := TX12) (N := 92) hx hb hts inlX12 hown hK hP 0 rfl rfl 31 (Nat.le_of_ble_eq_true rfl) w_5_186 rfl dX12_isKept_67 ?_
    refine lv_bipush (v := 29) hx hb dX12_isKept_70 (by decide) ?_
    refine va_iald hx hb hK.1 hP 2 0 rfl rfl (by unfold vp_in; decide) dX12_isKept_72 ?_
    refine sk_top (nI (min (ke + 1) 30)) (nwT_29 hT) ?_
    refine lv_imul hx hb dX12_isKept_73 ?_
    refine sk_top (nI (3 * (min (ke + 1) 30))) (nmul 3 (min (ke + 1) 30)) ?_
    refine lv_iadd hx hb dX12_isKept_74 ?_
    refine sk_top (nI (30 + (3 * (min (ke + 1) 30)))) (nI_add 30 (3 * (min (ke + 1) 30))) ?_
    refine lv_iconst (v := 3) hx hb dX12_isKept_75 ic_3 ?_
    refine lv_isub hx hb dX12_isKept_76 ?_
    refine sk_top (nI (30 + (3 * (min (ke + 1) 30)) - 3)) (nsub (30 + (3 * (min (ke + 1) 30))) 3 (by omega)) ?_
    refine lv_istore_n (lv' := [(1, .int (nI (30 + (3 * (min (ke + 1) 30)) - 3))), (0, .ref mm)]) hx hb dX12_isKept_77 rfl hl (by decide) rfl (fun ls hl => ?_)
    refine lv_aload_n hx hb dX12_isKept_78 rfl (lv_at hl 1 rfl) ?_
    refine sk_get (v := .ref (g 31)) (C := RX12) (T := TX12) (N := 92) hx hb hts inlX12 hown hK hP 0 rfl rfl 31 (Nat.le_of_ble_eq_true rfl) w_5_186 rfl dX12_isKept_79 ?_
    refine lv_iload_n hx hb dX12_isKept_82 rfl (lv_at hl 0 rfl) ?_
    refine lv_aload_n hx hb dX12_isKept_83 rfl (lv_at hl 1 rfl) ?_
    refine sk_get (v := .ref (g 31)) (C := RX12) (T := TX12) (N := 92) hx hb hts inlX12 hown hK hP 0 rfl rfl 31 (Nat.le_of_ble_eq_true rfl) w_5_186 rfl dX12_isKept_84 ?_
    refine lv_iconst (v := 0) hx hb dX12_isKept_87 ic_0 ?_
    refine va_iald hx hb hK.1 hP 2 0 rfl rfl (by unfold vp_in; decide) dX12_isKept_88 ?_
    refine sk_top (nI wn) (nwT_0 hT) ?_
    refine sk_iastE (k := (30 + (3 * (min (ke + 1) 30)) - 3)) (x := (nI wn)) (ws' := fun f_3 => [ro_ mm 12 (mo g (nI ta) (nI pa) (nI pe) pd (nI pb) pp pf pg pn rt rn (nI cd) sn (nI il) tk am at_ aa 0 0 (-1) wt wy 0 (nI rm) (nI ud) (nI nu) sd (nI qn) (nI qw) qo (nI qb) (nI qp) qa (nI qi) (nI oc)), ra_I (g 20) cI 4 (l4 (nI l0) (nI l1) (nI dm) (nI l3)), ra_I (g 31) cI 120 f_3, ra_N (g 46) cI 9 pt]) hx hb hK hP hD hS 2 0 rfl rfl (by omega) (by omega) (fun _ => rfl) dX12_isKept_89 (fun f_3 H locs ef_4 hP hD hS => ?_)
    refine lv_aload_n hx hb dX12_isKept_90 rfl (lv_at hl 1 rfl) ?_
    refine sk_get (v := .ref (g 31)) (C := RX12) (T := TX12) (N := 92) hx hb hts inlX12 hown hK hP 0 rfl rfl 31 (Nat.le_of_ble_eq_true rfl) w_5_186 rfl dX12_isKept_91 ?_
    refine lv_iload_n hx hb dX12_isKept_94 rfl (lv_at hl 0 rfl) ?_
    refine lv_iconst (v := 1) hx hb dX12_isKept_95 ic_1 ?_
    refine lv_iadd hx hb dX12_isKept_96 ?_
    refine sk_top (nI (30 + (3 * (min (ke + 1) 30)) - 3 + 1)) (nI_add (30 + (3 * (min (ke + 1) 30)) - 3) 1) ?_
    refine lv_aload_n hx hb dX12_isKept_97 rfl (lv_at hl 1 rfl) ?_
    refine sk_get (v := .long wy) (C := RX12) (T := TX12) (N := 92) hx hb hts inlX12 hown hK hP 0 rfl rfl 45 (Nat.le_of_ble_eq_true rfl) w_5_200 rfl dX12_isKept_98 ?_
    refine lv_l2i hx hb dX12_isKept_101 rfl ?_
    refine sk_top (nI nn) (by rw [hwyn]; exact kw_l2i hnn9) ?_
    refine sk_iastE (k := (30 + (3 * (min (ke + 1) 30)) - 3 + 1)) (x := (nI nn)) (ws' := fun f_5 => [ro_ mm 12 (mo g (nI ta) (nI pa) (nI pe) pd (nI pb) pp pf pg pn rt rn (nI cd) sn (nI il) tk am at_ aa 0 0 (-1) wt wy 0 (nI rm) (nI ud) (nI nu) sd (nI qn) (nI qw) qo (nI qb) (nI qp) qa (nI qi) (nI oc)), ra_I (g 20) cI 4 (l4 (nI l0) (nI l1) (nI dm) (nI l3)), ra_I (g 31) cI 120 f_5, ra_N (g 46) cI 9 pt]) hx hb hK hP hD hS 2 0 rfl rfl (by omega) (by omega) (fun _ => rfl) dX12_isKept_102 (fun f_5 H locs ef_6 hP hD hS => ?_)
    refine lv_aload_n hx hb dX12_isKept_103 rfl (lv_at hl 1 rfl) ?_
    refine sk_get (v := .ref (g 31)) (C := RX12) (T := TX12) (N := 92) hx hb hts inlX12 hown hK hP 0 rfl rfl 31 (Nat.le_of_ble_eq_true rfl) w_5_186 rfl dX12_isKept_104 ?_
    refine lv_iload_n hx hb dX12_isKept_107 rfl (lv_at hl 0 rfl) ?_
    refine lv_iconst (v := 2) hx hb dX12_isKept_108 ic_2 ?_
    refine lv_iadd hx hb dX12_isKept_109 ?_
    refine sk_top (nI (30 + (3 * (min (ke + 1) 30)) - 3 + 2)) (nI_add (30 + (3 * (min (ke + 1) 30)) - 3) 2) ?_
    refine lv_aload_n hx hb dX12_isKept_110 rfl (lv_at hl 1 rfl) ?_
    refine sk_get (v := .ref (g 46)) (C := RX12) (T := TX12) (N := 92) hx hb hts inlX12 hown hK hP 0 rfl rfl 46 (Nat.le_of_ble_eq_true rfl) w_5_201 rfl dX12_isKept_111 ?_
    refine lv_aload_n hx hb dX12_isKept_114 rfl (lv_at hl 1 rfl) ?_
    refine sk_Vi (q0 := 0) (n := 0) (rest := [.ref (g 46), .int (nI (30 + (3 * (min (ke + 1) 30)) - 3 + 2)), .ref (g 31)]) (wr := fmR om_4_c _) ⟨hx, hb, hml, hown, hts⟩ hl.1 (c_m_dayMany l D cI cJ cC cZ cS mm g ta pa pe pd pb pp pf pg pn rt rn cd sn il tk am at_ aa 0 0 (-1) wt wy 0 rm ud nu sd qn qw qo qb qp qa qi oc l0 l1 dm l3) w_7_98 w_7_100 w_0_69 w_1_14 w_7_101 hd_X12_dayMany_0 ⟨⟨(Nat.le_of_ble_eq_true rfl), (Nat.le_of_ble_eq_true rfl)⟩, (Nat.le_of_ble_eq_true rfl), (Nat.le_of_ble_eq_true rfl)⟩ hK hP hD hS hA (fmT om_4_c 0) (fmF om_4_c 0) (fm_C1 rfl rfl) (fm_R rfl rfl) (fm_nT om_4_c 0) (fm_nF om_4_c 0) (fm_di om_4_c 0) rfl rfl rfl rfl (Nat.le_of_ble_eq_true rfl) dX12_isKept_115 (fun r_7 u H locs hw hP hD hS => ?_)
    refine anE hw (fun er_9 eu_8 => ?_)
    clear hw
    subst er_9
    refine o_mgE (ws' := [ro_ mm 12 (mo g (nI ta) (nI pa) (nI pe) pd (nI pb) pp pf pg pn rt rn (nI cd) sn (nI il) tk am at_ aa 0 0 (-1) wt wy 0 (nI rm) (nI ud) (nI nu) sd (nI qn) (nI qw) qo (nI qb) (nI qp) qa (nI qi) (nI oc)), ra_I (g 20) cI 4 (l4 (nI l0) (nI l1) (nI dm) (nI l3)), ra_I (g 31) cI 120 f_5, ra_N (g 46) cI 9 pt]) eu_8 hP hD rfl (fun hP hD => ?_)
    refine lv_iconst (v := 1) hx hb dX12_isKept_118 ic_1 ?_
    refine lv_isub hx hb dX12_isKept_119 ?_
    refine sk_top (nI (dm - 1)) (nsub dm 1 (by omega)) ?_
    refine va_iald hx hb hK.1 hP 3 0 rfl rfl (vin (dm - 1) 9 (by omega) (Nat.le_of_ble_eq_true rfl)) dX12_isKept_120 ?_
    refine sk_top (nI (pt (dm - 1))) (nrd pt (dm - 1) (by omega)) ?_
    have hb_10 := hpt (dm - 1)
    refine sk_iastE (k := (30 + (3 * (min (ke + 1) 30)) - 3 + 2)) (x := (nI (pt (dm - 1)))) (ws' := fun f_11 => [ro_ mm 12 (mo g (nI ta) (nI pa) (nI pe) pd (nI pb) pp pf pg pn rt rn (nI cd) sn (nI il) tk am at_ aa 0 0 (-1) wt wy 0 (nI rm) (nI ud) (nI nu) sd (nI qn) (nI qw) qo (nI qb) (nI qp) qa (nI qi) (nI oc)), ra_I (g 20) cI 4 (l4 (nI l0) (nI l1) (nI dm) (nI l3)), ra_I (g 31) cI 120 f_11, ra_N (g 46) cI 9 pt]) hx hb hK hP hD hS 2 0 rfl rfl (by omega) (by omega) (fun _ => rfl) dX12_isKept_121 (fun f_11 H locs ef_12 hP hD hS => ?_)
    have hfin := nwT_3 hT ef_4 ef_6 ef_12 (by omega)
    exact sk_vret hx hb hr hlocks hK hP hD hS (⟨f_11, hfin, rfl⟩) (Nat.le_of_ble_eq_true rfl) (Nat.le_of_ble_eq_true rfl) dX12_isKept_122
  refine lv_aload_n hx hb dX12_isKept_8 rfl (lv_at hl 0 rfl) ?_
  refine sk_get (v := .ref (g 31)) (C := RX12) (T := TX12) (N := 92) hx hb hts inlX12 hown hK hP 0 rfl rfl 31 (Nat.le_of_ble_eq_true rfl) w_5_186 rfl dX12_isKept_9 ?_
  refine lv_bipush (v := 29) hx hb dX12_isKept_12 (by decide) ?_
  refine va_iald hx hb hK.1 hP 2 0 rfl rfl (by unfold vp_in; decide) dX12_isKept_14 ?_
  refine sk_top (nI (min ke 30)) (nwX_29 hnw) ?_
  refine lv_bipush (v := 30) hx hb dX12_isKept_15 (by decide) ?_
  refine lv_icmp_ne (tgt := 52) hx hb dX12_isKept_17 (by decide) (fun c_13 => ?_) (fun c_13 => ?_)
  · have c_13 : ¬ (min ke 30 = 30) := fun h => c_13 ((neq (min ke 30) 30 (by omega) (Nat.le_of_ble_eq_true rfl)).mpr h)
    refine lv_aload_n hx hb dX12_isKept_52 rfl (lv_at hl 0 rfl) ?_
    refine sk_get (v := .ref (g 31)) (C := RX12) (T := TX12) (N := 92) hx hb hts inlX12 hown hK hP 0 rfl rfl 31 (Nat.le_of_ble_eq_true rfl) w_5_186 rfl dX12_isKept_53 ?_
    refine lv_bipush (v := 29) hx hb dX12_isKept_56 (by decide) ?_
    refine lv_dup2_11 hx hb dX12_isKept_58 rfl rfl ?_
    refine va_iald hx hb hK.1 hP 2 0 rfl rfl (by unfold vp_in; decide) dX12_isKept_59 ?_
    refine sk_top (nI (min ke 30)) (nwX_29 hnw) ?_
    refine lv_iconst (v := 1) hx hb dX12_isKept_60 ic_1 ?_
    refine lv_iadd hx hb dX12_isKept_61 ?_
    refine sk_top (nI (min ke 30 + 1)) (nI_add (min ke 30) 1) ?_
    refine sk_iastE (k := 29) (x := (nI (min ke 30 + 1))) (ws' := fun f_14 => [ro_ mm 12 (mo g (nI ta) (nI pa) (nI pe) pd (nI pb) pp pf pg pn rt rn (nI cd) sn (nI il) tk am at_ aa 0 0 (-1) wt wy 0 (nI rm) (nI ud) (nI nu) sd (nI qn) (nI qw) qo (nI qb) (nI qp) qa (nI qi) (nI oc)), ra_I (g 20) cI 4 (l4 (nI l0) (nI l1) (nI dm) (nI l3)), ra_I (g 31) cI 120 f_14, ra_N (g 46) cI 9 pt]) hx hb hK hP hD hS 2 0 rfl rfl (by omega) (by omega) (fun _ => rfl) dX12_isKept_62 (fun f_14 H locs ef_15 hP hD hS => ?_)
    have hT_16 := nwT_up hnw ef_15 rfl (by omega)
    exact jn_2 f_14 _ _ _ hT_16 hP hD hS (lv_sub hl [0] rfl)
  · have c_13 : min ke 30 = 30 := (neq (min ke 30) 30 (by omega) (Nat.le_of_ble_eq_true rfl)).mp c_13
    refine lv_bipush (v := 30) hx hb dX12_isKept_20 (by decide) ?_
    refine lv_istore_n (lv' := [(1, .int 30), (0, .ref mm)]) hx hb dX12_isKept_22 rfl hl (by decide) rfl (fun ls hl => ?_)
    have lp_17 : ∀ (n_18 : Nat) (i : Nat) (zn : Nat → Int32) (H : Heap) (locs : List Loc) (ls : Array Slot), 117 - i < n_18 → (i ≤ 117) → (30 ≤ i) → (nwS wn mN Ba We U ke lg i zn) → va_P D vwCl [ro_ mm 12 (mo g (nI ta) (nI pa) (nI pe) pd (nI pb) pp pf pg pn rt rn (nI cd) sn (nI il) tk am at_ aa 0 0 (-1) wt wy 0 (nI rm) (nI ud) (nI nu) sd (nI qn) (nI qw) qo (nI qb) (nI qp) qa (nI qi) (nI oc)), ra_I (g 20) cI 4 (l4 (nI l0) (nI l1) (nI dm) (nI l3)), ra_I (g 31) cI 120 zn, ra_N (g 46) cI 9 pt] H → va_D A [ro_ mm 12 (mo g (nI ta) (nI pa) (nI pe) pd (nI pb) pp pf pg pn rt rn (nI cd) sn (nI il) tk am at_ aa 0 0 (-1) wt wy 0 (nI rm) (nI ud) (nI nu) sd (nI qn) (nI qw) qo (nI qb) (nI qp) qa (nI qi) (nI oc)), ra_I (g 20) cI 4 (l4 (nI l0) (nI l1) (nI dm) (nI l3)), ra_I (g 31) cI 120 zn, ra_N (g 46) cI 9 pt] → va_S A s.heap H locs → lv_has ls 2 [(1, .int (nI i)), (0, .ref mm)] → W p l e { frames := 1, cells := 0, slots := 0, locals := 20 } s m ([.ref mm] : List Value).toArray below meth c H locs 0 0 (MQ below (skV D (skT cI cJ cC cZ cS) (fun (u : va_W) => ∃ (nw2 : Nat → Int32), nwX wn mN Ba We U (ke + 1) (updG lg ke (wn, nn, pt (dm - 1))) nw2 ∧ u = [ro_ mm 12 (mo g (nI ta) (nI pa) (nI pe) pd (nI pb) pp pf pg pn rt rn (nI cd) sn (nI il) tk am at_ aa 0 0 (-1) wt wy 0 (nI rm) (nI ud) (nI nu) sd (nI qn) (nI qw) qo (nI qb) (nI qp) qa (nI qi) (nI oc)), ra_I (g 20) cI 4 (l4 (nI l0) (nI l1) (nI dm) (nI l3)), ra_I (g 31) cI 120 nw2, ra_N (g 46) cI 9 pt]) A) ([.ref mm] : List Value).toArray s 0 0 A) (F0 m 23 ls []) := by
      intro n_18
      induction n_18 with
      | zero => intro i zn H locs ls hm; exact absurd hm (Nat.not_lt_zero _)
      | succ n_18 ih_lp_17 =>
        intro i zn H locs ls hm hi hi0 hsn hP hD hS hl
        refine lv_iload_n hx hb dX12_isKept_23 rfl (lv_at hl 0 rfl) ?_
        refine lv_bipush (v := 117) hx hb dX12_isKept_24 (by decide) ?_
        refine lv_icmp_ge (tgt := 49) hx hb dX12_isKept_26 (by decide) (fun c_19 => ?_) (fun c_19 => ?_)
        · have c_19 : 117 ≤ i := (nle 117 i (Nat.le_of_ble_eq_true rfl) (by omega)).mp c_19
          have hT0 := nwT_of (show nwS wn mN Ba We U ke lg 117 zn by rw [show 117 = i by omega]; exact hsn) (by omega)
          refine lv_goto (tgt := 63) hx hb dX12_isKept_49 (by decide) ?_
          exact jn_2 zn _ _ _ hT0 hP hD hS (lv_sub hl [1] rfl)
        · have c_19 : ¬ (117 ≤ i) := fun h => c_19 ((nle 117 i (Nat.le_of_ble_eq_true rfl) (by omega)).mpr h)
          refine lv_aload_n hx hb dX12_isKept_29 rfl (lv_at hl 1 rfl) ?_
          refine sk_get (v := .ref (g 31)) (C := RX12) (T := TX12) (N := 92) hx hb hts inlX12 hown hK hP 0 rfl rfl 31 (Nat.le_of_ble_eq_true rfl) w_5_186 rfl dX12_isKept_30 ?_
          refine lv_iload_n hx hb dX12_isKept_33 rfl (lv_at hl 0 rfl) ?_
          refine lv_aload_n hx hb dX12_isKept_34 rfl (lv_at hl 1 rfl) ?_
          refine sk_get (v := .ref (g 31)) (C := RX12) (T := TX12) (N := 92) hx hb hts inlX12 hown hK hP 0 rfl rfl 31 (Nat.le_of_ble_eq_true rfl) w_5_186 rfl dX12_isKept_35 ?_
          refine lv_iload_n hx hb dX12_isKept_38 rfl (lv_at hl 0 rfl) ?_
          refine lv_iconst (v := 3) hx hb dX12_isKept_39 ic_3 ?_
          refine lv_iadd hx hb dX12_isKept_40 ?_
          refine sk_top (nI (i + 3)) (nI_add i 3) ?_
          refine va_iald hx hb hK.1 hP 2 0 rfl rfl (vin (i + 3) 120 (by omega) (Nat.le_of_ble_eq_true rfl)) dX12_isKept_41 ?_
          refine sk_top (zn (i + 3)) (by rw [nI_clamp (by omega)]) ?_
          refine sk_iastE (k := i) (x := (zn (i + 3))) (ws' := fun f_20 => [ro_ mm 12 (mo g (nI ta) (nI pa) (nI pe) pd (nI pb) pp pf pg pn rt rn (nI cd) sn (nI il) tk am at_ aa 0 0 (-1) wt wy 0 (nI rm) (nI ud) (nI nu) sd (nI qn) (nI qw) qo (nI qb) (nI qp) qa (nI qi) (nI oc)), ra_I (g 20) cI 4 (l4 (nI l0) (nI l1) (nI dm) (nI l3)), ra_I (g 31) cI 120 f_20, ra_N (g 46) cI 9 pt]) hx hb hK hP hD hS 2 0 rfl rfl (by omega) (by omega) (fun _ => rfl) dX12_isKept_42 (fun f_20 H locs ef_21 hP hD hS => ?_)
          refine lv_iinc (v := nI (i + 1)) (lv' := [(1, .int (nI (i + 1))), (0, .ref mm)]) hx hb dX12_isKept_43 hl (k := 0) rfl (ninc i 1 (by decide)) (by decide) rfl (fun ls hl => ?_)
          refine lv_goto (tgt := 23) hx hb dX12_isKept_46 (by decide) ?_
          exact ih_lp_17 (i + 1) f_20 _ _ _ (by omega) (by omega) (by omega) (nwS_s hsn ef_21 rfl hi0 (by omega)) hP hD hS (lv_sub hl [0, 1] rfl)
    exact lp_17 (117 - 30 + 1) 30 nw _ _ _ (Nat.lt_succ_self _) (by omega) (by omega) (nwS_0 hnw (by omega)) hP hD hS (lv_sub hl [0, 1] rfl)
theorem dg_X12_goesBy_0_0 : bqL cX12_goesBy 0 [(0, [42]), (1, [31]), (2, [182, 1, 138]), (5, [42]), (6, [182, 1, 141]), (9, [42]), (10, [180, 0, 63]), (13, [4]), (14, [42]), (15, [180, 0, 89]), (18, [42]), (19, [182, 1, 59]), (22, [4]), (23, [100]), (24, [46]), (25, [79]), (26, [42]), (27, [180, 0, 63]), (30, [3]), (31, [92]), (32, [46]), (33, [4]), (34, [96]), (35, [79]), (36, [177])] = true := by decide +kernel
theorem dX12_goesBy_0 : decode cX12_goesBy 0 = .ok (.aload_n 0, 1) := q_aload_n0 (bat_get dg_X12_goesBy_0_0 0 rfl rfl)
theorem dX12_goesBy_1 : decode cX12_goesBy 1 = .ok (.lload_n 1, 1) := q_lload_n1 (bat_get dg_X12_goesBy_0_0 1 rfl rfl)
theorem dX12_goesBy_2 : decode cX12_goesBy 2 = .ok (.invokevirtual 394, 3) := q_invokevirtual (bat_get dg_X12_goesBy_0_0 2 rfl rfl) rfl
theorem dX12_goesBy_5 : decode cX12_goesBy 5 = .ok (.aload_n 0, 1) := q_aload_n0 (bat_get dg_X12_goesBy_0_0 3 rfl rfl)
theorem dX12_goesBy_6 : decode cX12_goesBy 6 = .ok (.invokevirtual 397, 3) := q_invokevirtual (bat_get dg_X12_goesBy_0_0 4 rfl rfl) rfl
theorem dX12_goesBy_9 : decode cX12_goesBy 9 = .ok (.aload_n 0, 1) := q_aload_n0 (bat_get dg_X12_goesBy_0_0 5 rfl rfl)
theorem dX12_goesBy_10 : decode cX12_goesBy 10 = .ok (.getfield 63, 3) := q_getfield (bat_get dg_X12_goesBy_0_0 6 rfl rfl) rfl
theorem dX12_goesBy_13 : decode cX12_goesBy 13 = .ok (.iconst 1, 1) := q_iconst1 (bat_get dg_X12_goesBy_0_0 7 rfl rfl)
theorem dX12_goesBy_14 : decode cX12_goesBy 14 = .ok (.aload_n 0, 1) := q_aload_n0 (bat_get dg_X12_goesBy_0_0 8 rfl rfl)
theorem dX12_goesBy_15 : decode cX12_goesBy 15 = .ok (.getfield 89, 3) := q_getfield (bat_get dg_X12_goesBy_0_0 9 rfl rfl) rfl
theorem dX12_goesBy_18 : decode cX12_goesBy 18 = .ok (.aload_n 0, 1) := q_aload_n0 (bat_get dg_X12_goesBy_0_0 10 rfl rfl)
theorem dX12_goesBy_19 : decode cX12_goesBy 19 = .ok (.invokevirtual 315, 3) := q_invokevirtual (bat_get dg_X12_goesBy_0_0 11 rfl rfl) rfl
theorem dX12_goesBy_22 : decode cX12_goesBy 22 = .ok (.iconst 1, 1) := q_iconst1 (bat_get dg_X12_goesBy_0_0 12 rfl rfl)
theorem dX12_goesBy_23 : decode cX12_goesBy 23 = .ok (.isub, 1) := q_isub (bat_get dg_X12_goesBy_0_0 13 rfl rfl)
theorem dX12_goesBy_24 : decode cX12_goesBy 24 = .ok (.iaload, 1) := q_iaload (bat_get dg_X12_goesBy_0_0 14 rfl rfl)
theorem dX12_goesBy_25 : decode cX12_goesBy 25 = .ok (.iastore, 1) := q_iastore (bat_get dg_X12_goesBy_0_0 15 rfl rfl)
theorem dX12_goesBy_26 : decode cX12_goesBy 26 = .ok (.aload_n 0, 1) := q_aload_n0 (bat_get dg_X12_goesBy_0_0 16 rfl rfl)
theorem dX12_goesBy_27 : decode cX12_goesBy 27 = .ok (.getfield 63, 3) := q_getfield (bat_get dg_X12_goesBy_0_0 17 rfl rfl) rfl
theorem dX12_goesBy_30 : decode cX12_goesBy 30 = .ok (.iconst 0, 1) := q_iconst0 (bat_get dg_X12_goesBy_0_0 18 rfl rfl)
theorem dX12_goesBy_31 : decode cX12_goesBy 31 = .ok (.dup2, 1) := q_dup2 (bat_get dg_X12_goesBy_0_0 19 rfl rfl)
theorem dX12_goesBy_32 : decode cX12_goesBy 32 = .ok (.iaload, 1) := q_iaload (bat_get dg_X12_goesBy_0_0 20 rfl rfl)
theorem dX12_goesBy_33 : decode cX12_goesBy 33 = .ok (.iconst 1, 1) := q_iconst1 (bat_get dg_X12_goesBy_0_0 21 rfl rfl)
theorem dX12_goesBy_34 : decode cX12_goesBy 34 = .ok (.iadd, 1) := q_iadd (bat_get dg_X12_goesBy_0_0 22 rfl rfl)
theorem dX12_goesBy_35 : decode cX12_goesBy 35 = .ok (.iastore, 1) := q_iastore (bat_get dg_X12_goesBy_0_0 23 rfl rfl)
theorem dX12_goesBy_36 : decode cX12_goesBy 36 = .ok (.return_, 1) := q_return_ (bat_get dg_X12_goesBy_0_0 24 rfl rfl)
theorem w_8_21 : (Cond.methodLink RX12 397 yX12_isKept) ∈ wsL_law := sk_mem (ck_8 _ (List.mem_of_getElem? (i := 21) rfl)) rfl
theorem w_8_23 : (Cond.instanceMethod yX12_isKept) ∈ wsL_law := sk_mem (ck_8 _ (List.mem_of_getElem? (i := 23) rfl)) rfl
theorem w_0_94 : (Cond.selects RX12 yX12_isKept yX12_isKept) ∈ wsL_law := sk_mem (ck_0 _ (List.mem_of_getElem? (i := 94) rfl)) rfl
theorem w_8_20 : (Cond.code yX12_goesBy cX12_goesBy 3 none) ∈ wsL_law := sk_mem (ck_8 _ (List.mem_of_getElem? (i := 20) rfl)) rfl
def om_7_71 : List Bool := true :: true :: true :: false :: false :: false :: true :: []
theorem hd_X12_isKept_0 : skD yX12_isKept 0 := by decide +kernel
set_option maxHeartbeats 4000000 in
set_option maxRecDepth 100000 in
theorem c_nm_goesBy0 (l : Launch) (D : va_G) (cI cJ cC cZ cS : ClassId) (mm : Nat) (g : Nat → Nat) (ta : Nat) (pa : Nat) (pe : Nat) (pd : Int32) (pb : Nat) (pp : Int32) (pf : Int32) (pg : Int32) (pn : Int32) (rt : Int32) (rn : Int32) (cd : Nat) (sn : Int32) (il : Nat) (tk : Int32) (am : Int32) (at_ : Int32) (aa : Int32) (wt : Int32) (wy : Int64) (rm : Nat) (ud : Nat) (nu : Nat) (sd : Int64) (qn : Nat) (qw : Nat) (qo : Int32) (qb : Nat) (qp : Nat) (qa : Int64) (qi : Nat) (oc : Nat) (l0 : Nat) (l1 : Nat) (dm : Nat) (l3 : Nat) (nw : Nat → Int32) (yo : Nat → Int32) (yw : Nat → Int32) (be : Nat → Int64) (pt : Nat → Nat) (wn : Nat) (mN : Nat) (Ba : Nat → Nat) (We : Nat → Nat) (U : Nat → Bool) (ke : Nat) (lg : KLg) (L : LkS) (nz : Nat) (hdm : dm ≤ 9) (hdm1 : 1 ≤ dm) (hbe : beOk (cfN nw yw yo 0) dm 0 be) (hcf : ∀ d, d < dm → ∀ a m, a < 10 → m < 10 → (cfN nw yw yo 0) d a m = (kcFo L wn Ba We U 0) d a m) (hwy : wy = Int64.ofNat (kcC (kcFo L wn Ba We U 0) dm 0 mN)) (hnx : nz < kcC (kcFo L wn Ba We U 0) dm 0 mN) (hnw : nwX wn mN Ba We U ke lg nw) (hpt : ∀ j, pt j ≤ 9) : skM l yX12_goesBy cX12_goesBy 3 none 4 91 0 0 D (skT cI cJ cC cZ cS) [.ref mm, .long (nL nz)] [ro_ mm 12 (mo g (nI ta) (nI pa) (nI pe) pd (nI pb) pp pf pg pn rt rn (nI cd) sn (nI il) tk am at_ aa 0 0 (-1) wt wy 0 (nI rm) (nI ud) (nI nu) sd (nI qn) (nI qw) qo (nI qb) (nI qp) qa (nI qi) (nI oc)), ra_I (g 20) cI 4 (l4 (nI l0) (nI l1) (nI dm) (nI l3)), ra_I (g 31) cI 120 nw, ra_I (g 37) cZ 900 yo, ra_I (g 36) cZ 900 yw, ra_J (g 43) cJ 90 be, ra_N (g 46) cI 9 pt] (skV D (skT cI cJ cC cZ cS) (fun (u : va_W) => ∃ (nw2 : Nat → Int32), ∃ (pt2 : Nat → Nat), nwX (wn + 1) (kLast L dm (wn, mN, Ba, We, U, ke) nz) Ba We U (ke + 1) (kKeep L dm (wn, mN, Ba, We, U, ke) lg nz) nw2 ∧ (∀ j, pt2 j ≤ 9) ∧ u = [ro_ mm 12 (mo g (nI ta) (nI pa) (nI pe) pd (nI pb) pp pf pg pn rt rn (nI cd) sn (nI il) tk am at_ aa 0 0 (-1) wt wy 0 (nI rm) (nI ud) (nI nu) sd (nI qn) (nI qw) qo (nI qb) (nI qp) qa (nI qi) (nI oc)), ra_I (g 20) cI 4 (l4 (nI l0) (nI l1) (nI dm) (nI l3)), ra_I (g 31) cI 120 nw2, ra_I (g 37) cZ 900 yo, ra_I (g 36) cZ 900 yw, ra_J (g 43) cJ 90 be, ra_N (g 46) cI 9 pt2])) := by
  refine skM_of pf_X12_goesBy (Nat.le_of_ble_eq_true rfl) ?_
  intro p e s m below meth c A ls E hP hD hl
  refine skE_el E (fun hx hb hr hml hlocks hin hown hts hK hA => ?_)
  have hown : s.vm.findClass RX12 = some m.cls := hown
  have hS : va_S A s.heap s.heap [] := va_S.rf
  have hl : lv_has ls 3 [(0, .ref mm), (1, .long (nL nz))] := hl
  refine lv_aload_n hx hb dX12_goesBy_0 rfl (lv_at hl 0 rfl) ?_
  refine lv_lload_n hx hb dX12_goesBy_1 rfl (lv_at hl 1 rfl) ?_
  refine sk_Vv (q0 := 0) (n := 1) (rest := []) (wr := fmR om_7_7f _) ⟨hx, hb, hml, hown, hts⟩ hl.1 (c_nm_walksTo l D cI cJ cC cZ cS mm g ta pa pe pd pb pp pf pg pn rt rn cd sn il tk am at_ aa 0 wt wy 0 rm ud nu sd qn qw qo qb qp qa qi oc l0 l1 dm l3 nw yo yw be pt nz hdm hdm1 hbe (nuX hcf (nwX_a0 hnw) hnw.1 hnx) (nwX_ok hnw) hpt) w_7_217 w_7_219 w_0_88 w_1_14 w_7_220 hd_X12_walksTo_1 ⟨⟨(Nat.le_of_ble_eq_true rfl), (Nat.le_of_ble_eq_true rfl)⟩, (Nat.le_of_ble_eq_true rfl), (Nat.le_of_ble_eq_true rfl)⟩ hK hP hD hS hA (fmT om_7_7f 0) (fmF om_7_7f 0) (fm_C1 rfl rfl) (fm_R rfl rfl) (fm_nT om_7_7f 0) (fm_nF om_7_7f 0) (fm_di om_7_7f 0) rfl rfl rfl rfl (Nat.le_of_ble_eq_true rfl) dX12_goesBy_2 (fun u H locs hw hP hD hS => ?_)
  refine exE hw (fun pt2_1 hw1 => anE hw1 (fun hpw_2 hw2 => anE hw2 (fun hpt2_3 eu_4 => ?_)))
  clear hw hw1 hw2
  refine o_mgE (ws' := [ro_ mm 12 (mo g (nI ta) (nI pa) (nI pe) pd (nI pb) pp pf pg pn rt rn (nI cd) sn (nI il) tk am at_ aa 0 0 (-1) wt wy 0 (nI rm) (nI ud) (nI nu) sd (nI qn) (nI qw) qo (nI qb) (nI qp) qa (nI qi) (nI oc)), ra_I (g 20) cI 4 (l4 (nI l0) (nI l1) (nI dm) (nI l3)), ra_I (g 31) cI 120 nw, ra_I (g 37) cZ 900 yo, ra_I (g 36) cZ 900 yw, ra_J (g 43) cJ 90 be, ra_N (g 46) cI 9 pt2_1]) eu_4 hP hD rfl (fun hP hD => ?_)
  have hpx := mpX hcf (nwX_a0 hnw) hnw.1 hnx hpw_2
  refine lv_aload_n hx hb dX12_goesBy_5 rfl (lv_at hl 0 rfl) ?_
  refine sk_Vv (q0 := 0) (n := 0) (rest := []) (wr := fmR om_7_71 _) ⟨hx, hb, hml, hown, hts⟩ hl.1 (c_nm_isKept l D cI cJ cC cZ cS mm g ta pa pe pd pb pp pf pg pn rt rn cd sn il tk am at_ aa wt wy rm ud nu sd qn qw qo qb qp qa qi oc l0 l1 dm l3 nw pt2_1 wn mN Ba We U ke lg (kcC (kcFo L wn Ba We U 0) dm 0 mN) hdm hdm1 hwy (kcC_9 _ (show dm ≤ 9 by omega) _ _) hnw hpt2_3) w_8_21 w_8_23 w_0_94 w_1_14 w_8_24 hd_X12_isKept_0 ⟨⟨(Nat.le_of_ble_eq_true rfl), (Nat.le_of_ble_eq_true rfl)⟩, (Nat.le_of_ble_eq_true rfl), (Nat.le_of_ble_eq_true rfl)⟩ hK hP hD hS hA (fmT om_7_71 0) (fmF om_7_71 0) (fm_C1 rfl rfl) (fm_R rfl rfl) (fm_nT om_7_71 0) (fm_nF om_7_71 0) (fm_di om_7_71 0) rfl rfl rfl rfl (Nat.le_of_ble_eq_true rfl) dX12_goesBy_6 (fun u H locs hw hP hD hS => ?_)
  refine exE hw (fun nw2_5 hw1 => anE hw1 (fun hnw2_6 eu_7 => ?_))
  clear hw hw1
  refine o_mgE (ws' := [ro_ mm 12 (mo g (nI ta) (nI pa) (nI pe) pd (nI pb) pp pf pg pn rt rn (nI cd) sn (nI il) tk am at_ aa 0 0 (-1) wt wy 0 (nI rm) (nI ud) (nI nu) sd (nI qn) (nI qw) qo (nI qb) (nI qp) qa (nI qi) (nI oc)), ra_I (g 20) cI 4 (l4 (nI l0) (nI l1) (nI dm) (nI l3)), ra_I (g 31) cI 120 nw2_5, ra_I (g 37) cZ 900 yo, ra_I (g 36) cZ 900 yw, ra_J (g 43) cJ 90 be, ra_N (g 46) cI 9 pt2_1]) eu_7 hP hD rfl (fun hP hD => ?_)
  have hpl : pt2_1 (dm - 1) = kLast L dm (wn, mN, Ba, We, U, ke) nz := hpx (dm - 1) (by omega)
  refine lv_aload_n hx hb dX12_goesBy_9 rfl (lv_at hl 0 rfl) ?_
  refine sk_get (v := .ref (g 31)) (C := RX12) (T := TX12) (N := 92) hx hb hts inlX12 hown hK hP 0 rfl rfl 31 (Nat.le_of_ble_eq_true rfl) w_5_186 rfl dX12_goesBy_10 ?_
  refine lv_iconst (v := 1) hx hb dX12_goesBy_13 ic_1 ?_
  refine lv_aload_n hx hb dX12_goesBy_14 rfl (lv_at hl 0 rfl) ?_
  refine sk_get (v := .ref (g 46)) (C := RX12) (T := TX12) (N := 92) hx hb hts inlX12 hown hK hP 0 rfl rfl 46 (Nat.le_of_ble_eq_true rfl) w_5_201 rfl dX12_goesBy_15 ?_
  refine lv_aload_n hx hb dX12_goesBy_18 rfl (lv_at hl 0 rfl) ?_
  refine sk_Vi (q0 := 0) (n := 0) (rest := [.ref (g 46), .int 1, .ref (g 31)]) (wr := fmR om_7_60 _) ⟨hx, hb, hml, hown, hts⟩ hl.1 (c_m_dayMany l D cI cJ cC cZ cS mm g ta pa pe pd pb pp pf pg pn rt rn cd sn il tk am at_ aa 0 0 (-1) wt wy 0 rm ud nu sd qn qw qo qb qp qa qi oc l0 l1 dm l3) w_7_98 w_7_100 w_0_69 w_1_14 w_7_101 hd_X12_dayMany_0 ⟨⟨(Nat.le_of_ble_eq_true rfl), (Nat.le_of_ble_eq_true rfl)⟩, (Nat.le_of_ble_eq_true rfl), (Nat.le_of_ble_eq_true rfl)⟩ hK hP hD hS hA (fmT om_7_60 0) (fmF om_7_60 0) (fm_C1 rfl rfl) (fm_R rfl rfl) (fm_nT om_7_60 0) (fm_nF om_7_60 0) (fm_di om_7_60 0) rfl rfl rfl rfl (Nat.le_of_ble_eq_true rfl) dX12_goesBy_19 (fun r_8 u H locs hw hP hD hS => ?_)
  refine anE hw (fun er_10 eu_9 => ?_)
  clear hw
  subst er_10
  refine o_mgE (ws' := [ro_ mm 12 (mo g (nI ta) (nI pa) (nI pe) pd (nI pb) pp pf pg pn rt rn (nI cd) sn (nI il) tk am at_ aa 0 0 (-1) wt wy 0 (nI rm) (nI ud) (nI nu) sd (nI qn) (nI qw) qo (nI qb) (nI qp) qa (nI qi) (nI oc)), ra_I (g 20) cI 4 (l4 (nI l0) (nI l1) (nI dm) (nI l3)), ra_I (g 31) cI 120 nw2_5, ra_I (g 37) cZ 900 yo, ra_I (g 36) cZ 900 yw, ra_J (g 43) cJ 90 be, ra_N (g 46) cI 9 pt2_1]) eu_9 hP hD rfl (fun hP hD => ?_)
  refine lv_iconst (v := 1) hx hb dX12_goesBy_22 ic_1 ?_
  refine lv_isub hx hb dX12_goesBy_23 ?_
  refine sk_top (nI (dm - 1)) (nsub dm 1 (by omega)) ?_
  refine va_iald hx hb hK.1 hP 6 0 rfl rfl (vin (dm - 1) 9 (by omega) (Nat.le_of_ble_eq_true rfl)) dX12_goesBy_24 ?_
  refine sk_top (nI (pt2_1 (dm - 1))) (nrd pt2_1 (dm - 1) (by omega)) ?_
  have hb_11 := hpt2_3 (dm - 1)
  refine sk_iastE (k := 1) (x := (nI (pt2_1 (dm - 1)))) (ws' := fun f_12 => [ro_ mm 12 (mo g (nI ta) (nI pa) (nI pe) pd (nI pb) pp pf pg pn rt rn (nI cd) sn (nI il) tk am at_ aa 0 0 (-1) wt wy 0 (nI rm) (nI ud) (nI nu) sd (nI qn) (nI qw) qo (nI qb) (nI qp) qa (nI qi) (nI oc)), ra_I (g 20) cI 4 (l4 (nI l0) (nI l1) (nI dm) (nI l3)), ra_I (g 31) cI 120 f_12, ra_I (g 37) cZ 900 yo, ra_I (g 36) cZ 900 yw, ra_J (g 43) cJ 90 be, ra_N (g 46) cI 9 pt2_1]) hx hb hK hP hD hS 2 0 rfl rfl (by omega) (by omega) (fun _ => rfl) dX12_goesBy_25 (fun f_12 H locs ef_13 hP hD hS => ?_)
  have hN_14 : nwX wn (pt2_1 (dm - 1)) Ba We U (ke + 1) (updG lg ke (wn, kcC (kcFo L wn Ba We U 0) dm 0 mN, pt2_1 (dm - 1))) f_12 := nwX_up1 hnw2_6 ef_13 (by omega)
  refine lv_aload_n hx hb dX12_goesBy_26 rfl (lv_at hl 0 rfl) ?_
  refine sk_get (v := .ref (g 31)) (C := RX12) (T := TX12) (N := 92) hx hb hts inlX12 hown hK hP 0 rfl rfl 31 (Nat.le_of_ble_eq_true rfl) w_5_186 rfl dX12_goesBy_27 ?_
  refine lv_iconst (v := 0) hx hb dX12_goesBy_30 ic_0 ?_
  refine lv_dup2_11 hx hb dX12_goesBy_31 rfl rfl ?_
  refine va_iald hx hb hK.1 hP 2 0 rfl rfl (by unfold vp_in; decide) dX12_goesBy_32 ?_
  refine sk_top (nI wn) (nwX_0 hN_14) ?_
  refine lv_iconst (v := 1) hx hb dX12_goesBy_33 ic_1 ?_
  refine lv_iadd hx hb dX12_goesBy_34 ?_
  refine sk_top (nI (wn + 1)) (nI_add wn 1) ?_
  refine sk_iastE (k := 0) (x := (nI (wn + 1))) (ws' := fun f_15 => [ro_ mm 12 (mo g (nI ta) (nI pa) (nI pe) pd (nI pb) pp pf pg pn rt rn (nI cd) sn (nI il) tk am at_ aa 0 0 (-1) wt wy 0 (nI rm) (nI ud) (nI nu) sd (nI qn) (nI qw) qo (nI qb) (nI qp) qa (nI qi) (nI oc)), ra_I (g 20) cI 4 (l4 (nI l0) (nI l1) (nI dm) (nI l3)), ra_I (g 31) cI 120 f_15, ra_I (g 37) cZ 900 yo, ra_I (g 36) cZ 900 yw, ra_J (g 43) cJ 90 be, ra_N (g 46) cI 9 pt2_1]) hx hb hK hP hD hS 2 0 rfl rfl (by omega) (by omega) (fun _ => rfl) dX12_goesBy_35 (fun f_15 H locs ef_16 hP hD hS => ?_)
  have hN_17 : nwX (wn + 1) (kLast L dm (wn, mN, Ba, We, U, ke) nz) Ba We U (ke + 1) (kKeep L dm (wn, mN, Ba, We, U, ke) lg nz) f_15 := (by have h9 := nwX_up0 hN_14 ef_16; rw [hpl] at h9; exact h9)
  exact sk_vret hx hb hr hlocks hK hP hD hS (⟨f_15, pt2_1, hN_17, hpt2_3, rfl⟩) (Nat.le_of_ble_eq_true rfl) (Nat.le_of_ble_eq_true rfl) dX12_goesBy_36
theorem dg_X12_isKept_7_7 : bqL cX12_isKept 7 [(0, [177])] = true := by decide +kernel
theorem dX12_isKept_7 : decode cX12_isKept 7 = .ok (.return_, 1) := q_return_ (bat_get dg_X12_isKept_7_7 0 rfl rfl)
set_option maxHeartbeats 4000000 in
set_option maxRecDepth 100000 in
theorem c_nm_isKept1 (l : Launch) (D : va_G) (cI cJ cC cZ cS : ClassId) (mm : Nat) (g : Nat → Nat) (ta : Nat) (pa : Nat) (pe : Nat) (pd : Int32) (pb : Nat) (pp : Int32) (pf : Int32) (pg : Int32) (pn : Int32) (rt : Int32) (rn : Int32) (cd : Nat) (sn : Int32) (il : Nat) (tk : Int32) (am : Int32) (at_ : Int32) (aa : Int32) (wt : Int32) (wy : Int64) (rm : Nat) (ud : Nat) (nu : Nat) (sd : Int64) (qn : Nat) (qw : Nat) (qo : Int32) (qb : Nat) (qp : Nat) (qa : Int64) (qi : Nat) (oc : Nat)  : skM l yX12_isKept cX12_isKept 2 none 0 0 0 0 D (skT cI cJ cC cZ cS) [.ref mm] [ro_ mm 12 (mo g (nI ta) (nI pa) (nI pe) pd (nI pb) pp pf pg pn rt rn (nI cd) sn (nI il) tk am at_ aa 0 0 (-1) wt wy 1 (nI rm) (nI ud) (nI nu) sd (nI qn) (nI qw) qo (nI qb) (nI qp) qa (nI qi) (nI oc))] (skV D (skT cI cJ cC cZ cS) (fun (u : va_W) => u = [ro_ mm 12 (mo g (nI ta) (nI pa) (nI pe) pd (nI pb) pp pf pg pn rt rn (nI cd) sn (nI il) tk am at_ aa 0 0 (-1) wt wy 1 (nI rm) (nI ud) (nI nu) sd (nI qn) (nI qw) qo (nI qb) (nI qp) qa (nI qi) (nI oc))])) := by
  refine skM_of pf_X12_isKept (Nat.le_of_ble_eq_true rfl) ?_
  intro p e s m below meth c A ls E hP hD hl
  refine skE_el E (fun hx hb hr hml hlocks hin hown hts hK hA => ?_)
  have hown : s.vm.findClass RX12 = some m.cls := hown
  have hS : va_S A s.heap s.heap [] := va_S.rf
  have hl : lv_has ls 2 [(0, .ref mm)] := hl
  refine lv_aload_n hx hb dX12_isKept_0 rfl (lv_at hl 0 rfl) ?_
  refine sk_get (v := .int 1) (C := RX12) (T := TX12) (N := 92) hx hb hts inlX12 hown hK hP 0 rfl rfl 47 (Nat.le_of_ble_eq_true rfl) w_5_202 rfl dX12_isKept_1 ?_
  refine lv_if_eq (tgt := 8) hx hb dX12_isKept_4 (by decide) (fun c => absurd c (by decide)) (fun c_1 => ?_)
  exact sk_vret hx hb hr hlocks hK hP hD hS rfl (Nat.le_of_ble_eq_true rfl) (Nat.le_of_ble_eq_true rfl) dX12_isKept_7
def om_7_40 : List Bool := true :: false :: false :: false :: false :: false :: false :: []
set_option maxHeartbeats 4000000 in
set_option maxRecDepth 100000 in
theorem c_nm_goesBy1 (l : Launch) (D : va_G) (cI cJ cC cZ cS : ClassId) (mm : Nat) (g : Nat → Nat) (ta : Nat) (pa : Nat) (pe : Nat) (pd : Int32) (pb : Nat) (pp : Int32) (pf : Int32) (pg : Int32) (pn : Int32) (rt : Int32) (rn : Int32) (cd : Nat) (sn : Int32) (il : Nat) (tk : Int32) (am : Int32) (at_ : Int32) (aa : Int32) (wt : Int32) (wy : Int64) (rm : Nat) (ud : Nat) (nu : Nat) (sd : Int64) (qn : Nat) (qw : Nat) (qo : Int32) (qb : Nat) (qp : Nat) (qa : Int64) (qi : Nat) (oc : Nat) (l0 : Nat) (l1 : Nat) (dm : Nat) (l3 : Nat) (nw : Nat → Int32) (yo : Nat → Int32) (yw : Nat → Int32) (be : Nat → Int64) (pt : Nat → Nat) (wn : Nat) (mN : Nat) (Ba : Nat → Nat) (We : Nat → Nat) (U : Nat → Bool) (ke : Nat) (lg : KLg) (L : LkS) (nz : Nat) (hdm : dm ≤ 9) (hdm1 : 1 ≤ dm) (hbe : beOk (cfN nw yw yo 0) dm 0 be) (hcf : ∀ d, d < dm → ∀ a m, a < 10 → m < 10 → (cfN nw yw yo 0) d a m = (kcFo L wn Ba We U 0) d a m) (hwy : wy = Int64.ofNat (kcC (kcFo L wn Ba We U 0) dm 0 mN)) (hnx : nz < kcC (kcFo L wn Ba We U 0) dm 0 mN) (hnw : nwX wn mN Ba We U ke lg nw) (hpt : ∀ j, pt j ≤ 9) : skM l yX12_goesBy cX12_goesBy 3 none 4 91 0 0 D (skT cI cJ cC cZ cS) [.ref mm, .long (nL nz)] [ro_ mm 12 (mo g (nI ta) (nI pa) (nI pe) pd (nI pb) pp pf pg pn rt rn (nI cd) sn (nI il) tk am at_ aa 0 0 (-1) wt wy 1 (nI rm) (nI ud) (nI nu) sd (nI qn) (nI qw) qo (nI qb) (nI qp) qa (nI qi) (nI oc)), ra_I (g 20) cI 4 (l4 (nI l0) (nI l1) (nI dm) (nI l3)), ra_I (g 31) cI 120 nw, ra_I (g 37) cZ 900 yo, ra_I (g 36) cZ 900 yw, ra_J (g 43) cJ 90 be, ra_N (g 46) cI 9 pt] (skV D (skT cI cJ cC cZ cS) (fun (u : va_W) => ∃ (nw2 : Nat → Int32), ∃ (pt2 : Nat → Nat), nwX (wn + 1) (kLast L dm (wn, mN, Ba, We, U, ke) nz) Ba We U ke lg nw2 ∧ (∀ j, pt2 j ≤ 9) ∧ u = [ro_ mm 12 (mo g (nI ta) (nI pa) (nI pe) pd (nI pb) pp pf pg pn rt rn (nI cd) sn (nI il) tk am at_ aa 0 0 (-1) wt wy 1 (nI rm) (nI ud) (nI nu) sd (nI qn) (nI qw) qo (nI qb) (nI qp) qa (nI qi) (nI oc)), ra_I (g 20) cI 4 (l4 (nI l0) (nI l1) (nI dm) (nI l3)), ra_I (g 31) cI 120 nw2, ra_I (g 37) cZ 900 yo, ra_I (g 36) cZ 900 yw, ra_J (g 43) cJ 90 be, ra_N (g 46) cI 9 pt2])) := by
  refine skM_of pf_X12_goesBy (Nat.le_of_ble_eq_true rfl) ?_
  intro p e s m below meth c A ls E hP hD hl
  refine skE_el E (fun hx hb hr hml hlocks hin hown hts hK hA => ?_)
  have hown : s.vm.findClass RX12 = some m.cls := hown
  have hS : va_S A s.heap s.heap [] := va_S.rf
  have hl : lv_has ls 3 [(0, .ref mm), (1, .long (nL nz))] := hl
  refine lv_aload_n hx hb dX12_goesBy_0 rfl (lv_at hl 0 rfl) ?_
  refine lv_lload_n hx hb dX12_goesBy_1 rfl (lv_at hl 1 rfl) ?_
  refine sk_Vv (q0 := 0) (n := 1) (rest := []) (wr := fmR om_7_7f _) ⟨hx, hb, hml, hown, hts⟩ hl.1 (c_nm_walksTo l D cI cJ cC cZ cS mm g ta pa pe pd pb pp pf pg pn rt rn cd sn il tk am at_ aa 0 wt wy 1 rm ud nu sd qn qw qo qb qp qa qi oc l0 l1 dm l3 nw yo yw be pt nz hdm hdm1 hbe (nuX hcf (nwX_a0 hnw) hnw.1 hnx) (nwX_ok hnw) hpt) w_7_217 w_7_219 w_0_88 w_1_14 w_7_220 hd_X12_walksTo_1 ⟨⟨(Nat.le_of_ble_eq_true rfl), (Nat.le_of_ble_eq_true rfl)⟩, (Nat.le_of_ble_eq_true rfl), (Nat.le_of_ble_eq_true rfl)⟩ hK hP hD hS hA (fmT om_7_7f 0) (fmF om_7_7f 0) (fm_C1 rfl rfl) (fm_R rfl rfl) (fm_nT om_7_7f 0) (fm_nF om_7_7f 0) (fm_di om_7_7f 0) rfl rfl rfl rfl (Nat.le_of_ble_eq_true rfl) dX12_goesBy_2 (fun u H locs hw hP hD hS => ?_)
  refine exE hw (fun pt2_1 hw1 => anE hw1 (fun hpw_2 hw2 => anE hw2 (fun hpt2_3 eu_4 => ?_)))
  clear hw hw1 hw2
  refine o_mgE (ws' := [ro_ mm 12 (mo g (nI ta) (nI pa) (nI pe) pd (nI pb) pp pf pg pn rt rn (nI cd) sn (nI il) tk am at_ aa 0 0 (-1) wt wy 1 (nI rm) (nI ud) (nI nu) sd (nI qn) (nI qw) qo (nI qb) (nI qp) qa (nI qi) (nI oc)), ra_I (g 20) cI 4 (l4 (nI l0) (nI l1) (nI dm) (nI l3)), ra_I (g 31) cI 120 nw, ra_I (g 37) cZ 900 yo, ra_I (g 36) cZ 900 yw, ra_J (g 43) cJ 90 be, ra_N (g 46) cI 9 pt2_1]) eu_4 hP hD rfl (fun hP hD => ?_)
  have hpx := mpX hcf (nwX_a0 hnw) hnw.1 hnx hpw_2
  refine lv_aload_n hx hb dX12_goesBy_5 rfl (lv_at hl 0 rfl) ?_
  have hpl : pt2_1 (dm - 1) = kLast L dm (wn, mN, Ba, We, U, ke) nz := hpx (dm - 1) (by omega)
  refine sk_Vv (q0 := 0) (n := 0) (rest := []) (wr := fmR om_7_40 _) ⟨hx, hb, hml, hown, hts⟩ hl.1 (c_nm_isKept1 l D cI cJ cC cZ cS mm g ta pa pe pd pb pp pf pg pn rt rn cd sn il tk am at_ aa wt wy rm ud nu sd qn qw qo qb qp qa qi oc) w_8_21 w_8_23 w_0_94 w_1_14 w_8_24 hd_X12_isKept_0 ⟨⟨(Nat.le_of_ble_eq_true rfl), (Nat.le_of_ble_eq_true rfl)⟩, (Nat.le_of_ble_eq_true rfl), (Nat.le_of_ble_eq_true rfl)⟩ hK hP hD hS hA (fmT om_7_40 0) (fmF om_7_40 0) (fm_C1 rfl rfl) (fm_R rfl rfl) (fm_nT om_7_40 0) (fm_nF om_7_40 0) (fm_di om_7_40 0) rfl rfl rfl rfl (Nat.le_of_ble_eq_true rfl) dX12_goesBy_6 (fun u H locs hw hP hD hS => ?_)
  refine o_mgE (ws' := [ro_ mm 12 (mo g (nI ta) (nI pa) (nI pe) pd (nI pb) pp pf pg pn rt rn (nI cd) sn (nI il) tk am at_ aa 0 0 (-1) wt wy 1 (nI rm) (nI ud) (nI nu) sd (nI qn) (nI qw) qo (nI qb) (nI qp) qa (nI qi) (nI oc)), ra_I (g 20) cI 4 (l4 (nI l0) (nI l1) (nI dm) (nI l3)), ra_I (g 31) cI 120 nw, ra_I (g 37) cZ 900 yo, ra_I (g 36) cZ 900 yw, ra_J (g 43) cJ 90 be, ra_N (g 46) cI 9 pt2_1]) hw hP hD rfl (fun hP hD => ?_)
  refine lv_aload_n hx hb dX12_goesBy_9 rfl (lv_at hl 0 rfl) ?_
  refine sk_get (v := .ref (g 31)) (C := RX12) (T := TX12) (N := 92) hx hb hts inlX12 hown hK hP 0 rfl rfl 31 (Nat.le_of_ble_eq_true rfl) w_5_186 rfl dX12_goesBy_10 ?_
  refine lv_iconst (v := 1) hx hb dX12_goesBy_13 ic_1 ?_
  refine lv_aload_n hx hb dX12_goesBy_14 rfl (lv_at hl 0 rfl) ?_
  refine sk_get (v := .ref (g 46)) (C := RX12) (T := TX12) (N := 92) hx hb hts inlX12 hown hK hP 0 rfl rfl 46 (Nat.le_of_ble_eq_true rfl) w_5_201 rfl dX12_goesBy_15 ?_
  refine lv_aload_n hx hb dX12_goesBy_18 rfl (lv_at hl 0 rfl) ?_
  refine sk_Vi (q0 := 0) (n := 0) (rest := [.ref (g 46), .int 1, .ref (g 31)]) (wr := fmR om_7_60 _) ⟨hx, hb, hml, hown, hts⟩ hl.1 (c_m_dayMany l D cI cJ cC cZ cS mm g ta pa pe pd pb pp pf pg pn rt rn cd sn il tk am at_ aa 0 0 (-1) wt wy 1 rm ud nu sd qn qw qo qb qp qa qi oc l0 l1 dm l3) w_7_98 w_7_100 w_0_69 w_1_14 w_7_101 hd_X12_dayMany_0 ⟨⟨(Nat.le_of_ble_eq_true rfl), (Nat.le_of_ble_eq_true rfl)⟩, (Nat.le_of_ble_eq_true rfl), (Nat.le_of_ble_eq_true rfl)⟩ hK hP hD hS hA (fmT om_7_60 0) (fmF om_7_60 0) (fm_C1 rfl rfl) (fm_R rfl rfl) (fm_nT om_7_60 0) (fm_nF om_7_60 0) (fm_di om_7_60 0) rfl rfl rfl rfl (Nat.le_of_ble_eq_true rfl) dX12_goesBy_19 (fun r_5 u H locs hw hP hD hS => ?_)
  refine anE hw (fun er_7 eu_6 => ?_)
  clear hw
  subst er_7
  refine o_mgE (ws' := [ro_ mm 12 (mo g (nI ta) (nI pa) (nI pe) pd (nI pb) pp pf pg pn rt rn (nI cd) sn (nI il) tk am at_ aa 0 0 (-1) wt wy 1 (nI rm) (nI ud) (nI nu) sd (nI qn) (nI qw) qo (nI qb) (nI qp) qa (nI qi) (nI oc)), ra_I (g 20) cI 4 (l4 (nI l0) (nI l1) (nI dm) (nI l3)), ra_I (g 31) cI 120 nw, ra_I (g 37) cZ 900 yo, ra_I (g 36) cZ 900 yw, ra_J (g 43) cJ 90 be, ra_N (g 46) cI 9 pt2_1]) eu_6 hP hD rfl (fun hP hD => ?_)
  refine lv_iconst (v := 1) hx hb dX12_goesBy_22 ic_1 ?_
  refine lv_isub hx hb dX12_goesBy_23 ?_
  refine sk_top (nI (dm - 1)) (nsub dm 1 (by omega)) ?_
  refine va_iald hx hb hK.1 hP 6 0 rfl rfl (vin (dm - 1) 9 (by omega) (Nat.le_of_ble_eq_true rfl)) dX12_goesBy_24 ?_
  refine sk_top (nI (pt2_1 (dm - 1))) (nrd pt2_1 (dm - 1) (by omega)) ?_
  have hb_8 := hpt2_3 (dm - 1)
  refine sk_iastE (k := 1) (x := (nI (pt2_1 (dm - 1)))) (ws' := fun f_9 => [ro_ mm 12 (mo g (nI ta) (nI pa) (nI pe) pd (nI pb) pp pf pg pn rt rn (nI cd) sn (nI il) tk am at_ aa 0 0 (-1) wt wy 1 (nI rm) (nI ud) (nI nu) sd (nI qn) (nI qw) qo (nI qb) (nI qp) qa (nI qi) (nI oc)), ra_I (g 20) cI 4 (l4 (nI l0) (nI l1) (nI dm) (nI l3)), ra_I (g 31) cI 120 f_9, ra_I (g 37) cZ 900 yo, ra_I (g 36) cZ 900 yw, ra_J (g 43) cJ 90 be, ra_N (g 46) cI 9 pt2_1]) hx hb hK hP hD hS 2 0 rfl rfl (by omega) (by omega) (fun _ => rfl) dX12_goesBy_25 (fun f_9 H locs ef_10 hP hD hS => ?_)
  have hN_11 : nwX wn (pt2_1 (dm - 1)) Ba We U ke lg f_9 := nwX_up1 hnw ef_10 (by omega)
  refine lv_aload_n hx hb dX12_goesBy_26 rfl (lv_at hl 0 rfl) ?_
  refine sk_get (v := .ref (g 31)) (C := RX12) (T := TX12) (N := 92) hx hb hts inlX12 hown hK hP 0 rfl rfl 31 (Nat.le_of_ble_eq_true rfl) w_5_186 rfl dX12_goesBy_27 ?_
  refine lv_iconst (v := 0) hx hb dX12_goesBy_30 ic_0 ?_
  refine lv_dup2_11 hx hb dX12_goesBy_31 rfl rfl ?_
  refine va_iald hx hb hK.1 hP 2 0 rfl rfl (by unfold vp_in; decide) dX12_goesBy_32 ?_
  refine sk_top (nI wn) (nwX_0 hN_11) ?_
  refine lv_iconst (v := 1) hx hb dX12_goesBy_33 ic_1 ?_
  refine lv_iadd hx hb dX12_goesBy_34 ?_
  refine sk_top (nI (wn + 1)) (nI_add wn 1) ?_
  refine sk_iastE (k := 0) (x := (nI (wn + 1))) (ws' := fun f_12 => [ro_ mm 12 (mo g (nI ta) (nI pa) (nI pe) pd (nI pb) pp pf pg pn rt rn (nI cd) sn (nI il) tk am at_ aa 0 0 (-1) wt wy 1 (nI rm) (nI ud) (nI nu) sd (nI qn) (nI qw) qo (nI qb) (nI qp) qa (nI qi) (nI oc)), ra_I (g 20) cI 4 (l4 (nI l0) (nI l1) (nI dm) (nI l3)), ra_I (g 31) cI 120 f_12, ra_I (g 37) cZ 900 yo, ra_I (g 36) cZ 900 yw, ra_J (g 43) cJ 90 be, ra_N (g 46) cI 9 pt2_1]) hx hb hK hP hD hS 2 0 rfl rfl (by omega) (by omega) (fun _ => rfl) dX12_goesBy_35 (fun f_12 H locs ef_13 hP hD hS => ?_)
  have hN_14 : nwX (wn + 1) (kLast L dm (wn, mN, Ba, We, U, ke) nz) Ba We U ke lg f_12 := (by have h9 := nwX_up0 hN_11 ef_13; rw [hpl] at h9; exact h9)
  exact sk_vret hx hb hr hlocks hK hP hD hS (⟨f_12, pt2_1, hN_14, hpt2_3, rfl⟩) (Nat.le_of_ble_eq_true rfl) (Nat.le_of_ble_eq_true rfl) dX12_goesBy_36
/-! bits of the mute days -/
theorem kbs_d : ∀ x, x < 512 → 1 ≤ x → nI x &&& nI (x - 1) = nI (x &&& (x - 1)) ∧ x &&& (x - 1) < x ∧ kpop (x &&& (x - 1)) + 1 = kpop x := by decide +kernel
theorem kpop_0 : kpop 0 = 0 := by decide
theorem kmK_s {U : Nat → Bool} {ms : Int32} {i : Nat} (h : ms = nI (kcK U i)) (hi : i < 9) (hu : U i = true) : ms ||| ((1 : Int32) <<< (nI i &&& 31)) = nI (kcK U (i + 1)) := by
  rw [h, kor_10 (kK_lt10 U (by omega)) (by omega), kcK_or U i hu]
theorem kmK_n {U : Nat → Bool} {ms : Int32} {i : Nat} (h : ms = nI (kcK U i)) (hu : ¬ U i = true) : ms = nI (kcK U (i + 1)) := by
  rw [kcK_no U i hu]; exact h
theorem kmK_512 (U : Nat → Bool) {n : Nat} (h : n ≤ 9) : kcK U n < 512 := Nat.lt_of_lt_of_le (kcK_lt U n) (Nat.pow_le_pow_right (by decide) h)
theorem kmK_pop {U : Nat → Bool} {dy : Nat} (h : ∀ j, U j = true → j < dy) : kpop (kcK U dy) = kSum U 9 := kpop_U (fun d _ => by
  rw [kcK_bit]
  cases hu : U d with
  | true => rw [show decide (d < dy) = true from decide_eq_true (h d hu)]; rfl
  | false => rw [Bool.and_false])
/-! day, kept -/
theorem dyR_n {Ba We : Nat → Nat} {U : Nat → Bool} {k : Nat} {w : Int32} (h : ¬ kIn w 3) : (-1 : Int32) = dayV Ba We U k w := by
  unfold dayV
  rw [if_neg (fun q : w = 0 => h ⟨0, by decide, q⟩), if_neg (fun q : w = 1 => h ⟨1, by decide, q⟩), if_neg (fun q : w = 2 => h ⟨2, by decide, q⟩)]
theorem dyR_y {wn mo ke : Nat} {Ba We : Nat → Nat} {U : Nat → Bool} {lg : KLg} {nw : Nat → Int32} {k j : Nat} {x : Int32} (h : nwX wn mo Ba We U ke lg nw) (hk : k < 9) (hj : j < 3) (hx : x = nw (2 + 3 * k + j)) : x = dayV Ba We U k (nI j) := by
  rw [hx]
  rcases (show j = 0 ∨ j = 1 ∨ j = 2 by omega) with rfl | rfl | rfl
  · exact (nwX_b h hk)
  · exact (nwX_w h hk)
  · exact (nwX_m h hk)
theorem keptX_y {wn mo ke : Nat} {Ba We : Nat → Nat} {U : Nat → Bool} {lg : KLg} {nw : Nat → Int32} {k j : Nat} {x : Int32} (h : nwX wn mo Ba We U ke lg nw) (hl : lgOk lg) (hk : k < min ke 30) (hj : j < 3) (hx : x = nw (30 + 3 * k + j)) : keptR lg ke (nI k) (nI j) (Int32.toInt64 x) := by
  refine kR_1 (k, j) ⟨hk, rfl, hj, rfl⟩ ?_
  have h1 := h.2.2.2.2.2 k hk
  have h2 := hl (ke - min ke 30 + k)
  rw [hx]
  rcases (show j = 0 ∨ j = 1 ∨ j = 2 by omega) with rfl | rfl | rfl
  · rw [show 30 + 3 * k + 0 = 30 + 3 * k by omega, h1.1, kx_i2l (by omega)]; rfl
  · rw [h1.2.1, kx_i2l (by omega)]; rfl
  · rw [h1.2.2, kx_i2l (by omega)]; rfl
theorem kept_w {lg : KLg} {ke : Nat} {k w : Int32} (h : ¬ kIn w 3) : keptR lg ke k w (-1000000000000000) := kR_0 (fun x q => h ⟨x.2, q.2.2.1, q.2.2.2⟩) rfl
/-! acts -/
theorem set_w {dy : Nat} {n : KN} {ac : Nat} {su : Nat → KN} {rf rf2 : Nat → Int32} {d w o : Int32} (h : ¬ kIn w 2) (e : rf2 = upd rf 2 (rf 2 + 1)) : setR dy n ac su rf d w o 0 n ac su rf2 := set_n (fun x q => by
  rcases q.2.2.2.2 with ⟨a, -⟩ | ⟨a, -⟩
  · exact h ⟨0, by decide, a⟩
  · exact h ⟨1, by decide, a⟩) e
theorem mut_w {dy : Nat} {n : KN} {ac : Nat} {su : Nat → KN} {rf rf2 : Nat → Int32} {d w : Int32} (h : ¬ kIn w 2) (e : rf2 = upd rf 2 (rf 2 + 1)) : muteR dy n ac su rf d w 0 n ac su rf2 := kR_0 (fun x q => by
  rcases q.2.2 with ⟨a, -⟩ | ⟨a, -⟩
  · exact h ⟨1, by decide, a⟩
  · exact h ⟨0, by decide, a⟩) ⟨rfl, rfl, rfl, rfl, e⟩
theorem stat_n {rf : Nat → Int32} {w : Int32} (h : ¬ kIn w 6) : statR rf w (-1) := Or.inl ⟨h, rfl⟩
theorem stat_y {rf : Nat → Int32} {k : Nat} {x : Int32} (h : k < 6) (hx : x = rf k) : statR rf (nI k) x := Or.inr ⟨k, h, rfl, hx⟩
/-! draws, as the reference does them -/
theorem kdr_rem (x : Nat) (h : x < 2147483648) : (1103515245 * Int64.ofNat x + 12345) - (1103515245 * Int64.ofNat x + 12345) / 2147483648 * 2147483648 = Int64.ofNat (kdr x) := by
  have h1 : (1103515245 : Int64) * Int64.ofNat x + 12345 = Int64.ofNat (1103515245 * x + 12345) := by
    rw [Int64.ofNat_add, Int64.ofNat_mul]; rfl
  have h2 : (2147483648 : Int64) = Int64.ofNat 2147483648 := rfl
  rw [h1, h2, kofn_rem (by omega) (by omega) (by omega)]
  rfl
set_option maxHeartbeats 4000000 in
set_option maxRecDepth 100000 in
theorem c_nm_isIn (l : Launch) (D : va_G) (cI cJ cC cZ cS : ClassId) (v : Int64) (y : Int64) (z : Int64)  : skM l yX12_isIn cX12_isIn 6 (some .boolean) 0 0 0 0 D (skT cI cJ cC cZ cS) [.long v, .long y, .long z] [] (skI D (skT cI cJ cC cZ cS) (fun (r : Int32) (u : va_W) => ∃ (b : Nat), ((b = 0 ∧ ¬ (y ≤ v ∧ v ≤ z)) ∨ (b = 1 ∧ y ≤ v ∧ v ≤ z)) ∧ r = nI b ∧ u = [])) := by
  refine skM_of pf_X12_isIn (Nat.le_of_ble_eq_true rfl) ?_
  intro p e s m below meth c A ls E hP hD hl
  refine skE_el E (fun hx hb hr hml hlocks hin hown hts hK hA => ?_)
  have hown : s.vm.findClass RX12 = some m.cls := hown
  have hS : va_S A s.heap s.heap [] := va_S.rf
  have hl : lv_has ls 6 [(0, .long v), (2, .long y), (4, .long z)] := hl
  refine lv_lload_n hx hb dX12_isIn_0 rfl (lv_at hl 0 rfl) ?_
  refine lv_lload_n hx hb dX12_isIn_1 rfl (lv_at hl 1 rfl) ?_
  refine W.lcmp hx hb dX12_isIn_2 ?_
  refine lv_if_lt (tgt := 17) hx hb dX12_isIn_3 (by decide) (fun c_1 => ?_) (fun c_1 => ?_)
  · skip
    refine lv_iconst (v := 0) hx hb dX12_isIn_17 ic_0 ?_
    exact sk_iret hx hb hr rfl hlocks hK hP hD hS (⟨0, Or.inl ⟨rfl, fun q => absurd q.1 (Int64.not_le.mpr ((lg_cmp_lt _ _).mp c_1))⟩, rfl, rfl⟩) (Nat.le_of_ble_eq_true rfl) (Nat.le_of_ble_eq_true rfl) dX12_isIn_18
  · skip
    refine lv_lload_n hx hb dX12_isIn_6 rfl (lv_at hl 0 rfl) ?_
    refine lv_lload hx hb dX12_isIn_7 (lv_at hl 2 rfl) ?_
    refine W.lcmp hx hb dX12_isIn_9 ?_
    refine lv_if_gt (tgt := 17) hx hb dX12_isIn_10 (by decide) (fun c_2 => ?_) (fun c_2 => ?_)
    · skip
      refine lv_iconst (v := 0) hx hb dX12_isIn_17 ic_0 ?_
      exact sk_iret hx hb hr rfl hlocks hK hP hD hS (⟨0, Or.inl ⟨rfl, fun q => absurd q.2 (Int64.not_le.mpr ((lg_cmp_gt _ _).mp c_2))⟩, rfl, rfl⟩) (Nat.le_of_ble_eq_true rfl) (Nat.le_of_ble_eq_true rfl) dX12_isIn_18
    · skip
      refine lv_iconst (v := 1) hx hb dX12_isIn_13 ic_1 ?_
      refine lv_goto (tgt := 18) hx hb dX12_isIn_14 (by decide) ?_
      exact sk_iret hx hb hr rfl hlocks hK hP hD hS (⟨1, Or.inr ⟨rfl, lg_ge c_1, lg_le c_2⟩, rfl, rfl⟩) (Nat.le_of_ble_eq_true rfl) (Nat.le_of_ble_eq_true rfl) dX12_isIn_18
set_option maxHeartbeats 4000000 in
set_option maxRecDepth 100000 in
theorem c_nm_isDay (l : Launch) (D : va_G) (cI cJ cC cZ cS : ClassId) (mm : Nat) (g : Nat → Nat) (ta : Nat) (pa : Nat) (pe : Nat) (pd : Int32) (pb : Nat) (pp : Int32) (pf : Int32) (pg : Int32) (pn : Int32) (rt : Int32) (rn : Int32) (cd : Nat) (sn : Int32) (il : Nat) (tk : Int32) (am : Int32) (at_ : Int32) (aa : Int32) (wt : Int32) (wy : Int64) (rm : Nat) (ud : Nat) (nu : Nat) (sd : Int64) (qn : Nat) (qw : Nat) (qo : Int32) (qb : Nat) (qp : Nat) (qa : Int64) (qi : Nat) (oc : Nat) (d : Int32) (l0 : Nat) (l1 : Nat) (dm : Nat) (l3 : Nat) (hdm : dm ≤ 9) : skM l yX12_isDay cX12_isDay 2 (some .boolean) 1 25 0 0 D (skT cI cJ cC cZ cS) [.ref mm, .int d] [ro_ mm 12 (mo g (nI ta) (nI pa) (nI pe) pd (nI pb) pp pf pg pn rt rn (nI cd) sn (nI il) tk am at_ aa 0 0 (-1) wt wy 0 (nI rm) (nI ud) (nI nu) sd (nI qn) (nI qw) qo (nI qb) (nI qp) qa (nI qi) (nI oc)), ra_I (g 20) cI 4 (l4 (nI l0) (nI l1) (nI dm) (nI l3))] (skI D (skT cI cJ cC cZ cS) (fun (r : Int32) (u : va_W) => ∃ (b : Nat), ((b = 0 ∧ ¬ kIn d dm) ∨ (b = 1 ∧ kIn d dm)) ∧ r = nI b ∧ u = [ro_ mm 12 (mo g (nI ta) (nI pa) (nI pe) pd (nI pb) pp pf pg pn rt rn (nI cd) sn (nI il) tk am at_ aa 0 0 (-1) wt wy 0 (nI rm) (nI ud) (nI nu) sd (nI qn) (nI qw) qo (nI qb) (nI qp) qa (nI qi) (nI oc)), ra_I (g 20) cI 4 (l4 (nI l0) (nI l1) (nI dm) (nI l3))])) := by
  refine skM_of pf_X12_isDay (Nat.le_of_ble_eq_true rfl) ?_
  intro p e s m below meth c A ls E hP hD hl
  refine skE_el E (fun hx hb hr hml hlocks hin hown hts hK hA => ?_)
  have hown : s.vm.findClass RX12 = some m.cls := hown
  have hS : va_S A s.heap s.heap [] := va_S.rf
  have hl : lv_has ls 2 [(0, .ref mm), (1, .int d)] := hl
  refine lv_iload_n hx hb dX12_isDay_0 rfl (lv_at hl 1 rfl) ?_
  refine lv_i2l hx hb dX12_isDay_1 rfl ?_
  refine lv_lconst (v := 0) hx hb dX12_isDay_2 (by decide) ?_
  refine lv_aload_n hx hb dX12_isDay_3 rfl (lv_at hl 0 rfl) ?_
  refine sk_Vi (q0 := 0) (n := 0) (rest := [.long 0, .long (Int32.toInt64 d)]) (wr := fmR om_2_3 _) ⟨hx, hb, hml, hown, hts⟩ hl.1 (c_m_dayMany l D cI cJ cC cZ cS mm g ta pa pe pd pb pp pf pg pn rt rn cd sn il tk am at_ aa 0 0 (-1) wt wy 0 rm ud nu sd qn qw qo qb qp qa qi oc l0 l1 dm l3) w_7_98 w_7_100 w_0_69 w_1_14 w_7_101 hd_X12_dayMany_0 ⟨⟨(Nat.le_of_ble_eq_true rfl), (Nat.le_of_ble_eq_true rfl)⟩, (Nat.le_of_ble_eq_true rfl), (Nat.le_of_ble_eq_true rfl)⟩ hK hP hD hS hA (fmT om_2_3 0) (fmF om_2_3 0) (fm_C1 rfl rfl) (fm_R rfl rfl) (fm_nT om_2_3 0) (fm_nF om_2_3 0) (fm_di om_2_3 0) rfl rfl rfl rfl (Nat.le_of_ble_eq_true rfl) dX12_isDay_4 (fun r_1 u H locs hw hP hD hS => ?_)
  refine anE hw (fun er_3 eu_2 => ?_)
  clear hw
  subst er_3
  refine o_mgE (ws' := [ro_ mm 12 (mo g (nI ta) (nI pa) (nI pe) pd (nI pb) pp pf pg pn rt rn (nI cd) sn (nI il) tk am at_ aa 0 0 (-1) wt wy 0 (nI rm) (nI ud) (nI nu) sd (nI qn) (nI qw) qo (nI qb) (nI qp) qa (nI qi) (nI oc)), ra_I (g 20) cI 4 (l4 (nI l0) (nI l1) (nI dm) (nI l3))]) eu_2 hP hD rfl (fun hP hD => ?_)
  refine lv_iconst (v := 1) hx hb dX12_isDay_7 ic_1 ?_
  refine lv_isub hx hb dX12_isDay_8 ?_
  refine lv_i2l hx hb dX12_isDay_9 rfl ?_
  refine sk_Si (n := 3) (rest := []) (wr := [ro_ mm 12 (mo g (nI ta) (nI pa) (nI pe) pd (nI pb) pp pf pg pn rt rn (nI cd) sn (nI il) tk am at_ aa 0 0 (-1) wt wy 0 (nI rm) (nI ud) (nI nu) sd (nI qn) (nI qw) qo (nI qb) (nI qp) qa (nI qi) (nI oc)), ra_I (g 20) cI 4 (l4 (nI l0) (nI l1) (nI dm) (nI l3))]) ⟨hx, hb, hml, hown, hts⟩ hl.1 (c_nm_isIn l D cI cJ cC cZ cS (Int32.toInt64 d) 0 (Int32.toInt64 (nI dm - 1))) w_7_0 w_7_1 w_1_14 w_7_2 hd_X12_isIn_3 ⟨⟨(Nat.le_of_ble_eq_true rfl), (Nat.le_of_ble_eq_true rfl)⟩, (Nat.le_of_ble_eq_true rfl), (Nat.le_of_ble_eq_true rfl)⟩ hK hP hD hS hA [] [0, 1] rfl rfl (by decide +kernel) (by decide +kernel) (by decide +kernel) rfl rfl (Nat.le_of_ble_eq_true rfl) dX12_isDay_10 (fun r_5 u H locs hw hP hD hS => ?_)
  obtain ⟨b_4, hb1_6, rfl, rfl⟩ := hw
  refine o_re (ws' := [ro_ mm 12 (mo g (nI ta) (nI pa) (nI pe) pd (nI pb) pp pf pg pn rt rn (nI cd) sn (nI il) tk am at_ aa 0 0 (-1) wt wy 0 (nI rm) (nI ud) (nI nu) sd (nI qn) (nI qw) qo (nI qb) (nI qp) qa (nI qi) (nI oc)), ra_I (g 20) cI 4 (l4 (nI l0) (nI l1) (nI dm) (nI l3))]) hP hD rfl (fun hP hD => ?_)
  exact sk_iret hx hb hr (nbool b_4 (by omega)) hlocks hK hP hD hS (⟨b_4, (by rcases hb1_6 with ⟨h1, h2⟩ | ⟨h1, h2, h3⟩; exact Or.inl ⟨h1, fun hq => h2 ((kin0 (n := dm) (by rw [lgp dm (by omega)]; omega) (by omega)).mpr hq)⟩; exact Or.inr ⟨h1, (kin0 (n := dm) (by rw [lgp dm (by omega)]; omega) (by omega)).mp ⟨h2, h3⟩⟩), rfl, rfl⟩) (Nat.le_of_ble_eq_true rfl) (Nat.le_of_ble_eq_true rfl) dX12_isDay_13
set_option maxHeartbeats 4000000 in
set_option maxRecDepth 100000 in
theorem c_nm_isMood (l : Launch) (D : va_G) (cI cJ cC cZ cS : ClassId) (mm : Nat) (g : Nat → Nat) (ta : Nat) (pa : Nat) (pe : Nat) (pd : Int32) (pb : Nat) (pp : Int32) (pf : Int32) (pg : Int32) (pn : Int32) (rt : Int32) (rn : Int32) (cd : Nat) (sn : Int32) (il : Nat) (tk : Int32) (am : Int32) (at_ : Int32) (aa : Int32) (wt : Int32) (wy : Int64) (rm : Nat) (ud : Nat) (nu : Nat) (sd : Int64) (qn : Nat) (qw : Nat) (qo : Int32) (qb : Nat) (qp : Nat) (qa : Int64) (qi : Nat) (oc : Nat) (d : Int32)  : skM l yX12_isMood cX12_isMood 2 (some .boolean) 1 25 0 0 D (skT cI cJ cC cZ cS) [.ref mm, .int d] [ro_ mm 12 (mo g (nI ta) (nI pa) (nI pe) pd (nI pb) pp pf pg pn rt rn (nI cd) sn (nI il) tk am at_ aa 0 0 (-1) wt wy 0 (nI rm) (nI ud) (nI nu) sd (nI qn) (nI qw) qo (nI qb) (nI qp) qa (nI qi) (nI oc))] (skI D (skT cI cJ cC cZ cS) (fun (r : Int32) (u : va_W) => ∃ (b : Nat), ((b = 0 ∧ ¬ kIn d 10) ∨ (b = 1 ∧ kIn d 10)) ∧ r = nI b ∧ u = [ro_ mm 12 (mo g (nI ta) (nI pa) (nI pe) pd (nI pb) pp pf pg pn rt rn (nI cd) sn (nI il) tk am at_ aa 0 0 (-1) wt wy 0 (nI rm) (nI ud) (nI nu) sd (nI qn) (nI qw) qo (nI qb) (nI qp) qa (nI qi) (nI oc))])) := by
  refine skM_of pf_X12_isMood (Nat.le_of_ble_eq_true rfl) ?_
  intro p e s m below meth c A ls E hP hD hl
  refine skE_el E (fun hx hb hr hml hlocks hin hown hts hK hA => ?_)
  have hown : s.vm.findClass RX12 = some m.cls := hown
  have hS : va_S A s.heap s.heap [] := va_S.rf
  have hl : lv_has ls 2 [(0, .ref mm), (1, .int d)] := hl
  refine lv_iload_n hx hb dX12_isMood_0 rfl (lv_at hl 1 rfl) ?_
  refine lv_i2l hx hb dX12_isMood_1 rfl ?_
  refine lv_lconst (v := 0) hx hb dX12_isMood_2 (by decide) ?_
  refine lv_ldc2 (v := 9) hx hb hown (hts _ w_7_130) dX12_isMood_3 ?_
  refine sk_Si (n := 3) (rest := []) (wr := [ro_ mm 12 (mo g (nI ta) (nI pa) (nI pe) pd (nI pb) pp pf pg pn rt rn (nI cd) sn (nI il) tk am at_ aa 0 0 (-1) wt wy 0 (nI rm) (nI ud) (nI nu) sd (nI qn) (nI qw) qo (nI qb) (nI qp) qa (nI qi) (nI oc))]) ⟨hx, hb, hml, hown, hts⟩ hl.1 (c_nm_isIn l D cI cJ cC cZ cS (Int32.toInt64 d) 0 9) w_7_0 w_7_1 w_1_14 w_7_2 hd_X12_isIn_3 ⟨⟨(Nat.le_of_ble_eq_true rfl), (Nat.le_of_ble_eq_true rfl)⟩, (Nat.le_of_ble_eq_true rfl), (Nat.le_of_ble_eq_true rfl)⟩ hK hP hD hS hA [] [0] rfl rfl (by decide +kernel) (by decide +kernel) (by decide +kernel) rfl rfl (Nat.le_of_ble_eq_true rfl) dX12_isMood_6 (fun r_2 u H locs hw hP hD hS => ?_)
  obtain ⟨b_1, hb1_3, rfl, rfl⟩ := hw
  refine o_re (ws' := [ro_ mm 12 (mo g (nI ta) (nI pa) (nI pe) pd (nI pb) pp pf pg pn rt rn (nI cd) sn (nI il) tk am at_ aa 0 0 (-1) wt wy 0 (nI rm) (nI ud) (nI nu) sd (nI qn) (nI qw) qo (nI qb) (nI qp) qa (nI qi) (nI oc))]) hP hD rfl (fun hP hD => ?_)
  exact sk_iret hx hb hr (nbool b_1 (by omega)) hlocks hK hP hD hS (⟨b_1, (by rcases hb1_3 with ⟨h1, h2⟩ | ⟨h1, h2, h3⟩; exact Or.inl ⟨h1, fun hq => h2 ((kin0 (n := 10) (by decide) (by omega)).mpr hq)⟩; exact Or.inr ⟨h1, (kin0 (n := 10) (by decide) (by omega)).mp ⟨h2, h3⟩⟩), rfl, rfl⟩) (Nat.le_of_ble_eq_true rfl) (Nat.le_of_ble_eq_true rfl) dX12_isMood_9
set_option maxHeartbeats 4000000 in
set_option maxRecDepth 100000 in
theorem c_nm_isMute (l : Launch) (D : va_G) (cI cJ cC cZ cS : ClassId) (mm : Nat) (g : Nat → Nat) (ta : Nat) (pa : Nat) (pe : Nat) (pd : Int32) (pb : Nat) (pp : Int32) (pf : Int32) (pg : Int32) (pn : Int32) (rt : Int32) (rn : Int32) (cd : Nat) (sn : Int32) (il : Nat) (tk : Int32) (am : Int32) (at_ : Int32) (aa : Int32) (wt : Int32) (wy : Int64) (rm : Nat) (ud : Nat) (nu : Nat) (sd : Int64) (qn : Nat) (qw : Nat) (qo : Int32) (qb : Nat) (qp : Nat) (qa : Int64) (qi : Nat) (oc : Nat) (d : Nat) (nw : Nat → Int32) (wn : Nat) (mN : Nat) (Ba : Nat → Nat) (We : Nat → Nat) (U : Nat → Bool) (ke : Nat) (lg : KLg) (hd : d < 9) (hnw : nwX wn mN Ba We U ke lg nw) : skM l yX12_isMute cX12_isMute 2 (some .boolean) 0 0 0 0 D (skT cI cJ cC cZ cS) [.ref mm, .int (nI d)] [ro_ mm 12 (mo g (nI ta) (nI pa) (nI pe) pd (nI pb) pp pf pg pn rt rn (nI cd) sn (nI il) tk am at_ aa 0 0 (-1) wt wy 0 (nI rm) (nI ud) (nI nu) sd (nI qn) (nI qw) qo (nI qb) (nI qp) qa (nI qi) (nI oc)), ra_I (g 31) cI 120 nw] (skI D (skT cI cJ cC cZ cS) (fun (r : Int32) (u : va_W) => ∃ (b : Nat), ((b = 1 ∧ U d = true) ∨ (b = 0 ∧ ¬ U d = true)) ∧ r = nI b ∧ u = [ro_ mm 12 (mo g (nI ta) (nI pa) (nI pe) pd (nI pb) pp pf pg pn rt rn (nI cd) sn (nI il) tk am at_ aa 0 0 (-1) wt wy 0 (nI rm) (nI ud) (nI nu) sd (nI qn) (nI qw) qo (nI qb) (nI qp) qa (nI qi) (nI oc)), ra_I (g 31) cI 120 nw])) := by
  refine skM_of pf_X12_isMute (Nat.le_of_ble_eq_true rfl) ?_
  intro p e s m below meth c A ls E hP hD hl
  refine skE_el E (fun hx hb hr hml hlocks hin hown hts hK hA => ?_)
  have hown : s.vm.findClass RX12 = some m.cls := hown
  have hS : va_S A s.heap s.heap [] := va_S.rf
  have hl : lv_has ls 2 [(0, .ref mm), (1, .int (nI d))] := hl
  refine lv_aload_n hx hb dX12_isMute_0 rfl (lv_at hl 0 rfl) ?_
  refine sk_get (v := .ref (g 31)) (C := RX12) (T := TX12) (N := 92) hx hb hts inlX12 hown hK hP 0 rfl rfl 31 (Nat.le_of_ble_eq_true rfl) w_5_186 rfl dX12_isMute_1 ?_
  refine lv_iconst (v := 2) hx hb dX12_isMute_4 ic_2 ?_
  refine lv_iconst (v := 3) hx hb dX12_isMute_5 ic_3 ?_
  refine lv_iload_n hx hb dX12_isMute_6 rfl (lv_at hl 1 rfl) ?_
  refine lv_imul hx hb dX12_isMute_7 ?_
  refine sk_top (nI (3 * d)) (nmul 3 d) ?_
  refine lv_iadd hx hb dX12_isMute_8 ?_
  refine sk_top (nI (2 + (3 * d))) (nI_add 2 (3 * d)) ?_
  refine lv_iconst (v := 2) hx hb dX12_isMute_9 ic_2 ?_
  refine lv_iadd hx hb dX12_isMute_10 ?_
  refine sk_top (nI (2 + (3 * d) + 2)) (nI_add (2 + (3 * d)) 2) ?_
  refine va_iald hx hb hK.1 hP 1 0 rfl rfl (vin (2 + (3 * d) + 2) 120 (by omega) (Nat.le_of_ble_eq_true rfl)) dX12_isMute_11 ?_
  refine lv_iconst (v := 1) hx hb dX12_isMute_12 ic_1 ?_
  refine lv_icmp_ne (tgt := 20) hx hb dX12_isMute_13 (by decide) (fun c_1 => ?_) (fun c_1 => ?_)
  · skip
    refine lv_iconst (v := 0) hx hb dX12_isMute_20 ic_0 ?_
    exact sk_iret hx hb hr rfl hlocks hK hP hD hS (⟨0, Or.inr ⟨rfl, fun hq => c_1 ((nwX_m1 hnw hd).mpr hq)⟩, rfl, rfl⟩) (Nat.le_of_ble_eq_true rfl) (Nat.le_of_ble_eq_true rfl) dX12_isMute_21
  · skip
    refine lv_iconst (v := 1) hx hb dX12_isMute_16 ic_1 ?_
    refine lv_goto (tgt := 21) hx hb dX12_isMute_17 (by decide) ?_
    exact sk_iret hx hb hr rfl hlocks hK hP hD hS (⟨1, Or.inl ⟨rfl, (nwX_m1 hnw hd).mp c_1⟩, rfl, rfl⟩) (Nat.le_of_ble_eq_true rfl) (Nat.le_of_ble_eq_true rfl) dX12_isMute_21
set_option maxHeartbeats 4000000 in
set_option maxRecDepth 100000 in
theorem c_nm_bitsX (l : Launch) (D : va_G) (cI cJ cC cZ cS : ClassId) (mz : Nat) (hm : mz < 512) : skM l yX12_bits cX12_bits 3 (some .int) 0 0 0 0 D (skT cI cJ cC cZ cS) [.int (nI mz)] [] (skI D (skT cI cJ cC cZ cS) (fun (r : Int32) (u : va_W) => r = nI (kpop mz) ∧ u = [])) := by
  refine skM_of pf_X12_bits (Nat.le_of_ble_eq_true rfl) ?_
  intro p e s m below meth c A ls E hP hD hl
  refine skE_el E (fun hx hb hr hml hlocks hin hown hts hK hA => ?_)
  have hown : s.vm.findClass RX12 = some m.cls := hown
  have hS : va_S A s.heap s.heap [] := va_S.rf
  have hl : lv_has ls 3 [(0, .int (nI mz))] := hl
  refine lv_iconst (v := 0) hx hb dX12_bits_0 ic_0 ?_
  refine lv_istore_n (lv' := [(1, .int 0), (0, .int (nI mz))]) hx hb dX12_bits_1 rfl hl (by decide) rfl (fun ls hl => ?_)
  refine lv_iload_n hx hb dX12_bits_2 rfl (lv_at hl 1 rfl) ?_
  refine lv_istore_n (lv' := [(2, .int (nI mz)), (1, .int 0), (0, .int (nI mz))]) hx hb dX12_bits_3 rfl hl (by decide) rfl (fun ls hl => ?_)
  have lp_1 : ∀ (n_2 : Nat) (bs : Nat) (bn : Nat) (H : Heap) (locs : List Loc) (ls : Array Slot), bs < n_2 → (bs < 512) → (bn + kpop bs = kpop mz) → va_P D vwCl [] H → va_D A [] → va_S A s.heap H locs → lv_has ls 3 [(2, .int (nI bs)), (1, .int (nI bn)), (0, .int (nI mz))] → W p l e { frames := 0, cells := 0, slots := 0, locals := 0 } s m ([.int (nI mz)] : List Value).toArray below meth c H locs 0 0 (MQ below (skI D (skT cI cJ cC cZ cS) (fun (r : Int32) (u : va_W) => r = nI (kpop mz) ∧ u = []) A) ([.int (nI mz)] : List Value).toArray s 0 0 A) (F0 m 4 ls []) := by
    intro n_2
    induction n_2 with
    | zero => intro bs bn H locs ls hm; exact absurd hm (Nat.not_lt_zero _)
    | succ n_2 ih_lp_1 =>
      intro bs bn H locs ls hm hbs hbn hP hD hS hl
      refine lv_iload_n hx hb dX12_bits_4 rfl (lv_at hl 0 rfl) ?_
      refine lv_if_eq (tgt := 20) hx hb dX12_bits_5 (by decide) (fun c_3 => ?_) (fun c_3 => ?_)
      · have c_3 : bs = 0 := (neq bs 0 (by omega) (Nat.le_of_ble_eq_true rfl)).mp c_3
        refine lv_iload_n hx hb dX12_bits_20 rfl (lv_at hl 1 rfl) ?_
        exact sk_iret hx hb hr rfl hlocks hK hP hD hS (⟨(congrArg nI (by have h9 := hbn; rw [show bs = 0 by omega, kpop_0] at h9; omega)), rfl⟩) (Nat.le_of_ble_eq_true rfl) (Nat.le_of_ble_eq_true rfl) dX12_bits_21
      · have c_3 : ¬ (bs = 0) := fun h => c_3 ((neq bs 0 (by omega) (Nat.le_of_ble_eq_true rfl)).mpr h)
        refine lv_iinc (v := nI (bn + 1)) (lv' := [(1, .int (nI (bn + 1))), (2, .int (nI bs)), (0, .int (nI mz))]) hx hb dX12_bits_8 hl (k := 1) rfl (ninc bn 1 (by decide)) (by decide) rfl (fun ls hl => ?_)
        refine lv_iload_n hx hb dX12_bits_11 rfl (lv_at hl 1 rfl) ?_
        refine lv_iload_n hx hb dX12_bits_12 rfl (lv_at hl 1 rfl) ?_
        refine lv_iconst (v := 1) hx hb dX12_bits_13 ic_1 ?_
        refine lv_isub hx hb dX12_bits_14 ?_
        refine sk_top (nI (bs - 1)) (nsub bs 1 (by omega)) ?_
        refine lv_iand hx hb dX12_bits_15 ?_
        have hbd := kbs_d bs (by omega) (by omega)
        refine sk_top (nI (bs &&& (bs - 1))) hbd.1 ?_
        refine lv_istore_n (lv' := [(2, .int (nI (bs &&& (bs - 1)))), (1, .int (nI (bn + 1))), (0, .int (nI mz))]) hx hb dX12_bits_16 rfl hl (by decide) rfl (fun ls hl => ?_)
        refine lv_goto (tgt := 4) hx hb dX12_bits_17 (by decide) ?_
        exact ih_lp_1 (bs &&& (bs - 1)) (bn + 1) _ _ _ (by have h9 := hbd.2.1; omega) (by have h9 := hbd.2.1; omega) (by have h9 := hbd.2.2; omega) hP hD hS (lv_sub hl [0, 1, 2] rfl)
  exact lp_1 (mz + 1) mz 0 _ _ _ (Nat.lt_succ_self _) hm (Nat.zero_add _) hP hD hS (lv_sub hl [0, 1, 2] rfl)
theorem dg_X12_muteSet_0_0 : bqL cX12_muteSet 0 [(0, [3]), (1, [60]), (2, [3]), (3, [61]), (4, [28]), (5, [42]), (6, [182, 1, 59]), (9, [162, 0, 23]), (32, [27]), (33, [172]), (12, [42]), (13, [28]), (14, [182, 1, 103]), (17, [153, 0, 9]), (26, [132, 2, 1]), (29, [167, 255, 231]), (20, [27]), (21, [4]), (22, [28]), (23, [120]), (24, [128]), (25, [60])] = true := by decide +kernel
theorem dX12_muteSet_0 : decode cX12_muteSet 0 = .ok (.iconst 0, 1) := q_iconst0 (bat_get dg_X12_muteSet_0_0 0 rfl rfl)
theorem dX12_muteSet_1 : decode cX12_muteSet 1 = .ok (.istore_n 1, 1) := q_istore_n1 (bat_get dg_X12_muteSet_0_0 1 rfl rfl)
theorem dX12_muteSet_2 : decode cX12_muteSet 2 = .ok (.iconst 0, 1) := q_iconst0 (bat_get dg_X12_muteSet_0_0 2 rfl rfl)
theorem dX12_muteSet_3 : decode cX12_muteSet 3 = .ok (.istore_n 2, 1) := q_istore_n2 (bat_get dg_X12_muteSet_0_0 3 rfl rfl)
theorem dX12_muteSet_4 : decode cX12_muteSet 4 = .ok (.iload_n 2, 1) := q_iload_n2 (bat_get dg_X12_muteSet_0_0 4 rfl rfl)
theorem dX12_muteSet_5 : decode cX12_muteSet 5 = .ok (.aload_n 0, 1) := q_aload_n0 (bat_get dg_X12_muteSet_0_0 5 rfl rfl)
theorem dX12_muteSet_6 : decode cX12_muteSet 6 = .ok (.invokevirtual 315, 3) := q_invokevirtual (bat_get dg_X12_muteSet_0_0 6 rfl rfl) rfl
theorem dX12_muteSet_9 : decode cX12_muteSet 9 = .ok (.if_icmp .ge 23, 3) := q_if_icmp_ge (bat_get dg_X12_muteSet_0_0 7 rfl rfl) rfl
theorem dX12_muteSet_32 : decode cX12_muteSet 32 = .ok (.iload_n 1, 1) := q_iload_n1 (bat_get dg_X12_muteSet_0_0 8 rfl rfl)
theorem dX12_muteSet_33 : decode cX12_muteSet 33 = .ok (.ireturn, 1) := q_ireturn (bat_get dg_X12_muteSet_0_0 9 rfl rfl)
theorem dX12_muteSet_12 : decode cX12_muteSet 12 = .ok (.aload_n 0, 1) := q_aload_n0 (bat_get dg_X12_muteSet_0_0 10 rfl rfl)
theorem dX12_muteSet_13 : decode cX12_muteSet 13 = .ok (.iload_n 2, 1) := q_iload_n2 (bat_get dg_X12_muteSet_0_0 11 rfl rfl)
theorem dX12_muteSet_14 : decode cX12_muteSet 14 = .ok (.invokevirtual 359, 3) := q_invokevirtual (bat_get dg_X12_muteSet_0_0 12 rfl rfl) rfl
theorem dX12_muteSet_17 : decode cX12_muteSet 17 = .ok (.ifCond .eq 9, 3) := q_ifCond_eq (bat_get dg_X12_muteSet_0_0 13 rfl rfl) rfl
theorem dX12_muteSet_26 : decode cX12_muteSet 26 = .ok (.iinc 2 1, 3) := q_iinc (bat_get dg_X12_muteSet_0_0 14 rfl rfl) rfl
theorem dX12_muteSet_29 : decode cX12_muteSet 29 = .ok (.goto (-25), 3) := q_goto (bat_get dg_X12_muteSet_0_0 15 rfl rfl) rfl
theorem dX12_muteSet_20 : decode cX12_muteSet 20 = .ok (.iload_n 1, 1) := q_iload_n1 (bat_get dg_X12_muteSet_0_0 16 rfl rfl)
theorem dX12_muteSet_21 : decode cX12_muteSet 21 = .ok (.iconst 1, 1) := q_iconst1 (bat_get dg_X12_muteSet_0_0 17 rfl rfl)
theorem dX12_muteSet_22 : decode cX12_muteSet 22 = .ok (.iload_n 2, 1) := q_iload_n2 (bat_get dg_X12_muteSet_0_0 18 rfl rfl)
theorem dX12_muteSet_23 : decode cX12_muteSet 23 = .ok (.ishl, 1) := q_ishl (bat_get dg_X12_muteSet_0_0 19 rfl rfl)
theorem dX12_muteSet_24 : decode cX12_muteSet 24 = .ok (.ior, 1) := q_ior (bat_get dg_X12_muteSet_0_0 20 rfl rfl)
theorem dX12_muteSet_25 : decode cX12_muteSet 25 = .ok (.istore_n 1, 1) := q_istore_n1 (bat_get dg_X12_muteSet_0_0 21 rfl rfl)
theorem w_7_105 : (Cond.code yX12_muteSet cX12_muteSet 3 (some .int)) ∈ wsL_law := sk_mem (ck_7 _ (List.mem_of_getElem? (i := 105) rfl)) rfl
set_option maxHeartbeats 4000000 in
set_option maxRecDepth 100000 in
theorem c_nm_muteSet (l : Launch) (D : va_G) (cI cJ cC cZ cS : ClassId) (mm : Nat) (g : Nat → Nat) (ta : Nat) (pa : Nat) (pe : Nat) (pd : Int32) (pb : Nat) (pp : Int32) (pf : Int32) (pg : Int32) (pn : Int32) (rt : Int32) (rn : Int32) (cd : Nat) (sn : Int32) (il : Nat) (tk : Int32) (am : Int32) (at_ : Int32) (aa : Int32) (wt : Int32) (wy : Int64) (rm : Nat) (ud : Nat) (nu : Nat) (sd : Int64) (qn : Nat) (qw : Nat) (qo : Int32) (qb : Nat) (qp : Nat) (qa : Int64) (qi : Nat) (oc : Nat) (l0 : Nat) (l1 : Nat) (dm : Nat) (l3 : Nat) (nw : Nat → Int32) (wn : Nat) (mN : Nat) (Ba : Nat → Nat) (We : Nat → Nat) (U : Nat → Bool) (ke : Nat) (lg : KLg) (hdm : dm ≤ 9) (hnw : nwX wn mN Ba We U ke lg nw) : skM l yX12_muteSet cX12_muteSet 3 (some .int) 1 21 0 0 D (skT cI cJ cC cZ cS) [.ref mm] [ro_ mm 12 (mo g (nI ta) (nI pa) (nI pe) pd (nI pb) pp pf pg pn rt rn (nI cd) sn (nI il) tk am at_ aa 0 0 (-1) wt wy 0 (nI rm) (nI ud) (nI nu) sd (nI qn) (nI qw) qo (nI qb) (nI qp) qa (nI qi) (nI oc)), ra_I (g 20) cI 4 (l4 (nI l0) (nI l1) (nI dm) (nI l3)), ra_I (g 31) cI 120 nw] (skI D (skT cI cJ cC cZ cS) (fun (r : Int32) (u : va_W) => r = nI (kcK U dm) ∧ u = [ro_ mm 12 (mo g (nI ta) (nI pa) (nI pe) pd (nI pb) pp pf pg pn rt rn (nI cd) sn (nI il) tk am at_ aa 0 0 (-1) wt wy 0 (nI rm) (nI ud) (nI nu) sd (nI qn) (nI qw) qo (nI qb) (nI qp) qa (nI qi) (nI oc)), ra_I (g 20) cI 4 (l4 (nI l0) (nI l1) (nI dm) (nI l3)), ra_I (g 31) cI 120 nw])) := by
  refine skM_of pf_X12_muteSet (Nat.le_of_ble_eq_true rfl) ?_
  intro p e s m below meth c A ls E hP hD hl
  refine skE_el E (fun hx hb hr hml hlocks hin hown hts hK hA => ?_)
  have hown : s.vm.findClass RX12 = some m.cls := hown
  have hS : va_S A s.heap s.heap [] := va_S.rf
  have hl : lv_has ls 3 [(0, .ref mm)] := hl
  refine lv_iconst (v := 0) hx hb dX12_muteSet_0 ic_0 ?_
  refine lv_istore_n (lv' := [(1, .int 0), (0, .ref mm)]) hx hb dX12_muteSet_1 rfl hl (by decide) rfl (fun ls hl => ?_)
  refine lv_iconst (v := 0) hx hb dX12_muteSet_2 ic_0 ?_
  refine lv_istore_n (lv' := [(2, .int 0), (1, .int 0), (0, .ref mm)]) hx hb dX12_muteSet_3 rfl hl (by decide) rfl (fun ls hl => ?_)
  have lp_1 : ∀ (n_2 : Nat) (i : Nat) (ms : Int32) (H : Heap) (locs : List Loc) (ls : Array Slot), dm - i < n_2 → (i ≤ dm) → (ms = nI (kcK U i)) → va_P D vwCl [ro_ mm 12 (mo g (nI ta) (nI pa) (nI pe) pd (nI pb) pp pf pg pn rt rn (nI cd) sn (nI il) tk am at_ aa 0 0 (-1) wt wy 0 (nI rm) (nI ud) (nI nu) sd (nI qn) (nI qw) qo (nI qb) (nI qp) qa (nI qi) (nI oc)), ra_I (g 20) cI 4 (l4 (nI l0) (nI l1) (nI dm) (nI l3)), ra_I (g 31) cI 120 nw] H → va_D A [ro_ mm 12 (mo g (nI ta) (nI pa) (nI pe) pd (nI pb) pp pf pg pn rt rn (nI cd) sn (nI il) tk am at_ aa 0 0 (-1) wt wy 0 (nI rm) (nI ud) (nI nu) sd (nI qn) (nI qw) qo (nI qb) (nI qp) qa (nI qi) (nI oc)), ra_I (g 20) cI 4 (l4 (nI l0) (nI l1) (nI dm) (nI l3)), ra_I (g 31) cI 120 nw] → va_S A s.heap H locs → lv_has ls 3 [(2, .int (nI i)), (1, .int ms), (0, .ref mm)] → W p l e { frames := 1, cells := 0, slots := 0, locals := 21 } s m ([.ref mm] : List Value).toArray below meth c H locs 0 0 (MQ below (skI D (skT cI cJ cC cZ cS) (fun (r : Int32) (u : va_W) => r = nI (kcK U dm) ∧ u = [ro_ mm 12 (mo g (nI ta) (nI pa) (nI pe) pd (nI pb) pp pf pg pn rt rn (nI cd) sn (nI il) tk am at_ aa 0 0 (-1) wt wy 0 (nI rm) (nI ud) (nI nu) sd (nI qn) (nI qw) qo (nI qb) (nI qp) qa (nI qi) (nI oc)), ra_I (g 20) cI 4 (l4 (nI l0) (nI l1) (nI dm) (nI l3)), ra_I (g 31) cI 120 nw]) A) ([.ref mm] : List Value).toArray s 0 0 A) (F0 m 4 ls []) := by
    intro n_2
    induction n_2 with
    | zero => intro i ms H locs ls hm; exact absurd hm (Nat.not_lt_zero _)
    | succ n_2 ih_lp_1 =>
      intro i ms H locs ls hm hi hms hP hD hS hl
      refine lv_iload_n hx hb dX12_muteSet_4 rfl (lv_at hl 0 rfl) ?_
      refine lv_aload_n hx hb dX12_muteSet_5 rfl (lv_at hl 2 rfl) ?_
      refine sk_Vi (q0 := 0) (n := 0) (rest := [.int (nI i)]) (wr := fmR om_3_6 _) ⟨hx, hb, hml, hown, hts⟩ hl.1 (c_m_dayMany l D cI cJ cC cZ cS mm g ta pa pe pd pb pp pf pg pn rt rn cd sn il tk am at_ aa 0 0 (-1) wt wy 0 rm ud nu sd qn qw qo qb qp qa qi oc l0 l1 dm l3) w_7_98 w_7_100 w_0_69 w_1_14 w_7_101 hd_X12_dayMany_0 ⟨⟨(Nat.le_of_ble_eq_true rfl), (Nat.le_of_ble_eq_true rfl)⟩, (Nat.le_of_ble_eq_true rfl), (Nat.le_of_ble_eq_true rfl)⟩ hK hP hD hS hA (fmT om_3_6 0) (fmF om_3_6 0) (fm_C1 rfl rfl) (fm_R rfl rfl) (fm_nT om_3_6 0) (fm_nF om_3_6 0) (fm_di om_3_6 0) rfl rfl rfl rfl (Nat.le_of_ble_eq_true rfl) dX12_muteSet_6 (fun r_3 u H locs hw hP hD hS => ?_)
      refine anE hw (fun er_5 eu_4 => ?_)
      clear hw
      subst er_5
      refine o_mgE (ws' := [ro_ mm 12 (mo g (nI ta) (nI pa) (nI pe) pd (nI pb) pp pf pg pn rt rn (nI cd) sn (nI il) tk am at_ aa 0 0 (-1) wt wy 0 (nI rm) (nI ud) (nI nu) sd (nI qn) (nI qw) qo (nI qb) (nI qp) qa (nI qi) (nI oc)), ra_I (g 20) cI 4 (l4 (nI l0) (nI l1) (nI dm) (nI l3)), ra_I (g 31) cI 120 nw]) eu_4 hP hD rfl (fun hP hD => ?_)
      refine lv_icmp_ge (tgt := 32) hx hb dX12_muteSet_9 (by decide) (fun c_6 => ?_) (fun c_6 => ?_)
      · have c_6 : dm ≤ i := (nle dm i (by omega) (by omega)).mp c_6
        obtain rfl : dm = i := by omega
        subst hms
        refine lv_iload_n hx hb dX12_muteSet_32 rfl (lv_at hl 1 rfl) ?_
        exact sk_iret hx hb hr rfl hlocks hK hP hD hS (⟨rfl, rfl⟩) (Nat.le_of_ble_eq_true rfl) (Nat.le_of_ble_eq_true rfl) dX12_muteSet_33
      · have c_6 : ¬ (dm ≤ i) := fun h => c_6 ((nle dm i (by omega) (by omega)).mpr h)
        refine lv_aload_n hx hb dX12_muteSet_12 rfl (lv_at hl 2 rfl) ?_
        refine lv_iload_n hx hb dX12_muteSet_13 rfl (lv_at hl 0 rfl) ?_
        refine sk_Vi (q0 := 0) (n := 1) (rest := []) (wr := fmR om_3_5 _) ⟨hx, hb, hml, hown, hts⟩ hl.1 (c_nm_isMute l D cI cJ cC cZ cS mm g ta pa pe pd pb pp pf pg pn rt rn cd sn il tk am at_ aa wt wy rm ud nu sd qn qw qo qb qp qa qi oc i nw wn mN Ba We U ke lg (by omega) hnw) w_7_106 w_7_108 w_0_71 w_1_14 w_7_109 hd_X12_isMute_1 ⟨⟨(Nat.le_of_ble_eq_true rfl), (Nat.le_of_ble_eq_true rfl)⟩, (Nat.le_of_ble_eq_true rfl), (Nat.le_of_ble_eq_true rfl)⟩ hK hP hD hS hA (fmT om_3_5 0) (fmF om_3_5 0) (fm_C1 rfl rfl) (fm_R rfl rfl) (fm_nT om_3_5 0) (fm_nF om_3_5 0) (fm_di om_3_5 0) rfl rfl rfl rfl (Nat.le_of_ble_eq_true rfl) dX12_muteSet_14 (fun r_8 u H locs hw hP hD hS => ?_)
        refine exE hw (fun b_7 hw1 => anE hw1 (fun hb1_9 hw2 => anE hw2 (fun er_11 eu_10 => ?_)))
        clear hw hw1 hw2
        subst er_11
        refine o_mgE (ws' := [ro_ mm 12 (mo g (nI ta) (nI pa) (nI pe) pd (nI pb) pp pf pg pn rt rn (nI cd) sn (nI il) tk am at_ aa 0 0 (-1) wt wy 0 (nI rm) (nI ud) (nI nu) sd (nI qn) (nI qw) qo (nI qb) (nI qp) qa (nI qi) (nI oc)), ra_I (g 20) cI 4 (l4 (nI l0) (nI l1) (nI dm) (nI l3)), ra_I (g 31) cI 120 nw]) eu_10 hP hD rfl (fun hP hD => ?_)
        refine lv_if_eq (tgt := 26) hx hb dX12_muteSet_17 (by decide) (fun c_12 => ?_) (fun c_12 => ?_)
        · have c_12 : b_7 = 0 := (neq b_7 0 (by omega) (Nat.le_of_ble_eq_true rfl)).mp c_12
          refine lv_iinc (v := nI (i + 1)) (lv' := [(2, .int (nI (i + 1))), (1, .int ms), (0, .ref mm)]) hx hb dX12_muteSet_26 hl (k := 0) rfl (ninc i 1 (by decide)) (by decide) rfl (fun ls hl => ?_)
          refine lv_goto (tgt := 4) hx hb dX12_muteSet_29 (by decide) ?_
          exact ih_lp_1 (i + 1) ms _ _ _ (by omega) (by omega) (kmK_n hms (km_0 hb1_9 (by omega))) hP hD hS (lv_sub hl [0, 1, 2] rfl)
        · have c_12 : ¬ (b_7 = 0) := fun h => c_12 ((neq b_7 0 (by omega) (Nat.le_of_ble_eq_true rfl)).mpr h)
          refine lv_iload_n hx hb dX12_muteSet_20 rfl (lv_at hl 1 rfl) ?_
          refine lv_iconst (v := 1) hx hb dX12_muteSet_21 ic_1 ?_
          refine lv_iload_n hx hb dX12_muteSet_22 rfl (lv_at hl 0 rfl) ?_
          refine lv_ishl hx hb dX12_muteSet_23 ?_
          refine lv_ior hx hb dX12_muteSet_24 ?_
          refine lv_istore_n (lv' := [(1, .int (ms ||| ((1 : Int32) <<< (nI i &&& 31)))), (2, .int (nI i)), (0, .ref mm)]) hx hb dX12_muteSet_25 rfl hl (by decide) rfl (fun ls hl => ?_)
          refine lv_iinc (v := nI (i + 1)) (lv' := [(2, .int (nI (i + 1))), (1, .int (ms ||| ((1 : Int32) <<< (nI i &&& 31)))), (0, .ref mm)]) hx hb dX12_muteSet_26 hl (k := 1) rfl (ninc i 1 (by decide)) (by decide) rfl (fun ls hl => ?_)
          refine lv_goto (tgt := 4) hx hb dX12_muteSet_29 (by decide) ?_
          exact ih_lp_1 (i + 1) (ms ||| ((1 : Int32) <<< (nI i &&& 31))) _ _ _ (by omega) (by omega) (kmK_s hms (by omega) (km_1 hb1_9 (by omega))) hP hD hS (lv_sub hl [0, 1, 2] rfl)
  exact lp_1 (dm - 0 + 1) 0 0 _ _ _ (Nat.lt_succ_self _) (by omega) rfl hP hD hS (lv_sub hl [0, 1, 2] rfl)
theorem dX12_has_1 : decode cX12_has 1 = .ok (.tableswitch 83 0 6 #[43, 48, 48, 57, 65, 73, 78], 43) := by decide +kernel
theorem dg_X12_has_0_0 : bqL cX12_has 0 [(0, [27]), (44, [42]), (45, [182, 1, 59]), (48, [172]), (49, [42]), (50, [180, 0, 63]), (53, [27]), (54, [4]), (55, [100]), (56, [46]), (57, [172]), (58, [42]), (59, [182, 1, 150]), (62, [184, 1, 153]), (65, [172]), (66, [42]), (67, [180, 0, 63]), (70, [16, 29]), (72, [46]), (73, [172]), (74, [42]), (75, [180, 1, 56]), (78, [172]), (79, [42]), (80, [180, 1, 53]), (83, [172]), (84, [2]), (85, [172])] = true := by decide +kernel
theorem dX12_has_0 : decode cX12_has 0 = .ok (.iload_n 1, 1) := q_iload_n1 (bat_get dg_X12_has_0_0 0 rfl rfl)
theorem dX12_has_44 : decode cX12_has 44 = .ok (.aload_n 0, 1) := q_aload_n0 (bat_get dg_X12_has_0_0 1 rfl rfl)
theorem dX12_has_45 : decode cX12_has 45 = .ok (.invokevirtual 315, 3) := q_invokevirtual (bat_get dg_X12_has_0_0 2 rfl rfl) rfl
theorem dX12_has_48 : decode cX12_has 48 = .ok (.ireturn, 1) := q_ireturn (bat_get dg_X12_has_0_0 3 rfl rfl)
theorem dX12_has_49 : decode cX12_has 49 = .ok (.aload_n 0, 1) := q_aload_n0 (bat_get dg_X12_has_0_0 4 rfl rfl)
theorem dX12_has_50 : decode cX12_has 50 = .ok (.getfield 63, 3) := q_getfield (bat_get dg_X12_has_0_0 5 rfl rfl) rfl
theorem dX12_has_53 : decode cX12_has 53 = .ok (.iload_n 1, 1) := q_iload_n1 (bat_get dg_X12_has_0_0 6 rfl rfl)
theorem dX12_has_54 : decode cX12_has 54 = .ok (.iconst 1, 1) := q_iconst1 (bat_get dg_X12_has_0_0 7 rfl rfl)
theorem dX12_has_55 : decode cX12_has 55 = .ok (.isub, 1) := q_isub (bat_get dg_X12_has_0_0 8 rfl rfl)
theorem dX12_has_56 : decode cX12_has 56 = .ok (.iaload, 1) := q_iaload (bat_get dg_X12_has_0_0 9 rfl rfl)
theorem dX12_has_57 : decode cX12_has 57 = .ok (.ireturn, 1) := q_ireturn (bat_get dg_X12_has_0_0 10 rfl rfl)
theorem dX12_has_58 : decode cX12_has 58 = .ok (.aload_n 0, 1) := q_aload_n0 (bat_get dg_X12_has_0_0 11 rfl rfl)
theorem dX12_has_59 : decode cX12_has 59 = .ok (.invokevirtual 406, 3) := q_invokevirtual (bat_get dg_X12_has_0_0 12 rfl rfl) rfl
theorem dX12_has_62 : decode cX12_has 62 = .ok (.invokestatic 409, 3) := q_invokestatic (bat_get dg_X12_has_0_0 13 rfl rfl) rfl
theorem dX12_has_65 : decode cX12_has 65 = .ok (.ireturn, 1) := q_ireturn (bat_get dg_X12_has_0_0 14 rfl rfl)
theorem dX12_has_66 : decode cX12_has 66 = .ok (.aload_n 0, 1) := q_aload_n0 (bat_get dg_X12_has_0_0 15 rfl rfl)
theorem dX12_has_67 : decode cX12_has 67 = .ok (.getfield 63, 3) := q_getfield (bat_get dg_X12_has_0_0 16 rfl rfl) rfl
theorem dX12_has_70 : decode cX12_has 70 = .ok (.bipush 29, 2) := q_bipush (bat_get dg_X12_has_0_0 17 rfl rfl) rfl
theorem dX12_has_72 : decode cX12_has 72 = .ok (.iaload, 1) := q_iaload (bat_get dg_X12_has_0_0 18 rfl rfl)
theorem dX12_has_73 : decode cX12_has 73 = .ok (.ireturn, 1) := q_ireturn (bat_get dg_X12_has_0_0 19 rfl rfl)
theorem dX12_has_74 : decode cX12_has 74 = .ok (.aload_n 0, 1) := q_aload_n0 (bat_get dg_X12_has_0_0 20 rfl rfl)
theorem dX12_has_75 : decode cX12_has 75 = .ok (.getfield 312, 3) := q_getfield (bat_get dg_X12_has_0_0 21 rfl rfl) rfl
theorem dX12_has_78 : decode cX12_has 78 = .ok (.ireturn, 1) := q_ireturn (bat_get dg_X12_has_0_0 22 rfl rfl)
theorem dX12_has_79 : decode cX12_has 79 = .ok (.aload_n 0, 1) := q_aload_n0 (bat_get dg_X12_has_0_0 23 rfl rfl)
theorem dX12_has_80 : decode cX12_has 80 = .ok (.getfield 309, 3) := q_getfield (bat_get dg_X12_has_0_0 24 rfl rfl) rfl
theorem dX12_has_83 : decode cX12_has 83 = .ok (.ireturn, 1) := q_ireturn (bat_get dg_X12_has_0_0 25 rfl rfl)
theorem dX12_has_84 : decode cX12_has 84 = .ok (.iconst (-1), 1) := q_iconstm1 (bat_get dg_X12_has_0_0 26 rfl rfl)
theorem dX12_has_85 : decode cX12_has 85 = .ok (.ireturn, 1) := q_ireturn (bat_get dg_X12_has_0_0 27 rfl rfl)
theorem w_7_102 : (Cond.methodLink RX12 406 yX12_muteSet) ∈ wsL_law := sk_mem (ck_7 _ (List.mem_of_getElem? (i := 102) rfl)) rfl
theorem w_7_104 : (Cond.instanceMethod yX12_muteSet) ∈ wsL_law := sk_mem (ck_7 _ (List.mem_of_getElem? (i := 104) rfl)) rfl
theorem w_0_70 : (Cond.selects RX12 yX12_muteSet yX12_muteSet) ∈ wsL_law := sk_mem (ck_0 _ (List.mem_of_getElem? (i := 70) rfl)) rfl
theorem w_5_210 : (Cond.fieldLink RX12 309 "SameKeeperModel" "undoable" "I") ∈ wsL_law := sk_mem (ck_5 _ (List.mem_of_getElem? (i := 210) rfl)) rfl
theorem w_7_97 : (Cond.code yX12_has cX12_has 2 (some .int)) ∈ wsL_law := sk_mem (ck_7 _ (List.mem_of_getElem? (i := 97) rfl)) rfl
theorem hd_X12_muteSet_0 : skD yX12_muteSet 0 := by decide +kernel
set_option maxHeartbeats 4000000 in
set_option maxRecDepth 100000 in
theorem c_nm_has (l : Launch) (D : va_G) (cI cJ cC cZ cS : ClassId) (mm : Nat) (g : Nat → Nat) (ta : Nat) (pa : Nat) (pe : Nat) (pd : Int32) (pb : Nat) (pp : Int32) (pf : Int32) (pg : Int32) (pn : Int32) (rt : Int32) (rn : Int32) (cd : Nat) (sn : Int32) (il : Nat) (tk : Int32) (am : Int32) (at_ : Int32) (aa : Int32) (wt : Int32) (wy : Int64) (rm : Nat) (ud : Nat) (nu : Nat) (sd : Int64) (qn : Nat) (qw : Nat) (qo : Int32) (qb : Nat) (qp : Nat) (qa : Int64) (qi : Nat) (oc : Nat) (w : Int32) (l0 : Nat) (l1 : Nat) (dm : Nat) (l3 : Nat) (nw : Nat → Int32) (wn : Nat) (mN : Nat) (Ba : Nat → Nat) (We : Nat → Nat) (U : Nat → Bool) (ke : Nat) (lg : KLg) (hdm : dm ≤ 9) (hUd : ∀ j, U j = true → j < dm) (hnw : nwX wn mN Ba We U ke lg nw) : skM l yX12_has cX12_has 2 (some .int) 2 43 0 0 D (skT cI cJ cC cZ cS) [.ref mm, .int w] [ro_ mm 12 (mo g (nI ta) (nI pa) (nI pe) pd (nI pb) pp pf pg pn rt rn (nI cd) sn (nI il) tk am at_ aa 0 0 (-1) wt wy 0 (nI rm) (nI ud) (nI nu) sd (nI qn) (nI qw) qo (nI qb) (nI qp) qa (nI qi) (nI oc)), ra_I (g 20) cI 4 (l4 (nI l0) (nI l1) (nI dm) (nI l3)), ra_I (g 31) cI 120 nw] (skI D (skT cI cJ cC cZ cS) (fun (r : Int32) (u : va_W) => r = hasV dm wn mN U ke rm ud w ∧ u = [ro_ mm 12 (mo g (nI ta) (nI pa) (nI pe) pd (nI pb) pp pf pg pn rt rn (nI cd) sn (nI il) tk am at_ aa 0 0 (-1) wt wy 0 (nI rm) (nI ud) (nI nu) sd (nI qn) (nI qw) qo (nI qb) (nI qp) qa (nI qi) (nI oc)), ra_I (g 20) cI 4 (l4 (nI l0) (nI l1) (nI dm) (nI l3)), ra_I (g 31) cI 120 nw])) := by
  refine skM_of pf_X12_has (Nat.le_of_ble_eq_true rfl) ?_
  intro p e s m below meth c A ls E hP hD hl
  refine skE_el E (fun hx hb hr hml hlocks hin hown hts hK hA => ?_)
  have hown : s.vm.findClass RX12 = some m.cls := hown
  have hS : va_S A s.heap s.heap [] := va_S.rf
  have hl : lv_has ls 2 [(0, .ref mm), (1, .int w)] := hl
  refine lv_iload_n hx hb dX12_has_0 rfl (lv_at hl 1 rfl) ?_
  by_cases g_1 : w = 0
  · refine lv_tableIn (off := 43) (tgt := 44) hx hb dX12_has_1 (by rw [g_1]; decide) (by rw [g_1]; decide) (by rw [g_1]; rfl) (by decide) ?_
    refine lv_aload_n hx hb dX12_has_44 rfl (lv_at hl 0 rfl) ?_
    refine sk_Vi (q0 := 0) (n := 0) (rest := []) (wr := fmR om_3_6 _) ⟨hx, hb, hml, hown, hts⟩ hl.1 (c_m_dayMany l D cI cJ cC cZ cS mm g ta pa pe pd pb pp pf pg pn rt rn cd sn il tk am at_ aa 0 0 (-1) wt wy 0 rm ud nu sd qn qw qo qb qp qa qi oc l0 l1 dm l3) w_7_98 w_7_100 w_0_69 w_1_14 w_7_101 hd_X12_dayMany_0 ⟨⟨(Nat.le_of_ble_eq_true rfl), (Nat.le_of_ble_eq_true rfl)⟩, (Nat.le_of_ble_eq_true rfl), (Nat.le_of_ble_eq_true rfl)⟩ hK hP hD hS hA (fmT om_3_6 0) (fmF om_3_6 0) (fm_C1 rfl rfl) (fm_R rfl rfl) (fm_nT om_3_6 0) (fm_nF om_3_6 0) (fm_di om_3_6 0) rfl rfl rfl rfl (Nat.le_of_ble_eq_true rfl) dX12_has_45 (fun r_2 u H locs hw hP hD hS => ?_)
    refine anE hw (fun er_4 eu_3 => ?_)
    clear hw
    subst er_4
    refine o_mgE (ws' := [ro_ mm 12 (mo g (nI ta) (nI pa) (nI pe) pd (nI pb) pp pf pg pn rt rn (nI cd) sn (nI il) tk am at_ aa 0 0 (-1) wt wy 0 (nI rm) (nI ud) (nI nu) sd (nI qn) (nI qw) qo (nI qb) (nI qp) qa (nI qi) (nI oc)), ra_I (g 20) cI 4 (l4 (nI l0) (nI l1) (nI dm) (nI l3)), ra_I (g 31) cI 120 nw]) eu_3 hP hD rfl (fun hP hD => ?_)
    exact sk_iret hx hb hr rfl hlocks hK hP hD hS (⟨(by unfold hasV; rw [g_1, if_pos rfl]), rfl⟩) (Nat.le_of_ble_eq_true rfl) (Nat.le_of_ble_eq_true rfl) dX12_has_48
  by_cases g_5 : w = 1
  · refine lv_tableIn (off := 48) (tgt := 49) hx hb dX12_has_1 (by rw [g_5]; decide) (by rw [g_5]; decide) (by rw [g_5]; rfl) (by decide) ?_
    refine lv_aload_n hx hb dX12_has_49 rfl (lv_at hl 0 rfl) ?_
    refine sk_get (v := .ref (g 31)) (C := RX12) (T := TX12) (N := 92) hx hb hts inlX12 hown hK hP 0 rfl rfl 31 (Nat.le_of_ble_eq_true rfl) w_5_186 rfl dX12_has_50 ?_
    refine lv_iload_n hx hb dX12_has_53 rfl (lv_at hl 1 rfl) ?_
    refine lv_iconst (v := 1) hx hb dX12_has_54 ic_1 ?_
    refine lv_isub hx hb dX12_has_55 ?_
    refine sk_top 0 (by rw [g_5]; decide) ?_
    refine va_iald hx hb hK.1 hP 2 0 rfl rfl (by unfold vp_in; decide) dX12_has_56 ?_
    refine sk_top (nI wn) (nwX_0 hnw) ?_
    exact sk_iret hx hb hr rfl hlocks hK hP hD hS (⟨(by unfold hasV; rw [g_5, if_neg (by decide), if_pos rfl]), rfl⟩) (Nat.le_of_ble_eq_true rfl) (Nat.le_of_ble_eq_true rfl) dX12_has_57
  by_cases g_6 : w = 2
  · refine lv_tableIn (off := 48) (tgt := 49) hx hb dX12_has_1 (by rw [g_6]; decide) (by rw [g_6]; decide) (by rw [g_6]; rfl) (by decide) ?_
    refine lv_aload_n hx hb dX12_has_49 rfl (lv_at hl 0 rfl) ?_
    refine sk_get (v := .ref (g 31)) (C := RX12) (T := TX12) (N := 92) hx hb hts inlX12 hown hK hP 0 rfl rfl 31 (Nat.le_of_ble_eq_true rfl) w_5_186 rfl dX12_has_50 ?_
    refine lv_iload_n hx hb dX12_has_53 rfl (lv_at hl 1 rfl) ?_
    refine lv_iconst (v := 1) hx hb dX12_has_54 ic_1 ?_
    refine lv_isub hx hb dX12_has_55 ?_
    refine sk_top 1 (by rw [g_6]; decide) ?_
    refine va_iald hx hb hK.1 hP 2 0 rfl rfl (by unfold vp_in; decide) dX12_has_56 ?_
    refine sk_top (nI mN) (nwX_1 hnw) ?_
    exact sk_iret hx hb hr rfl hlocks hK hP hD hS (⟨(by unfold hasV; rw [g_6, if_neg (by decide), if_neg (by decide), if_pos rfl]), rfl⟩) (Nat.le_of_ble_eq_true rfl) (Nat.le_of_ble_eq_true rfl) dX12_has_57
  by_cases g_7 : w = 3
  · refine lv_tableIn (off := 57) (tgt := 58) hx hb dX12_has_1 (by rw [g_7]; decide) (by rw [g_7]; decide) (by rw [g_7]; rfl) (by decide) ?_
    refine lv_aload_n hx hb dX12_has_58 rfl (lv_at hl 0 rfl) ?_
    refine sk_Vi (q0 := 0) (n := 0) (rest := []) (wr := fmR om_3_7 _) ⟨hx, hb, hml, hown, hts⟩ hl.1 (c_nm_muteSet l D cI cJ cC cZ cS mm g ta pa pe pd pb pp pf pg pn rt rn cd sn il tk am at_ aa wt wy rm ud nu sd qn qw qo qb qp qa qi oc l0 l1 dm l3 nw wn mN Ba We U ke lg hdm hnw) w_7_102 w_7_104 w_0_70 w_1_14 w_7_105 hd_X12_muteSet_0 ⟨⟨(Nat.le_of_ble_eq_true rfl), (Nat.le_of_ble_eq_true rfl)⟩, (Nat.le_of_ble_eq_true rfl), (Nat.le_of_ble_eq_true rfl)⟩ hK hP hD hS hA (fmT om_3_7 0) (fmF om_3_7 0) (fm_C1 rfl rfl) (fm_R rfl rfl) (fm_nT om_3_7 0) (fm_nF om_3_7 0) (fm_di om_3_7 0) rfl rfl rfl rfl (Nat.le_of_ble_eq_true rfl) dX12_has_59 (fun r_8 u H locs hw hP hD hS => ?_)
    refine anE hw (fun er_10 eu_9 => ?_)
    clear hw
    subst er_10
    refine o_mgE (ws' := [ro_ mm 12 (mo g (nI ta) (nI pa) (nI pe) pd (nI pb) pp pf pg pn rt rn (nI cd) sn (nI il) tk am at_ aa 0 0 (-1) wt wy 0 (nI rm) (nI ud) (nI nu) sd (nI qn) (nI qw) qo (nI qb) (nI qp) qa (nI qi) (nI oc)), ra_I (g 20) cI 4 (l4 (nI l0) (nI l1) (nI dm) (nI l3)), ra_I (g 31) cI 120 nw]) eu_9 hP hD rfl (fun hP hD => ?_)
    refine sk_Si (n := 1) (rest := []) (wr := [ro_ mm 12 (mo g (nI ta) (nI pa) (nI pe) pd (nI pb) pp pf pg pn rt rn (nI cd) sn (nI il) tk am at_ aa 0 0 (-1) wt wy 0 (nI rm) (nI ud) (nI nu) sd (nI qn) (nI qw) qo (nI qb) (nI qp) qa (nI qi) (nI oc)), ra_I (g 20) cI 4 (l4 (nI l0) (nI l1) (nI dm) (nI l3)), ra_I (g 31) cI 120 nw]) ⟨hx, hb, hml, hown, hts⟩ hl.1 (c_nm_bitsX l D cI cJ cC cZ cS (kcK U dm) (kmK_512 U (by omega))) w_7_110 w_7_111 w_1_14 w_7_112 hd_X12_bits_1 ⟨⟨(Nat.le_of_ble_eq_true rfl), (Nat.le_of_ble_eq_true rfl)⟩, (Nat.le_of_ble_eq_true rfl), (Nat.le_of_ble_eq_true rfl)⟩ hK hP hD hS hA [] [0, 1, 2] rfl rfl (by decide +kernel) (by decide +kernel) (by decide +kernel) rfl rfl (Nat.le_of_ble_eq_true rfl) dX12_has_62 (fun r_11 u H locs hw hP hD hS => ?_)
    obtain ⟨hr_12, rfl⟩ := hw
    refine o_re (ws' := [ro_ mm 12 (mo g (nI ta) (nI pa) (nI pe) pd (nI pb) pp pf pg pn rt rn (nI cd) sn (nI il) tk am at_ aa 0 0 (-1) wt wy 0 (nI rm) (nI ud) (nI nu) sd (nI qn) (nI qw) qo (nI qb) (nI qp) qa (nI qi) (nI oc)), ra_I (g 20) cI 4 (l4 (nI l0) (nI l1) (nI dm) (nI l3)), ra_I (g 31) cI 120 nw]) hP hD rfl (fun hP hD => ?_)
    subst hr_12
    exact sk_iret hx hb hr rfl hlocks hK hP hD hS (⟨(by unfold hasV; rw [g_7, if_neg (by decide), if_neg (by decide), if_neg (by decide), if_pos rfl, kmK_pop hUd]), rfl⟩) (Nat.le_of_ble_eq_true rfl) (Nat.le_of_ble_eq_true rfl) dX12_has_65
  by_cases g_13 : w = 4
  · refine lv_tableIn (off := 65) (tgt := 66) hx hb dX12_has_1 (by rw [g_13]; decide) (by rw [g_13]; decide) (by rw [g_13]; rfl) (by decide) ?_
    refine lv_aload_n hx hb dX12_has_66 rfl (lv_at hl 0 rfl) ?_
    refine sk_get (v := .ref (g 31)) (C := RX12) (T := TX12) (N := 92) hx hb hts inlX12 hown hK hP 0 rfl rfl 31 (Nat.le_of_ble_eq_true rfl) w_5_186 rfl dX12_has_67 ?_
    refine lv_bipush (v := 29) hx hb dX12_has_70 (by decide) ?_
    refine va_iald hx hb hK.1 hP 2 0 rfl rfl (by unfold vp_in; decide) dX12_has_72 ?_
    refine sk_top (nI (min ke 30)) (nwX_29 hnw) ?_
    exact sk_iret hx hb hr rfl hlocks hK hP hD hS (⟨(by unfold hasV; rw [g_13, if_neg (by decide), if_neg (by decide), if_neg (by decide), if_neg (by decide), if_pos rfl]), rfl⟩) (Nat.le_of_ble_eq_true rfl) (Nat.le_of_ble_eq_true rfl) dX12_has_73
  by_cases g_14 : w = 5
  · refine lv_tableIn (off := 73) (tgt := 74) hx hb dX12_has_1 (by rw [g_14]; decide) (by rw [g_14]; decide) (by rw [g_14]; rfl) (by decide) ?_
    refine lv_aload_n hx hb dX12_has_74 rfl (lv_at hl 0 rfl) ?_
    refine sk_get (v := .int (nI rm)) (C := RX12) (T := TX12) (N := 92) hx hb hts inlX12 hown hK hP 0 rfl rfl 52 (Nat.le_of_ble_eq_true rfl) w_5_207 rfl dX12_has_75 ?_
    exact sk_iret hx hb hr rfl hlocks hK hP hD hS (⟨(by unfold hasV; rw [g_14, if_neg (by decide), if_neg (by decide), if_neg (by decide), if_neg (by decide), if_neg (by decide), if_pos rfl]), rfl⟩) (Nat.le_of_ble_eq_true rfl) (Nat.le_of_ble_eq_true rfl) dX12_has_78
  by_cases g_15 : w = 6
  · refine lv_tableIn (off := 78) (tgt := 79) hx hb dX12_has_1 (by rw [g_15]; decide) (by rw [g_15]; decide) (by rw [g_15]; rfl) (by decide) ?_
    refine lv_aload_n hx hb dX12_has_79 rfl (lv_at hl 0 rfl) ?_
    refine sk_get (v := .int (nI ud)) (C := RX12) (T := TX12) (N := 92) hx hb hts inlX12 hown hK hP 0 rfl rfl 55 (Nat.le_of_ble_eq_true rfl) w_5_210 rfl dX12_has_80 ?_
    exact sk_iret hx hb hr rfl hlocks hK hP hD hS (⟨(by unfold hasV; rw [g_15, if_neg (by decide), if_neg (by decide), if_neg (by decide), if_neg (by decide), if_neg (by decide), if_neg (by decide), if_pos rfl]), rfl⟩) (Nat.le_of_ble_eq_true rfl) (Nat.le_of_ble_eq_true rfl) dX12_has_83
  refine lv_tableOut (tgt := 84) hx hb dX12_has_1 (sk_out (n := 6) (by intro k hk; rcases (show k = 0 ∨ k = 1 ∨ k = 2 ∨ k = 3 ∨ k = 4 ∨ k = 5 ∨ k = 6 by omega) with rfl | rfl | rfl | rfl | rfl | rfl | rfl <;> assumption)) (by decide) ?_
  refine lv_iconst (v := (-1)) hx hb dX12_has_84 (by decide) ?_
  exact sk_iret hx hb hr rfl hlocks hK hP hD hS (⟨(by unfold hasV; rw [if_neg (by assumption), if_neg (by assumption), if_neg (by assumption), if_neg (by assumption), if_neg (by assumption), if_neg (by assumption), if_neg (by assumption)]), rfl⟩) (Nat.le_of_ble_eq_true rfl) (Nat.le_of_ble_eq_true rfl) dX12_has_85
theorem dg_X12_day_0_0 : bqL cX12_day 0 [(0, [42]), (1, [27]), (2, [182, 1, 157]), (5, [153, 0, 30]), (35, [2]), (36, [172]), (8, [28]), (9, [133]), (10, [9]), (11, [20, 1, 160]), (14, [184, 0, 238]), (17, [153, 0, 18]), (20, [42]), (21, [180, 0, 63]), (24, [5]), (25, [6]), (26, [27]), (27, [104]), (28, [96]), (29, [28]), (30, [96]), (31, [46]), (32, [167, 0, 4])] = true := by decide +kernel
theorem dX12_day_0 : decode cX12_day 0 = .ok (.aload_n 0, 1) := q_aload_n0 (bat_get dg_X12_day_0_0 0 rfl rfl)
theorem dX12_day_1 : decode cX12_day 1 = .ok (.iload_n 1, 1) := q_iload_n1 (bat_get dg_X12_day_0_0 1 rfl rfl)
theorem dX12_day_2 : decode cX12_day 2 = .ok (.invokevirtual 413, 3) := q_invokevirtual (bat_get dg_X12_day_0_0 2 rfl rfl) rfl
theorem dX12_day_5 : decode cX12_day 5 = .ok (.ifCond .eq 30, 3) := q_ifCond_eq (bat_get dg_X12_day_0_0 3 rfl rfl) rfl
theorem dX12_day_35 : decode cX12_day 35 = .ok (.iconst (-1), 1) := q_iconstm1 (bat_get dg_X12_day_0_0 4 rfl rfl)
theorem dX12_day_36 : decode cX12_day 36 = .ok (.ireturn, 1) := q_ireturn (bat_get dg_X12_day_0_0 5 rfl rfl)
theorem dX12_day_8 : decode cX12_day 8 = .ok (.iload_n 2, 1) := q_iload_n2 (bat_get dg_X12_day_0_0 6 rfl rfl)
theorem dX12_day_9 : decode cX12_day 9 = .ok (.i2l, 1) := q_i2l (bat_get dg_X12_day_0_0 7 rfl rfl)
theorem dX12_day_10 : decode cX12_day 10 = .ok (.lconst 0, 1) := q_lconst0 (bat_get dg_X12_day_0_0 8 rfl rfl)
theorem dX12_day_11 : decode cX12_day 11 = .ok (.ldc2_w 416, 3) := q_ldc2_w (bat_get dg_X12_day_0_0 9 rfl rfl) rfl
theorem dX12_day_14 : decode cX12_day 14 = .ok (.invokestatic 238, 3) := q_invokestatic (bat_get dg_X12_day_0_0 10 rfl rfl) rfl
theorem dX12_day_17 : decode cX12_day 17 = .ok (.ifCond .eq 18, 3) := q_ifCond_eq (bat_get dg_X12_day_0_0 11 rfl rfl) rfl
theorem dX12_day_20 : decode cX12_day 20 = .ok (.aload_n 0, 1) := q_aload_n0 (bat_get dg_X12_day_0_0 12 rfl rfl)
theorem dX12_day_21 : decode cX12_day 21 = .ok (.getfield 63, 3) := q_getfield (bat_get dg_X12_day_0_0 13 rfl rfl) rfl
theorem dX12_day_24 : decode cX12_day 24 = .ok (.iconst 2, 1) := q_iconst2 (bat_get dg_X12_day_0_0 14 rfl rfl)
theorem dX12_day_25 : decode cX12_day 25 = .ok (.iconst 3, 1) := q_iconst3 (bat_get dg_X12_day_0_0 15 rfl rfl)
theorem dX12_day_26 : decode cX12_day 26 = .ok (.iload_n 1, 1) := q_iload_n1 (bat_get dg_X12_day_0_0 16 rfl rfl)
theorem dX12_day_27 : decode cX12_day 27 = .ok (.imul, 1) := q_imul (bat_get dg_X12_day_0_0 17 rfl rfl)
theorem dX12_day_28 : decode cX12_day 28 = .ok (.iadd, 1) := q_iadd (bat_get dg_X12_day_0_0 18 rfl rfl)
theorem dX12_day_29 : decode cX12_day 29 = .ok (.iload_n 2, 1) := q_iload_n2 (bat_get dg_X12_day_0_0 19 rfl rfl)
theorem dX12_day_30 : decode cX12_day 30 = .ok (.iadd, 1) := q_iadd (bat_get dg_X12_day_0_0 20 rfl rfl)
theorem dX12_day_31 : decode cX12_day 31 = .ok (.iaload, 1) := q_iaload (bat_get dg_X12_day_0_0 21 rfl rfl)
theorem dX12_day_32 : decode cX12_day 32 = .ok (.goto 4, 3) := q_goto (bat_get dg_X12_day_0_0 22 rfl rfl) rfl
theorem w_7_121 : (Cond.constantLong RX12 416 (2)) ∈ wsL_law := sk_mem (ck_7 _ (List.mem_of_getElem? (i := 121) rfl)) rfl
theorem w_7_116 : (Cond.code yX12_day cX12_day 3 (some .int)) ∈ wsL_law := sk_mem (ck_7 _ (List.mem_of_getElem? (i := 116) rfl)) rfl
set_option maxHeartbeats 4000000 in
set_option maxRecDepth 100000 in
theorem c_nm_day (l : Launch) (D : va_G) (cI cJ cC cZ cS : ClassId) (mm : Nat) (g : Nat → Nat) (ta : Nat) (pa : Nat) (pe : Nat) (pd : Int32) (pb : Nat) (pp : Int32) (pf : Int32) (pg : Int32) (pn : Int32) (rt : Int32) (rn : Int32) (cd : Nat) (sn : Int32) (il : Nat) (tk : Int32) (am : Int32) (at_ : Int32) (aa : Int32) (wt : Int32) (wy : Int64) (rm : Nat) (ud : Nat) (nu : Nat) (sd : Int64) (qn : Nat) (qw : Nat) (qo : Int32) (qb : Nat) (qp : Nat) (qa : Int64) (qi : Nat) (oc : Nat) (d : Int32) (w : Int32) (l0 : Nat) (l1 : Nat) (dm : Nat) (l3 : Nat) (nw : Nat → Int32) (wn : Nat) (mN : Nat) (Ba : Nat → Nat) (We : Nat → Nat) (U : Nat → Bool) (ke : Nat) (lg : KLg) (hdm : dm ≤ 9) (hnw : nwX wn mN Ba We U ke lg nw) : skM l yX12_day cX12_day 3 (some .int) 2 46 0 0 D (skT cI cJ cC cZ cS) [.ref mm, .int d, .int w] [ro_ mm 12 (mo g (nI ta) (nI pa) (nI pe) pd (nI pb) pp pf pg pn rt rn (nI cd) sn (nI il) tk am at_ aa 0 0 (-1) wt wy 0 (nI rm) (nI ud) (nI nu) sd (nI qn) (nI qw) qo (nI qb) (nI qp) qa (nI qi) (nI oc)), ra_I (g 20) cI 4 (l4 (nI l0) (nI l1) (nI dm) (nI l3)), ra_I (g 31) cI 120 nw] (skI D (skT cI cJ cC cZ cS) (fun (r : Int32) (u : va_W) => dayR dm Ba We U d w r ∧ u = [ro_ mm 12 (mo g (nI ta) (nI pa) (nI pe) pd (nI pb) pp pf pg pn rt rn (nI cd) sn (nI il) tk am at_ aa 0 0 (-1) wt wy 0 (nI rm) (nI ud) (nI nu) sd (nI qn) (nI qw) qo (nI qb) (nI qp) qa (nI qi) (nI oc)), ra_I (g 20) cI 4 (l4 (nI l0) (nI l1) (nI dm) (nI l3)), ra_I (g 31) cI 120 nw])) := by
  refine skM_of pf_X12_day (Nat.le_of_ble_eq_true rfl) ?_
  intro p e s m below meth c A ls E hP hD hl
  refine skE_el E (fun hx hb hr hml hlocks hin hown hts hK hA => ?_)
  have hown : s.vm.findClass RX12 = some m.cls := hown
  have hS : va_S A s.heap s.heap [] := va_S.rf
  have hl : lv_has ls 3 [(0, .ref mm), (1, .int d), (2, .int w)] := hl
  refine lv_aload_n hx hb dX12_day_0 rfl (lv_at hl 0 rfl) ?_
  refine lv_iload_n hx hb dX12_day_1 rfl (lv_at hl 1 rfl) ?_
  refine sk_Vi (q0 := 0) (n := 1) (rest := []) (wr := fmR om_3_6 _) ⟨hx, hb, hml, hown, hts⟩ hl.1 (c_nm_isDay l D cI cJ cC cZ cS mm g ta pa pe pd pb pp pf pg pn rt rn cd sn il tk am at_ aa wt wy rm ud nu sd qn qw qo qb qp qa qi oc d l0 l1 dm l3 hdm) w_7_117 w_7_119 w_0_72 w_1_14 w_7_120 hd_X12_isDay_1 ⟨⟨(Nat.le_of_ble_eq_true rfl), (Nat.le_of_ble_eq_true rfl)⟩, (Nat.le_of_ble_eq_true rfl), (Nat.le_of_ble_eq_true rfl)⟩ hK hP hD hS hA (fmT om_3_6 0) (fmF om_3_6 0) (fm_C1 rfl rfl) (fm_R rfl rfl) (fm_nT om_3_6 0) (fm_nF om_3_6 0) (fm_di om_3_6 0) rfl rfl rfl rfl (Nat.le_of_ble_eq_true rfl) dX12_day_2 (fun r_2 u H locs hw hP hD hS => ?_)
  refine exE hw (fun b_1 hw1 => anE hw1 (fun hb1_3 hw2 => anE hw2 (fun er_5 eu_4 => ?_)))
  clear hw hw1 hw2
  subst er_5
  refine o_mgE (ws' := [ro_ mm 12 (mo g (nI ta) (nI pa) (nI pe) pd (nI pb) pp pf pg pn rt rn (nI cd) sn (nI il) tk am at_ aa 0 0 (-1) wt wy 0 (nI rm) (nI ud) (nI nu) sd (nI qn) (nI qw) qo (nI qb) (nI qp) qa (nI qi) (nI oc)), ra_I (g 20) cI 4 (l4 (nI l0) (nI l1) (nI dm) (nI l3)), ra_I (g 31) cI 120 nw]) eu_4 hP hD rfl (fun hP hD => ?_)
  refine lv_if_eq (tgt := 35) hx hb dX12_day_5 (by decide) (fun c_6 => ?_) (fun c_6 => ?_)
  · have c_6 : b_1 = 0 := (neq b_1 0 (by omega) (Nat.le_of_ble_eq_true rfl)).mp c_6
    refine lv_iconst (v := (-1)) hx hb dX12_day_35 (by decide) ?_
    exact sk_iret hx hb hr rfl hlocks hK hP hD hS (⟨Or.inl ⟨(rr_0 hb1_3 (by omega)), rfl⟩, rfl⟩) (Nat.le_of_ble_eq_true rfl) (Nat.le_of_ble_eq_true rfl) dX12_day_36
  · have c_6 : ¬ (b_1 = 0) := fun h => c_6 ((neq b_1 0 (by omega) (Nat.le_of_ble_eq_true rfl)).mpr h)
    obtain ⟨kd_7, hkd_7, rfl⟩ := rr_1 hb1_3 (by omega)
    refine lv_iload_n hx hb dX12_day_8 rfl (lv_at hl 2 rfl) ?_
    refine lv_i2l hx hb dX12_day_9 rfl ?_
    refine lv_lconst (v := 0) hx hb dX12_day_10 (by decide) ?_
    refine lv_ldc2 (v := 2) hx hb hown (hts _ w_7_121) dX12_day_11 ?_
    refine sk_Si (n := 3) (rest := []) (wr := [ro_ mm 12 (mo g (nI ta) (nI pa) (nI pe) pd (nI pb) pp pf pg pn rt rn (nI cd) sn (nI il) tk am at_ aa 0 0 (-1) wt wy 0 (nI rm) (nI ud) (nI nu) sd (nI qn) (nI qw) qo (nI qb) (nI qp) qa (nI qi) (nI oc)), ra_I (g 20) cI 4 (l4 (nI l0) (nI l1) (nI dm) (nI l3)), ra_I (g 31) cI 120 nw]) ⟨hx, hb, hml, hown, hts⟩ hl.1 (c_nm_isIn l D cI cJ cC cZ cS (Int32.toInt64 w) 0 2) w_7_0 w_7_1 w_1_14 w_7_2 hd_X12_isIn_3 ⟨⟨(Nat.le_of_ble_eq_true rfl), (Nat.le_of_ble_eq_true rfl)⟩, (Nat.le_of_ble_eq_true rfl), (Nat.le_of_ble_eq_true rfl)⟩ hK hP hD hS hA [] [0, 1, 2] rfl rfl (by decide +kernel) (by decide +kernel) (by decide +kernel) rfl rfl (Nat.le_of_ble_eq_true rfl) dX12_day_14 (fun r_9 u H locs hw hP hD hS => ?_)
    obtain ⟨b_8, hb1_10, rfl, rfl⟩ := hw
    refine o_re (ws' := [ro_ mm 12 (mo g (nI ta) (nI pa) (nI pe) pd (nI pb) pp pf pg pn rt rn (nI cd) sn (nI il) tk am at_ aa 0 0 (-1) wt wy 0 (nI rm) (nI ud) (nI nu) sd (nI qn) (nI qw) qo (nI qb) (nI qp) qa (nI qi) (nI oc)), ra_I (g 20) cI 4 (l4 (nI l0) (nI l1) (nI dm) (nI l3)), ra_I (g 31) cI 120 nw]) hP hD rfl (fun hP hD => ?_)
    refine lv_if_eq (tgt := 35) hx hb dX12_day_17 (by decide) (fun c_11 => ?_) (fun c_11 => ?_)
    · have c_11 : b_8 = 0 := (neq b_8 0 (by omega) (Nat.le_of_ble_eq_true rfl)).mp c_11
      refine lv_iconst (v := (-1)) hx hb dX12_day_35 (by decide) ?_
      exact sk_iret hx hb hr rfl hlocks hK hP hD hS (⟨Or.inr ⟨kd_7, by omega, rfl, dyR_n (fun hq => rr_0 hb1_10 (by omega) ((kin0 (n := 3) (by decide) (by omega)).mpr hq))⟩, rfl⟩) (Nat.le_of_ble_eq_true rfl) (Nat.le_of_ble_eq_true rfl) dX12_day_36
    · have c_11 : ¬ (b_8 = 0) := fun h => c_11 ((neq b_8 0 (by omega) (Nat.le_of_ble_eq_true rfl)).mpr h)
      obtain ⟨kd_12, hkd_12, rfl⟩ := (kin0 (n := 3) (by decide) (by omega)).mp (rr_1 hb1_10 (by omega))
      refine lv_aload_n hx hb dX12_day_20 rfl (lv_at hl 0 rfl) ?_
      refine sk_get (v := .ref (g 31)) (C := RX12) (T := TX12) (N := 92) hx hb hts inlX12 hown hK hP 0 rfl rfl 31 (Nat.le_of_ble_eq_true rfl) w_5_186 rfl dX12_day_21 ?_
      refine lv_iconst (v := 2) hx hb dX12_day_24 ic_2 ?_
      refine lv_iconst (v := 3) hx hb dX12_day_25 ic_3 ?_
      refine lv_iload_n hx hb dX12_day_26 rfl (lv_at hl 1 rfl) ?_
      refine lv_imul hx hb dX12_day_27 ?_
      refine sk_top (nI (3 * kd_7)) (nmul 3 kd_7) ?_
      refine lv_iadd hx hb dX12_day_28 ?_
      refine sk_top (nI (2 + (3 * kd_7))) (nI_add 2 (3 * kd_7)) ?_
      refine lv_iload_n hx hb dX12_day_29 rfl (lv_at hl 2 rfl) ?_
      refine lv_iadd hx hb dX12_day_30 ?_
      refine sk_top (nI (2 + (3 * kd_7) + kd_12)) (nI_add (2 + (3 * kd_7)) kd_12) ?_
      refine va_iald hx hb hK.1 hP 2 0 rfl rfl (vin (2 + (3 * kd_7) + kd_12) 120 (by omega) (Nat.le_of_ble_eq_true rfl)) dX12_day_31 ?_
      refine sk_top (nw (2 + (3 * kd_7) + kd_12)) (by rw [nI_clamp (by omega)]) ?_
      refine lv_goto (tgt := 36) hx hb dX12_day_32 (by decide) ?_
      exact sk_iret hx hb hr rfl hlocks hK hP hD hS (⟨Or.inr ⟨kd_7, by omega, rfl, dyR_y hnw (by omega) (by omega) rfl⟩, rfl⟩) (Nat.le_of_ble_eq_true rfl) (Nat.le_of_ble_eq_true rfl) dX12_day_36
theorem dg_X12_told_0_0 : bqL cX12_told 0 [(0, [42]), (1, [27]), (2, [182, 1, 157]), (5, [153, 0, 28]), (33, [2]), (34, [172]), (8, [42]), (9, [28]), (10, [182, 1, 162]), (13, [153, 0, 20]), (16, [42]), (17, [27]), (18, [182, 1, 103]), (21, [154, 0, 12]), (24, [42]), (25, [27]), (26, [28]), (27, [182, 1, 96]), (30, [167, 0, 4])] = true := by decide +kernel
theorem dX12_told_0 : decode cX12_told 0 = .ok (.aload_n 0, 1) := q_aload_n0 (bat_get dg_X12_told_0_0 0 rfl rfl)
theorem dX12_told_1 : decode cX12_told 1 = .ok (.iload_n 1, 1) := q_iload_n1 (bat_get dg_X12_told_0_0 1 rfl rfl)
theorem dX12_told_2 : decode cX12_told 2 = .ok (.invokevirtual 413, 3) := q_invokevirtual (bat_get dg_X12_told_0_0 2 rfl rfl) rfl
theorem dX12_told_5 : decode cX12_told 5 = .ok (.ifCond .eq 28, 3) := q_ifCond_eq (bat_get dg_X12_told_0_0 3 rfl rfl) rfl
theorem dX12_told_33 : decode cX12_told 33 = .ok (.iconst (-1), 1) := q_iconstm1 (bat_get dg_X12_told_0_0 4 rfl rfl)
theorem dX12_told_34 : decode cX12_told 34 = .ok (.ireturn, 1) := q_ireturn (bat_get dg_X12_told_0_0 5 rfl rfl)
theorem dX12_told_8 : decode cX12_told 8 = .ok (.aload_n 0, 1) := q_aload_n0 (bat_get dg_X12_told_0_0 6 rfl rfl)
theorem dX12_told_9 : decode cX12_told 9 = .ok (.iload_n 2, 1) := q_iload_n2 (bat_get dg_X12_told_0_0 7 rfl rfl)
theorem dX12_told_10 : decode cX12_told 10 = .ok (.invokevirtual 418, 3) := q_invokevirtual (bat_get dg_X12_told_0_0 8 rfl rfl) rfl
theorem dX12_told_13 : decode cX12_told 13 = .ok (.ifCond .eq 20, 3) := q_ifCond_eq (bat_get dg_X12_told_0_0 9 rfl rfl) rfl
theorem dX12_told_16 : decode cX12_told 16 = .ok (.aload_n 0, 1) := q_aload_n0 (bat_get dg_X12_told_0_0 10 rfl rfl)
theorem dX12_told_17 : decode cX12_told 17 = .ok (.iload_n 1, 1) := q_iload_n1 (bat_get dg_X12_told_0_0 11 rfl rfl)
theorem dX12_told_18 : decode cX12_told 18 = .ok (.invokevirtual 359, 3) := q_invokevirtual (bat_get dg_X12_told_0_0 12 rfl rfl) rfl
theorem dX12_told_21 : decode cX12_told 21 = .ok (.ifCond .ne 12, 3) := q_ifCond_ne (bat_get dg_X12_told_0_0 13 rfl rfl) rfl
theorem dX12_told_24 : decode cX12_told 24 = .ok (.aload_n 0, 1) := q_aload_n0 (bat_get dg_X12_told_0_0 14 rfl rfl)
theorem dX12_told_25 : decode cX12_told 25 = .ok (.iload_n 1, 1) := q_iload_n1 (bat_get dg_X12_told_0_0 15 rfl rfl)
theorem dX12_told_26 : decode cX12_told 26 = .ok (.iload_n 2, 1) := q_iload_n2 (bat_get dg_X12_told_0_0 16 rfl rfl)
theorem dX12_told_27 : decode cX12_told 27 = .ok (.invokevirtual 352, 3) := q_invokevirtual (bat_get dg_X12_told_0_0 17 rfl rfl) rfl
theorem dX12_told_30 : decode cX12_told 30 = .ok (.goto 4, 3) := q_goto (bat_get dg_X12_told_0_0 18 rfl rfl) rfl
theorem w_7_125 : (Cond.code yX12_told cX12_told 3 (some .int)) ∈ wsL_law := sk_mem (ck_7 _ (List.mem_of_getElem? (i := 125) rfl)) rfl
set_option maxHeartbeats 4000000 in
set_option maxRecDepth 100000 in
theorem c_nm_told (l : Launch) (D : va_G) (cI cJ cC cZ cS : ClassId) (mm : Nat) (g : Nat → Nat) (ta : Nat) (pa : Nat) (pe : Nat) (pd : Int32) (pb : Nat) (pp : Int32) (pf : Int32) (pg : Int32) (pn : Int32) (rt : Int32) (rn : Int32) (cd : Nat) (sn : Int32) (il : Nat) (tk : Int32) (am : Int32) (at_ : Int32) (aa : Int32) (wt : Int32) (wy : Int64) (rm : Nat) (ud : Nat) (nu : Nat) (sd : Int64) (qn : Nat) (qw : Nat) (qo : Int32) (qb : Nat) (qp : Nat) (qa : Int64) (qi : Nat) (oc : Nat) (d : Int32) (o : Int32) (u0 : Int32) (u1 : Int32) (u2 : Int32) (u3 : Int32) (u4 : Int32) (u5 : Int32) (v0 : Int32) (v1 : Int32) (v2 : Int32) (v3 : Int32) (v4 : Int32) (v5 : Int32) (cs : Nat → Nat) (nw : Nat → Int32) (pt : Nat → Nat) (ql : Nat → Int64) (l0 : Nat) (l1 : Nat) (dm : Nat) (l3 : Nat) (wn : Nat) (mN : Nat) (Ba : Nat → Nat) (We : Nat → Nat) (U : Nat → Bool) (ke : Nat) (lg : KLg) (L : LkS) (hdm : dm ≤ 9) (hLk : kcLk L) (hkl : (lK L).length ≤ 1600) (hB9 : ∀ j, Ba j ≤ 9) (hW9 : ∀ j, We j ≤ 9) (hwk : wn ≤ 999) (hmw0 : mwO L 0 u3 v3 cs) (hcs : ∀ j, cs j ≤ 20000) (hnw : nwX wn mN Ba We U ke lg nw) (hpt : ∀ j, pt j ≤ 9) : skM l yX12_told cX12_told 3 (some .int) 4 96 0 0 D (skT cI cJ cC cZ cS) [.ref mm, .int d, .int o] [ro_ mm 12 (mo g (nI ta) (nI pa) (nI pe) pd (nI pb) pp pf pg pn rt rn (nI cd) sn (nI il) tk am at_ aa 0 0 (-1) wt wy 0 (nI rm) (nI ud) (nI nu) sd (nI qn) (nI qw) qo (nI qb) (nI qp) qa (nI qi) (nI oc)), ra_I (g 24) cI 6 (l6 u0 u1 u2 u3 u4 u5), ra_I (g 25) cI 6 (l6 v0 v1 v2 v3 v4 v5), ra_N (g 26) cI 3200 cs, ra_I (g 31) cI 120 nw, ra_N (g 46) cI 9 pt, ra_J (g 86) cJ 1700 ql, ra_I (g 20) cI 4 (l4 (nI l0) (nI l1) (nI dm) (nI l3))] (skI D (skT cI cJ cC cZ cS) (fun (r : Int32) (u : va_W) => ∃ (tk2 : Int32), ∃ (qp2 : Nat), ∃ (am2 : Int32), ∃ (ql2 : Nat → Int64), toldR L dm wn Ba We U d o r ∧ u = [ro_ mm 12 (mo g (nI ta) (nI pa) (nI pe) pd (nI pb) pp pf pg pn rt rn (nI cd) sn (nI il) tk2 am2 at_ aa 0 0 (-1) wt wy 0 (nI rm) (nI ud) (nI nu) sd (nI qn) (nI qw) qo (nI qb) (nI qp2) qa (nI qi) (nI oc)), ra_I (g 24) cI 6 (l6 u0 u1 u2 u3 u4 u5), ra_I (g 25) cI 6 (l6 v0 v1 v2 v3 v4 v5), ra_N (g 26) cI 3200 cs, ra_I (g 31) cI 120 nw, ra_N (g 46) cI 9 pt, ra_J (g 86) cJ 1700 ql2, ra_I (g 20) cI 4 (l4 (nI l0) (nI l1) (nI dm) (nI l3))])) := by
  refine skM_of pf_X12_told (Nat.le_of_ble_eq_true rfl) ?_
  intro p e s m below meth c A ls E hP hD hl
  refine skE_el E (fun hx hb hr hml hlocks hin hown hts hK hA => ?_)
  have hown : s.vm.findClass RX12 = some m.cls := hown
  have hS : va_S A s.heap s.heap [] := va_S.rf
  have hl : lv_has ls 3 [(0, .ref mm), (1, .int d), (2, .int o)] := hl
  refine lv_aload_n hx hb dX12_told_0 rfl (lv_at hl 0 rfl) ?_
  refine lv_iload_n hx hb dX12_told_1 rfl (lv_at hl 1 rfl) ?_
  refine sk_Vi (q0 := 0) (n := 1) (rest := []) (wr := fmR om_8_81 _) ⟨hx, hb, hml, hown, hts⟩ hl.1 (c_nm_isDay l D cI cJ cC cZ cS mm g ta pa pe pd pb pp pf pg pn rt rn cd sn il tk am at_ aa wt wy rm ud nu sd qn qw qo qb qp qa qi oc d l0 l1 dm l3 hdm) w_7_117 w_7_119 w_0_72 w_1_14 w_7_120 hd_X12_isDay_1 ⟨⟨(Nat.le_of_ble_eq_true rfl), (Nat.le_of_ble_eq_true rfl)⟩, (Nat.le_of_ble_eq_true rfl), (Nat.le_of_ble_eq_true rfl)⟩ hK hP hD hS hA (fmT om_8_81 0) (fmF om_8_81 0) (fm_C1 rfl rfl) (fm_R rfl rfl) (fm_nT om_8_81 0) (fm_nF om_8_81 0) (fm_di om_8_81 0) rfl rfl rfl rfl (Nat.le_of_ble_eq_true rfl) dX12_told_2 (fun r_2 u H locs hw hP hD hS => ?_)
  refine exE hw (fun b_1 hw1 => anE hw1 (fun hb1_3 hw2 => anE hw2 (fun er_5 eu_4 => ?_)))
  clear hw hw1 hw2
  subst er_5
  refine o_mgE (ws' := [ro_ mm 12 (mo g (nI ta) (nI pa) (nI pe) pd (nI pb) pp pf pg pn rt rn (nI cd) sn (nI il) tk am at_ aa 0 0 (-1) wt wy 0 (nI rm) (nI ud) (nI nu) sd (nI qn) (nI qw) qo (nI qb) (nI qp) qa (nI qi) (nI oc)), ra_I (g 24) cI 6 (l6 u0 u1 u2 u3 u4 u5), ra_I (g 25) cI 6 (l6 v0 v1 v2 v3 v4 v5), ra_N (g 26) cI 3200 cs, ra_I (g 31) cI 120 nw, ra_N (g 46) cI 9 pt, ra_J (g 86) cJ 1700 ql, ra_I (g 20) cI 4 (l4 (nI l0) (nI l1) (nI dm) (nI l3))]) eu_4 hP hD rfl (fun hP hD => ?_)
  refine lv_if_eq (tgt := 33) hx hb dX12_told_5 (by decide) (fun c_6 => ?_) (fun c_6 => ?_)
  · have c_6 : b_1 = 0 := (neq b_1 0 (by omega) (Nat.le_of_ble_eq_true rfl)).mp c_6
    refine lv_iconst (v := (-1)) hx hb dX12_told_33 (by decide) ?_
    exact sk_iret hx hb hr rfl hlocks hK hP hD hS (⟨tk, qp, am, ql, tld_0 (rr_0 hb1_3 (by omega)), rfl⟩) (Nat.le_of_ble_eq_true rfl) (Nat.le_of_ble_eq_true rfl) dX12_told_34
  · have c_6 : ¬ (b_1 = 0) := fun h => c_6 ((neq b_1 0 (by omega) (Nat.le_of_ble_eq_true rfl)).mpr h)
    obtain ⟨kd_7, hkd_7, rfl⟩ := rr_1 hb1_3 (by omega)
    refine lv_aload_n hx hb dX12_told_8 rfl (lv_at hl 0 rfl) ?_
    refine lv_iload_n hx hb dX12_told_9 rfl (lv_at hl 2 rfl) ?_
    refine sk_Vi (q0 := 0) (n := 1) (rest := []) (wr := fmR om_8_80 _) ⟨hx, hb, hml, hown, hts⟩ hl.1 (c_nm_isMood l D cI cJ cC cZ cS mm g ta pa pe pd pb pp pf pg pn rt rn cd sn il tk am at_ aa wt wy rm ud nu sd qn qw qo qb qp qa qi oc o) w_7_126 w_7_128 w_0_73 w_1_14 w_7_129 hd_X12_isMood_1 ⟨⟨(Nat.le_of_ble_eq_true rfl), (Nat.le_of_ble_eq_true rfl)⟩, (Nat.le_of_ble_eq_true rfl), (Nat.le_of_ble_eq_true rfl)⟩ hK hP hD hS hA (fmT om_8_80 0) (fmF om_8_80 0) (fm_C1 rfl rfl) (fm_R rfl rfl) (fm_nT om_8_80 0) (fm_nF om_8_80 0) (fm_di om_8_80 0) rfl rfl rfl rfl (Nat.le_of_ble_eq_true rfl) dX12_told_10 (fun r_9 u H locs hw hP hD hS => ?_)
    refine exE hw (fun b_8 hw1 => anE hw1 (fun hb1_10 hw2 => anE hw2 (fun er_12 eu_11 => ?_)))
    clear hw hw1 hw2
    subst er_12
    refine o_mgE (ws' := [ro_ mm 12 (mo g (nI ta) (nI pa) (nI pe) pd (nI pb) pp pf pg pn rt rn (nI cd) sn (nI il) tk am at_ aa 0 0 (-1) wt wy 0 (nI rm) (nI ud) (nI nu) sd (nI qn) (nI qw) qo (nI qb) (nI qp) qa (nI qi) (nI oc)), ra_I (g 24) cI 6 (l6 u0 u1 u2 u3 u4 u5), ra_I (g 25) cI 6 (l6 v0 v1 v2 v3 v4 v5), ra_N (g 26) cI 3200 cs, ra_I (g 31) cI 120 nw, ra_N (g 46) cI 9 pt, ra_J (g 86) cJ 1700 ql, ra_I (g 20) cI 4 (l4 (nI l0) (nI l1) (nI dm) (nI l3))]) eu_11 hP hD rfl (fun hP hD => ?_)
    refine lv_if_eq (tgt := 33) hx hb dX12_told_13 (by decide) (fun c_13 => ?_) (fun c_13 => ?_)
    · have c_13 : b_8 = 0 := (neq b_8 0 (by omega) (Nat.le_of_ble_eq_true rfl)).mp c_13
      refine lv_iconst (v := (-1)) hx hb dX12_told_33 (by decide) ?_
      exact sk_iret hx hb hr rfl hlocks hK hP hD hS (⟨tk, qp, am, ql, tld_1 (rr_0 hb1_10 (by omega)), rfl⟩) (Nat.le_of_ble_eq_true rfl) (Nat.le_of_ble_eq_true rfl) dX12_told_34
    · have c_13 : ¬ (b_8 = 0) := fun h => c_13 ((neq b_8 0 (by omega) (Nat.le_of_ble_eq_true rfl)).mpr h)
      obtain ⟨kd_14, hkd_14, rfl⟩ := rr_1 hb1_10 (by omega)
      refine lv_aload_n hx hb dX12_told_16 rfl (lv_at hl 0 rfl) ?_
      refine lv_iload_n hx hb dX12_told_17 rfl (lv_at hl 1 rfl) ?_
      refine sk_Vi (q0 := 0) (n := 1) (rest := []) (wr := fmR om_8_88 _) ⟨hx, hb, hml, hown, hts⟩ hl.1 (c_nm_isMute l D cI cJ cC cZ cS mm g ta pa pe pd pb pp pf pg pn rt rn cd sn il tk am at_ aa wt wy rm ud nu sd qn qw qo qb qp qa qi oc kd_7 nw wn mN Ba We U ke lg (by omega) hnw) w_7_106 w_7_108 w_0_71 w_1_14 w_7_109 hd_X12_isMute_1 ⟨⟨(Nat.le_of_ble_eq_true rfl), (Nat.le_of_ble_eq_true rfl)⟩, (Nat.le_of_ble_eq_true rfl), (Nat.le_of_ble_eq_true rfl)⟩ hK hP hD hS hA (fmT om_8_88 0) (fmF om_8_88 0) (fm_C1 rfl rfl) (fm_R rfl rfl) (fm_nT om_8_88 0) (fm_nF om_8_88 0) (fm_di om_8_88 0) rfl rfl rfl rfl (Nat.le_of_ble_eq_true rfl) dX12_told_18 (fun r_16 u H locs hw hP hD hS => ?_)
      refine exE hw (fun b_15 hw1 => anE hw1 (fun hb1_17 hw2 => anE hw2 (fun er_19 eu_18 => ?_)))
      clear hw hw1 hw2
      subst er_19
      refine o_mgE (ws' := [ro_ mm 12 (mo g (nI ta) (nI pa) (nI pe) pd (nI pb) pp pf pg pn rt rn (nI cd) sn (nI il) tk am at_ aa 0 0 (-1) wt wy 0 (nI rm) (nI ud) (nI nu) sd (nI qn) (nI qw) qo (nI qb) (nI qp) qa (nI qi) (nI oc)), ra_I (g 24) cI 6 (l6 u0 u1 u2 u3 u4 u5), ra_I (g 25) cI 6 (l6 v0 v1 v2 v3 v4 v5), ra_N (g 26) cI 3200 cs, ra_I (g 31) cI 120 nw, ra_N (g 46) cI 9 pt, ra_J (g 86) cJ 1700 ql, ra_I (g 20) cI 4 (l4 (nI l0) (nI l1) (nI dm) (nI l3))]) eu_18 hP hD rfl (fun hP hD => ?_)
      refine lv_if_ne (tgt := 33) hx hb dX12_told_21 (by decide) (fun c_20 => ?_) (fun c_20 => ?_)
      · have c_20 : ¬ (b_15 = 0) := fun h => c_20 ((neq b_15 0 (by omega) (Nat.le_of_ble_eq_true rfl)).mpr h)
        refine lv_iconst (v := (-1)) hx hb dX12_told_33 (by decide) ?_
        exact sk_iret hx hb hr rfl hlocks hK hP hD hS (⟨tk, qp, am, ql, tld_2 hdm hkd_7 (km_1 hb1_17 (by omega)), rfl⟩) (Nat.le_of_ble_eq_true rfl) (Nat.le_of_ble_eq_true rfl) dX12_told_34
      · have c_20 : b_15 = 0 := (neq b_15 0 (by omega) (Nat.le_of_ble_eq_true rfl)).mp c_20
        refine lv_aload_n hx hb dX12_told_24 rfl (lv_at hl 0 rfl) ?_
        refine lv_iload_n hx hb dX12_told_25 rfl (lv_at hl 1 rfl) ?_
        refine lv_iload_n hx hb dX12_told_26 rfl (lv_at hl 2 rfl) ?_
        refine sk_Vi (q0 := 0) (n := 2) (rest := []) (wr := fmR om_8_fe _) ⟨hx, hb, hml, hown, hts⟩ hl.1 (c_nm_wordOf l D cI cJ cC cZ cS mm g ta pa pe pd pb pp pf pg pn rt rn cd sn il tk am at_ aa 0 wt wy 0 rm ud nu sd qn qw qo qb qp qa qi oc kd_7 kd_14 u0 u1 u2 u3 u4 u5 v0 v1 v2 v3 v4 v5 cs nw pt ql L wn (Ba kd_7) (We kd_7) (by omega) (by omega) hLk hkl (nwX_md hnw (by omega)) hwk (hB9 _) (hW9 _) hmw0 hcs (nwX_ok hnw) hpt) w_7_131 w_7_133 w_0_74 w_1_14 w_7_134 hd_X12_wordOf_2 ⟨⟨(Nat.le_of_ble_eq_true rfl), (Nat.le_of_ble_eq_true rfl)⟩, (Nat.le_of_ble_eq_true rfl), (Nat.le_of_ble_eq_true rfl)⟩ hK hP hD hS hA (fmT om_8_fe 0) (fmF om_8_fe 0) (fm_C1 rfl rfl) (fm_R rfl rfl) (fm_nT om_8_fe 0) (fm_nF om_8_fe 0) (fm_di om_8_fe 0) rfl rfl rfl rfl (Nat.le_of_ble_eq_true rfl) dX12_told_27 (fun r_26 u H locs hw hP hD hS => ?_)
        refine exE hw (fun v_21 hw1 => exE hw1 (fun tk2_22 hw2 => exE hw2 (fun qp2_23 hw3 => exE hw3 (fun am2_24 hw4 => exE hw4 (fun ql2_25 hw5 => anE hw5 (fun hv_27 hw6 => anE hw6 (fun er_29 eu_28 => ?_)))))))
        clear hw hw1 hw2 hw3 hw4 hw5 hw6
        subst er_29
        refine o_mgE (ws' := [ro_ mm 12 (mo g (nI ta) (nI pa) (nI pe) pd (nI pb) pp pf pg pn rt rn (nI cd) sn (nI il) tk2_22 am2_24 at_ aa 0 0 (-1) wt wy 0 (nI rm) (nI ud) (nI nu) sd (nI qn) (nI qw) qo (nI qb) (nI qp2_23) qa (nI qi) (nI oc)), ra_I (g 24) cI 6 (l6 u0 u1 u2 u3 u4 u5), ra_I (g 25) cI 6 (l6 v0 v1 v2 v3 v4 v5), ra_N (g 26) cI 3200 cs, ra_I (g 31) cI 120 nw, ra_N (g 46) cI 9 pt, ra_J (g 86) cJ 1700 ql2_25, ra_I (g 20) cI 4 (l4 (nI l0) (nI l1) (nI dm) (nI l3))]) eu_28 hP hD rfl (fun hP hD => ?_)
        refine lv_goto (tgt := 34) hx hb dX12_told_30 (by decide) ?_
        exact sk_iret hx hb hr rfl hlocks hK hP hD hS (⟨tk2_22, qp2_23, am2_24, ql2_25, tld_3 hkd_7 hkd_14 (km_0 hb1_17 (by omega)) (congrArg nI hv_27), rfl⟩) (Nat.le_of_ble_eq_true rfl) (Nat.le_of_ble_eq_true rfl) dX12_told_34
set_option maxHeartbeats 4000000 in
set_option maxRecDepth 100000 in
theorem c_nm_does (l : Launch) (D : va_G) (cI cJ cC cZ cS : ClassId) (mm : Nat) (g : Nat → Nat) (ta : Nat) (pa : Nat) (pe : Nat) (pd : Int32) (pb : Nat) (pp : Int32) (pf : Int32) (pg : Int32) (pn : Int32) (rt : Int32) (rn : Int32) (cd : Nat) (sn : Int32) (il : Nat) (tk : Int32) (am : Int32) (at_ : Int32) (aa : Int32) (wt : Int32) (wy : Int64) (rm : Nat) (ud : Nat) (nu : Nat) (sd : Int64) (qn : Nat) (qw : Nat) (qo : Int32) (qb : Nat) (qp : Nat) (qa : Int64) (qi : Nat) (oc : Nat) (d : Int32) (o : Int32) (w : Int32) (u0 : Int32) (u1 : Int32) (u2 : Int32) (u3 : Int32) (u4 : Int32) (u5 : Int32) (v0 : Int32) (v1 : Int32) (v2 : Int32) (v3 : Int32) (v4 : Int32) (v5 : Int32) (cs : Nat → Nat) (nw : Nat → Int32) (pt : Nat → Nat) (ql : Nat → Int64) (l0 : Nat) (l1 : Nat) (dm : Nat) (l3 : Nat) (wn : Nat) (mN : Nat) (Ba : Nat → Nat) (We : Nat → Nat) (U : Nat → Bool) (ke : Nat) (lg : KLg) (L : LkS) (hdm : dm ≤ 9) (hLk : kcLk L) (hkl : (lK L).length ≤ 1600) (hB9 : ∀ j, Ba j ≤ 9) (hW9 : ∀ j, We j ≤ 9) (hwk : wn ≤ 999) (hmw1 : mwO L 1 u4 v4 cs) (hcs : ∀ j, cs j ≤ 20000) (hnw : nwX wn mN Ba We U ke lg nw) (hpt : ∀ j, pt j ≤ 9) : skM l yX12_does cX12_does 4 (some .int) 4 98 0 0 D (skT cI cJ cC cZ cS) [.ref mm, .int d, .int o, .int w] [ro_ mm 12 (mo g (nI ta) (nI pa) (nI pe) pd (nI pb) pp pf pg pn rt rn (nI cd) sn (nI il) tk am at_ aa 0 0 (-1) wt wy 0 (nI rm) (nI ud) (nI nu) sd (nI qn) (nI qw) qo (nI qb) (nI qp) qa (nI qi) (nI oc)), ra_I (g 24) cI 6 (l6 u0 u1 u2 u3 u4 u5), ra_I (g 25) cI 6 (l6 v0 v1 v2 v3 v4 v5), ra_N (g 26) cI 3200 cs, ra_I (g 31) cI 120 nw, ra_N (g 46) cI 9 pt, ra_J (g 86) cJ 1700 ql, ra_I (g 20) cI 4 (l4 (nI l0) (nI l1) (nI dm) (nI l3))] (skI D (skT cI cJ cC cZ cS) (fun (r : Int32) (u : va_W) => ∃ (tk2 : Int32), ∃ (qp2 : Nat), ∃ (am2 : Int32), ∃ (at_2 : Int32), ∃ (aa2 : Int32), ∃ (ql2 : Nat → Int64), u = [ro_ mm 12 (mo g (nI ta) (nI pa) (nI pe) pd (nI pb) pp pf pg pn rt rn (nI cd) sn (nI il) tk2 am2 at_2 aa2 0 0 (-1) wt wy 0 (nI rm) (nI ud) (nI nu) sd (nI qn) (nI qw) qo (nI qb) (nI qp2) qa (nI qi) (nI oc)), ra_I (g 24) cI 6 (l6 u0 u1 u2 u3 u4 u5), ra_I (g 25) cI 6 (l6 v0 v1 v2 v3 v4 v5), ra_N (g 26) cI 3200 cs, ra_I (g 31) cI 120 nw, ra_N (g 46) cI 9 pt, ra_J (g 86) cJ 1700 ql2, ra_I (g 20) cI 4 (l4 (nI l0) (nI l1) (nI dm) (nI l3))])) := by
  refine skM_of pf_X12_does (Nat.le_of_ble_eq_true rfl) ?_
  intro p e s m below meth c A ls E hP hD hl
  refine skE_el E (fun hx hb hr hml hlocks hin hown hts hK hA => ?_)
  have hown : s.vm.findClass RX12 = some m.cls := hown
  have hS : va_S A s.heap s.heap [] := va_S.rf
  have hl : lv_has ls 4 [(0, .ref mm), (1, .int d), (2, .int o), (3, .int w)] := hl
  refine lv_aload_n hx hb dX12_does_0 rfl (lv_at hl 0 rfl) ?_
  refine lv_iload_n hx hb dX12_does_1 rfl (lv_at hl 1 rfl) ?_
  refine sk_Vi (q0 := 0) (n := 1) (rest := []) (wr := fmR om_8_81 _) ⟨hx, hb, hml, hown, hts⟩ hl.1 (c_nm_isDay l D cI cJ cC cZ cS mm g ta pa pe pd pb pp pf pg pn rt rn cd sn il tk am at_ aa wt wy rm ud nu sd qn qw qo qb qp qa qi oc d l0 l1 dm l3 hdm) w_7_117 w_7_119 w_0_72 w_1_14 w_7_120 hd_X12_isDay_1 ⟨⟨(Nat.le_of_ble_eq_true rfl), (Nat.le_of_ble_eq_true rfl)⟩, (Nat.le_of_ble_eq_true rfl), (Nat.le_of_ble_eq_true rfl)⟩ hK hP hD hS hA (fmT om_8_81 0) (fmF om_8_81 0) (fm_C1 rfl rfl) (fm_R rfl rfl) (fm_nT om_8_81 0) (fm_nF om_8_81 0) (fm_di om_8_81 0) rfl rfl rfl rfl (Nat.le_of_ble_eq_true rfl) dX12_does_2 (fun r_2 u H locs hw hP hD hS => ?_)
  refine exE hw (fun b_1 hw1 => anE hw1 (fun hb1_3 hw2 => anE hw2 (fun er_5 eu_4 => ?_)))
  clear hw hw1 hw2
  subst er_5
  refine o_mgE (ws' := [ro_ mm 12 (mo g (nI ta) (nI pa) (nI pe) pd (nI pb) pp pf pg pn rt rn (nI cd) sn (nI il) tk am at_ aa 0 0 (-1) wt wy 0 (nI rm) (nI ud) (nI nu) sd (nI qn) (nI qw) qo (nI qb) (nI qp) qa (nI qi) (nI oc)), ra_I (g 24) cI 6 (l6 u0 u1 u2 u3 u4 u5), ra_I (g 25) cI 6 (l6 v0 v1 v2 v3 v4 v5), ra_N (g 26) cI 3200 cs, ra_I (g 31) cI 120 nw, ra_N (g 46) cI 9 pt, ra_J (g 86) cJ 1700 ql, ra_I (g 20) cI 4 (l4 (nI l0) (nI l1) (nI dm) (nI l3))]) eu_4 hP hD rfl (fun hP hD => ?_)
  refine lv_if_eq (tgt := 39) hx hb dX12_does_5 (by decide) (fun c_6 => ?_) (fun c_6 => ?_)
  · have c_6 : b_1 = 0 := (neq b_1 0 (by omega) (Nat.le_of_ble_eq_true rfl)).mp c_6
    refine lv_iconst (v := (-1)) hx hb dX12_does_39 (by decide) ?_
    exact sk_iret hx hb hr rfl hlocks hK hP hD hS (⟨tk, qp, am, at_, aa, ql, rfl⟩) (Nat.le_of_ble_eq_true rfl) (Nat.le_of_ble_eq_true rfl) dX12_does_40
  · have c_6 : ¬ (b_1 = 0) := fun h => c_6 ((neq b_1 0 (by omega) (Nat.le_of_ble_eq_true rfl)).mpr h)
    obtain ⟨kd_7, hkd_7, rfl⟩ := rr_1 hb1_3 (by omega)
    refine lv_aload_n hx hb dX12_does_8 rfl (lv_at hl 0 rfl) ?_
    refine lv_iload_n hx hb dX12_does_9 rfl (lv_at hl 2 rfl) ?_
    refine sk_Vi (q0 := 0) (n := 1) (rest := []) (wr := fmR om_8_80 _) ⟨hx, hb, hml, hown, hts⟩ hl.1 (c_nm_isMood l D cI cJ cC cZ cS mm g ta pa pe pd pb pp pf pg pn rt rn cd sn il tk am at_ aa wt wy rm ud nu sd qn qw qo qb qp qa qi oc o) w_7_126 w_7_128 w_0_73 w_1_14 w_7_129 hd_X12_isMood_1 ⟨⟨(Nat.le_of_ble_eq_true rfl), (Nat.le_of_ble_eq_true rfl)⟩, (Nat.le_of_ble_eq_true rfl), (Nat.le_of_ble_eq_true rfl)⟩ hK hP hD hS hA (fmT om_8_80 0) (fmF om_8_80 0) (fm_C1 rfl rfl) (fm_R rfl rfl) (fm_nT om_8_80 0) (fm_nF om_8_80 0) (fm_di om_8_80 0) rfl rfl rfl rfl (Nat.le_of_ble_eq_true rfl) dX12_does_10 (fun r_9 u H locs hw hP hD hS => ?_)
    refine exE hw (fun b_8 hw1 => anE hw1 (fun hb1_10 hw2 => anE hw2 (fun er_12 eu_11 => ?_)))
    clear hw hw1 hw2
    subst er_12
    refine o_mgE (ws' := [ro_ mm 12 (mo g (nI ta) (nI pa) (nI pe) pd (nI pb) pp pf pg pn rt rn (nI cd) sn (nI il) tk am at_ aa 0 0 (-1) wt wy 0 (nI rm) (nI ud) (nI nu) sd (nI qn) (nI qw) qo (nI qb) (nI qp) qa (nI qi) (nI oc)), ra_I (g 24) cI 6 (l6 u0 u1 u2 u3 u4 u5), ra_I (g 25) cI 6 (l6 v0 v1 v2 v3 v4 v5), ra_N (g 26) cI 3200 cs, ra_I (g 31) cI 120 nw, ra_N (g 46) cI 9 pt, ra_J (g 86) cJ 1700 ql, ra_I (g 20) cI 4 (l4 (nI l0) (nI l1) (nI dm) (nI l3))]) eu_11 hP hD rfl (fun hP hD => ?_)
    refine lv_if_eq (tgt := 39) hx hb dX12_does_13 (by decide) (fun c_13 => ?_) (fun c_13 => ?_)
    · have c_13 : b_8 = 0 := (neq b_8 0 (by omega) (Nat.le_of_ble_eq_true rfl)).mp c_13
      refine lv_iconst (v := (-1)) hx hb dX12_does_39 (by decide) ?_
      exact sk_iret hx hb hr rfl hlocks hK hP hD hS (⟨tk, qp, am, at_, aa, ql, rfl⟩) (Nat.le_of_ble_eq_true rfl) (Nat.le_of_ble_eq_true rfl) dX12_does_40
    · have c_13 : ¬ (b_8 = 0) := fun h => c_13 ((neq b_8 0 (by omega) (Nat.le_of_ble_eq_true rfl)).mpr h)
      obtain ⟨kd_14, hkd_14, rfl⟩ := rr_1 hb1_10 (by omega)
      refine lv_aload_n hx hb dX12_does_16 rfl (lv_at hl 0 rfl) ?_
      refine lv_iload_n hx hb dX12_does_17 rfl (lv_at hl 3 rfl) ?_
      refine sk_Vi (q0 := 0) (n := 1) (rest := []) (wr := fmR om_8_80 _) ⟨hx, hb, hml, hown, hts⟩ hl.1 (c_nm_isMood l D cI cJ cC cZ cS mm g ta pa pe pd pb pp pf pg pn rt rn cd sn il tk am at_ aa wt wy rm ud nu sd qn qw qo qb qp qa qi oc w) w_7_126 w_7_128 w_0_73 w_1_14 w_7_129 hd_X12_isMood_1 ⟨⟨(Nat.le_of_ble_eq_true rfl), (Nat.le_of_ble_eq_true rfl)⟩, (Nat.le_of_ble_eq_true rfl), (Nat.le_of_ble_eq_true rfl)⟩ hK hP hD hS hA (fmT om_8_80 0) (fmF om_8_80 0) (fm_C1 rfl rfl) (fm_R rfl rfl) (fm_nT om_8_80 0) (fm_nF om_8_80 0) (fm_di om_8_80 0) rfl rfl rfl rfl (Nat.le_of_ble_eq_true rfl) dX12_does_18 (fun r_16 u H locs hw hP hD hS => ?_)
      refine exE hw (fun b_15 hw1 => anE hw1 (fun hb1_17 hw2 => anE hw2 (fun er_19 eu_18 => ?_)))
      clear hw hw1 hw2
      subst er_19
      refine o_mgE (ws' := [ro_ mm 12 (mo g (nI ta) (nI pa) (nI pe) pd (nI pb) pp pf pg pn rt rn (nI cd) sn (nI il) tk am at_ aa 0 0 (-1) wt wy 0 (nI rm) (nI ud) (nI nu) sd (nI qn) (nI qw) qo (nI qb) (nI qp) qa (nI qi) (nI oc)), ra_I (g 24) cI 6 (l6 u0 u1 u2 u3 u4 u5), ra_I (g 25) cI 6 (l6 v0 v1 v2 v3 v4 v5), ra_N (g 26) cI 3200 cs, ra_I (g 31) cI 120 nw, ra_N (g 46) cI 9 pt, ra_J (g 86) cJ 1700 ql, ra_I (g 20) cI 4 (l4 (nI l0) (nI l1) (nI dm) (nI l3))]) eu_18 hP hD rfl (fun hP hD => ?_)
      refine lv_if_eq (tgt := 39) hx hb dX12_does_21 (by decide) (fun c_20 => ?_) (fun c_20 => ?_)
      · have c_20 : b_15 = 0 := (neq b_15 0 (by omega) (Nat.le_of_ble_eq_true rfl)).mp c_20
        refine lv_iconst (v := (-1)) hx hb dX12_does_39 (by decide) ?_
        exact sk_iret hx hb hr rfl hlocks hK hP hD hS (⟨tk, qp, am, at_, aa, ql, rfl⟩) (Nat.le_of_ble_eq_true rfl) (Nat.le_of_ble_eq_true rfl) dX12_does_40
      · have c_20 : ¬ (b_15 = 0) := fun h => c_20 ((neq b_15 0 (by omega) (Nat.le_of_ble_eq_true rfl)).mpr h)
        obtain ⟨kd_21, hkd_21, rfl⟩ := rr_1 hb1_17 (by omega)
        refine lv_aload_n hx hb dX12_does_24 rfl (lv_at hl 0 rfl) ?_
        refine lv_iload_n hx hb dX12_does_25 rfl (lv_at hl 1 rfl) ?_
        refine lv_iload_n hx hb dX12_does_26 rfl (lv_at hl 2 rfl) ?_
        refine lv_iload_n hx hb dX12_does_27 rfl (lv_at hl 3 rfl) ?_
        refine lv_aload_n hx hb dX12_does_28 rfl (lv_at hl 0 rfl) ?_
        refine lv_iload_n hx hb dX12_does_29 rfl (lv_at hl 1 rfl) ?_
        refine sk_Vi (q0 := 0) (n := 1) (rest := [.int (nI kd_21), .int (nI kd_14), .int (nI kd_7), .ref mm]) (wr := fmR om_8_88 _) ⟨hx, hb, hml, hown, hts⟩ hl.1 (c_nm_isMute l D cI cJ cC cZ cS mm g ta pa pe pd pb pp pf pg pn rt rn cd sn il tk am at_ aa wt wy rm ud nu sd qn qw qo qb qp qa qi oc kd_7 nw wn mN Ba We U ke lg (by omega) hnw) w_7_106 w_7_108 w_0_71 w_1_14 w_7_109 hd_X12_isMute_1 ⟨⟨(Nat.le_of_ble_eq_true rfl), (Nat.le_of_ble_eq_true rfl)⟩, (Nat.le_of_ble_eq_true rfl), (Nat.le_of_ble_eq_true rfl)⟩ hK hP hD hS hA (fmT om_8_88 0) (fmF om_8_88 0) (fm_C1 rfl rfl) (fm_R rfl rfl) (fm_nT om_8_88 0) (fm_nF om_8_88 0) (fm_di om_8_88 0) rfl rfl rfl rfl (Nat.le_of_ble_eq_true rfl) dX12_does_30 (fun r_23 u H locs hw hP hD hS => ?_)
        refine exE hw (fun b_22 hw1 => anE hw1 (fun hb1_24 hw2 => anE hw2 (fun er_26 eu_25 => ?_)))
        clear hw hw1 hw2
        subst er_26
        refine o_mgE (ws' := [ro_ mm 12 (mo g (nI ta) (nI pa) (nI pe) pd (nI pb) pp pf pg pn rt rn (nI cd) sn (nI il) tk am at_ aa 0 0 (-1) wt wy 0 (nI rm) (nI ud) (nI nu) sd (nI qn) (nI qw) qo (nI qb) (nI qp) qa (nI qi) (nI oc)), ra_I (g 24) cI 6 (l6 u0 u1 u2 u3 u4 u5), ra_I (g 25) cI 6 (l6 v0 v1 v2 v3 v4 v5), ra_N (g 26) cI 3200 cs, ra_I (g 31) cI 120 nw, ra_N (g 46) cI 9 pt, ra_J (g 86) cJ 1700 ql, ra_I (g 20) cI 4 (l4 (nI l0) (nI l1) (nI dm) (nI l3))]) eu_25 hP hD rfl (fun hP hD => ?_)
        rcases (show b_22 = 0 ∨ b_22 = 1 by omega) with rfl | rfl
        · skip
          refine sk_Vi (q0 := 0) (n := 4) (rest := []) (wr := fmR om_8_fe _) ⟨hx, hb, hml, hown, hts⟩ hl.1 (c_nm_becomesBy0 l D cI cJ cC cZ cS mm g ta pa pe pd pb pp pf pg pn rt rn cd sn il tk am at_ aa 0 wt wy 0 rm ud nu sd qn qw qo qb qp qa qi oc kd_7 kd_14 kd_21 u0 u1 u2 u3 u4 u5 v0 v1 v2 v3 v4 v5 cs nw pt ql L wn (Ba kd_7) (We kd_7) (by omega) (by omega) (by omega) hLk hkl (nwX_md hnw (by omega)) hwk (hB9 _) (hW9 _) hmw1 hcs (nwX_ok hnw) hpt) w_7_176 w_7_178 w_0_81 w_1_14 w_7_179 hd_X12_becomesBy_4 ⟨⟨(Nat.le_of_ble_eq_true rfl), (Nat.le_of_ble_eq_true rfl)⟩, (Nat.le_of_ble_eq_true rfl), (Nat.le_of_ble_eq_true rfl)⟩ hK hP hD hS hA (fmT om_8_fe 0) (fmF om_8_fe 0) (fm_C1 rfl rfl) (fm_R rfl rfl) (fm_nT om_8_fe 0) (fm_nF om_8_fe 0) (fm_di om_8_fe 0) rfl rfl rfl rfl (Nat.le_of_ble_eq_true rfl) dX12_does_33 (fun r_34 u H locs hw hP hD hS => ?_)
          refine exE hw (fun v_27 hw1 => exE hw1 (fun tk2_28 hw2 => exE hw2 (fun qp2_29 hw3 => exE hw3 (fun am2_30 hw4 => exE hw4 (fun at_2_31 hw5 => exE hw5 (fun aa2_32 hw6 => exE hw6 (fun ql2_33 hw7 => anE hw7 (fun hv_35 hw8 => anE hw8 (fun er_37 eu_36 => ?_)))))))))
          clear hw hw1 hw2 hw3 hw4 hw5 hw6 hw7 hw8
          subst er_37
          refine o_mgE (ws' := [ro_ mm 12 (mo g (nI ta) (nI pa) (nI pe) pd (nI pb) pp pf pg pn rt rn (nI cd) sn (nI il) tk2_28 am2_30 at_2_31 aa2_32 0 0 (-1) wt wy 0 (nI rm) (nI ud) (nI nu) sd (nI qn) (nI qw) qo (nI qb) (nI qp2_29) qa (nI qi) (nI oc)), ra_I (g 24) cI 6 (l6 u0 u1 u2 u3 u4 u5), ra_I (g 25) cI 6 (l6 v0 v1 v2 v3 v4 v5), ra_N (g 26) cI 3200 cs, ra_I (g 31) cI 120 nw, ra_N (g 46) cI 9 pt, ra_J (g 86) cJ 1700 ql2_33, ra_I (g 20) cI 4 (l4 (nI l0) (nI l1) (nI dm) (nI l3))]) eu_36 hP hD rfl (fun hP hD => ?_)
          refine lv_goto (tgt := 40) hx hb dX12_does_36 (by decide) ?_
          exact sk_iret hx hb hr rfl hlocks hK hP hD hS (⟨tk2_28, qp2_29, am2_30, at_2_31, aa2_32, ql2_33, rfl⟩) (Nat.le_of_ble_eq_true rfl) (Nat.le_of_ble_eq_true rfl) dX12_does_40
        · skip
          refine sk_Vi (q0 := 0) (n := 4) (rest := []) (wr := fmR om_8_fe _) ⟨hx, hb, hml, hown, hts⟩ hl.1 (c_nm_becomesBy1 l D cI cJ cC cZ cS mm g ta pa pe pd pb pp pf pg pn rt rn cd sn il tk am at_ aa 0 wt wy 0 rm ud nu sd qn qw qo qb qp qa qi oc kd_7 kd_14 kd_21 u0 u1 u2 u3 u4 u5 v0 v1 v2 v3 v4 v5 cs nw pt ql L wn (Ba kd_7) (We kd_7) (by omega) (by omega) (by omega) hLk hkl (nwX_md hnw (by omega)) hwk (hB9 _) (hW9 _) hmw1 hcs (nwX_ok hnw) hpt) w_7_176 w_7_178 w_0_81 w_1_14 w_7_179 hd_X12_becomesBy_4 ⟨⟨(Nat.le_of_ble_eq_true rfl), (Nat.le_of_ble_eq_true rfl)⟩, (Nat.le_of_ble_eq_true rfl), (Nat.le_of_ble_eq_true rfl)⟩ hK hP hD hS hA (fmT om_8_fe 0) (fmF om_8_fe 0) (fm_C1 rfl rfl) (fm_R rfl rfl) (fm_nT om_8_fe 0) (fm_nF om_8_fe 0) (fm_di om_8_fe 0) rfl rfl rfl rfl (Nat.le_of_ble_eq_true rfl) dX12_does_33 (fun r_45 u H locs hw hP hD hS => ?_)
          refine exE hw (fun v_38 hw1 => exE hw1 (fun tk2_39 hw2 => exE hw2 (fun qp2_40 hw3 => exE hw3 (fun am2_41 hw4 => exE hw4 (fun at_2_42 hw5 => exE hw5 (fun aa2_43 hw6 => exE hw6 (fun ql2_44 hw7 => anE hw7 (fun hv_46 hw8 => anE hw8 (fun er_48 eu_47 => ?_)))))))))
          clear hw hw1 hw2 hw3 hw4 hw5 hw6 hw7 hw8
          subst er_48
          refine o_mgE (ws' := [ro_ mm 12 (mo g (nI ta) (nI pa) (nI pe) pd (nI pb) pp pf pg pn rt rn (nI cd) sn (nI il) tk2_39 am2_41 at_2_42 aa2_43 0 0 (-1) wt wy 0 (nI rm) (nI ud) (nI nu) sd (nI qn) (nI qw) qo (nI qb) (nI qp2_40) qa (nI qi) (nI oc)), ra_I (g 24) cI 6 (l6 u0 u1 u2 u3 u4 u5), ra_I (g 25) cI 6 (l6 v0 v1 v2 v3 v4 v5), ra_N (g 26) cI 3200 cs, ra_I (g 31) cI 120 nw, ra_N (g 46) cI 9 pt, ra_J (g 86) cJ 1700 ql2_44, ra_I (g 20) cI 4 (l4 (nI l0) (nI l1) (nI dm) (nI l3))]) eu_47 hP hD rfl (fun hP hD => ?_)
          refine lv_goto (tgt := 40) hx hb dX12_does_36 (by decide) ?_
          exact sk_iret hx hb hr rfl hlocks hK hP hD hS (⟨tk2_39, qp2_40, am2_41, at_2_42, aa2_43, ql2_44, rfl⟩) (Nat.le_of_ble_eq_true rfl) (Nat.le_of_ble_eq_true rfl) dX12_does_40
theorem dg_X12_kept_0_0 : bqL cX12_kept 0 [(0, [27]), (1, [133]), (2, [9]), (3, [42]), (4, [180, 0, 63]), (7, [16, 29]), (9, [46]), (10, [4]), (11, [100]), (12, [133]), (13, [184, 0, 238]), (16, [153, 0, 32]), (48, [20, 1, 165]), (51, [173]), (19, [28]), (20, [133]), (21, [9]), (22, [20, 1, 160]), (25, [184, 0, 238]), (28, [153, 0, 20]), (31, [42]), (32, [180, 0, 63]), (35, [16, 30]), (37, [6]), (38, [27]), (39, [104]), (40, [96]), (41, [28]), (42, [96]), (43, [46]), (44, [133]), (45, [167, 0, 6])] = true := by decide +kernel
theorem dX12_kept_0 : decode cX12_kept 0 = .ok (.iload_n 1, 1) := q_iload_n1 (bat_get dg_X12_kept_0_0 0 rfl rfl)
theorem dX12_kept_1 : decode cX12_kept 1 = .ok (.i2l, 1) := q_i2l (bat_get dg_X12_kept_0_0 1 rfl rfl)
theorem dX12_kept_2 : decode cX12_kept 2 = .ok (.lconst 0, 1) := q_lconst0 (bat_get dg_X12_kept_0_0 2 rfl rfl)
theorem dX12_kept_3 : decode cX12_kept 3 = .ok (.aload_n 0, 1) := q_aload_n0 (bat_get dg_X12_kept_0_0 3 rfl rfl)
theorem dX12_kept_4 : decode cX12_kept 4 = .ok (.getfield 63, 3) := q_getfield (bat_get dg_X12_kept_0_0 4 rfl rfl) rfl
theorem dX12_kept_7 : decode cX12_kept 7 = .ok (.bipush 29, 2) := q_bipush (bat_get dg_X12_kept_0_0 5 rfl rfl) rfl
theorem dX12_kept_9 : decode cX12_kept 9 = .ok (.iaload, 1) := q_iaload (bat_get dg_X12_kept_0_0 6 rfl rfl)
theorem dX12_kept_10 : decode cX12_kept 10 = .ok (.iconst 1, 1) := q_iconst1 (bat_get dg_X12_kept_0_0 7 rfl rfl)
theorem dX12_kept_11 : decode cX12_kept 11 = .ok (.isub, 1) := q_isub (bat_get dg_X12_kept_0_0 8 rfl rfl)
theorem dX12_kept_12 : decode cX12_kept 12 = .ok (.i2l, 1) := q_i2l (bat_get dg_X12_kept_0_0 9 rfl rfl)
theorem dX12_kept_13 : decode cX12_kept 13 = .ok (.invokestatic 238, 3) := q_invokestatic (bat_get dg_X12_kept_0_0 10 rfl rfl) rfl
theorem dX12_kept_16 : decode cX12_kept 16 = .ok (.ifCond .eq 32, 3) := q_ifCond_eq (bat_get dg_X12_kept_0_0 11 rfl rfl) rfl
theorem dX12_kept_48 : decode cX12_kept 48 = .ok (.ldc2_w 421, 3) := q_ldc2_w (bat_get dg_X12_kept_0_0 12 rfl rfl) rfl
theorem dX12_kept_51 : decode cX12_kept 51 = .ok (.lreturn, 1) := q_lreturn (bat_get dg_X12_kept_0_0 13 rfl rfl)
theorem dX12_kept_19 : decode cX12_kept 19 = .ok (.iload_n 2, 1) := q_iload_n2 (bat_get dg_X12_kept_0_0 14 rfl rfl)
theorem dX12_kept_20 : decode cX12_kept 20 = .ok (.i2l, 1) := q_i2l (bat_get dg_X12_kept_0_0 15 rfl rfl)
theorem dX12_kept_21 : decode cX12_kept 21 = .ok (.lconst 0, 1) := q_lconst0 (bat_get dg_X12_kept_0_0 16 rfl rfl)
theorem dX12_kept_22 : decode cX12_kept 22 = .ok (.ldc2_w 416, 3) := q_ldc2_w (bat_get dg_X12_kept_0_0 17 rfl rfl) rfl
theorem dX12_kept_25 : decode cX12_kept 25 = .ok (.invokestatic 238, 3) := q_invokestatic (bat_get dg_X12_kept_0_0 18 rfl rfl) rfl
theorem dX12_kept_28 : decode cX12_kept 28 = .ok (.ifCond .eq 20, 3) := q_ifCond_eq (bat_get dg_X12_kept_0_0 19 rfl rfl) rfl
theorem dX12_kept_31 : decode cX12_kept 31 = .ok (.aload_n 0, 1) := q_aload_n0 (bat_get dg_X12_kept_0_0 20 rfl rfl)
theorem dX12_kept_32 : decode cX12_kept 32 = .ok (.getfield 63, 3) := q_getfield (bat_get dg_X12_kept_0_0 21 rfl rfl) rfl
theorem dX12_kept_35 : decode cX12_kept 35 = .ok (.bipush 30, 2) := q_bipush (bat_get dg_X12_kept_0_0 22 rfl rfl) rfl
theorem dX12_kept_37 : decode cX12_kept 37 = .ok (.iconst 3, 1) := q_iconst3 (bat_get dg_X12_kept_0_0 23 rfl rfl)
theorem dX12_kept_38 : decode cX12_kept 38 = .ok (.iload_n 1, 1) := q_iload_n1 (bat_get dg_X12_kept_0_0 24 rfl rfl)
theorem dX12_kept_39 : decode cX12_kept 39 = .ok (.imul, 1) := q_imul (bat_get dg_X12_kept_0_0 25 rfl rfl)
theorem dX12_kept_40 : decode cX12_kept 40 = .ok (.iadd, 1) := q_iadd (bat_get dg_X12_kept_0_0 26 rfl rfl)
theorem dX12_kept_41 : decode cX12_kept 41 = .ok (.iload_n 2, 1) := q_iload_n2 (bat_get dg_X12_kept_0_0 27 rfl rfl)
theorem dX12_kept_42 : decode cX12_kept 42 = .ok (.iadd, 1) := q_iadd (bat_get dg_X12_kept_0_0 28 rfl rfl)
theorem dX12_kept_43 : decode cX12_kept 43 = .ok (.iaload, 1) := q_iaload (bat_get dg_X12_kept_0_0 29 rfl rfl)
theorem dX12_kept_44 : decode cX12_kept 44 = .ok (.i2l, 1) := q_i2l (bat_get dg_X12_kept_0_0 30 rfl rfl)
theorem dX12_kept_45 : decode cX12_kept 45 = .ok (.goto 6, 3) := q_goto (bat_get dg_X12_kept_0_0 31 rfl rfl) rfl
theorem w_7_183 : (Cond.code yX12_kept cX12_kept 3 (some .long)) ∈ wsL_law := sk_mem (ck_7 _ (List.mem_of_getElem? (i := 183) rfl)) rfl
set_option maxHeartbeats 4000000 in
set_option maxRecDepth 100000 in
theorem c_nm_kept (l : Launch) (D : va_G) (cI cJ cC cZ cS : ClassId) (mm : Nat) (g : Nat → Nat) (ta : Nat) (pa : Nat) (pe : Nat) (pd : Int32) (pb : Nat) (pp : Int32) (pf : Int32) (pg : Int32) (pn : Int32) (rt : Int32) (rn : Int32) (cd : Nat) (sn : Int32) (il : Nat) (tk : Int32) (am : Int32) (at_ : Int32) (aa : Int32) (wt : Int32) (wy : Int64) (rm : Nat) (ud : Nat) (nu : Nat) (sd : Int64) (qn : Nat) (qw : Nat) (qo : Int32) (qb : Nat) (qp : Nat) (qa : Int64) (qi : Nat) (oc : Nat) (k : Int32) (w : Int32) (nw : Nat → Int32) (wn : Nat) (mN : Nat) (Ba : Nat → Nat) (We : Nat → Nat) (U : Nat → Bool) (ke : Nat) (lg : KLg) (hlg : lgOk lg) (hnw : nwX wn mN Ba We U ke lg nw) : skM l yX12_kept cX12_kept 3 (some .long) 1 25 0 0 D (skT cI cJ cC cZ cS) [.ref mm, .int k, .int w] [ro_ mm 12 (mo g (nI ta) (nI pa) (nI pe) pd (nI pb) pp pf pg pn rt rn (nI cd) sn (nI il) tk am at_ aa 0 0 (-1) wt wy 0 (nI rm) (nI ud) (nI nu) sd (nI qn) (nI qw) qo (nI qb) (nI qp) qa (nI qi) (nI oc)), ra_I (g 31) cI 120 nw] (skL D (skT cI cJ cC cZ cS) (fun (r : Int64) (u : va_W) => keptR lg ke k w r ∧ u = [ro_ mm 12 (mo g (nI ta) (nI pa) (nI pe) pd (nI pb) pp pf pg pn rt rn (nI cd) sn (nI il) tk am at_ aa 0 0 (-1) wt wy 0 (nI rm) (nI ud) (nI nu) sd (nI qn) (nI qw) qo (nI qb) (nI qp) qa (nI qi) (nI oc)), ra_I (g 31) cI 120 nw])) := by
  refine skM_of pf_X12_kept (Nat.le_of_ble_eq_true rfl) ?_
  intro p e s m below meth c A ls E hP hD hl
  refine skE_el E (fun hx hb hr hml hlocks hin hown hts hK hA => ?_)
  have hown : s.vm.findClass RX12 = some m.cls := hown
  have hS : va_S A s.heap s.heap [] := va_S.rf
  have hl : lv_has ls 3 [(0, .ref mm), (1, .int k), (2, .int w)] := hl
  refine lv_iload_n hx hb dX12_kept_0 rfl (lv_at hl 1 rfl) ?_
  refine lv_i2l hx hb dX12_kept_1 rfl ?_
  refine lv_lconst (v := 0) hx hb dX12_kept_2 (by decide) ?_
  refine lv_aload_n hx hb dX12_kept_3 rfl (lv_at hl 0 rfl) ?_
  refine sk_get (v := .ref (g 31)) (C := RX12) (T := TX12) (N := 92) hx hb hts inlX12 hown hK hP 0 rfl rfl 31 (Nat.le_of_ble_eq_true rfl) w_5_186 rfl dX12_kept_4 ?_
  refine lv_bipush (v := 29) hx hb dX12_kept_7 (by decide) ?_
  refine va_iald hx hb hK.1 hP 1 0 rfl rfl (by unfold vp_in; decide) dX12_kept_9 ?_
  refine sk_top (nI (min ke 30)) (nwX_29 hnw) ?_
  refine lv_iconst (v := 1) hx hb dX12_kept_10 ic_1 ?_
  refine lv_isub hx hb dX12_kept_11 ?_
  refine lv_i2l hx hb dX12_kept_12 rfl ?_
  refine sk_Si (n := 3) (rest := []) (wr := [ro_ mm 12 (mo g (nI ta) (nI pa) (nI pe) pd (nI pb) pp pf pg pn rt rn (nI cd) sn (nI il) tk am at_ aa 0 0 (-1) wt wy 0 (nI rm) (nI ud) (nI nu) sd (nI qn) (nI qw) qo (nI qb) (nI qp) qa (nI qi) (nI oc)), ra_I (g 31) cI 120 nw]) ⟨hx, hb, hml, hown, hts⟩ hl.1 (c_nm_isIn l D cI cJ cC cZ cS (Int32.toInt64 k) 0 (Int32.toInt64 (nI (min ke 30) - 1))) w_7_0 w_7_1 w_1_14 w_7_2 hd_X12_isIn_3 ⟨⟨(Nat.le_of_ble_eq_true rfl), (Nat.le_of_ble_eq_true rfl)⟩, (Nat.le_of_ble_eq_true rfl), (Nat.le_of_ble_eq_true rfl)⟩ hK hP hD hS hA [] [0, 1] rfl rfl (by decide +kernel) (by decide +kernel) (by decide +kernel) rfl rfl (Nat.le_of_ble_eq_true rfl) dX12_kept_13 (fun r_2 u H locs hw hP hD hS => ?_)
  obtain ⟨b_1, hb1_3, rfl, rfl⟩ := hw
  refine o_re (ws' := [ro_ mm 12 (mo g (nI ta) (nI pa) (nI pe) pd (nI pb) pp pf pg pn rt rn (nI cd) sn (nI il) tk am at_ aa 0 0 (-1) wt wy 0 (nI rm) (nI ud) (nI nu) sd (nI qn) (nI qw) qo (nI qb) (nI qp) qa (nI qi) (nI oc)), ra_I (g 31) cI 120 nw]) hP hD rfl (fun hP hD => ?_)
  refine lv_if_eq (tgt := 48) hx hb dX12_kept_16 (by decide) (fun c_4 => ?_) (fun c_4 => ?_)
  · have c_4 : b_1 = 0 := (neq b_1 0 (by omega) (Nat.le_of_ble_eq_true rfl)).mp c_4
    refine lv_ldc2 (v := (-1000000000000000)) hx hb hown (hts _ w_7_184) dX12_kept_48 ?_
    exact sk_lret hx hb hr hlocks hK hP hD hS (⟨kept_no (fun hq => rr_0 hb1_3 (by omega) ((kin0 (n := (min ke 30)) (by rw [lgp (min ke 30) (by omega)]; omega) (by omega)).mpr hq)), rfl⟩) (Nat.le_of_ble_eq_true rfl) (Nat.le_of_ble_eq_true rfl) dX12_kept_51
  · have c_4 : ¬ (b_1 = 0) := fun h => c_4 ((neq b_1 0 (by omega) (Nat.le_of_ble_eq_true rfl)).mpr h)
    obtain ⟨kd_5, hkd_5, rfl⟩ := (kin0 (n := (min ke 30)) (by rw [lgp (min ke 30) (by omega)]; omega) (by omega)).mp (rr_1 hb1_3 (by omega))
    refine lv_iload_n hx hb dX12_kept_19 rfl (lv_at hl 2 rfl) ?_
    refine lv_i2l hx hb dX12_kept_20 rfl ?_
    refine lv_lconst (v := 0) hx hb dX12_kept_21 (by decide) ?_
    refine lv_ldc2 (v := 2) hx hb hown (hts _ w_7_121) dX12_kept_22 ?_
    refine sk_Si (n := 3) (rest := []) (wr := [ro_ mm 12 (mo g (nI ta) (nI pa) (nI pe) pd (nI pb) pp pf pg pn rt rn (nI cd) sn (nI il) tk am at_ aa 0 0 (-1) wt wy 0 (nI rm) (nI ud) (nI nu) sd (nI qn) (nI qw) qo (nI qb) (nI qp) qa (nI qi) (nI oc)), ra_I (g 31) cI 120 nw]) ⟨hx, hb, hml, hown, hts⟩ hl.1 (c_nm_isIn l D cI cJ cC cZ cS (Int32.toInt64 w) 0 2) w_7_0 w_7_1 w_1_14 w_7_2 hd_X12_isIn_3 ⟨⟨(Nat.le_of_ble_eq_true rfl), (Nat.le_of_ble_eq_true rfl)⟩, (Nat.le_of_ble_eq_true rfl), (Nat.le_of_ble_eq_true rfl)⟩ hK hP hD hS hA [] [0, 1] rfl rfl (by decide +kernel) (by decide +kernel) (by decide +kernel) rfl rfl (Nat.le_of_ble_eq_true rfl) dX12_kept_25 (fun r_7 u H locs hw hP hD hS => ?_)
    obtain ⟨b_6, hb1_8, rfl, rfl⟩ := hw
    refine o_re (ws' := [ro_ mm 12 (mo g (nI ta) (nI pa) (nI pe) pd (nI pb) pp pf pg pn rt rn (nI cd) sn (nI il) tk am at_ aa 0 0 (-1) wt wy 0 (nI rm) (nI ud) (nI nu) sd (nI qn) (nI qw) qo (nI qb) (nI qp) qa (nI qi) (nI oc)), ra_I (g 31) cI 120 nw]) hP hD rfl (fun hP hD => ?_)
    refine lv_if_eq (tgt := 48) hx hb dX12_kept_28 (by decide) (fun c_9 => ?_) (fun c_9 => ?_)
    · have c_9 : b_6 = 0 := (neq b_6 0 (by omega) (Nat.le_of_ble_eq_true rfl)).mp c_9
      refine lv_ldc2 (v := (-1000000000000000)) hx hb hown (hts _ w_7_184) dX12_kept_48 ?_
      exact sk_lret hx hb hr hlocks hK hP hD hS (⟨kept_w (fun hq => rr_0 hb1_8 (by omega) ((kin0 (n := 3) (by decide) (by omega)).mpr hq)), rfl⟩) (Nat.le_of_ble_eq_true rfl) (Nat.le_of_ble_eq_true rfl) dX12_kept_51
    · have c_9 : ¬ (b_6 = 0) := fun h => c_9 ((neq b_6 0 (by omega) (Nat.le_of_ble_eq_true rfl)).mpr h)
      obtain ⟨kd_10, hkd_10, rfl⟩ := (kin0 (n := 3) (by decide) (by omega)).mp (rr_1 hb1_8 (by omega))
      refine lv_aload_n hx hb dX12_kept_31 rfl (lv_at hl 0 rfl) ?_
      refine sk_get (v := .ref (g 31)) (C := RX12) (T := TX12) (N := 92) hx hb hts inlX12 hown hK hP 0 rfl rfl 31 (Nat.le_of_ble_eq_true rfl) w_5_186 rfl dX12_kept_32 ?_
      refine lv_bipush (v := 30) hx hb dX12_kept_35 (by decide) ?_
      refine lv_iconst (v := 3) hx hb dX12_kept_37 ic_3 ?_
      refine lv_iload_n hx hb dX12_kept_38 rfl (lv_at hl 1 rfl) ?_
      refine lv_imul hx hb dX12_kept_39 ?_
      refine sk_top (nI (3 * kd_5)) (nmul 3 kd_5) ?_
      refine lv_iadd hx hb dX12_kept_40 ?_
      refine sk_top (nI (30 + (3 * kd_5))) (nI_add 30 (3 * kd_5)) ?_
      refine lv_iload_n hx hb dX12_kept_41 rfl (lv_at hl 2 rfl) ?_
      refine lv_iadd hx hb dX12_kept_42 ?_
      refine sk_top (nI (30 + (3 * kd_5) + kd_10)) (nI_add (30 + (3 * kd_5)) kd_10) ?_
      refine va_iald hx hb hK.1 hP 1 0 rfl rfl (vin (30 + (3 * kd_5) + kd_10) 120 (by omega) (Nat.le_of_ble_eq_true rfl)) dX12_kept_43 ?_
      refine sk_top (nw (30 + (3 * kd_5) + kd_10)) (by rw [nI_clamp (by omega)]) ?_
      refine lv_i2l hx hb dX12_kept_44 rfl ?_
      refine lv_goto (tgt := 51) hx hb dX12_kept_45 (by decide) ?_
      exact sk_lret hx hb hr hlocks hK hP hD hS (⟨keptX_y hnw hlg hkd_5 hkd_10 rfl, rfl⟩) (Nat.le_of_ble_eq_true rfl) (Nat.le_of_ble_eq_true rfl) dX12_kept_51
theorem dg_X12_weeks_0_0 : bqL cX12_weeks 0 [(0, [42]), (1, [180, 1, 46]), (4, [154, 0, 7]), (11, [42]), (12, [182, 1, 144]), (15, [42]), (16, [180, 1, 126]), (19, [173]), (7, [20, 1, 165]), (10, [173])] = true := by decide +kernel
theorem dX12_weeks_0 : decode cX12_weeks 0 = .ok (.aload_n 0, 1) := q_aload_n0 (bat_get dg_X12_weeks_0_0 0 rfl rfl)
theorem dX12_weeks_1 : decode cX12_weeks 1 = .ok (.getfield 302, 3) := q_getfield (bat_get dg_X12_weeks_0_0 1 rfl rfl) rfl
theorem dX12_weeks_4 : decode cX12_weeks 4 = .ok (.ifCond .ne 7, 3) := q_ifCond_ne (bat_get dg_X12_weeks_0_0 2 rfl rfl) rfl
theorem dX12_weeks_11 : decode cX12_weeks 11 = .ok (.aload_n 0, 1) := q_aload_n0 (bat_get dg_X12_weeks_0_0 3 rfl rfl)
theorem dX12_weeks_12 : decode cX12_weeks 12 = .ok (.invokevirtual 400, 3) := q_invokevirtual (bat_get dg_X12_weeks_0_0 4 rfl rfl) rfl
theorem dX12_weeks_15 : decode cX12_weeks 15 = .ok (.aload_n 0, 1) := q_aload_n0 (bat_get dg_X12_weeks_0_0 5 rfl rfl)
theorem dX12_weeks_16 : decode cX12_weeks 16 = .ok (.getfield 382, 3) := q_getfield (bat_get dg_X12_weeks_0_0 6 rfl rfl) rfl
theorem dX12_weeks_19 : decode cX12_weeks 19 = .ok (.lreturn, 1) := q_lreturn (bat_get dg_X12_weeks_0_0 7 rfl rfl)
theorem dX12_weeks_7 : decode cX12_weeks 7 = .ok (.ldc2_w 421, 3) := q_ldc2_w (bat_get dg_X12_weeks_0_0 8 rfl rfl) rfl
theorem dX12_weeks_10 : decode cX12_weeks 10 = .ok (.lreturn, 1) := q_lreturn (bat_get dg_X12_weeks_0_0 9 rfl rfl)
theorem w_7_188 : (Cond.code yX12_weeks cX12_weeks 1 (some .long)) ∈ wsL_law := sk_mem (ck_7 _ (List.mem_of_getElem? (i := 188) rfl)) rfl
set_option maxHeartbeats 4000000 in
set_option maxRecDepth 100000 in
theorem c_nm_weeks (l : Launch) (D : va_G) (cI cJ cC cZ cS : ClassId) (mm : Nat) (g : Nat → Nat) (ta : Nat) (pa : Nat) (pe : Nat) (pd : Int32) (pb : Nat) (pp : Int32) (pf : Int32) (pg : Int32) (pn : Int32) (rt : Int32) (rn : Int32) (cd : Nat) (sn : Int32) (il : Nat) (tk : Int32) (am : Int32) (at_ : Int32) (aa : Int32) (wt : Int32) (wy : Int64) (rm : Nat) (ud : Nat) (nu : Nat) (sd : Int64) (qn : Nat) (qw : Nat) (qo : Int32) (qb : Nat) (qp : Nat) (qa : Int64) (qi : Nat) (oc : Nat) (u0 : Int32) (u1 : Int32) (u2 : Int32) (u3 : Int32) (u4 : Int32) (u5 : Int32) (v0 : Int32) (v1 : Int32) (v2 : Int32) (v3 : Int32) (v4 : Int32) (v5 : Int32) (cs : Nat → Nat) (nw : Nat → Int32) (pt : Nat → Nat) (ql : Nat → Int64) (l0 : Nat) (l1 : Nat) (dm : Nat) (l3 : Nat) (ws_ : Nat → Int32) (yw : Nat → Int32) (yo : Nat → Int32) (be : Nat → Int64) (bf : Nat → Int64) (wn : Nat) (mN : Nat) (Ba : Nat → Nat) (We : Nat → Nat) (U : Nat → Bool) (ke : Nat) (lg : KLg) (L : LkS) (hil : il ≤ 1) (hild : il = 1 → 1 ≤ dm) (hilb : 1 ≤ dm → il = 1) (hdm : dm ≤ 9) (hLk : kcLk L) (hkl : (lK L).length ≤ 1600) (hmw0 : mwO L 0 u3 v3 cs) (hmw1 : mwO L 1 u4 v4 cs) (hB9 : ∀ j, Ba j ≤ 9) (hW9 : ∀ j, We j ≤ 9) (hwk : wn ≤ 999) (hcs : ∀ j, cs j ≤ 20000) (hnw : nwX wn mN Ba We U ke lg nw) (hpt : ∀ j, pt j ≤ 9) : skM l yX12_weeks cX12_weeks 1 (some .long) 6 142 0 0 D (skT cI cJ cC cZ cS) [.ref mm] [ro_ mm 12 (mo g (nI ta) (nI pa) (nI pe) pd (nI pb) pp pf pg pn rt rn (nI cd) sn (nI il) tk am at_ aa 0 0 (-1) wt wy 0 (nI rm) (nI ud) (nI nu) sd (nI qn) (nI qw) qo (nI qb) (nI qp) qa (nI qi) (nI oc)), ra_I (g 24) cI 6 (l6 u0 u1 u2 u3 u4 u5), ra_I (g 25) cI 6 (l6 v0 v1 v2 v3 v4 v5), ra_N (g 26) cI 3200 cs, ra_I (g 31) cI 120 nw, ra_N (g 46) cI 9 pt, ra_J (g 86) cJ 1700 ql, ra_I (g 20) cI 4 (l4 (nI l0) (nI l1) (nI dm) (nI l3)), ra_I (g 38) cI 90 ws_, ra_I (g 36) cZ 900 yw, ra_I (g 37) cZ 900 yo, ra_J (g 43) cJ 90 be, ra_J (g 44) cJ 90 bf] (skL D (skT cI cJ cC cZ cS) (fun (r : Int64) (u : va_W) => ∃ (tk2 : Int32), ∃ (qp2 : Nat), ∃ (am2 : Int32), ∃ (at_2 : Int32), ∃ (aa2 : Int32), ∃ (wy2 : Int64), ∃ (ql2 : Nat → Int64), ∃ (ws_2 : Nat → Int32), ∃ (yw2 : Nat → Int32), ∃ (yo2 : Nat → Int32), ∃ (be2 : Nat → Int64), ∃ (bf2 : Nat → Int64), weeksR dm (kcC (kcFo L wn Ba We U 0) dm 0 mN) r ∧ u = [ro_ mm 12 (mo g (nI ta) (nI pa) (nI pe) pd (nI pb) pp pf pg pn rt rn (nI cd) sn (nI il) tk2 am2 at_2 aa2 0 0 (-1) wt wy2 0 (nI rm) (nI ud) (nI nu) sd (nI qn) (nI qw) qo (nI qb) (nI qp2) qa (nI qi) (nI oc)), ra_I (g 24) cI 6 (l6 u0 u1 u2 u3 u4 u5), ra_I (g 25) cI 6 (l6 v0 v1 v2 v3 v4 v5), ra_N (g 26) cI 3200 cs, ra_I (g 31) cI 120 nw, ra_N (g 46) cI 9 pt, ra_J (g 86) cJ 1700 ql2, ra_I (g 20) cI 4 (l4 (nI l0) (nI l1) (nI dm) (nI l3)), ra_I (g 38) cI 90 ws_2, ra_I (g 36) cZ 900 yw2, ra_I (g 37) cZ 900 yo2, ra_J (g 43) cJ 90 be2, ra_J (g 44) cJ 90 bf2])) := by
  refine skM_of pf_X12_weeks (Nat.le_of_ble_eq_true rfl) ?_
  intro p e s m below meth c A ls E hP hD hl
  refine skE_el E (fun hx hb hr hml hlocks hin hown hts hK hA => ?_)
  have hown : s.vm.findClass RX12 = some m.cls := hown
  have hS : va_S A s.heap s.heap [] := va_S.rf
  have hl : lv_has ls 1 [(0, .ref mm)] := hl
  refine lv_aload_n hx hb dX12_weeks_0 rfl (lv_at hl 0 rfl) ?_
  refine sk_get (v := .int (nI il)) (C := RX12) (T := TX12) (N := 92) hx hb hts inlX12 hown hK hP 0 rfl rfl 29 (Nat.le_of_ble_eq_true rfl) w_5_184 rfl dX12_weeks_1 ?_
  refine lv_if_ne (tgt := 11) hx hb dX12_weeks_4 (by decide) (fun c_1 => ?_) (fun c_1 => ?_)
  · have c_1 : ¬ (il = 0) := fun h => c_1 ((neq il 0 (by omega) (Nat.le_of_ble_eq_true rfl)).mpr h)
    refine lv_aload_n hx hb dX12_weeks_11 rfl (lv_at hl 0 rfl) ?_
    refine sk_Vv (q0 := 0) (n := 0) (rest := []) (wr := fmR om_13_1fff _) ⟨hx, hb, hml, hown, hts⟩ hl.1 (c_nm_laysAll l D cI cJ cC cZ cS mm g ta pa pe pd pb pp pf pg pn rt rn cd sn il tk am at_ aa wt wy 0 rm ud nu sd qn qw qo qb qp qa qi oc u0 u1 u2 u3 u4 u5 v0 v1 v2 v3 v4 v5 cs nw pt ql l0 l1 dm l3 ws_ yw yo be bf wn mN Ba We U ke lg L hdm (by omega) hLk hkl hmw0 hmw1 hB9 hW9 hwk hcs hnw hpt) w_7_189 w_7_191 w_0_82 w_1_14 w_7_192 hd_X12_laysAll_0 ⟨⟨(Nat.le_of_ble_eq_true rfl), (Nat.le_of_ble_eq_true rfl)⟩, (Nat.le_of_ble_eq_true rfl), (Nat.le_of_ble_eq_true rfl)⟩ hK hP hD hS hA (fmT om_13_1fff 0) (fmF om_13_1fff 0) (fm_C1 rfl rfl) (fm_R rfl rfl) (fm_nT om_13_1fff 0) (fm_nF om_13_1fff 0) (fm_di om_13_1fff 0) rfl rfl rfl rfl (Nat.le_of_ble_eq_true rfl) dX12_weeks_12 (fun u H locs hw hP hD hS => ?_)
    refine exE hw (fun tk2_2 hw1 => exE hw1 (fun qp2_3 hw2 => exE hw2 (fun am2_4 hw3 => exE hw3 (fun at_2_5 hw4 => exE hw4 (fun aa2_6 hw5 => exE hw5 (fun wy2_7 hw6 => exE hw6 (fun ql2_8 hw7 => exE hw7 (fun ws_2_9 hw8 => exE hw8 (fun yw2_10 hw9 => exE hw9 (fun yo2_11 hw10 => exE hw10 (fun be2_12 hw11 => exE hw11 (fun bf2_13 hw12 => anE hw12 (fun hbe_14 hw13 => anE hw13 (fun hcf_15 hw14 => anE hw14 (fun hwy_16 eu_17 => ?_)))))))))))))))
    clear hw hw1 hw2 hw3 hw4 hw5 hw6 hw7 hw8 hw9 hw10 hw11 hw12 hw13 hw14
    refine o_mgE (ws' := [ro_ mm 12 (mo g (nI ta) (nI pa) (nI pe) pd (nI pb) pp pf pg pn rt rn (nI cd) sn (nI il) tk2_2 am2_4 at_2_5 aa2_6 0 0 (-1) wt wy2_7 0 (nI rm) (nI ud) (nI nu) sd (nI qn) (nI qw) qo (nI qb) (nI qp2_3) qa (nI qi) (nI oc)), ra_I (g 24) cI 6 (l6 u0 u1 u2 u3 u4 u5), ra_I (g 25) cI 6 (l6 v0 v1 v2 v3 v4 v5), ra_N (g 26) cI 3200 cs, ra_I (g 31) cI 120 nw, ra_N (g 46) cI 9 pt, ra_J (g 86) cJ 1700 ql2_8, ra_I (g 20) cI 4 (l4 (nI l0) (nI l1) (nI dm) (nI l3)), ra_I (g 38) cI 90 ws_2_9, ra_I (g 36) cZ 900 yw2_10, ra_I (g 37) cZ 900 yo2_11, ra_J (g 43) cJ 90 be2_12, ra_J (g 44) cJ 90 bf2_13]) eu_17 hP hD rfl (fun hP hD => ?_)
    refine lv_aload_n hx hb dX12_weeks_15 rfl (lv_at hl 0 rfl) ?_
    refine sk_get (v := .long wy2_7) (C := RX12) (T := TX12) (N := 92) hx hb hts inlX12 hown hK hP 0 rfl rfl 45 (Nat.le_of_ble_eq_true rfl) w_5_200 rfl dX12_weeks_16 ?_
    exact sk_lret hx hb hr hlocks hK hP hD hS (⟨tk2_2, qp2_3, am2_4, at_2_5, aa2_6, wy2_7, ql2_8, ws_2_9, yw2_10, yo2_11, be2_12, bf2_13, (Or.inr ⟨by omega, hwy_16⟩), rfl⟩) (Nat.le_of_ble_eq_true rfl) (Nat.le_of_ble_eq_true rfl) dX12_weeks_19
  · have c_1 : il = 0 := (neq il 0 (by omega) (Nat.le_of_ble_eq_true rfl)).mp c_1
    refine lv_ldc2 (v := (-1000000000000000)) hx hb hown (hts _ w_7_184) dX12_weeks_7 ?_
    exact sk_lret hx hb hr hlocks hK hP hD hS (⟨tk, qp, am, at_, aa, wy, ql, ws_, yw, yo, be, bf, (Or.inl ⟨by omega, rfl⟩), rfl⟩) (Nat.le_of_ble_eq_true rfl) (Nat.le_of_ble_eq_true rfl) dX12_weeks_10
theorem dg_X12_mood_0_0 : bqL cX12_mood 0 [(0, [42]), (1, [28]), (2, [182, 1, 157]), (5, [153, 0, 7]), (12, [2]), (13, [172]), (8, [27]), (9, [156, 0, 5]), (14, [42]), (15, [182, 1, 144]), (18, [27]), (19, [133]), (20, [42]), (21, [180, 1, 126]), (24, [148]), (25, [155, 0, 5]), (30, [42]), (31, [27]), (32, [133]), (33, [182, 1, 138]), (36, [42]), (37, [180, 0, 89]), (40, [28]), (41, [46]), (42, [172]), (28, [2]), (29, [172])] = true := by decide +kernel
theorem dX12_mood_0 : decode cX12_mood 0 = .ok (.aload_n 0, 1) := q_aload_n0 (bat_get dg_X12_mood_0_0 0 rfl rfl)
theorem dX12_mood_1 : decode cX12_mood 1 = .ok (.iload_n 2, 1) := q_iload_n2 (bat_get dg_X12_mood_0_0 1 rfl rfl)
theorem dX12_mood_2 : decode cX12_mood 2 = .ok (.invokevirtual 413, 3) := q_invokevirtual (bat_get dg_X12_mood_0_0 2 rfl rfl) rfl
theorem dX12_mood_5 : decode cX12_mood 5 = .ok (.ifCond .eq 7, 3) := q_ifCond_eq (bat_get dg_X12_mood_0_0 3 rfl rfl) rfl
theorem dX12_mood_12 : decode cX12_mood 12 = .ok (.iconst (-1), 1) := q_iconstm1 (bat_get dg_X12_mood_0_0 4 rfl rfl)
theorem dX12_mood_13 : decode cX12_mood 13 = .ok (.ireturn, 1) := q_ireturn (bat_get dg_X12_mood_0_0 5 rfl rfl)
theorem dX12_mood_8 : decode cX12_mood 8 = .ok (.iload_n 1, 1) := q_iload_n1 (bat_get dg_X12_mood_0_0 6 rfl rfl)
theorem dX12_mood_9 : decode cX12_mood 9 = .ok (.ifCond .ge 5, 3) := q_ifCond_ge (bat_get dg_X12_mood_0_0 7 rfl rfl) rfl
theorem dX12_mood_14 : decode cX12_mood 14 = .ok (.aload_n 0, 1) := q_aload_n0 (bat_get dg_X12_mood_0_0 8 rfl rfl)
theorem dX12_mood_15 : decode cX12_mood 15 = .ok (.invokevirtual 400, 3) := q_invokevirtual (bat_get dg_X12_mood_0_0 9 rfl rfl) rfl
theorem dX12_mood_18 : decode cX12_mood 18 = .ok (.iload_n 1, 1) := q_iload_n1 (bat_get dg_X12_mood_0_0 10 rfl rfl)
theorem dX12_mood_19 : decode cX12_mood 19 = .ok (.i2l, 1) := q_i2l (bat_get dg_X12_mood_0_0 11 rfl rfl)
theorem dX12_mood_20 : decode cX12_mood 20 = .ok (.aload_n 0, 1) := q_aload_n0 (bat_get dg_X12_mood_0_0 12 rfl rfl)
theorem dX12_mood_21 : decode cX12_mood 21 = .ok (.getfield 382, 3) := q_getfield (bat_get dg_X12_mood_0_0 13 rfl rfl) rfl
theorem dX12_mood_24 : decode cX12_mood 24 = .ok (.lcmp, 1) := q_lcmp (bat_get dg_X12_mood_0_0 14 rfl rfl)
theorem dX12_mood_25 : decode cX12_mood 25 = .ok (.ifCond .lt 5, 3) := q_ifCond_lt (bat_get dg_X12_mood_0_0 15 rfl rfl) rfl
theorem dX12_mood_30 : decode cX12_mood 30 = .ok (.aload_n 0, 1) := q_aload_n0 (bat_get dg_X12_mood_0_0 16 rfl rfl)
theorem dX12_mood_31 : decode cX12_mood 31 = .ok (.iload_n 1, 1) := q_iload_n1 (bat_get dg_X12_mood_0_0 17 rfl rfl)
theorem dX12_mood_32 : decode cX12_mood 32 = .ok (.i2l, 1) := q_i2l (bat_get dg_X12_mood_0_0 18 rfl rfl)
theorem dX12_mood_33 : decode cX12_mood 33 = .ok (.invokevirtual 394, 3) := q_invokevirtual (bat_get dg_X12_mood_0_0 19 rfl rfl) rfl
theorem dX12_mood_36 : decode cX12_mood 36 = .ok (.aload_n 0, 1) := q_aload_n0 (bat_get dg_X12_mood_0_0 20 rfl rfl)
theorem dX12_mood_37 : decode cX12_mood 37 = .ok (.getfield 89, 3) := q_getfield (bat_get dg_X12_mood_0_0 21 rfl rfl) rfl
theorem dX12_mood_40 : decode cX12_mood 40 = .ok (.iload_n 2, 1) := q_iload_n2 (bat_get dg_X12_mood_0_0 22 rfl rfl)
theorem dX12_mood_41 : decode cX12_mood 41 = .ok (.iaload, 1) := q_iaload (bat_get dg_X12_mood_0_0 23 rfl rfl)
theorem dX12_mood_42 : decode cX12_mood 42 = .ok (.ireturn, 1) := q_ireturn (bat_get dg_X12_mood_0_0 24 rfl rfl)
theorem dX12_mood_28 : decode cX12_mood 28 = .ok (.iconst (-1), 1) := q_iconstm1 (bat_get dg_X12_mood_0_0 25 rfl rfl)
theorem dX12_mood_29 : decode cX12_mood 29 = .ok (.ireturn, 1) := q_ireturn (bat_get dg_X12_mood_0_0 26 rfl rfl)
theorem w_7_216 : (Cond.code yX12_mood cX12_mood 3 (some .int)) ∈ wsL_law := sk_mem (ck_7 _ (List.mem_of_getElem? (i := 216) rfl)) rfl
def om_13_11ae : List Bool := true :: false :: false :: false :: true :: true :: false :: true :: false :: true :: true :: true :: false :: []
set_option maxHeartbeats 4000000 in
set_option maxRecDepth 100000 in
theorem c_nm_mood (l : Launch) (D : va_G) (cI cJ cC cZ cS : ClassId) (mm : Nat) (g : Nat → Nat) (ta : Nat) (pa : Nat) (pe : Nat) (pd : Int32) (pb : Nat) (pp : Int32) (pf : Int32) (pg : Int32) (pn : Int32) (rt : Int32) (rn : Int32) (cd : Nat) (sn : Int32) (il : Nat) (tk : Int32) (am : Int32) (at_ : Int32) (aa : Int32) (wt : Int32) (wy : Int64) (rm : Nat) (ud : Nat) (nu : Nat) (sd : Int64) (qn : Nat) (qw : Nat) (qo : Int32) (qb : Nat) (qp : Nat) (qa : Int64) (qi : Nat) (oc : Nat) (k : Int32) (d : Int32) (u0 : Int32) (u1 : Int32) (u2 : Int32) (u3 : Int32) (u4 : Int32) (u5 : Int32) (v0 : Int32) (v1 : Int32) (v2 : Int32) (v3 : Int32) (v4 : Int32) (v5 : Int32) (cs : Nat → Nat) (nw : Nat → Int32) (pt : Nat → Nat) (ql : Nat → Int64) (l0 : Nat) (l1 : Nat) (dm : Nat) (l3 : Nat) (ws_ : Nat → Int32) (yw : Nat → Int32) (yo : Nat → Int32) (be : Nat → Int64) (bf : Nat → Int64) (wn : Nat) (mN : Nat) (Ba : Nat → Nat) (We : Nat → Nat) (U : Nat → Bool) (ke : Nat) (lg : KLg) (L : LkS) (hil : il ≤ 1) (hild : il = 1 → 1 ≤ dm) (hilb : 1 ≤ dm → il = 1) (hdm : dm ≤ 9) (hLk : kcLk L) (hkl : (lK L).length ≤ 1600) (hmw0 : mwO L 0 u3 v3 cs) (hmw1 : mwO L 1 u4 v4 cs) (hB9 : ∀ j, Ba j ≤ 9) (hW9 : ∀ j, We j ≤ 9) (hwk : wn ≤ 999) (hcs : ∀ j, cs j ≤ 20000) (hnw : nwX wn mN Ba We U ke lg nw) (hpt : ∀ j, pt j ≤ 9) : skM l yX12_mood cX12_mood 3 (some .int) 6 142 0 0 D (skT cI cJ cC cZ cS) [.ref mm, .int k, .int d] [ro_ mm 12 (mo g (nI ta) (nI pa) (nI pe) pd (nI pb) pp pf pg pn rt rn (nI cd) sn (nI il) tk am at_ aa 0 0 (-1) wt wy 0 (nI rm) (nI ud) (nI nu) sd (nI qn) (nI qw) qo (nI qb) (nI qp) qa (nI qi) (nI oc)), ra_I (g 24) cI 6 (l6 u0 u1 u2 u3 u4 u5), ra_I (g 25) cI 6 (l6 v0 v1 v2 v3 v4 v5), ra_N (g 26) cI 3200 cs, ra_I (g 31) cI 120 nw, ra_N (g 46) cI 9 pt, ra_J (g 86) cJ 1700 ql, ra_I (g 20) cI 4 (l4 (nI l0) (nI l1) (nI dm) (nI l3)), ra_I (g 38) cI 90 ws_, ra_I (g 36) cZ 900 yw, ra_I (g 37) cZ 900 yo, ra_J (g 43) cJ 90 be, ra_J (g 44) cJ 90 bf] (skI D (skT cI cJ cC cZ cS) (fun (r : Int32) (u : va_W) => ∃ (tk2 : Int32), ∃ (qp2 : Nat), ∃ (am2 : Int32), ∃ (at_2 : Int32), ∃ (aa2 : Int32), ∃ (wy2 : Int64), ∃ (pt2 : Nat → Nat), ∃ (ql2 : Nat → Int64), ∃ (ws_2 : Nat → Int32), ∃ (yw2 : Nat → Int32), ∃ (yo2 : Nat → Int32), ∃ (be2 : Nat → Int64), ∃ (bf2 : Nat → Int64), moodR (kcFo L wn Ba We U 0) dm mN k d r ∧ (∀ j, pt2 j ≤ 9) ∧ u = [ro_ mm 12 (mo g (nI ta) (nI pa) (nI pe) pd (nI pb) pp pf pg pn rt rn (nI cd) sn (nI il) tk2 am2 at_2 aa2 0 0 (-1) wt wy2 0 (nI rm) (nI ud) (nI nu) sd (nI qn) (nI qw) qo (nI qb) (nI qp2) qa (nI qi) (nI oc)), ra_I (g 24) cI 6 (l6 u0 u1 u2 u3 u4 u5), ra_I (g 25) cI 6 (l6 v0 v1 v2 v3 v4 v5), ra_N (g 26) cI 3200 cs, ra_I (g 31) cI 120 nw, ra_N (g 46) cI 9 pt2, ra_J (g 86) cJ 1700 ql2, ra_I (g 20) cI 4 (l4 (nI l0) (nI l1) (nI dm) (nI l3)), ra_I (g 38) cI 90 ws_2, ra_I (g 36) cZ 900 yw2, ra_I (g 37) cZ 900 yo2, ra_J (g 43) cJ 90 be2, ra_J (g 44) cJ 90 bf2])) := by
  refine skM_of pf_X12_mood (Nat.le_of_ble_eq_true rfl) ?_
  intro p e s m below meth c A ls E hP hD hl
  refine skE_el E (fun hx hb hr hml hlocks hin hown hts hK hA => ?_)
  have hown : s.vm.findClass RX12 = some m.cls := hown
  have hS : va_S A s.heap s.heap [] := va_S.rf
  have hl : lv_has ls 3 [(0, .ref mm), (1, .int k), (2, .int d)] := hl
  refine lv_aload_n hx hb dX12_mood_0 rfl (lv_at hl 0 rfl) ?_
  refine lv_iload_n hx hb dX12_mood_1 rfl (lv_at hl 2 rfl) ?_
  refine sk_Vi (q0 := 0) (n := 1) (rest := []) (wr := fmR om_13_1020 _) ⟨hx, hb, hml, hown, hts⟩ hl.1 (c_nm_isDay l D cI cJ cC cZ cS mm g ta pa pe pd pb pp pf pg pn rt rn cd sn il tk am at_ aa wt wy rm ud nu sd qn qw qo qb qp qa qi oc d l0 l1 dm l3 hdm) w_7_117 w_7_119 w_0_72 w_1_14 w_7_120 hd_X12_isDay_1 ⟨⟨(Nat.le_of_ble_eq_true rfl), (Nat.le_of_ble_eq_true rfl)⟩, (Nat.le_of_ble_eq_true rfl), (Nat.le_of_ble_eq_true rfl)⟩ hK hP hD hS hA (fmT om_13_1020 0) (fmF om_13_1020 0) (fm_C1 rfl rfl) (fm_R rfl rfl) (fm_nT om_13_1020 0) (fm_nF om_13_1020 0) (fm_di om_13_1020 0) rfl rfl rfl rfl (Nat.le_of_ble_eq_true rfl) dX12_mood_2 (fun r_2 u H locs hw hP hD hS => ?_)
  refine exE hw (fun b_1 hw1 => anE hw1 (fun hb1_3 hw2 => anE hw2 (fun er_5 eu_4 => ?_)))
  clear hw hw1 hw2
  subst er_5
  refine o_mgE (ws' := [ro_ mm 12 (mo g (nI ta) (nI pa) (nI pe) pd (nI pb) pp pf pg pn rt rn (nI cd) sn (nI il) tk am at_ aa 0 0 (-1) wt wy 0 (nI rm) (nI ud) (nI nu) sd (nI qn) (nI qw) qo (nI qb) (nI qp) qa (nI qi) (nI oc)), ra_I (g 24) cI 6 (l6 u0 u1 u2 u3 u4 u5), ra_I (g 25) cI 6 (l6 v0 v1 v2 v3 v4 v5), ra_N (g 26) cI 3200 cs, ra_I (g 31) cI 120 nw, ra_N (g 46) cI 9 pt, ra_J (g 86) cJ 1700 ql, ra_I (g 20) cI 4 (l4 (nI l0) (nI l1) (nI dm) (nI l3)), ra_I (g 38) cI 90 ws_, ra_I (g 36) cZ 900 yw, ra_I (g 37) cZ 900 yo, ra_J (g 43) cJ 90 be, ra_J (g 44) cJ 90 bf]) eu_4 hP hD rfl (fun hP hD => ?_)
  refine lv_if_eq (tgt := 12) hx hb dX12_mood_5 (by decide) (fun c_6 => ?_) (fun c_6 => ?_)
  · have c_6 : b_1 = 0 := (neq b_1 0 (by omega) (Nat.le_of_ble_eq_true rfl)).mp c_6
    refine lv_iconst (v := (-1)) hx hb dX12_mood_12 (by decide) ?_
    exact sk_iret hx hb hr rfl hlocks hK hP hD hS (⟨tk, qp, am, at_, aa, wy, pt, ql, ws_, yw, yo, be, bf, mood_0 (rr_0 hb1_3 (by omega)), hpt, rfl⟩) (Nat.le_of_ble_eq_true rfl) (Nat.le_of_ble_eq_true rfl) dX12_mood_13
  · have c_6 : ¬ (b_1 = 0) := fun h => c_6 ((neq b_1 0 (by omega) (Nat.le_of_ble_eq_true rfl)).mpr h)
    obtain ⟨kd_7, hkd_7, rfl⟩ := rr_1 hb1_3 (by omega)
    refine lv_iload_n hx hb dX12_mood_8 rfl (lv_at hl 1 rfl) ?_
    refine lv_if_ge (tgt := 14) hx hb dX12_mood_9 (by decide) (fun c_8 => ?_) (fun c_8 => ?_)
    · obtain ⟨k_9, hk_9, rfl⟩ := nof' k c_8
      refine lv_aload_n hx hb dX12_mood_14 rfl (lv_at hl 0 rfl) ?_
      refine sk_Vv (q0 := 0) (n := 0) (rest := []) (wr := fmR om_13_1fff _) ⟨hx, hb, hml, hown, hts⟩ hl.1 (c_nm_laysAll l D cI cJ cC cZ cS mm g ta pa pe pd pb pp pf pg pn rt rn cd sn il tk am at_ aa wt wy 0 rm ud nu sd qn qw qo qb qp qa qi oc u0 u1 u2 u3 u4 u5 v0 v1 v2 v3 v4 v5 cs nw pt ql l0 l1 dm l3 ws_ yw yo be bf wn mN Ba We U ke lg L hdm (by omega) hLk hkl hmw0 hmw1 hB9 hW9 hwk hcs hnw hpt) w_7_189 w_7_191 w_0_82 w_1_14 w_7_192 hd_X12_laysAll_0 ⟨⟨(Nat.le_of_ble_eq_true rfl), (Nat.le_of_ble_eq_true rfl)⟩, (Nat.le_of_ble_eq_true rfl), (Nat.le_of_ble_eq_true rfl)⟩ hK hP hD hS hA (fmT om_13_1fff 0) (fmF om_13_1fff 0) (fm_C1 rfl rfl) (fm_R rfl rfl) (fm_nT om_13_1fff 0) (fm_nF om_13_1fff 0) (fm_di om_13_1fff 0) rfl rfl rfl rfl (Nat.le_of_ble_eq_true rfl) dX12_mood_15 (fun u H locs hw hP hD hS => ?_)
      refine exE hw (fun tk2_10 hw1 => exE hw1 (fun qp2_11 hw2 => exE hw2 (fun am2_12 hw3 => exE hw3 (fun at_2_13 hw4 => exE hw4 (fun aa2_14 hw5 => exE hw5 (fun wy2_15 hw6 => exE hw6 (fun ql2_16 hw7 => exE hw7 (fun ws_2_17 hw8 => exE hw8 (fun yw2_18 hw9 => exE hw9 (fun yo2_19 hw10 => exE hw10 (fun be2_20 hw11 => exE hw11 (fun bf2_21 hw12 => anE hw12 (fun hbe_22 hw13 => anE hw13 (fun hcf_23 hw14 => anE hw14 (fun hwy_24 eu_25 => ?_)))))))))))))))
      clear hw hw1 hw2 hw3 hw4 hw5 hw6 hw7 hw8 hw9 hw10 hw11 hw12 hw13 hw14
      refine o_mgE (ws' := [ro_ mm 12 (mo g (nI ta) (nI pa) (nI pe) pd (nI pb) pp pf pg pn rt rn (nI cd) sn (nI il) tk2_10 am2_12 at_2_13 aa2_14 0 0 (-1) wt wy2_15 0 (nI rm) (nI ud) (nI nu) sd (nI qn) (nI qw) qo (nI qb) (nI qp2_11) qa (nI qi) (nI oc)), ra_I (g 24) cI 6 (l6 u0 u1 u2 u3 u4 u5), ra_I (g 25) cI 6 (l6 v0 v1 v2 v3 v4 v5), ra_N (g 26) cI 3200 cs, ra_I (g 31) cI 120 nw, ra_N (g 46) cI 9 pt, ra_J (g 86) cJ 1700 ql2_16, ra_I (g 20) cI 4 (l4 (nI l0) (nI l1) (nI dm) (nI l3)), ra_I (g 38) cI 90 ws_2_17, ra_I (g 36) cZ 900 yw2_18, ra_I (g 37) cZ 900 yo2_19, ra_J (g 43) cJ 90 be2_20, ra_J (g 44) cJ 90 bf2_21]) eu_25 hP hD rfl (fun hP hD => ?_)
      have hc9 := kcC_9 (kcFo L wn Ba We U 0) (show dm ≤ 9 by omega) 0 mN
      refine lv_iload_n hx hb dX12_mood_18 rfl (lv_at hl 1 rfl) ?_
      refine lv_i2l hx hb dX12_mood_19 rfl ?_
      refine lv_aload_n hx hb dX12_mood_20 rfl (lv_at hl 0 rfl) ?_
      refine sk_get (v := .long wy2_15) (C := RX12) (T := TX12) (N := 92) hx hb hts inlX12 hown hK hP 0 rfl rfl 45 (Nat.le_of_ble_eq_true rfl) w_5_200 rfl dX12_mood_21 ?_
      refine W.lcmp hx hb dX12_mood_24 ?_
      refine lv_if_lt (tgt := 30) hx hb dX12_mood_25 (by decide) (fun c_26 => ?_) (fun c_26 => ?_)
      · have hnx : k_9 < kcC (kcFo L wn Ba We U 0) dm 0 mN := (kcl_i (by omega) (by omega)).mp (by rw [← hwy_24]; exact c_26)
        refine lv_aload_n hx hb dX12_mood_30 rfl (lv_at hl 0 rfl) ?_
        refine lv_iload_n hx hb dX12_mood_31 rfl (lv_at hl 1 rfl) ?_
        refine lv_i2l hx hb dX12_mood_32 rfl ?_
        refine sk_topl (nL k_9) (kx_i2l (by omega)) ?_
        refine sk_Vv (q0 := 0) (n := 1) (rest := []) (wr := fmR om_13_11ae _) ⟨hx, hb, hml, hown, hts⟩ hl.1 (c_nm_walksTo l D cI cJ cC cZ cS mm g ta pa pe pd pb pp pf pg pn rt rn cd sn il tk2_10 am2_12 at_2_13 aa2_14 0 wt wy2_15 0 rm ud nu sd qn qw qo qb qp2_11 qa qi oc l0 l1 dm l3 nw yo2_19 yw2_18 be2_20 pt k_9 hdm (by omega) hbe_22 (nuX hcf_23 (nwX_a0 hnw) hnw.1 hnx) (nwX_ok hnw) hpt) w_7_217 w_7_219 w_0_88 w_1_14 w_7_220 hd_X12_walksTo_1 ⟨⟨(Nat.le_of_ble_eq_true rfl), (Nat.le_of_ble_eq_true rfl)⟩, (Nat.le_of_ble_eq_true rfl), (Nat.le_of_ble_eq_true rfl)⟩ hK hP hD hS hA [0, 7, 4, 10, 9, 11, 5] (fmF om_13_11ae 0) rfl (fm_R rfl rfl) (by decide +kernel) (fm_nF om_13_11ae 0) (by decide +kernel) rfl rfl rfl rfl (Nat.le_of_ble_eq_true rfl) dX12_mood_33 (fun u H locs hw hP hD hS => ?_)
        refine exE hw (fun pt2_27 hw1 => anE hw1 (fun hpw_28 hw2 => anE hw2 (fun hpt2_29 eu_30 => ?_)))
        clear hw hw1 hw2
        refine o_mgqE (ux := [ro_ mm 12 (mo g (nI ta) (nI pa) (nI pe) pd (nI pb) pp pf pg pn rt rn (nI cd) sn (nI il) tk2_10 am2_12 at_2_13 aa2_14 0 0 (-1) wt wy2_15 0 (nI rm) (nI ud) (nI nu) sd (nI qn) (nI qw) qo (nI qb) (nI qp2_11) qa (nI qi) (nI oc)), ra_I (g 31) cI 120 nw, ra_N (g 46) cI 9 pt2_27, ra_I (g 20) cI 4 (l4 (nI l0) (nI l1) (nI dm) (nI l3)), ra_I (g 36) cZ 900 yw2_18, ra_I (g 37) cZ 900 yo2_19, ra_J (g 43) cJ 90 be2_20]) (ws' := [ro_ mm 12 (mo g (nI ta) (nI pa) (nI pe) pd (nI pb) pp pf pg pn rt rn (nI cd) sn (nI il) tk2_10 am2_12 at_2_13 aa2_14 0 0 (-1) wt wy2_15 0 (nI rm) (nI ud) (nI nu) sd (nI qn) (nI qw) qo (nI qb) (nI qp2_11) qa (nI qi) (nI oc)), ra_I (g 24) cI 6 (l6 u0 u1 u2 u3 u4 u5), ra_I (g 25) cI 6 (l6 v0 v1 v2 v3 v4 v5), ra_N (g 26) cI 3200 cs, ra_I (g 31) cI 120 nw, ra_N (g 46) cI 9 pt2_27, ra_J (g 86) cJ 1700 ql2_16, ra_I (g 20) cI 4 (l4 (nI l0) (nI l1) (nI dm) (nI l3)), ra_I (g 38) cI 90 ws_2_17, ra_I (g 36) cZ 900 yw2_18, ra_I (g 37) cZ 900 yo2_19, ra_J (g 43) cJ 90 be2_20, ra_J (g 44) cJ 90 bf2_21]) eu_30 [0, 2, 6, 1, 4, 3, 5] (by decide +kernel) rfl hP hD rfl (fun hP hD => ?_)
        have hpx := mpX hcf_23 (nwX_a0 hnw) hnw.1 hnx hpw_28
        refine lv_aload_n hx hb dX12_mood_36 rfl (lv_at hl 0 rfl) ?_
        refine sk_get (v := .ref (g 46)) (C := RX12) (T := TX12) (N := 92) hx hb hts inlX12 hown hK hP 0 rfl rfl 46 (Nat.le_of_ble_eq_true rfl) w_5_201 rfl dX12_mood_37 ?_
        refine lv_iload_n hx hb dX12_mood_40 rfl (lv_at hl 2 rfl) ?_
        refine va_iald hx hb hK.1 hP 5 0 rfl rfl (vin kd_7 9 (by omega) (Nat.le_of_ble_eq_true rfl)) dX12_mood_41 ?_
        refine sk_top (nI (pt2_27 kd_7)) (nrd pt2_27 kd_7 (by omega)) ?_
        have hb_31 := hpt2_29 kd_7
        exact sk_iret hx hb hr rfl hlocks hK hP hD hS (⟨tk2_10, qp2_11, am2_12, at_2_13, aa2_14, wy2_15, pt2_27, ql2_16, ws_2_17, yw2_18, yo2_19, be2_20, bf2_21, mood_2 hkd_7 hnx (congrArg nI (hpx _ hkd_7)), hpt2_29, rfl⟩) (Nat.le_of_ble_eq_true rfl) (Nat.le_of_ble_eq_true rfl) dX12_mood_42
      · have hno : ∀ x, x < kcC (kcFo L wn Ba We U 0) dm 0 mN → ¬ nI k_9 = nI x := fun x hx hq => c_26 (by rw [hwy_24]; exact (kcl_i (by omega) (by omega)).mpr (by have := (neq k_9 x (by omega) (by omega)).mp hq; omega))
        refine lv_iconst (v := (-1)) hx hb dX12_mood_28 (by decide) ?_
        exact sk_iret hx hb hr rfl hlocks hK hP hD hS (⟨tk2_10, qp2_11, am2_12, at_2_13, aa2_14, wy2_15, pt, ql2_16, ws_2_17, yw2_18, yo2_19, be2_20, bf2_21, mood_1 hno, hpt, rfl⟩) (Nat.le_of_ble_eq_true rfl) (Nat.le_of_ble_eq_true rfl) dX12_mood_29
    · skip
      refine lv_iconst (v := (-1)) hx hb dX12_mood_12 (by decide) ?_
      exact sk_iret hx hb hr rfl hlocks hK hP hD hS (⟨tk, qp, am, at_, aa, wy, pt, ql, ws_, yw, yo, be, bf, mood_1 (fun x hx hq => kIn_neg (n := 2147483647) (Int32.not_le.mp c_8) (by omega) ⟨x, by have := kcC_9 (kcFo L wn Ba We U 0) (show dm ≤ 9 by omega) 0 mN; omega, hq⟩), hpt, rfl⟩) (Nat.le_of_ble_eq_true rfl) (Nat.le_of_ble_eq_true rfl) dX12_mood_13
