/-! the reference's lock, words and deeds -/
theorem kx_c3 {kind c : Nat} (hk : kind < 2) (h : kcN1 kind c) : (1 ≤ c ∧ c ≤ 6) ∨ (1000 ≤ c ∧ c < 11000) ∨ (40 ≤ c ∧ c < 47) := by
  rcases kx_cls hk h with ⟨a, b, -⟩ | ⟨a, b, -⟩ | ⟨a, b, -⟩
  · exact Or.inl ⟨a, b⟩
  · exact Or.inr (Or.inl ⟨a, b⟩)
  · exact Or.inr (Or.inr ⟨a, b⟩)
def mwO (L : LkS) (w : Nat) (u v : Int32) (cs : Nat → Nat) : Prop := match lG L w with
  | none => u = -1
  | some p => u = nI p.1 ∧ v = nI p.2 ∧ ∀ j, j < (lK L).length → cs (1600 + j) = (lK L).getD j 0
theorem mw_none {L : LkS} {w : Nat} {u v : Int32} {cs : Nat → Nat} (hL : kcLk L) (hl : (lK L).length ≤ 1600) (h : mwO L w u v cs) (hu : u = -1) : lG L w = none := by
  cases hg : lG L w with
  | none => rfl
  | some p =>
    unfold mwO at h
    rw [hg] at h
    have h1 := (hL w p hg)
    have h2 : nI p.1 = -1 := h.1.symm.trans hu
    have h3 : (nI p.1).toInt = -1 := by rw [h2]; rfl
    rw [nI_toInt (by omega)] at h3
    omega
theorem mw_some {L : LkS} {w : Nat} {u v : Int32} {cs : Nat → Nat} (hL : kcLk L) (h : mwO L w u v cs) (hu : ¬ u = -1) : ∃ a b : Nat, u = nI a ∧ v = nI b ∧ a ≤ b ∧ b ≤ (lK L).length ∧ (∀ j, j < (lK L).length → cs (1600 + j) = (lK L).getD j 0) ∧ lG L w = some (a, b) := by
  cases hg : lG L w with
  | none =>
    unfold mwO at h
    rw [hg] at h
    exact absurd h hu
  | some p =>
    unfold mwO at h
    rw [hg] at h
    have h1 := (hL w p hg)
    exact ⟨p.1, p.2, h.1, h.2.1, Nat.le_of_lt h1.1, h1.2.1, h.2.2, rfl⟩
theorem kw_ex {L : LkS} {w a b : Nat} (h : kcLk L) (hw : w < 3) (hp : lG L w = some (a, b)) (nm : Nat → Int64) : kcEx nm 64 (kcSub (lK L) (a, b)) [] = some [kcV L w nm] := by
  have h1 := kcV_ex h hw nm
  rw [kcSeg_some h hp] at h1
  exact h1
theorem kw_ns {L : LkS} {w k a b : Nat} (h : kcLk L) (hk : k = if w = 1 then 1 else 0) (hp : lG L w = some (a, b)) : kcNs k (kcSub (lK L) (a, b)) := by
  rw [hk]; exact (h w (a, b) hp).2.2.2
theorem kten_n {m : Nat} (h : m < 10) : kcTen (Int64.ofNat m) = m := by
  unfold kcTen
  rw [Int64.toInt_ofNat_of_lt (by omega)]
  omega
/-- a day as the reference has it -/
def mdO (nw : Nat → Int32) (wk b w d : Nat) : Prop := nw 0 = nI wk ∧ nw (2 + 3 * d) = nI b ∧ nw (2 + 3 * d + 1) = nI w
theorem mn_of {nw : Nat → Int32} {wk b w d m t al : Nat} {am at_ aa : Int32} (h : mdO nw wk b w d) (hm : am = nI m) (ht : at_ = nI t) (ha : aa = nI al) (h1 : wk < 2147483648) (h2 : b < 2147483648) (h3 : w < 2147483648) (h4 : d < 2147483648) (h5 : m < 2147483648) (h6 : t < 2147483648) (h7 : al < 2147483648) : mnO (kcNm wk b w d m t al) am at_ aa nw d := by
  obtain ⟨a1, a2, a3⟩ := h
  refine ⟨?_, ?_, ?_, ?_, ?_, ?_, ?_⟩
  · rw [hm, kx_i2l h5]; rfl
  · rw [a2, kx_i2l h2]; rfl
  · rw [a3, kx_i2l h3]; rfl
  · rw [kx_i2l h4]; rfl
  · rw [a1, kx_i2l h1]; rfl
  · rw [ht, kx_i2l h6]; rfl
  · rw [ha, kx_i2l h7]; rfl
/-- words and wages do not ask what he is told -/
theorem mn_any {nw : Nat → Int32} {wk b w d m : Nat} {am at_ aa : Int32} (h : mdO nw wk b w d) (hm : am = nI m) (h1 : wk < 2147483648) (h2 : b < 2147483648) (h3 : w < 2147483648) (h4 : d < 2147483648) (h5 : m < 2147483648) : ∃ nm, mnO nm am at_ aa nw d ∧ ∀ j, j < 5 → nm j = kcNm wk b w d m 0 0 j := by
  obtain ⟨a1, a2, a3⟩ := h
  refine ⟨fun k => if k < 5 then kcNm wk b w d m 0 0 k else if k = 5 then Int32.toInt64 at_ else Int32.toInt64 aa, ⟨?_, ?_, ?_, ?_, ?_, rfl, rfl⟩, fun j hj => if_pos hj⟩
  · rw [hm, kx_i2l h5]; rfl
  · rw [a2, kx_i2l h2]; rfl
  · rw [a3, kx_i2l h3]; rfl
  · rw [kx_i2l h4]; rfl
  · rw [a1, kx_i2l h1]; rfl
set_option maxHeartbeats 4000000 in
set_option maxRecDepth 100000 in
theorem c_nm_bargeOf (l : Launch) (D : va_G) (cI cJ cC cZ cS : ClassId) (mm : Nat) (g : Nat → Nat) (ta : Nat) (pa : Nat) (pe : Nat) (pd : Int32) (pb : Nat) (pp : Int32) (pf : Int32) (pg : Int32) (pn : Int32) (rt : Int32) (rn : Int32) (cd : Nat) (sn : Int32) (il : Nat) (tk : Int32) (am : Int32) (at_ : Int32) (aa : Int32) (mt_ : Int32) (wt : Int32) (wy : Int64) (it_ : Nat) (rm : Nat) (ud : Nat) (nu : Nat) (sd : Int64) (qn : Nat) (qw : Nat) (qo : Int32) (qb : Nat) (qp : Nat) (qa : Int64) (qi : Nat) (oc : Nat) (d : Nat) (nw : Nat → Int32) (hd : d < 9) (hnw : nowOk nw) : skM l yX12_bargeOf cX12_bargeOf 2 (some .int) 0 0 0 0 D (skT cI cJ cC cZ cS) [.ref mm, .int (nI d)] [(mm, .inr (12, mo g (nI ta) (nI pa) (nI pe) pd (nI pb) pp pf pg pn rt rn (nI cd) sn (nI il) tk am at_ aa mt_ 0 (-1) wt wy (nI it_) (nI rm) (nI ud) (nI nu) sd (nI qn) (nI qw) qo (nI qb) (nI qp) qa (nI qi) (nI oc))), (g 31, .inl (cI, 120, .inl nw))] (skI D (skT cI cJ cC cZ cS) (fun (r : Int32) (u : va_W) => r = nw (2 + 3 * d) ∧ u = [(mm, .inr (12, mo g (nI ta) (nI pa) (nI pe) pd (nI pb) pp pf pg pn rt rn (nI cd) sn (nI il) tk am at_ aa mt_ 0 (-1) wt wy (nI it_) (nI rm) (nI ud) (nI nu) sd (nI qn) (nI qw) qo (nI qb) (nI qp) qa (nI qi) (nI oc))), (g 31, .inl (cI, 120, .inl nw))])) := by
  refine skM_of pf_X12_bargeOf (Nat.le_of_ble_eq_true rfl) ?_
  intro p e s m below meth c A ls E hP hD hl
  refine skE_el E (fun hx hb hr hml hlocks hin hown hts hK hA => ?_)
  have hown : s.vm.findClass RX12 = some m.cls := hown
  have hS : va_S A s.heap s.heap [] := va_S.rf
  have hl : lv_has ls 2 [(0, .ref mm), (1, .int (nI d))] := hl
  refine lv_aload_n hx hb dX12_bargeOf_0 rfl (lv_at hl 0 rfl) ?_
  refine sk_get (v := .ref (g 31)) (C := RX12) (T := TX12) (N := 92) hx hb hts inlX12 hown hK hP 0 rfl rfl 31 (by decide) w_5_186 rfl dX12_bargeOf_1 ?_
  refine lv_iconst (v := 2) hx hb dX12_bargeOf_4 (by decide) ?_
  refine lv_iconst (v := 3) hx hb dX12_bargeOf_5 (by decide) ?_
  refine lv_iload_n hx hb dX12_bargeOf_6 rfl (lv_at hl 1 rfl) ?_
  refine lv_imul hx hb dX12_bargeOf_7 ?_
  refine sk_top (nI (3 * d)) (nmul 3 d) ?_
  refine lv_iadd hx hb dX12_bargeOf_8 ?_
  refine sk_top (nI (2 + (3 * d))) (nI_add 2 (3 * d)) ?_
  refine va_iald hx hb hK.1 hP 1 0 rfl rfl (vin (2 + (3 * d)) 120 (by omega) (by omega)) dX12_bargeOf_9 ?_
  refine sk_top (nw (2 + 3 * d)) (by rw [nI_clamp (by omega)]) ?_
  exact sk_iret hx hb hr rfl hlocks hK hP hD hS (⟨rfl, rfl⟩) (Nat.le_of_ble_eq_true rfl) (Nat.le_of_ble_eq_true rfl) dX12_bargeOf_10
set_option maxHeartbeats 4000000 in
set_option maxRecDepth 100000 in
theorem c_nm_wetOf (l : Launch) (D : va_G) (cI cJ cC cZ cS : ClassId) (mm : Nat) (g : Nat → Nat) (ta : Nat) (pa : Nat) (pe : Nat) (pd : Int32) (pb : Nat) (pp : Int32) (pf : Int32) (pg : Int32) (pn : Int32) (rt : Int32) (rn : Int32) (cd : Nat) (sn : Int32) (il : Nat) (tk : Int32) (am : Int32) (at_ : Int32) (aa : Int32) (mt_ : Int32) (wt : Int32) (wy : Int64) (it_ : Nat) (rm : Nat) (ud : Nat) (nu : Nat) (sd : Int64) (qn : Nat) (qw : Nat) (qo : Int32) (qb : Nat) (qp : Nat) (qa : Int64) (qi : Nat) (oc : Nat) (d : Nat) (nw : Nat → Int32) (hd : d < 9) (hnw : nowOk nw) : skM l yX12_wetOf cX12_wetOf 2 (some .int) 0 0 0 0 D (skT cI cJ cC cZ cS) [.ref mm, .int (nI d)] [(mm, .inr (12, mo g (nI ta) (nI pa) (nI pe) pd (nI pb) pp pf pg pn rt rn (nI cd) sn (nI il) tk am at_ aa mt_ 0 (-1) wt wy (nI it_) (nI rm) (nI ud) (nI nu) sd (nI qn) (nI qw) qo (nI qb) (nI qp) qa (nI qi) (nI oc))), (g 31, .inl (cI, 120, .inl nw))] (skI D (skT cI cJ cC cZ cS) (fun (r : Int32) (u : va_W) => r = nw (2 + 3 * d + 1) ∧ u = [(mm, .inr (12, mo g (nI ta) (nI pa) (nI pe) pd (nI pb) pp pf pg pn rt rn (nI cd) sn (nI il) tk am at_ aa mt_ 0 (-1) wt wy (nI it_) (nI rm) (nI ud) (nI nu) sd (nI qn) (nI qw) qo (nI qb) (nI qp) qa (nI qi) (nI oc))), (g 31, .inl (cI, 120, .inl nw))])) := by
  refine skM_of pf_X12_wetOf (Nat.le_of_ble_eq_true rfl) ?_
  intro p e s m below meth c A ls E hP hD hl
  refine skE_el E (fun hx hb hr hml hlocks hin hown hts hK hA => ?_)
  have hown : s.vm.findClass RX12 = some m.cls := hown
  have hS : va_S A s.heap s.heap [] := va_S.rf
  have hl : lv_has ls 2 [(0, .ref mm), (1, .int (nI d))] := hl
  refine lv_aload_n hx hb dX12_wetOf_0 rfl (lv_at hl 0 rfl) ?_
  refine sk_get (v := .ref (g 31)) (C := RX12) (T := TX12) (N := 92) hx hb hts inlX12 hown hK hP 0 rfl rfl 31 (by decide) w_5_186 rfl dX12_wetOf_1 ?_
  refine lv_iconst (v := 2) hx hb dX12_wetOf_4 (by decide) ?_
  refine lv_iconst (v := 3) hx hb dX12_wetOf_5 (by decide) ?_
  refine lv_iload_n hx hb dX12_wetOf_6 rfl (lv_at hl 1 rfl) ?_
  refine lv_imul hx hb dX12_wetOf_7 ?_
  refine sk_top (nI (3 * d)) (nmul 3 d) ?_
  refine lv_iadd hx hb dX12_wetOf_8 ?_
  refine sk_top (nI (2 + (3 * d))) (nI_add 2 (3 * d)) ?_
  refine lv_iconst (v := 1) hx hb dX12_wetOf_9 (by decide) ?_
  refine lv_iadd hx hb dX12_wetOf_10 ?_
  refine sk_top (nI (2 + (3 * d) + 1)) (nI_add (2 + (3 * d)) 1) ?_
  refine va_iald hx hb hK.1 hP 1 0 rfl rfl (vin (2 + (3 * d) + 1) 120 (by omega) (by omega)) dX12_wetOf_11 ?_
  refine sk_top (nw (2 + 3 * d + 1)) (by rw [nI_clamp (by omega)]) ?_
  exact sk_iret hx hb hr rfl hlocks hK hP hD hS (⟨rfl, rfl⟩) (Nat.le_of_ble_eq_true rfl) (Nat.le_of_ble_eq_true rfl) dX12_wetOf_12
set_option maxHeartbeats 4000000 in
set_option maxRecDepth 100000 in
theorem c_nm_qPartOf (l : Launch) (D : va_G) (cI cJ cC cZ cS : ClassId) (mm : Nat) (g : Nat → Nat) (ta : Nat) (pa : Nat) (pe : Nat) (pd : Int32) (pb : Nat) (pp : Int32) (pf : Int32) (pg : Int32) (pn : Int32) (rt : Int32) (rn : Int32) (cd : Nat) (sn : Int32) (il : Nat) (tk : Int32) (am : Int32) (at_ : Int32) (aa : Int32) (mt_ : Int32) (wt : Int32) (wy : Int64) (it_ : Nat) (rm : Nat) (ud : Nat) (nu : Nat) (sd : Int64) (qn : Nat) (qw : Nat) (qo : Int32) (qb : Nat) (qp : Nat) (qa : Int64) (qi : Nat) (oc : Nat) (k : Nat) (d : Nat) (nw : Nat → Int32) (pt : Nat → Nat) (nm : Nat → Int64) (hd : d < 9) (hk7 : k < 7) (hnm : mnO nm am at_ aa nw d) (hnw : nowOk nw) (hpt : ∀ j, pt j ≤ 9) : skM l yX12_qPartOf cX12_qPartOf 3 (some .long) 1 21 0 0 D (skT cI cJ cC cZ cS) [.ref mm, .int (nI k), .int (nI d)] [(mm, .inr (12, mo g (nI ta) (nI pa) (nI pe) pd (nI pb) pp pf pg pn rt rn (nI cd) sn (nI il) tk am at_ aa mt_ 0 (-1) wt wy (nI it_) (nI rm) (nI ud) (nI nu) sd (nI qn) (nI qw) qo (nI qb) (nI qp) qa (nI qi) (nI oc))), (g 31, .inl (cI, 120, .inl nw)), (g 46, .inl (cI, 9, .inl (fun j => nI (pt j))))] (skL D (skT cI cJ cC cZ cS) (fun (r : Int64) (u : va_W) => r = nm k ∧ u = [(mm, .inr (12, mo g (nI ta) (nI pa) (nI pe) pd (nI pb) pp pf pg pn rt rn (nI cd) sn (nI il) tk am at_ aa mt_ 0 (-1) wt wy (nI it_) (nI rm) (nI ud) (nI nu) sd (nI qn) (nI qw) qo (nI qb) (nI qp) qa (nI qi) (nI oc))), (g 31, .inl (cI, 120, .inl nw)), (g 46, .inl (cI, 9, .inl (fun j => nI (pt j))))])) := by
  refine skM_of pf_X12_qPartOf (Nat.le_of_ble_eq_true rfl) ?_
  intro p e s m below meth c A ls E hP hD hl
  refine skE_el E (fun hx hb hr hml hlocks hin hown hts hK hA => ?_)
  have hown : s.vm.findClass RX12 = some m.cls := hown
  have hS : va_S A s.heap s.heap [] := va_S.rf
  have hl : lv_has ls 3 [(0, .ref mm), (1, .int (nI k)), (2, .int (nI d))] := hl
  refine lv_iload_n hx hb dX12_qPartOf_0 rfl (lv_at hl 1 rfl) ?_
  by_cases g_1 : nI k = 0
  · refine lv_tableIn (off := 51) (tgt := 52) hx hb dX12_qPartOf_1 (by rw [g_1]; decide) (by rw [g_1]; decide) (by rw [g_1]; rfl) (by decide) ?_
    refine lv_aload_n hx hb dX12_qPartOf_52 rfl (lv_at hl 0 rfl) ?_
    refine sk_get (v := .int am) (C := RX12) (T := TX12) (N := 92) hx hb hts inlX12 hown hK hP 0 rfl rfl 33 (by decide) w_5_188 rfl dX12_qPartOf_53 ?_
    refine lv_i2l hx hb dX12_qPartOf_56 rfl ?_
    exact sk_lret hx hb hr hlocks hK hP hD hS (⟨(by obtain rfl := mn_k (j := 0) g_1 hk7 (by decide); exact hnm.1), rfl⟩) (Nat.le_of_ble_eq_true rfl) (Nat.le_of_ble_eq_true rfl) dX12_qPartOf_57
  by_cases g_2 : nI k = 1
  · refine lv_tableIn (off := 57) (tgt := 58) hx hb dX12_qPartOf_1 (by rw [g_2]; decide) (by rw [g_2]; decide) (by rw [g_2]; rfl) (by decide) ?_
    refine lv_aload_n hx hb dX12_qPartOf_58 rfl (lv_at hl 0 rfl) ?_
    refine lv_iload_n hx hb dX12_qPartOf_59 rfl (lv_at hl 2 rfl) ?_
    refine sk_Vi (q0 := 0) (n := 1) (rest := []) (wr := fmR om_3_6 _) ⟨hx, hb, hml, hown, hts⟩ hl.1 (c_nm_bargeOf l D cI cJ cC cZ cS mm g ta pa pe pd pb pp pf pg pn rt rn cd sn il tk am at_ aa mt_ wt wy it_ rm ud nu sd qn qw qo qb qp qa qi oc d nw (by omega) hnw) w_7_147 w_7_149 w_0_78 w_1_14 w_7_150 hd_X12_bargeOf_1 ⟨⟨(Nat.le_of_ble_eq_true rfl), (Nat.le_of_ble_eq_true rfl)⟩, (Nat.le_of_ble_eq_true rfl), (Nat.le_of_ble_eq_true rfl)⟩ hK hP hD hS hA (fmT om_3_6 0) (fmF om_3_6 0) (fm_C1 rfl rfl) (fm_R rfl rfl) (fm_nT om_3_6 0) (fm_nF om_3_6 0) (fm_di om_3_6 0) rfl rfl rfl rfl (Nat.le_of_ble_eq_true rfl) dX12_qPartOf_60 (fun r_3 u H locs hw hP hD hS => ?_)
    refine anE hw (fun hr_4 eu_5 => ?_)
    clear hw
    refine o_mgE (ws' := [(mm, .inr (12, mo g (nI ta) (nI pa) (nI pe) pd (nI pb) pp pf pg pn rt rn (nI cd) sn (nI il) tk am at_ aa mt_ 0 (-1) wt wy (nI it_) (nI rm) (nI ud) (nI nu) sd (nI qn) (nI qw) qo (nI qb) (nI qp) qa (nI qi) (nI oc))), (g 31, .inl (cI, 120, .inl nw)), (g 46, .inl (cI, 9, .inl (fun j => nI (pt j))))]) eu_5 hP hD rfl (fun hP hD => ?_)
    subst hr_4
    refine lv_i2l hx hb dX12_qPartOf_63 rfl ?_
    exact sk_lret hx hb hr hlocks hK hP hD hS (⟨(by obtain rfl := mn_k (j := 1) g_2 hk7 (by decide); exact hnm.2.1), rfl⟩) (Nat.le_of_ble_eq_true rfl) (Nat.le_of_ble_eq_true rfl) dX12_qPartOf_64
  by_cases g_6 : nI k = 2
  · refine lv_tableIn (off := 64) (tgt := 65) hx hb dX12_qPartOf_1 (by rw [g_6]; decide) (by rw [g_6]; decide) (by rw [g_6]; rfl) (by decide) ?_
    refine lv_aload_n hx hb dX12_qPartOf_65 rfl (lv_at hl 0 rfl) ?_
    refine lv_iload_n hx hb dX12_qPartOf_66 rfl (lv_at hl 2 rfl) ?_
    refine sk_Vi (q0 := 0) (n := 1) (rest := []) (wr := fmR om_3_6 _) ⟨hx, hb, hml, hown, hts⟩ hl.1 (c_nm_wetOf l D cI cJ cC cZ cS mm g ta pa pe pd pb pp pf pg pn rt rn cd sn il tk am at_ aa mt_ wt wy it_ rm ud nu sd qn qw qo qb qp qa qi oc d nw (by omega) hnw) w_7_151 w_7_153 w_0_79 w_1_14 w_7_154 hd_X12_wetOf_1 ⟨⟨(Nat.le_of_ble_eq_true rfl), (Nat.le_of_ble_eq_true rfl)⟩, (Nat.le_of_ble_eq_true rfl), (Nat.le_of_ble_eq_true rfl)⟩ hK hP hD hS hA (fmT om_3_6 0) (fmF om_3_6 0) (fm_C1 rfl rfl) (fm_R rfl rfl) (fm_nT om_3_6 0) (fm_nF om_3_6 0) (fm_di om_3_6 0) rfl rfl rfl rfl (Nat.le_of_ble_eq_true rfl) dX12_qPartOf_67 (fun r_7 u H locs hw hP hD hS => ?_)
    refine anE hw (fun hr_8 eu_9 => ?_)
    clear hw
    refine o_mgE (ws' := [(mm, .inr (12, mo g (nI ta) (nI pa) (nI pe) pd (nI pb) pp pf pg pn rt rn (nI cd) sn (nI il) tk am at_ aa mt_ 0 (-1) wt wy (nI it_) (nI rm) (nI ud) (nI nu) sd (nI qn) (nI qw) qo (nI qb) (nI qp) qa (nI qi) (nI oc))), (g 31, .inl (cI, 120, .inl nw)), (g 46, .inl (cI, 9, .inl (fun j => nI (pt j))))]) eu_9 hP hD rfl (fun hP hD => ?_)
    subst hr_8
    refine lv_i2l hx hb dX12_qPartOf_70 rfl ?_
    exact sk_lret hx hb hr hlocks hK hP hD hS (⟨(by obtain rfl := mn_k (j := 2) g_6 hk7 (by decide); exact hnm.2.2.1), rfl⟩) (Nat.le_of_ble_eq_true rfl) (Nat.le_of_ble_eq_true rfl) dX12_qPartOf_71
  by_cases g_10 : nI k = 3
  · refine lv_tableIn (off := 71) (tgt := 72) hx hb dX12_qPartOf_1 (by rw [g_10]; decide) (by rw [g_10]; decide) (by rw [g_10]; rfl) (by decide) ?_
    refine lv_iload_n hx hb dX12_qPartOf_72 rfl (lv_at hl 2 rfl) ?_
    refine lv_i2l hx hb dX12_qPartOf_73 rfl ?_
    exact sk_lret hx hb hr hlocks hK hP hD hS (⟨(by obtain rfl := mn_k (j := 3) g_10 hk7 (by decide); exact hnm.2.2.2.1), rfl⟩) (Nat.le_of_ble_eq_true rfl) (Nat.le_of_ble_eq_true rfl) dX12_qPartOf_74
  by_cases g_11 : nI k = 4
  · refine lv_tableIn (off := 74) (tgt := 75) hx hb dX12_qPartOf_1 (by rw [g_11]; decide) (by rw [g_11]; decide) (by rw [g_11]; rfl) (by decide) ?_
    refine lv_aload_n hx hb dX12_qPartOf_75 rfl (lv_at hl 0 rfl) ?_
    refine sk_get (v := .ref (g 31)) (C := RX12) (T := TX12) (N := 92) hx hb hts inlX12 hown hK hP 0 rfl rfl 31 (by decide) w_5_186 rfl dX12_qPartOf_76 ?_
    refine lv_iconst (v := 0) hx hb dX12_qPartOf_79 (by decide) ?_
    refine va_iald hx hb hK.1 hP 1 0 rfl rfl (by unfold vp_in; decide) dX12_qPartOf_80 ?_
    refine sk_top (nw 0) (rfl) ?_
    refine lv_i2l hx hb dX12_qPartOf_81 rfl ?_
    exact sk_lret hx hb hr hlocks hK hP hD hS (⟨(by obtain rfl := mn_k (j := 4) g_11 hk7 (by decide); exact hnm.2.2.2.2.1), rfl⟩) (Nat.le_of_ble_eq_true rfl) (Nat.le_of_ble_eq_true rfl) dX12_qPartOf_82
  by_cases g_12 : nI k = 5
  · refine lv_tableIn (off := 82) (tgt := 83) hx hb dX12_qPartOf_1 (by rw [g_12]; decide) (by rw [g_12]; decide) (by rw [g_12]; rfl) (by decide) ?_
    refine lv_aload_n hx hb dX12_qPartOf_83 rfl (lv_at hl 0 rfl) ?_
    refine sk_get (v := .int at_) (C := RX12) (T := TX12) (N := 92) hx hb hts inlX12 hown hK hP 0 rfl rfl 34 (by decide) w_5_189 rfl dX12_qPartOf_84 ?_
    refine lv_i2l hx hb dX12_qPartOf_87 rfl ?_
    exact sk_lret hx hb hr hlocks hK hP hD hS (⟨(by obtain rfl := mn_k (j := 5) g_12 hk7 (by decide); exact hnm.2.2.2.2.2.1), rfl⟩) (Nat.le_of_ble_eq_true rfl) (Nat.le_of_ble_eq_true rfl) dX12_qPartOf_88
  by_cases g_13 : nI k = 6
  · refine lv_tableIn (off := 88) (tgt := 89) hx hb dX12_qPartOf_1 (by rw [g_13]; decide) (by rw [g_13]; decide) (by rw [g_13]; rfl) (by decide) ?_
    refine lv_aload_n hx hb dX12_qPartOf_89 rfl (lv_at hl 0 rfl) ?_
    refine sk_get (v := .int aa) (C := RX12) (T := TX12) (N := 92) hx hb hts inlX12 hown hK hP 0 rfl rfl 35 (by decide) w_5_190 rfl dX12_qPartOf_90 ?_
    refine lv_i2l hx hb dX12_qPartOf_93 rfl ?_
    exact sk_lret hx hb hr hlocks hK hP hD hS (⟨(by obtain rfl := mn_k (j := 6) g_13 hk7 (by decide); exact hnm.2.2.2.2.2.2), rfl⟩) (Nat.le_of_ble_eq_true rfl) (Nat.le_of_ble_eq_true rfl) dX12_qPartOf_94
  by_cases g_14 : nI k = 7
  · refine lv_tableIn (off := 94) (tgt := 95) hx hb dX12_qPartOf_1 (by rw [g_14]; decide) (by rw [g_14]; decide) (by rw [g_14]; rfl) (by decide) ?_
    refine lv_iload_n hx hb dX12_qPartOf_95 rfl (lv_at hl 2 rfl) ?_
    refine lv_i2l hx hb dX12_qPartOf_96 rfl ?_
    exact sk_lret hx hb hr hlocks hK hP hD hS (⟨mn_x (j := 7) g_14 hk7 (by decide) (by decide), rfl⟩) (Nat.le_of_ble_eq_true rfl) (Nat.le_of_ble_eq_true rfl) dX12_qPartOf_97
  by_cases g_15 : nI k = 8
  · refine lv_tableIn (off := 97) (tgt := 98) hx hb dX12_qPartOf_1 (by rw [g_15]; decide) (by rw [g_15]; decide) (by rw [g_15]; rfl) (by decide) ?_
    refine lv_aload_n hx hb dX12_qPartOf_98 rfl (lv_at hl 0 rfl) ?_
    refine lv_iload_n hx hb dX12_qPartOf_99 rfl (lv_at hl 2 rfl) ?_
    refine sk_Vi (q0 := 0) (n := 1) (rest := []) (wr := fmR om_3_6 _) ⟨hx, hb, hml, hown, hts⟩ hl.1 (c_m_isMute l D cI cJ cC cZ cS mm g ta pa pe pd pb pp pf pg pn rt rn cd sn il tk am at_ aa mt_ 0 (-1) wt wy it_ rm ud nu sd qn qw qo qb qp qa qi oc d nw (by omega) hnw) w_7_106 w_7_108 w_0_71 w_1_14 w_7_109 hd_X12_isMute_1 ⟨⟨(Nat.le_of_ble_eq_true rfl), (Nat.le_of_ble_eq_true rfl)⟩, (Nat.le_of_ble_eq_true rfl), (Nat.le_of_ble_eq_true rfl)⟩ hK hP hD hS hA (fmT om_3_6 0) (fmF om_3_6 0) (fm_C1 rfl rfl) (fm_R rfl rfl) (fm_nT om_3_6 0) (fm_nF om_3_6 0) (fm_di om_3_6 0) rfl rfl rfl rfl (Nat.le_of_ble_eq_true rfl) dX12_qPartOf_100 (fun r_17 u H locs hw hP hD hS => ?_)
    refine exE hw (fun b_16 hw1 => anE hw1 (fun hb1_18 hw2 => anE hw2 (fun hb2_19 hw3 => anE hw3 (fun er_21 eu_20 => ?_))))
    clear hw hw1 hw2 hw3
    subst er_21
    refine o_mgE (ws' := [(mm, .inr (12, mo g (nI ta) (nI pa) (nI pe) pd (nI pb) pp pf pg pn rt rn (nI cd) sn (nI il) tk am at_ aa mt_ 0 (-1) wt wy (nI it_) (nI rm) (nI ud) (nI nu) sd (nI qn) (nI qw) qo (nI qb) (nI qp) qa (nI qi) (nI oc))), (g 31, .inl (cI, 120, .inl nw)), (g 46, .inl (cI, 9, .inl (fun j => nI (pt j))))]) eu_20 hP hD rfl (fun hP hD => ?_)
    refine lv_if_eq (tgt := 110) hx hb dX12_qPartOf_103 (by decide) (fun c_22 => ?_) (fun c_22 => ?_)
    · have c_22 : b_16 = 0 := (neq b_16 0 (by omega) (by omega)).mp c_22
      refine lv_lconst (v := 0) hx hb dX12_qPartOf_110 (by decide) ?_
      exact sk_lret hx hb hr hlocks hK hP hD hS (⟨mn_x (j := 8) g_15 hk7 (by decide) (by decide), rfl⟩) (Nat.le_of_ble_eq_true rfl) (Nat.le_of_ble_eq_true rfl) dX12_qPartOf_111
    · have c_22 : ¬ (b_16 = 0) := fun h => c_22 ((neq b_16 0 (by omega) (by omega)).mpr h)
      refine lv_lconst (v := 1) hx hb dX12_qPartOf_106 (by decide) ?_
      refine lv_goto (tgt := 111) hx hb dX12_qPartOf_107 (by decide) ?_
      exact sk_lret hx hb hr hlocks hK hP hD hS (⟨mn_x (j := 8) g_15 hk7 (by decide) (by decide), rfl⟩) (Nat.le_of_ble_eq_true rfl) (Nat.le_of_ble_eq_true rfl) dX12_qPartOf_111
  refine lv_tableOut (tgt := 112) hx hb dX12_qPartOf_1 (sk_out (n := 8) (by intro k hk; rcases (show k = 0 ∨ k = 1 ∨ k = 2 ∨ k = 3 ∨ k = 4 ∨ k = 5 ∨ k = 6 ∨ k = 7 ∨ k = 8 by omega) with rfl | rfl | rfl | rfl | rfl | rfl | rfl | rfl | rfl <;> assumption)) (by decide) ?_
  refine lv_aload_n hx hb dX12_qPartOf_112 rfl (lv_at hl 0 rfl) ?_
  refine sk_get (v := .long wy) (C := RX12) (T := TX12) (N := 92) hx hb hts inlX12 hown hK hP 0 rfl rfl 45 (by decide) w_5_200 rfl dX12_qPartOf_113 ?_
  refine lv_lconst (v := 0) hx hb dX12_qPartOf_116 (by decide) ?_
  refine W.lcmp hx hb dX12_qPartOf_117 ?_
  refine lv_if_ne (tgt := 127) hx hb dX12_qPartOf_118 (by decide) (fun c_23 => ?_) (fun c_23 => ?_)
  · skip
    refine lv_aload_n hx hb dX12_qPartOf_127 rfl (lv_at hl 0 rfl) ?_
    refine sk_get (v := .ref (g 46)) (C := RX12) (T := TX12) (N := 92) hx hb hts inlX12 hown hK hP 0 rfl rfl 46 (by decide) w_5_201 rfl dX12_qPartOf_128 ?_
    refine lv_iload_n hx hb dX12_qPartOf_131 rfl (lv_at hl 2 rfl) ?_
    refine va_iald hx hb hK.1 hP 2 0 rfl rfl (vin d 9 (by omega) (by omega)) dX12_qPartOf_132 ?_
    refine sk_top (nI (pt d)) (nrd pt d (by omega)) ?_
    have hb_24 := hpt d
    refine lv_i2l hx hb dX12_qPartOf_133 rfl ?_
    exact sk_lret hx hb hr hlocks hK hP hD hS (⟨(mn_f hk7 (by assumption) (by assumption) (by assumption) (by assumption) (by assumption) (by assumption) (by assumption)).elim, rfl⟩) (Nat.le_of_ble_eq_true rfl) (Nat.le_of_ble_eq_true rfl) dX12_qPartOf_134
  · skip
    refine lv_ldc2 (v := (-1)) hx hb hown (hts _ w_7_155) dX12_qPartOf_121 ?_
    refine lv_goto (tgt := 134) hx hb dX12_qPartOf_124 (by decide) ?_
    exact sk_lret hx hb hr hlocks hK hP hD hS (⟨(mn_f hk7 (by assumption) (by assumption) (by assumption) (by assumption) (by assumption) (by assumption) (by assumption)).elim, rfl⟩) (Nat.le_of_ble_eq_true rfl) (Nat.le_of_ble_eq_true rfl) dX12_qPartOf_134
