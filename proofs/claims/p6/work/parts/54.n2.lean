/-! the reference's lock, words and deeds -/
theorem kx_c3 {kind c : Nat} (hk : kind < 2) (h : kcN1 kind c) : (1 ≤ c ∧ c ≤ 6) ∨ (1000 ≤ c ∧ c < 11000) ∨ (40 ≤ c ∧ c < 47) := by
  rcases kx_cls hk h with ⟨a, b, -⟩ | ⟨a, b, -⟩ | ⟨a, b, -⟩
  · exact Or.inl ⟨a, b⟩
  · exact Or.inr (Or.inl ⟨a, b⟩)
  · exact Or.inr (Or.inr ⟨a, b⟩)
def mwO (L : LkS) (w : Nat) (u v : Int32) (cs : Nat → Nat) : Prop := match lG L w with
  | none => u = -1
  | some p => u = nI p.1 ∧ v = nI p.2 ∧ ∀ j, j < (lK L).length → cs (1600 + j) = (lK L).getD j 0
theorem mw_none {L : LkS} {w : Nat} {u v : Int32} {cs : Nat → Nat} (hL : kcLk L) (hl : (lK L).length ≤ 1600) (h : mwO L w u v cs) (hu : u = -1) : lG L w = none := by
  cases hg : lG L w with
  | none => rfl
  | some p =>
    unfold mwO at h
    rw [hg] at h
    have h1 := (hL w p hg)
    have h2 : nI p.1 = -1 := h.1.symm.trans hu
    have h3 : (nI p.1).toInt = -1 := by rw [h2]; rfl
    rw [nI_toInt (by omega)] at h3
    omega
theorem mw_some {L : LkS} {w : Nat} {u v : Int32} {cs : Nat → Nat} (hL : kcLk L) (h : mwO L w u v cs) (hu : ¬ u = -1) : ∃ a b : Nat, u = nI a ∧ v = nI b ∧ a ≤ b ∧ b ≤ (lK L).length ∧ (∀ j, j < (lK L).length → cs (1600 + j) = (lK L).getD j 0) ∧ lG L w = some (a, b) := by
  cases hg : lG L w with
  | none =>
    unfold mwO at h
    rw [hg] at h
    exact absurd h hu
  | some p =>
    unfold mwO at h
    rw [hg] at h
    have h1 := (hL w p hg)
    exact ⟨p.1, p.2, h.1, h.2.1, Nat.le_of_lt h1.1, h1.2.1, h.2.2, rfl⟩
theorem kw_ex {L : LkS} {w a b : Nat} (h : kcLk L) (hw : w < 3) (hp : lG L w = some (a, b)) (nm : Nat → Int64) : kcEx nm 64 (kcSub (lK L) (a, b)) [] = some [kcV L w nm] := by
  have h1 := kcV_ex h hw nm
  rw [kcSeg_some h hp] at h1
  exact h1
theorem kw_ns {L : LkS} {w k a b : Nat} (h : kcLk L) (hk : k = if w = 1 then 1 else 0) (hp : lG L w = some (a, b)) : kcNs k (kcSub (lK L) (a, b)) := by
  rw [hk]; exact (h w (a, b) hp).2.2.2
theorem kten_n {m : Nat} (h : m < 10) : kcTen (Int64.ofNat m) = m := by
  unfold kcTen
  rw [Int64.toInt_ofNat_of_lt (by omega)]
  omega
/-- a day as the reference has it -/
def mdO (nw : Nat → Int32) (wk b w d : Nat) : Prop := nw 0 = nI wk ∧ nw (2 + 3 * d) = nI b ∧ nw (2 + 3 * d + 1) = nI w
theorem mn_of {nw : Nat → Int32} {wk b w d m t al : Nat} {am at_ aa : Int32} (h : mdO nw wk b w d) (hm : am = nI m) (ht : at_ = nI t) (ha : aa = nI al) (h1 : wk < 2147483648) (h2 : b < 2147483648) (h3 : w < 2147483648) (h4 : d < 2147483648) (h5 : m < 2147483648) (h6 : t < 2147483648) (h7 : al < 2147483648) : mnO (kcNm wk b w d m t al) am at_ aa nw d := by
  obtain ⟨a1, a2, a3⟩ := h
  refine ⟨?_, ?_, ?_, ?_, ?_, ?_, ?_⟩
  · rw [hm, kx_i2l h5]; rfl
  · rw [a2, kx_i2l h2]; rfl
  · rw [a3, kx_i2l h3]; rfl
  · rw [kx_i2l h4]; rfl
  · rw [a1, kx_i2l h1]; rfl
  · rw [ht, kx_i2l h6]; rfl
  · rw [ha, kx_i2l h7]; rfl
/-- words and wages do not ask what he is told -/
theorem mn_any {nw : Nat → Int32} {wk b w d m : Nat} {am at_ aa : Int32} (h : mdO nw wk b w d) (hm : am = nI m) (h1 : wk < 2147483648) (h2 : b < 2147483648) (h3 : w < 2147483648) (h4 : d < 2147483648) (h5 : m < 2147483648) : ∃ nm, mnO nm am at_ aa nw d ∧ ∀ j, j < 5 → nm j = kcNm wk b w d m 0 0 j := by
  obtain ⟨a1, a2, a3⟩ := h
  refine ⟨fun k => if k < 5 then kcNm wk b w d m 0 0 k else if k = 5 then Int32.toInt64 at_ else Int32.toInt64 aa, ⟨?_, ?_, ?_, ?_, ?_, rfl, rfl⟩, fun j hj => if_pos hj⟩
  · rw [hm, kx_i2l h5]; rfl
  · rw [a2, kx_i2l h2]; rfl
  · rw [a3, kx_i2l h3]; rfl
  · rw [kx_i2l h4]; rfl
  · rw [a1, kx_i2l h1]; rfl
set_option maxHeartbeats 4000000 in
set_option maxRecDepth 100000 in
theorem c_nm_bargeOf (l : Launch) (D : va_G) (cI cJ cC cZ cS : ClassId) (mm : Nat) (g : Nat → Nat) (ta : Nat) (pa : Nat) (pe : Nat) (pd : Int32) (pb : Nat) (pp : Int32) (pf : Int32) (pg : Int32) (pn : Int32) (rt : Int32) (rn : Int32) (cd : Nat) (sn : Int32) (il : Nat) (tk : Int32) (am : Int32) (at_ : Int32) (aa : Int32) (mt_ : Int32) (wt : Int32) (wy : Int64) (it_ : Nat) (rm : Nat) (ud : Nat) (nu : Nat) (sd : Int64) (qn : Nat) (qw : Nat) (qo : Int32) (qb : Nat) (qp : Nat) (qa : Int64) (qi : Nat) (oc : Nat) (d : Nat) (nw : Nat → Int32) (hd : d < 9) (hnw : nowOk nw) : skM l yX12_bargeOf cX12_bargeOf 2 (some .int) 0 0 0 0 D (skT cI cJ cC cZ cS) [.ref mm, .int (nI d)] [(mm, .inr (12, mo g (nI ta) (nI pa) (nI pe) pd (nI pb) pp pf pg pn rt rn (nI cd) sn (nI il) tk am at_ aa mt_ 0 (-1) wt wy (nI it_) (nI rm) (nI ud) (nI nu) sd (nI qn) (nI qw) qo (nI qb) (nI qp) qa (nI qi) (nI oc))), (g 31, .inl (cI, 120, .inl nw))] (skI D (skT cI cJ cC cZ cS) (fun (r : Int32) (u : va_W) => r = nw (2 + 3 * d) ∧ u = [(mm, .inr (12, mo g (nI ta) (nI pa) (nI pe) pd (nI pb) pp pf pg pn rt rn (nI cd) sn (nI il) tk am at_ aa mt_ 0 (-1) wt wy (nI it_) (nI rm) (nI ud) (nI nu) sd (nI qn) (nI qw) qo (nI qb) (nI qp) qa (nI qi) (nI oc))), (g 31, .inl (cI, 120, .inl nw))])) := by
  refine skM_of (by decide +kernel) (Nat.le_of_ble_eq_true rfl) ?_
  intro p e s m below meth c A ls E hP hD hl
  obtain ⟨hx, hb, hr, hml, hlocks, hin, hown, hts, hK, hA⟩ := E
  have hown : s.vm.findClass RX12 = some m.cls := hown
  have hS : va_S A s.heap s.heap [] := va_S.rf
  have hl : lv_has ls 2 [(0, .ref mm), (1, .int (nI d))] := hl
  refine lv_aload_n hx hb dX12_bargeOf_0 rfl (lv_at hl 0 rfl) ?_
  refine sk_get (v := .ref (g 31)) (C := RX12) (T := TX12) (N := 92) hx hb hts inlX12 hown hK hP 0 rfl rfl 31 (by decide) w_5_186 rfl dX12_bargeOf_1 ?_
  refine lv_iconst (v := 2) hx hb dX12_bargeOf_4 (by decide) ?_
  refine lv_iconst (v := 3) hx hb dX12_bargeOf_5 (by decide) ?_
  refine lv_iload_n hx hb dX12_bargeOf_6 rfl (lv_at hl 1 rfl) ?_
  refine lv_imul hx hb dX12_bargeOf_7 ?_
  refine sk_top (nI (3 * d)) (nmul 3 d) ?_
  refine lv_iadd hx hb dX12_bargeOf_8 ?_
  refine sk_top (nI (2 + (3 * d))) (nI_add 2 (3 * d)) ?_
  refine va_iald hx hb hK.1 hP 1 0 rfl rfl (vin (2 + (3 * d)) 120 (by omega) (by omega)) dX12_bargeOf_9 ?_
  refine sk_top (nw (2 + 3 * d)) (by rw [nI_clamp (by omega)]) ?_
  exact sk_iret hx hb hr rfl hlocks hK hP hD hS (⟨rfl, rfl⟩) (Nat.le_of_ble_eq_true rfl) (Nat.le_of_ble_eq_true rfl) dX12_bargeOf_10
set_option maxHeartbeats 4000000 in
set_option maxRecDepth 100000 in
theorem c_nm_wetOf (l : Launch) (D : va_G) (cI cJ cC cZ cS : ClassId) (mm : Nat) (g : Nat → Nat) (ta : Nat) (pa : Nat) (pe : Nat) (pd : Int32) (pb : Nat) (pp : Int32) (pf : Int32) (pg : Int32) (pn : Int32) (rt : Int32) (rn : Int32) (cd : Nat) (sn : Int32) (il : Nat) (tk : Int32) (am : Int32) (at_ : Int32) (aa : Int32) (mt_ : Int32) (wt : Int32) (wy : Int64) (it_ : Nat) (rm : Nat) (ud : Nat) (nu : Nat) (sd : Int64) (qn : Nat) (qw : Nat) (qo : Int32) (qb : Nat) (qp : Nat) (qa : Int64) (qi : Nat) (oc : Nat) (d : Nat) (nw : Nat → Int32) (hd : d < 9) (hnw : nowOk nw) : skM l yX12_wetOf cX12_wetOf 2 (some .int) 0 0 0 0 D (skT cI cJ cC cZ cS) [.ref mm, .int (nI d)] [(mm, .inr (12, mo g (nI ta) (nI pa) (nI pe) pd (nI pb) pp pf pg pn rt rn (nI cd) sn (nI il) tk am at_ aa mt_ 0 (-1) wt wy (nI it_) (nI rm) (nI ud) (nI nu) sd (nI qn) (nI qw) qo (nI qb) (nI qp) qa (nI qi) (nI oc))), (g 31, .inl (cI, 120, .inl nw))] (skI D (skT cI cJ cC cZ cS) (fun (r : Int32) (u : va_W) => r = nw (2 + 3 * d + 1) ∧ u = [(mm, .inr (12, mo g (nI ta) (nI pa) (nI pe) pd (nI pb) pp pf pg pn rt rn (nI cd) sn (nI il) tk am at_ aa mt_ 0 (-1) wt wy (nI it_) (nI rm) (nI ud) (nI nu) sd (nI qn) (nI qw) qo (nI qb) (nI qp) qa (nI qi) (nI oc))), (g 31, .inl (cI, 120, .inl nw))])) := by
  refine skM_of (by decide +kernel) (Nat.le_of_ble_eq_true rfl) ?_
  intro p e s m below meth c A ls E hP hD hl
  obtain ⟨hx, hb, hr, hml, hlocks, hin, hown, hts, hK, hA⟩ := E
  have hown : s.vm.findClass RX12 = some m.cls := hown
  have hS : va_S A s.heap s.heap [] := va_S.rf
  have hl : lv_has ls 2 [(0, .ref mm), (1, .int (nI d))] := hl
  refine lv_aload_n hx hb dX12_wetOf_0 rfl (lv_at hl 0 rfl) ?_
  refine sk_get (v := .ref (g 31)) (C := RX12) (T := TX12) (N := 92) hx hb hts inlX12 hown hK hP 0 rfl rfl 31 (by decide) w_5_186 rfl dX12_wetOf_1 ?_
  refine lv_iconst (v := 2) hx hb dX12_wetOf_4 (by decide) ?_
  refine lv_iconst (v := 3) hx hb dX12_wetOf_5 (by decide) ?_
  refine lv_iload_n hx hb dX12_wetOf_6 rfl (lv_at hl 1 rfl) ?_
  refine lv_imul hx hb dX12_wetOf_7 ?_
  refine sk_top (nI (3 * d)) (nmul 3 d) ?_
  refine lv_iadd hx hb dX12_wetOf_8 ?_
  refine sk_top (nI (2 + (3 * d))) (nI_add 2 (3 * d)) ?_
  refine lv_iconst (v := 1) hx hb dX12_wetOf_9 (by decide) ?_
  refine lv_iadd hx hb dX12_wetOf_10 ?_
  refine sk_top (nI (2 + (3 * d) + 1)) (nI_add (2 + (3 * d)) 1) ?_
  refine va_iald hx hb hK.1 hP 1 0 rfl rfl (vin (2 + (3 * d) + 1) 120 (by omega) (by omega)) dX12_wetOf_11 ?_
  refine sk_top (nw (2 + 3 * d + 1)) (by rw [nI_clamp (by omega)]) ?_
  exact sk_iret hx hb hr rfl hlocks hK hP hD hS (⟨rfl, rfl⟩) (Nat.le_of_ble_eq_true rfl) (Nat.le_of_ble_eq_true rfl) dX12_wetOf_12
set_option maxHeartbeats 4000000 in
set_option maxRecDepth 100000 in
theorem c_nm_qPartOf (l : Launch) (D : va_G) (cI cJ cC cZ cS : ClassId) (mm : Nat) (g : Nat → Nat) (ta : Nat) (pa : Nat) (pe : Nat) (pd : Int32) (pb : Nat) (pp : Int32) (pf : Int32) (pg : Int32) (pn : Int32) (rt : Int32) (rn : Int32) (cd : Nat) (sn : Int32) (il : Nat) (tk : Int32) (am : Int32) (at_ : Int32) (aa : Int32) (mt_ : Int32) (wt : Int32) (wy : Int64) (it_ : Nat) (rm : Nat) (ud : Nat) (nu : Nat) (sd : Int64) (qn : Nat) (qw : Nat) (qo : Int32) (qb : Nat) (qp : Nat) (qa : Int64) (qi : Nat) (oc : Nat) (k : Nat) (d : Nat) (nw : Nat → Int32) (pt : Nat → Nat) (nm : Nat → Int64) (hd : d < 9) (hk7 : k < 7) (hnm : mnO nm am at_ aa nw d) (hnw : nowOk nw) (hpt : ∀ j, pt j ≤ 9) : skM l yX12_qPartOf cX12_qPartOf 3 (some .long) 1 21 0 0 D (skT cI cJ cC cZ cS) [.ref mm, .int (nI k), .int (nI d)] [(mm, .inr (12, mo g (nI ta) (nI pa) (nI pe) pd (nI pb) pp pf pg pn rt rn (nI cd) sn (nI il) tk am at_ aa mt_ 0 (-1) wt wy (nI it_) (nI rm) (nI ud) (nI nu) sd (nI qn) (nI qw) qo (nI qb) (nI qp) qa (nI qi) (nI oc))), (g 31, .inl (cI, 120, .inl nw)), (g 46, .inl (cI, 9, .inl (fun j => nI (pt j))))] (skL D (skT cI cJ cC cZ cS) (fun (r : Int64) (u : va_W) => r = nm k ∧ u = [(mm, .inr (12, mo g (nI ta) (nI pa) (nI pe) pd (nI pb) pp pf pg pn rt rn (nI cd) sn (nI il) tk am at_ aa mt_ 0 (-1) wt wy (nI it_) (nI rm) (nI ud) (nI nu) sd (nI qn) (nI qw) qo (nI qb) (nI qp) qa (nI qi) (nI oc))), (g 31, .inl (cI, 120, .inl nw)), (g 46, .inl (cI, 9, .inl (fun j => nI (pt j))))])) := by
  refine skM_of (by decide +kernel) (Nat.le_of_ble_eq_true rfl) ?_
  intro p e s m below meth c A ls E hP hD hl
  obtain ⟨hx, hb, hr, hml, hlocks, hin, hown, hts, hK, hA⟩ := E
  have hown : s.vm.findClass RX12 = some m.cls := hown
  have hS : va_S A s.heap s.heap [] := va_S.rf
  have hl : lv_has ls 3 [(0, .ref mm), (1, .int (nI k)), (2, .int (nI d))] := hl
  refine lv_iload_n hx hb dX12_qPartOf_0 rfl (lv_at hl 1 rfl) ?_
  by_cases g_1 : nI k = 0
  · refine lv_tableIn (off := 51) (tgt := 52) hx hb dX12_qPartOf_1 (by rw [g_1]; decide) (by rw [g_1]; decide) (by rw [g_1]; rfl) (by decide) ?_
    refine lv_aload_n hx hb dX12_qPartOf_52 rfl (lv_at hl 0 rfl) ?_
    refine sk_get (v := .int am) (C := RX12) (T := TX12) (N := 92) hx hb hts inlX12 hown hK hP 0 rfl rfl 33 (by decide) w_5_188 rfl dX12_qPartOf_53 ?_
    refine lv_i2l hx hb dX12_qPartOf_56 rfl ?_
    exact sk_lret hx hb hr hlocks hK hP hD hS (⟨(by obtain rfl := mn_k (j := 0) g_1 hk7 (by decide); exact hnm.1), rfl⟩) (Nat.le_of_ble_eq_true rfl) (Nat.le_of_ble_eq_true rfl) dX12_qPartOf_57
  by_cases g_2 : nI k = 1
  · refine lv_tableIn (off := 57) (tgt := 58) hx hb dX12_qPartOf_1 (by rw [g_2]; decide) (by rw [g_2]; decide) (by rw [g_2]; rfl) (by decide) ?_
    refine lv_aload_n hx hb dX12_qPartOf_58 rfl (lv_at hl 0 rfl) ?_
    refine lv_iload_n hx hb dX12_qPartOf_59 rfl (lv_at hl 2 rfl) ?_
    refine sk_Vi (q0 := 0) (n := 1) (rest := []) (wr := [(g 46, .inl (cI, 9, .inl (fun j => nI (pt j))))]) ⟨hx, hb, hml, hown, hts⟩ hl.1 (c_nm_bargeOf l D cI cJ cC cZ cS mm g ta pa pe pd pb pp pf pg pn rt rn cd sn il tk am at_ aa mt_ wt wy it_ rm ud nu sd qn qw qo qb qp qa qi oc d nw (by omega) hnw) w_7_147 w_7_149 w_0_78 w_1_14 w_7_150 (by decide +kernel) ⟨⟨(Nat.le_of_ble_eq_true rfl), (Nat.le_of_ble_eq_true rfl)⟩, (Nat.le_of_ble_eq_true rfl), (Nat.le_of_ble_eq_true rfl)⟩ hK hP hD hS hA [0, 1] [2] rfl rfl (by decide +kernel) (by decide +kernel) (by decide +kernel) rfl rfl rfl rfl (Nat.le_of_ble_eq_true rfl) dX12_qPartOf_60 (fun r_3 u H locs hw hP hD hS => ?_)
    obtain ⟨hr_4, rfl⟩ := hw
    have hP : va_P D vwCl [(g 46, .inl (cI, 9, .inl (fun j => nI (pt j)))), (mm, .inr (12, mo g (nI ta) (nI pa) (nI pe) pd (nI pb) pp pf pg pn rt rn (nI cd) sn (nI il) tk am at_ aa mt_ 0 (-1) wt wy (nI it_) (nI rm) (nI ud) (nI nu) sd (nI qn) (nI qw) qo (nI qb) (nI qp) qa (nI qi) (nI oc))), (g 31, .inl (cI, 120, .inl nw))] H := hP
    have hD : va_D A [(g 46, .inl (cI, 9, .inl (fun j => nI (pt j)))), (mm, .inr (12, mo g (nI ta) (nI pa) (nI pe) pd (nI pb) pp pf pg pn rt rn (nI cd) sn (nI il) tk am at_ aa mt_ 0 (-1) wt wy (nI it_) (nI rm) (nI ud) (nI nu) sd (nI qn) (nI qw) qo (nI qb) (nI qp) qa (nI qi) (nI oc))), (g 31, .inl (cI, 120, .inl nw))] := hD
    subst hr_4
    refine lv_i2l hx hb dX12_qPartOf_63 rfl ?_
    have hP := hP.sub (ws' := [(mm, .inr (12, mo g (nI ta) (nI pa) (nI pe) pd (nI pb) pp pf pg pn rt rn (nI cd) sn (nI il) tk am at_ aa mt_ 0 (-1) wt wy (nI it_) (nI rm) (nI ud) (nI nu) sd (nI qn) (nI qw) qo (nI qb) (nI qp) qa (nI qi) (nI oc))), (g 31, .inl (cI, 120, .inl nw)), (g 46, .inl (cI, 9, .inl (fun j => nI (pt j))))]) [1, 2, 0] rfl
    have hD := hD.sub (ws' := [(mm, .inr (12, mo g (nI ta) (nI pa) (nI pe) pd (nI pb) pp pf pg pn rt rn (nI cd) sn (nI il) tk am at_ aa mt_ 0 (-1) wt wy (nI it_) (nI rm) (nI ud) (nI nu) sd (nI qn) (nI qw) qo (nI qb) (nI qp) qa (nI qi) (nI oc))), (g 31, .inl (cI, 120, .inl nw)), (g 46, .inl (cI, 9, .inl (fun j => nI (pt j))))]) [1, 2, 0] (by decide +kernel) rfl
    exact sk_lret hx hb hr hlocks hK hP hD hS (⟨(by obtain rfl := mn_k (j := 1) g_2 hk7 (by decide); exact hnm.2.1), rfl⟩) (Nat.le_of_ble_eq_true rfl) (Nat.le_of_ble_eq_true rfl) dX12_qPartOf_64
  by_cases g_5 : nI k = 2
  · refine lv_tableIn (off := 64) (tgt := 65) hx hb dX12_qPartOf_1 (by rw [g_5]; decide) (by rw [g_5]; decide) (by rw [g_5]; rfl) (by decide) ?_
    refine lv_aload_n hx hb dX12_qPartOf_65 rfl (lv_at hl 0 rfl) ?_
    refine lv_iload_n hx hb dX12_qPartOf_66 rfl (lv_at hl 2 rfl) ?_
    refine sk_Vi (q0 := 0) (n := 1) (rest := []) (wr := [(g 46, .inl (cI, 9, .inl (fun j => nI (pt j))))]) ⟨hx, hb, hml, hown, hts⟩ hl.1 (c_nm_wetOf l D cI cJ cC cZ cS mm g ta pa pe pd pb pp pf pg pn rt rn cd sn il tk am at_ aa mt_ wt wy it_ rm ud nu sd qn qw qo qb qp qa qi oc d nw (by omega) hnw) w_7_151 w_7_153 w_0_79 w_1_14 w_7_154 (by decide +kernel) ⟨⟨(Nat.le_of_ble_eq_true rfl), (Nat.le_of_ble_eq_true rfl)⟩, (Nat.le_of_ble_eq_true rfl), (Nat.le_of_ble_eq_true rfl)⟩ hK hP hD hS hA [0, 1] [2] rfl rfl (by decide +kernel) (by decide +kernel) (by decide +kernel) rfl rfl rfl rfl (Nat.le_of_ble_eq_true rfl) dX12_qPartOf_67 (fun r_6 u H locs hw hP hD hS => ?_)
    obtain ⟨hr_7, rfl⟩ := hw
    have hP : va_P D vwCl [(g 46, .inl (cI, 9, .inl (fun j => nI (pt j)))), (mm, .inr (12, mo g (nI ta) (nI pa) (nI pe) pd (nI pb) pp pf pg pn rt rn (nI cd) sn (nI il) tk am at_ aa mt_ 0 (-1) wt wy (nI it_) (nI rm) (nI ud) (nI nu) sd (nI qn) (nI qw) qo (nI qb) (nI qp) qa (nI qi) (nI oc))), (g 31, .inl (cI, 120, .inl nw))] H := hP
    have hD : va_D A [(g 46, .inl (cI, 9, .inl (fun j => nI (pt j)))), (mm, .inr (12, mo g (nI ta) (nI pa) (nI pe) pd (nI pb) pp pf pg pn rt rn (nI cd) sn (nI il) tk am at_ aa mt_ 0 (-1) wt wy (nI it_) (nI rm) (nI ud) (nI nu) sd (nI qn) (nI qw) qo (nI qb) (nI qp) qa (nI qi) (nI oc))), (g 31, .inl (cI, 120, .inl nw))] := hD
    subst hr_7
    refine lv_i2l hx hb dX12_qPartOf_70 rfl ?_
    have hP := hP.sub (ws' := [(mm, .inr (12, mo g (nI ta) (nI pa) (nI pe) pd (nI pb) pp pf pg pn rt rn (nI cd) sn (nI il) tk am at_ aa mt_ 0 (-1) wt wy (nI it_) (nI rm) (nI ud) (nI nu) sd (nI qn) (nI qw) qo (nI qb) (nI qp) qa (nI qi) (nI oc))), (g 31, .inl (cI, 120, .inl nw)), (g 46, .inl (cI, 9, .inl (fun j => nI (pt j))))]) [1, 2, 0] rfl
    have hD := hD.sub (ws' := [(mm, .inr (12, mo g (nI ta) (nI pa) (nI pe) pd (nI pb) pp pf pg pn rt rn (nI cd) sn (nI il) tk am at_ aa mt_ 0 (-1) wt wy (nI it_) (nI rm) (nI ud) (nI nu) sd (nI qn) (nI qw) qo (nI qb) (nI qp) qa (nI qi) (nI oc))), (g 31, .inl (cI, 120, .inl nw)), (g 46, .inl (cI, 9, .inl (fun j => nI (pt j))))]) [1, 2, 0] (by decide +kernel) rfl
    exact sk_lret hx hb hr hlocks hK hP hD hS (⟨(by obtain rfl := mn_k (j := 2) g_5 hk7 (by decide); exact hnm.2.2.1), rfl⟩) (Nat.le_of_ble_eq_true rfl) (Nat.le_of_ble_eq_true rfl) dX12_qPartOf_71
  by_cases g_8 : nI k = 3
  · refine lv_tableIn (off := 71) (tgt := 72) hx hb dX12_qPartOf_1 (by rw [g_8]; decide) (by rw [g_8]; decide) (by rw [g_8]; rfl) (by decide) ?_
    refine lv_iload_n hx hb dX12_qPartOf_72 rfl (lv_at hl 2 rfl) ?_
    refine lv_i2l hx hb dX12_qPartOf_73 rfl ?_
    exact sk_lret hx hb hr hlocks hK hP hD hS (⟨(by obtain rfl := mn_k (j := 3) g_8 hk7 (by decide); exact hnm.2.2.2.1), rfl⟩) (Nat.le_of_ble_eq_true rfl) (Nat.le_of_ble_eq_true rfl) dX12_qPartOf_74
  by_cases g_9 : nI k = 4
  · refine lv_tableIn (off := 74) (tgt := 75) hx hb dX12_qPartOf_1 (by rw [g_9]; decide) (by rw [g_9]; decide) (by rw [g_9]; rfl) (by decide) ?_
    refine lv_aload_n hx hb dX12_qPartOf_75 rfl (lv_at hl 0 rfl) ?_
    refine sk_get (v := .ref (g 31)) (C := RX12) (T := TX12) (N := 92) hx hb hts inlX12 hown hK hP 0 rfl rfl 31 (by decide) w_5_186 rfl dX12_qPartOf_76 ?_
    refine lv_iconst (v := 0) hx hb dX12_qPartOf_79 (by decide) ?_
    refine va_iald hx hb hK.1 hP 1 0 rfl rfl (by unfold vp_in; decide) dX12_qPartOf_80 ?_
    refine sk_top (nw 0) (rfl) ?_
    refine lv_i2l hx hb dX12_qPartOf_81 rfl ?_
    exact sk_lret hx hb hr hlocks hK hP hD hS (⟨(by obtain rfl := mn_k (j := 4) g_9 hk7 (by decide); exact hnm.2.2.2.2.1), rfl⟩) (Nat.le_of_ble_eq_true rfl) (Nat.le_of_ble_eq_true rfl) dX12_qPartOf_82
  by_cases g_10 : nI k = 5
  · refine lv_tableIn (off := 82) (tgt := 83) hx hb dX12_qPartOf_1 (by rw [g_10]; decide) (by rw [g_10]; decide) (by rw [g_10]; rfl) (by decide) ?_
    refine lv_aload_n hx hb dX12_qPartOf_83 rfl (lv_at hl 0 rfl) ?_
    refine sk_get (v := .int at_) (C := RX12) (T := TX12) (N := 92) hx hb hts inlX12 hown hK hP 0 rfl rfl 34 (by decide) w_5_189 rfl dX12_qPartOf_84 ?_
    refine lv_i2l hx hb dX12_qPartOf_87 rfl ?_
    exact sk_lret hx hb hr hlocks hK hP hD hS (⟨(by obtain rfl := mn_k (j := 5) g_10 hk7 (by decide); exact hnm.2.2.2.2.2.1), rfl⟩) (Nat.le_of_ble_eq_true rfl) (Nat.le_of_ble_eq_true rfl) dX12_qPartOf_88
  by_cases g_11 : nI k = 6
  · refine lv_tableIn (off := 88) (tgt := 89) hx hb dX12_qPartOf_1 (by rw [g_11]; decide) (by rw [g_11]; decide) (by rw [g_11]; rfl) (by decide) ?_
    refine lv_aload_n hx hb dX12_qPartOf_89 rfl (lv_at hl 0 rfl) ?_
    refine sk_get (v := .int aa) (C := RX12) (T := TX12) (N := 92) hx hb hts inlX12 hown hK hP 0 rfl rfl 35 (by decide) w_5_190 rfl dX12_qPartOf_90 ?_
    refine lv_i2l hx hb dX12_qPartOf_93 rfl ?_
    exact sk_lret hx hb hr hlocks hK hP hD hS (⟨(by obtain rfl := mn_k (j := 6) g_11 hk7 (by decide); exact hnm.2.2.2.2.2.2), rfl⟩) (Nat.le_of_ble_eq_true rfl) (Nat.le_of_ble_eq_true rfl) dX12_qPartOf_94
  by_cases g_12 : nI k = 7
  · refine lv_tableIn (off := 94) (tgt := 95) hx hb dX12_qPartOf_1 (by rw [g_12]; decide) (by rw [g_12]; decide) (by rw [g_12]; rfl) (by decide) ?_
    refine lv_iload_n hx hb dX12_qPartOf_95 rfl (lv_at hl 2 rfl) ?_
    refine lv_i2l hx hb dX12_qPartOf_96 rfl ?_
    exact sk_lret hx hb hr hlocks hK hP hD hS (⟨mn_x (j := 7) g_12 hk7 (by decide) (by decide), rfl⟩) (Nat.le_of_ble_eq_true rfl) (Nat.le_of_ble_eq_true rfl) dX12_qPartOf_97
  by_cases g_13 : nI k = 8
  · refine lv_tableIn (off := 97) (tgt := 98) hx hb dX12_qPartOf_1 (by rw [g_13]; decide) (by rw [g_13]; decide) (by rw [g_13]; rfl) (by decide) ?_
    refine lv_aload_n hx hb dX12_qPartOf_98 rfl (lv_at hl 0 rfl) ?_
    refine lv_iload_n hx hb dX12_qPartOf_99 rfl (lv_at hl 2 rfl) ?_
    refine sk_Vi (q0 := 0) (n := 1) (rest := []) (wr := [(g 46, .inl (cI, 9, .inl (fun j => nI (pt j))))]) ⟨hx, hb, hml, hown, hts⟩ hl.1 (c_m_isMute l D cI cJ cC cZ cS mm g ta pa pe pd pb pp pf pg pn rt rn cd sn il tk am at_ aa mt_ 0 (-1) wt wy it_ rm ud nu sd qn qw qo qb qp qa qi oc d nw (by omega) hnw) w_7_106 w_7_108 w_0_71 w_1_14 w_7_109 (by decide +kernel) ⟨⟨(Nat.le_of_ble_eq_true rfl), (Nat.le_of_ble_eq_true rfl)⟩, (Nat.le_of_ble_eq_true rfl), (Nat.le_of_ble_eq_true rfl)⟩ hK hP hD hS hA [0, 1] [2] rfl rfl (by decide +kernel) (by decide +kernel) (by decide +kernel) rfl rfl rfl rfl (Nat.le_of_ble_eq_true rfl) dX12_qPartOf_100 (fun r_15 u H locs hw hP hD hS => ?_)
    obtain ⟨b_14, hb1_16, hb2_17, rfl, rfl⟩ := hw
    have hP : va_P D vwCl [(g 46, .inl (cI, 9, .inl (fun j => nI (pt j)))), (mm, .inr (12, mo g (nI ta) (nI pa) (nI pe) pd (nI pb) pp pf pg pn rt rn (nI cd) sn (nI il) tk am at_ aa mt_ 0 (-1) wt wy (nI it_) (nI rm) (nI ud) (nI nu) sd (nI qn) (nI qw) qo (nI qb) (nI qp) qa (nI qi) (nI oc))), (g 31, .inl (cI, 120, .inl nw))] H := hP
    have hD : va_D A [(g 46, .inl (cI, 9, .inl (fun j => nI (pt j)))), (mm, .inr (12, mo g (nI ta) (nI pa) (nI pe) pd (nI pb) pp pf pg pn rt rn (nI cd) sn (nI il) tk am at_ aa mt_ 0 (-1) wt wy (nI it_) (nI rm) (nI ud) (nI nu) sd (nI qn) (nI qw) qo (nI qb) (nI qp) qa (nI qi) (nI oc))), (g 31, .inl (cI, 120, .inl nw))] := hD
    refine lv_if_eq (tgt := 110) hx hb dX12_qPartOf_103 (by decide) (fun c_18 => ?_) (fun c_18 => ?_)
    · have c_18 : b_14 = 0 := (neq b_14 0 (by omega) (by omega)).mp c_18
      refine lv_lconst (v := 0) hx hb dX12_qPartOf_110 (by decide) ?_
      have hP := hP.sub (ws' := [(mm, .inr (12, mo g (nI ta) (nI pa) (nI pe) pd (nI pb) pp pf pg pn rt rn (nI cd) sn (nI il) tk am at_ aa mt_ 0 (-1) wt wy (nI it_) (nI rm) (nI ud) (nI nu) sd (nI qn) (nI qw) qo (nI qb) (nI qp) qa (nI qi) (nI oc))), (g 31, .inl (cI, 120, .inl nw)), (g 46, .inl (cI, 9, .inl (fun j => nI (pt j))))]) [1, 2, 0] rfl
      have hD := hD.sub (ws' := [(mm, .inr (12, mo g (nI ta) (nI pa) (nI pe) pd (nI pb) pp pf pg pn rt rn (nI cd) sn (nI il) tk am at_ aa mt_ 0 (-1) wt wy (nI it_) (nI rm) (nI ud) (nI nu) sd (nI qn) (nI qw) qo (nI qb) (nI qp) qa (nI qi) (nI oc))), (g 31, .inl (cI, 120, .inl nw)), (g 46, .inl (cI, 9, .inl (fun j => nI (pt j))))]) [1, 2, 0] (by decide +kernel) rfl
      exact sk_lret hx hb hr hlocks hK hP hD hS (⟨mn_x (j := 8) g_13 hk7 (by decide) (by decide), rfl⟩) (Nat.le_of_ble_eq_true rfl) (Nat.le_of_ble_eq_true rfl) dX12_qPartOf_111
    · have c_18 : ¬ (b_14 = 0) := fun h => c_18 ((neq b_14 0 (by omega) (by omega)).mpr h)
      refine lv_lconst (v := 1) hx hb dX12_qPartOf_106 (by decide) ?_
      refine lv_goto (tgt := 111) hx hb dX12_qPartOf_107 (by decide) ?_
      have hP := hP.sub (ws' := [(mm, .inr (12, mo g (nI ta) (nI pa) (nI pe) pd (nI pb) pp pf pg pn rt rn (nI cd) sn (nI il) tk am at_ aa mt_ 0 (-1) wt wy (nI it_) (nI rm) (nI ud) (nI nu) sd (nI qn) (nI qw) qo (nI qb) (nI qp) qa (nI qi) (nI oc))), (g 31, .inl (cI, 120, .inl nw)), (g 46, .inl (cI, 9, .inl (fun j => nI (pt j))))]) [1, 2, 0] rfl
      have hD := hD.sub (ws' := [(mm, .inr (12, mo g (nI ta) (nI pa) (nI pe) pd (nI pb) pp pf pg pn rt rn (nI cd) sn (nI il) tk am at_ aa mt_ 0 (-1) wt wy (nI it_) (nI rm) (nI ud) (nI nu) sd (nI qn) (nI qw) qo (nI qb) (nI qp) qa (nI qi) (nI oc))), (g 31, .inl (cI, 120, .inl nw)), (g 46, .inl (cI, 9, .inl (fun j => nI (pt j))))]) [1, 2, 0] (by decide +kernel) rfl
      exact sk_lret hx hb hr hlocks hK hP hD hS (⟨mn_x (j := 8) g_13 hk7 (by decide) (by decide), rfl⟩) (Nat.le_of_ble_eq_true rfl) (Nat.le_of_ble_eq_true rfl) dX12_qPartOf_111
  refine lv_tableOut (tgt := 112) hx hb dX12_qPartOf_1 (sk_out (n := 8) (by intro k hk; rcases (show k = 0 ∨ k = 1 ∨ k = 2 ∨ k = 3 ∨ k = 4 ∨ k = 5 ∨ k = 6 ∨ k = 7 ∨ k = 8 by omega) with rfl | rfl | rfl | rfl | rfl | rfl | rfl | rfl | rfl <;> assumption)) (by decide) ?_
  refine lv_aload_n hx hb dX12_qPartOf_112 rfl (lv_at hl 0 rfl) ?_
  refine sk_get (v := .long wy) (C := RX12) (T := TX12) (N := 92) hx hb hts inlX12 hown hK hP 0 rfl rfl 45 (by decide) w_5_200 rfl dX12_qPartOf_113 ?_
  refine lv_lconst (v := 0) hx hb dX12_qPartOf_116 (by decide) ?_
  refine W.lcmp hx hb dX12_qPartOf_117 ?_
  refine lv_if_ne (tgt := 127) hx hb dX12_qPartOf_118 (by decide) (fun c_19 => ?_) (fun c_19 => ?_)
  · skip
    refine lv_aload_n hx hb dX12_qPartOf_127 rfl (lv_at hl 0 rfl) ?_
    refine sk_get (v := .ref (g 46)) (C := RX12) (T := TX12) (N := 92) hx hb hts inlX12 hown hK hP 0 rfl rfl 46 (by decide) w_5_201 rfl dX12_qPartOf_128 ?_
    refine lv_iload_n hx hb dX12_qPartOf_131 rfl (lv_at hl 2 rfl) ?_
    refine va_iald hx hb hK.1 hP 2 0 rfl rfl (vin d 9 (by omega) (by omega)) dX12_qPartOf_132 ?_
    refine sk_top (nI (pt d)) (nrd pt d (by omega)) ?_
    have hb_20 := hpt d
    refine lv_i2l hx hb dX12_qPartOf_133 rfl ?_
    exact sk_lret hx hb hr hlocks hK hP hD hS (⟨(mn_f hk7 (by assumption) (by assumption) (by assumption) (by assumption) (by assumption) (by assumption) (by assumption)).elim, rfl⟩) (Nat.le_of_ble_eq_true rfl) (Nat.le_of_ble_eq_true rfl) dX12_qPartOf_134
  · skip
    refine lv_ldc2 (v := (-1)) hx hb hown (hts _ w_7_155) dX12_qPartOf_121 ?_
    refine lv_goto (tgt := 134) hx hb dX12_qPartOf_124 (by decide) ?_
    exact sk_lret hx hb hr hlocks hK hP hD hS (⟨(mn_f hk7 (by assumption) (by assumption) (by assumption) (by assumption) (by assumption) (by assumption) (by assumption)).elim, rfl⟩) (Nat.le_of_ble_eq_true rfl) (Nat.le_of_ble_eq_true rfl) dX12_qPartOf_134
set_option maxHeartbeats 4000000 in
set_option maxRecDepth 100000 in
theorem c_nm_codesTell0 (l : Launch) (D : va_G) (cI cJ cC cZ cS : ClassId) (mm : Nat) (g : Nat → Nat) (ta : Nat) (pa : Nat) (pe : Nat) (pd : Int32) (pb : Nat) (pp : Int32) (pf : Int32) (pg : Int32) (pn : Int32) (rt : Int32) (rn : Int32) (cd : Nat) (sn : Int32) (il : Nat) (tk : Int32) (am : Int32) (at_ : Int32) (aa : Int32) (mt_ : Int32) (wt : Int32) (wy : Int64) (it_ : Nat) (rm : Nat) (ud : Nat) (nu : Nat) (sd : Int64) (qn : Nat) (qw : Nat) (qo : Int32) (qb : Nat) (qp : Nat) (qa : Int64) (qi : Nat) (oc : Nat) (d : Nat) (u0 : Int32) (u1 : Int32) (u2 : Int32) (u4 : Int32) (u5 : Int32) (ca : Nat) (v0 : Int32) (v1 : Int32) (v2 : Int32) (v4 : Int32) (v5 : Int32) (cb : Nat) (cs : Nat → Nat) (nw : Nat → Int32) (pt : Nat → Nat) (ql : Nat → Int64) (K : List Nat) (nm : Nat → Int64) (v : Int64) (kn : Nat) (hd : d < 9) (hab : ca ≤ cb) (hbk : cb ≤ K.length) (hkl : K.length ≤ 1600) (hKc : ∀ j, j < K.length → cs (1600 + j) = K.getD j 0) (hkn : kn < 2) (hns : kcNs kn (kcSub K (ca, cb))) (hnm : mnO nm am at_ aa nw d) (hex : kcEx nm 64 (kcSub K (ca, cb)) [] = some [v]) (hcs : ∀ j, cs j ≤ 20000) (hnw : nowOk nw) (hpt : ∀ j, pt j ≤ 9) : skM l yX12_codesTell cX12_codesTell 5 (some .long) 2 50 0 0 D (skT cI cJ cC cZ cS) [.ref mm, .int 0, .int (nI d)] [(mm, .inr (12, mo g (nI ta) (nI pa) (nI pe) pd (nI pb) pp pf pg pn rt rn (nI cd) sn (nI il) tk am at_ aa mt_ 0 (-1) wt wy (nI it_) (nI rm) (nI ud) (nI nu) sd (nI qn) (nI qw) qo (nI qb) (nI qp) qa (nI qi) (nI oc))), (g 24, .inl (cI, 6, .inl (l6 u0 u1 u2 (nI ca) u4 u5))), (g 25, .inl (cI, 6, .inl (l6 v0 v1 v2 (nI cb) v4 v5))), (g 26, .inl (cI, 3200, .inl (fun j => nI (cs j)))), (g 31, .inl (cI, 120, .inl nw)), (g 46, .inl (cI, 9, .inl (fun j => nI (pt j)))), (g 86, .inl (cJ, 1700, .inr (.inl ql)))] (skL D (skT cI cJ cC cZ cS) (fun (r : Int64) (u : va_W) => ∃ (qp2 : Nat), ∃ (ql2 : Nat → Int64), r = v ∧ u = [(mm, .inr (12, mo g (nI ta) (nI pa) (nI pe) pd (nI pb) pp pf pg pn rt rn (nI cd) sn (nI il) 0 am at_ aa mt_ 0 (-1) wt wy (nI it_) (nI rm) (nI ud) (nI nu) sd (nI qn) (nI qw) qo (nI qb) (nI qp2) qa (nI qi) (nI oc))), (g 24, .inl (cI, 6, .inl (l6 u0 u1 u2 (nI ca) u4 u5))), (g 25, .inl (cI, 6, .inl (l6 v0 v1 v2 (nI cb) v4 v5))), (g 26, .inl (cI, 3200, .inl (fun j => nI (cs j)))), (g 31, .inl (cI, 120, .inl nw)), (g 46, .inl (cI, 9, .inl (fun j => nI (pt j)))), (g 86, .inl (cJ, 1700, .inr (.inl ql2)))])) := by
  refine skM_of (by decide +kernel) (Nat.le_of_ble_eq_true rfl) ?_
  intro p e s m below meth c A ls E hP hD hl
  obtain ⟨hx, hb, hr, hml, hlocks, hin, hown, hts, hK, hA⟩ := E
  have hown : s.vm.findClass RX12 = some m.cls := hown
  have hS : va_S A s.heap s.heap [] := va_S.rf
  have hl : lv_has ls 5 [(0, .ref mm), (1, .int 0), (2, .int (nI d))] := hl
  refine lv_aload_n hx hb dX12_codesTell_0 rfl (lv_at hl 0 rfl) ?_
  refine lv_iload_n hx hb dX12_codesTell_1 rfl (lv_at hl 1 rfl) ?_
  refine lv_iconst (v := 1) hx hb dX12_codesTell_2 (by decide) ?_
  refine lv_icmp_ne (tgt := 10) hx hb dX12_codesTell_3 (by decide) (fun c_1 => ?_) (fun c => absurd c (by decide))
  refine lv_iconst (v := 0) hx hb dX12_codesTell_10 (by decide) ?_
  refine sk_put (ws' := [(mm, .inr (12, mo g (nI ta) (nI pa) (nI pe) pd (nI pb) pp pf pg pn rt rn (nI cd) sn (nI il) 0 am at_ aa mt_ 0 (-1) wt wy (nI it_) (nI rm) (nI ud) (nI nu) sd (nI qn) (nI qw) qo (nI qb) (nI qp) qa (nI qi) (nI oc))), (g 24, .inl (cI, 6, .inl (l6 u0 u1 u2 (nI ca) u4 u5))), (g 25, .inl (cI, 6, .inl (l6 v0 v1 v2 (nI cb) v4 v5))), (g 26, .inl (cI, 3200, .inl (fun j => nI (cs j)))), (g 31, .inl (cI, 120, .inl nw)), (g 46, .inl (cI, 9, .inl (fun j => nI (pt j)))), (g 86, .inl (cJ, 1700, .inr (.inl ql)))]) (C := RX12) (T := TX12) (N := 92) (v := .int 0) hx hb hts inlX12 tyX12 tyX12_ok nmX12 hown hK hP hD hS 0 rfl rfl 30 (by decide) w_5_185 rfl rfl rfl (Nat.le_of_ble_eq_true rfl) rfl dX12_codesTell_11 (fun H locs hP hD hS => ?_)
  refine lv_aload_n hx hb dX12_codesTell_14 rfl (lv_at hl 0 rfl) ?_
  refine lv_iconst (v := 0) hx hb dX12_codesTell_15 (by decide) ?_
  refine sk_put (ws' := [(mm, .inr (12, mo g (nI ta) (nI pa) (nI pe) pd (nI pb) pp pf pg pn rt rn (nI cd) sn (nI il) 0 am at_ aa mt_ 0 (-1) wt wy (nI it_) (nI rm) (nI ud) (nI nu) sd (nI qn) (nI qw) qo (nI qb) 0 qa (nI qi) (nI oc))), (g 24, .inl (cI, 6, .inl (l6 u0 u1 u2 (nI ca) u4 u5))), (g 25, .inl (cI, 6, .inl (l6 v0 v1 v2 (nI cb) v4 v5))), (g 26, .inl (cI, 3200, .inl (fun j => nI (cs j)))), (g 31, .inl (cI, 120, .inl nw)), (g 46, .inl (cI, 9, .inl (fun j => nI (pt j)))), (g 86, .inl (cJ, 1700, .inr (.inl ql)))]) (C := RX12) (T := TX12) (N := 92) (v := .int 0) hx hb hts inlX12 tyX12 tyX12_ok nmX12 hown hK hP hD hS 0 rfl rfl 87 (by decide) w_6_2 rfl rfl rfl (Nat.le_of_ble_eq_true rfl) rfl dX12_codesTell_16 (fun H locs hP hD hS => ?_)
  refine lv_aload_n hx hb dX12_codesTell_19 rfl (lv_at hl 0 rfl) ?_
  refine sk_get (v := .ref (g 24)) (C := RX12) (T := TX12) (N := 92) hx hb hts inlX12 hown hK hP 0 rfl rfl 24 (by decide) w_5_179 rfl dX12_codesTell_20 ?_
  refine lv_iconst (v := 3) hx hb dX12_codesTell_23 (by decide) ?_
  refine lv_iload_n hx hb dX12_codesTell_24 rfl (lv_at hl 1 rfl) ?_
  refine lv_iadd hx hb dX12_codesTell_25 ?_
  refine sk_top 3 (by decide) ?_
  refine va_iald hx hb hK.1 hP 1 0 rfl rfl (by unfold vp_in; decide) dX12_codesTell_26 ?_
  refine sk_top (nI ca) rfl ?_
  refine lv_istore_n (lv' := [(3, .int (nI ca)), (0, .ref mm), (1, .int 0), (2, .int (nI d))]) hx hb dX12_codesTell_27 rfl hl (by decide) rfl (fun ls hl => ?_)
  have lp_2 : ∀ (n_3 : Nat) (i : Nat) (zq : Nat) (zl : Nat → Int64) (SS : List Int64) (H : Heap) (locs : List Loc) (ls : Array Slot), cb - i < n_3 → (ca ≤ i) → (i ≤ cb) → (zq = SS.length) → (zq ≤ 64) → (stkO zl SS) → (kcNs kn (kcSub K (i, cb))) → (kcEx nm 64 (kcSub K (i, cb)) SS = some [v]) → va_P D vwCl [(mm, .inr (12, mo g (nI ta) (nI pa) (nI pe) pd (nI pb) pp pf pg pn rt rn (nI cd) sn (nI il) 0 am at_ aa mt_ 0 (-1) wt wy (nI it_) (nI rm) (nI ud) (nI nu) sd (nI qn) (nI qw) qo (nI qb) (nI zq) qa (nI qi) (nI oc))), (g 24, .inl (cI, 6, .inl (l6 u0 u1 u2 (nI ca) u4 u5))), (g 25, .inl (cI, 6, .inl (l6 v0 v1 v2 (nI cb) v4 v5))), (g 26, .inl (cI, 3200, .inl (fun j => nI (cs j)))), (g 31, .inl (cI, 120, .inl nw)), (g 46, .inl (cI, 9, .inl (fun j => nI (pt j)))), (g 86, .inl (cJ, 1700, .inr (.inl zl)))] H → va_D A [(mm, .inr (12, mo g (nI ta) (nI pa) (nI pe) pd (nI pb) pp pf pg pn rt rn (nI cd) sn (nI il) 0 am at_ aa mt_ 0 (-1) wt wy (nI it_) (nI rm) (nI ud) (nI nu) sd (nI qn) (nI qw) qo (nI qb) (nI zq) qa (nI qi) (nI oc))), (g 24, .inl (cI, 6, .inl (l6 u0 u1 u2 (nI ca) u4 u5))), (g 25, .inl (cI, 6, .inl (l6 v0 v1 v2 (nI cb) v4 v5))), (g 26, .inl (cI, 3200, .inl (fun j => nI (cs j)))), (g 31, .inl (cI, 120, .inl nw)), (g 46, .inl (cI, 9, .inl (fun j => nI (pt j)))), (g 86, .inl (cJ, 1700, .inr (.inl zl)))] → va_S A s.heap H locs → lv_has ls 5 [(3, .int (nI i)), (0, .ref mm), (1, .int 0), (2, .int (nI d))] → W p l e { frames := 2, cells := 0, slots := 0, locals := 50 } s m ([.ref mm, .int 0, .int (nI d)] : List Value).toArray below meth c H locs 0 0 (MQ below (skL D (skT cI cJ cC cZ cS) (fun (r : Int64) (u : va_W) => ∃ (qp2 : Nat), ∃ (ql2 : Nat → Int64), r = v ∧ u = [(mm, .inr (12, mo g (nI ta) (nI pa) (nI pe) pd (nI pb) pp pf pg pn rt rn (nI cd) sn (nI il) 0 am at_ aa mt_ 0 (-1) wt wy (nI it_) (nI rm) (nI ud) (nI nu) sd (nI qn) (nI qw) qo (nI qb) (nI qp2) qa (nI qi) (nI oc))), (g 24, .inl (cI, 6, .inl (l6 u0 u1 u2 (nI ca) u4 u5))), (g 25, .inl (cI, 6, .inl (l6 v0 v1 v2 (nI cb) v4 v5))), (g 26, .inl (cI, 3200, .inl (fun j => nI (cs j)))), (g 31, .inl (cI, 120, .inl nw)), (g 46, .inl (cI, 9, .inl (fun j => nI (pt j)))), (g 86, .inl (cJ, 1700, .inr (.inl ql2)))]) A) ([.ref mm, .int 0, .int (nI d)] : List Value).toArray s 0 0 A) (F0 m 28 ls []) := by
    intro n_3
    induction n_3 with
    | zero => intro i zq zl SS H locs ls hm; exact absurd hm (Nat.not_lt_zero _)
    | succ n_3 ih_lp_2 =>
      intro i zq zl SS H locs ls hm hi1 hi2 hzq0 hzq1 hst hns2 hex2 hP hD hS hl
      refine lv_iload_n hx hb dX12_codesTell_28 rfl (lv_at hl 0 rfl) ?_
      refine lv_aload_n hx hb dX12_codesTell_29 rfl (lv_at hl 1 rfl) ?_
      refine sk_get (v := .ref (g 25)) (C := RX12) (T := TX12) (N := 92) hx hb hts inlX12 hown hK hP 0 rfl rfl 25 (by decide) w_5_180 rfl dX12_codesTell_30 ?_
      refine lv_iconst (v := 3) hx hb dX12_codesTell_33 (by decide) ?_
      refine lv_iload_n hx hb dX12_codesTell_34 rfl (lv_at hl 2 rfl) ?_
      refine lv_iadd hx hb dX12_codesTell_35 ?_
      refine sk_top 3 (by decide) ?_
      refine va_iald hx hb hK.1 hP 2 0 rfl rfl (by unfold vp_in; decide) dX12_codesTell_36 ?_
      refine sk_top (nI cb) rfl ?_
      refine lv_icmp_ge (tgt := 110) hx hb dX12_codesTell_37 (by decide) (fun c_4 => ?_) (fun c_4 => ?_)
      · have c_4 : cb ≤ i := (nle cb i (by omega) (by omega)).mp c_4
        obtain rfl := kx_end hex2 (by omega)
        have htp3 : zq = 1 := hzq0
        refine lv_aload_n hx hb dX12_codesTell_110 rfl (lv_at hl 1 rfl) ?_
        refine sk_get (v := .ref (g 86)) (C := RX12) (T := TX12) (N := 92) hx hb hts inlX12 hown hK hP 0 rfl rfl 86 (by decide) w_6_1 rfl dX12_codesTell_111 ?_
        refine lv_iconst (v := 0) hx hb dX12_codesTell_114 (by decide) ?_
        refine va_lald hx hb hK.1 hP 6 1 rfl rfl (by unfold vp_in; decide) dX12_codesTell_115 ?_
        refine sk_topl v (hst.1) ?_
        exact sk_lret hx hb hr hlocks hK hP hD hS (⟨zq, zl, rfl, rfl⟩) (Nat.le_of_ble_eq_true rfl) (Nat.le_of_ble_eq_true rfl) dX12_codesTell_116
      · have c_4 : ¬ (cb ≤ i) := fun h => c_4 ((nle cb i (by omega) (by omega)).mpr h)
        have hib : i < cb := by omega
        rw [kcSub_c hib (by omega), ← hKc i (by omega)] at hex2 hns2
        have hns3 : kcNs kn (kcSub K (i + 1, cb)) := fun x hx => hns2 x (List.mem_cons_of_mem _ hx)
        obtain ⟨T, hT1, hT2, hT3⟩ := kcEx_c hex2
        rcases kx_c3 hkn (hns2 _ (List.mem_cons_self ..)) with ⟨hc1, hc2⟩ | ⟨hc1, hc2⟩ | ⟨hc1, hc2⟩
        · obtain ⟨b1, a1, R1, rfl, rfl⟩ := kcSt_two (by omega) hT1
          have htp2 : zq = R1.length + 2 := hzq0
          refine lv_aload_n hx hb dX12_codesTell_40 rfl (lv_at hl 1 rfl) ?_
          refine sk_get (v := .ref (g 26)) (C := RX12) (T := TX12) (N := 92) hx hb hts inlX12 hown hK hP 0 rfl rfl 26 (by decide) w_5_181 rfl dX12_codesTell_41 ?_
          refine lv_sipush (v := 1600) hx hb dX12_codesTell_44 (by decide) ?_
          refine lv_iload_n hx hb dX12_codesTell_47 rfl (lv_at hl 0 rfl) ?_
          refine lv_iadd hx hb dX12_codesTell_48 ?_
          refine sk_top (nI (1600 + i)) (nI_add 1600 i) ?_
          refine va_iald hx hb hK.1 hP 3 0 rfl rfl (vin (1600 + i) 3200 (by omega) (by omega)) dX12_codesTell_49 ?_
          refine sk_top (nI (cs (1600 + i))) (nrd cs (1600 + i) (by omega)) ?_
          have hb_5 := hcs (1600 + i)
          refine lv_istore (lv' := [(4, .int (nI (cs (1600 + i)))), (3, .int (nI i)), (0, .ref mm), (1, .int 0), (2, .int (nI d))]) hx hb dX12_codesTell_50 hl (by decide) rfl (fun ls hl => ?_)
          refine lv_iload hx hb dX12_codesTell_52 (lv_at hl 0 rfl) ?_
          refine lv_sipush (v := 1000) hx hb dX12_codesTell_54 (by decide) ?_
          refine lv_icmp_lt (tgt := 74) hx hb dX12_codesTell_57 (by decide) (fun c_6 => ?_) (fun c => absurd ((nlt (cs (1600 + i)) 1000 (by omega) (by omega)).mpr (by omega)) c)
          refine lv_iload hx hb dX12_codesTell_74 (lv_at hl 0 rfl) ?_
          refine lv_bipush (v := 40) hx hb dX12_codesTell_76 (by decide) ?_
          refine lv_icmp_lt (tgt := 98) hx hb dX12_codesTell_78 (by decide) (fun c_7 => ?_) (fun c => absurd ((nlt (cs (1600 + i)) 40 (by omega) (by omega)).mpr (by omega)) c)
          refine lv_aload_n hx hb dX12_codesTell_98 rfl (lv_at hl 2 rfl) ?_
          refine lv_iload hx hb dX12_codesTell_99 (lv_at hl 0 rfl) ?_
          refine sk_Vv (q0 := 0) (n := 1) (rest := []) (wr := [(g 24, .inl (cI, 6, .inl (l6 u0 u1 u2 (nI ca) u4 u5))), (g 25, .inl (cI, 6, .inl (l6 v0 v1 v2 (nI cb) v4 v5))), (g 26, .inl (cI, 3200, .inl (fun j => nI (cs j)))), (g 31, .inl (cI, 120, .inl nw)), (g 46, .inl (cI, 9, .inl (fun j => nI (pt j))))]) ⟨hx, hb, hml, hown, hts⟩ hl.1 (c_nm_qJoins l D cI cJ cC cZ cS mm g ta pa pe pd pb pp pf pg pn rt rn cd sn il 0 am at_ aa mt_ wt wy it_ rm ud nu sd qn qw qo qb zq qa qi oc (cs (1600 + i)) zl a1 b1 R1 (by omega) (by omega) hst (by omega) (by omega)) w_7_156 w_7_158 w_0_80 w_1_14 w_7_159 (by decide +kernel) ⟨⟨(Nat.le_of_ble_eq_true rfl), (Nat.le_of_ble_eq_true rfl)⟩, (Nat.le_of_ble_eq_true rfl), (Nat.le_of_ble_eq_true rfl)⟩ hK hP hD hS hA [0, 6] [1, 2, 3, 4, 5] rfl rfl (by decide +kernel) (by decide +kernel) (by decide +kernel) rfl rfl rfl rfl (Nat.le_of_ble_eq_true rfl) dX12_codesTell_101 (fun u H locs hw hP hD hS => ?_)
          obtain ⟨ql2_8, hst2_9, rfl⟩ := hw
          have hP : va_P D vwCl [(g 24, .inl (cI, 6, .inl (l6 u0 u1 u2 (nI ca) u4 u5))), (g 25, .inl (cI, 6, .inl (l6 v0 v1 v2 (nI cb) v4 v5))), (g 26, .inl (cI, 3200, .inl (fun j => nI (cs j)))), (g 31, .inl (cI, 120, .inl nw)), (g 46, .inl (cI, 9, .inl (fun j => nI (pt j)))), (mm, .inr (12, mo g (nI ta) (nI pa) (nI pe) pd (nI pb) pp pf pg pn rt rn (nI cd) sn (nI il) 0 am at_ aa mt_ 0 (-1) wt wy (nI it_) (nI rm) (nI ud) (nI nu) sd (nI qn) (nI qw) qo (nI qb) (nI (zq - 2 + 1)) qa (nI qi) (nI oc))), (g 86, .inl (cJ, 1700, .inr (.inl ql2_8)))] H := hP
          have hD : va_D A [(g 24, .inl (cI, 6, .inl (l6 u0 u1 u2 (nI ca) u4 u5))), (g 25, .inl (cI, 6, .inl (l6 v0 v1 v2 (nI cb) v4 v5))), (g 26, .inl (cI, 3200, .inl (fun j => nI (cs j)))), (g 31, .inl (cI, 120, .inl nw)), (g 46, .inl (cI, 9, .inl (fun j => nI (pt j)))), (mm, .inr (12, mo g (nI ta) (nI pa) (nI pe) pd (nI pb) pp pf pg pn rt rn (nI cd) sn (nI il) 0 am at_ aa mt_ 0 (-1) wt wy (nI it_) (nI rm) (nI ud) (nI nu) sd (nI qn) (nI qw) qo (nI qb) (nI (zq - 2 + 1)) qa (nI qi) (nI oc))), (g 86, .inl (cJ, 1700, .inr (.inl ql2_8)))] := hD
          refine lv_iinc (v := nI (i + 1)) (lv' := [(3, .int (nI (i + 1))), (4, .int (nI (cs (1600 + i)))), (0, .ref mm), (1, .int 0), (2, .int (nI d))]) hx hb dX12_codesTell_104 hl (k := 1) rfl (ninc i 1 (by decide)) (by decide) rfl (fun ls hl => ?_)
          refine lv_goto (tgt := 28) hx hb dX12_codesTell_107 (by decide) ?_
          have hP := hP.sub (ws' := [(mm, .inr (12, mo g (nI ta) (nI pa) (nI pe) pd (nI pb) pp pf pg pn rt rn (nI cd) sn (nI il) 0 am at_ aa mt_ 0 (-1) wt wy (nI it_) (nI rm) (nI ud) (nI nu) sd (nI qn) (nI qw) qo (nI qb) (nI (zq - 2 + 1)) qa (nI qi) (nI oc))), (g 24, .inl (cI, 6, .inl (l6 u0 u1 u2 (nI ca) u4 u5))), (g 25, .inl (cI, 6, .inl (l6 v0 v1 v2 (nI cb) v4 v5))), (g 26, .inl (cI, 3200, .inl (fun j => nI (cs j)))), (g 31, .inl (cI, 120, .inl nw)), (g 46, .inl (cI, 9, .inl (fun j => nI (pt j)))), (g 86, .inl (cJ, 1700, .inr (.inl ql2_8)))]) [5, 0, 1, 2, 3, 4, 6] rfl
          have hD := hD.sub (ws' := [(mm, .inr (12, mo g (nI ta) (nI pa) (nI pe) pd (nI pb) pp pf pg pn rt rn (nI cd) sn (nI il) 0 am at_ aa mt_ 0 (-1) wt wy (nI it_) (nI rm) (nI ud) (nI nu) sd (nI qn) (nI qw) qo (nI qb) (nI (zq - 2 + 1)) qa (nI qi) (nI oc))), (g 24, .inl (cI, 6, .inl (l6 u0 u1 u2 (nI ca) u4 u5))), (g 25, .inl (cI, 6, .inl (l6 v0 v1 v2 (nI cb) v4 v5))), (g 26, .inl (cI, 3200, .inl (fun j => nI (cs j)))), (g 31, .inl (cI, 120, .inl nw)), (g 46, .inl (cI, 9, .inl (fun j => nI (pt j)))), (g 86, .inl (cJ, 1700, .inr (.inl ql2_8)))]) [5, 0, 1, 2, 3, 4, 6] (by decide +kernel) rfl
          exact ih_lp_2 (i + 1) (zq - 2 + 1) ql2_8 (kcOp (cs (1600 + i)) a1 b1 :: R1) _ _ _ (by omega) (by omega) (by omega) (show _ = R1.length + 1 by omega) (by omega) hst2_9 hns3 hT3 hP hD hS (lv_sub hl [0, 2, 3, 4] rfl)
        · rw [kcSt_num (by omega)] at hT1
          obtain rfl := Option.some.inj hT1
          have htp2 : SS.length + 1 ≤ 64 := hT2
          refine lv_aload_n hx hb dX12_codesTell_40 rfl (lv_at hl 1 rfl) ?_
          refine sk_get (v := .ref (g 26)) (C := RX12) (T := TX12) (N := 92) hx hb hts inlX12 hown hK hP 0 rfl rfl 26 (by decide) w_5_181 rfl dX12_codesTell_41 ?_
          refine lv_sipush (v := 1600) hx hb dX12_codesTell_44 (by decide) ?_
          refine lv_iload_n hx hb dX12_codesTell_47 rfl (lv_at hl 0 rfl) ?_
          refine lv_iadd hx hb dX12_codesTell_48 ?_
          refine sk_top (nI (1600 + i)) (nI_add 1600 i) ?_
          refine va_iald hx hb hK.1 hP 3 0 rfl rfl (vin (1600 + i) 3200 (by omega) (by omega)) dX12_codesTell_49 ?_
          refine sk_top (nI (cs (1600 + i))) (nrd cs (1600 + i) (by omega)) ?_
          have hb_10 := hcs (1600 + i)
          refine lv_istore (lv' := [(4, .int (nI (cs (1600 + i)))), (3, .int (nI i)), (0, .ref mm), (1, .int 0), (2, .int (nI d))]) hx hb dX12_codesTell_50 hl (by decide) rfl (fun ls hl => ?_)
          refine lv_iload hx hb dX12_codesTell_52 (lv_at hl 0 rfl) ?_
          refine lv_sipush (v := 1000) hx hb dX12_codesTell_54 (by decide) ?_
          refine lv_icmp_lt (tgt := 74) hx hb dX12_codesTell_57 (by decide) (fun c => absurd ((nlt (cs (1600 + i)) 1000 (by omega) (by omega)).mp c) (by omega)) (fun c_11 => ?_)
          refine lv_aload_n hx hb dX12_codesTell_60 rfl (lv_at hl 2 rfl) ?_
          refine lv_iload hx hb dX12_codesTell_61 (lv_at hl 0 rfl) ?_
          refine lv_sipush (v := 1000) hx hb dX12_codesTell_63 (by decide) ?_
          refine lv_isub hx hb dX12_codesTell_66 ?_
          refine sk_top (nI (cs (1600 + i) - 1000)) (nsub (cs (1600 + i)) 1000 (by omega)) ?_
          refine lv_i2l hx hb dX12_codesTell_67 rfl ?_
          refine sk_Vv (q0 := 0) (n := 1) (rest := []) (wr := [(g 24, .inl (cI, 6, .inl (l6 u0 u1 u2 (nI ca) u4 u5))), (g 25, .inl (cI, 6, .inl (l6 v0 v1 v2 (nI cb) v4 v5))), (g 26, .inl (cI, 3200, .inl (fun j => nI (cs j)))), (g 31, .inl (cI, 120, .inl nw)), (g 46, .inl (cI, 9, .inl (fun j => nI (pt j))))]) ⟨hx, hb, hml, hown, hts⟩ hl.1 (c_nm_qPuts l D cI cJ cC cZ cS mm g ta pa pe pd pb pp pf pg pn rt rn cd sn il 0 am at_ aa mt_ wt wy it_ rm ud nu sd qn qw qo qb zq qa qi oc (Int32.toInt64 (nI (cs (1600 + i) - 1000))) zl (by omega)) w_7_139 w_7_141 w_0_76 w_1_14 w_7_142 (by decide +kernel) ⟨⟨(Nat.le_of_ble_eq_true rfl), (Nat.le_of_ble_eq_true rfl)⟩, (Nat.le_of_ble_eq_true rfl), (Nat.le_of_ble_eq_true rfl)⟩ hK hP hD hS hA [0, 6] [1, 2, 3, 4, 5] rfl rfl (by decide +kernel) (by decide +kernel) (by decide +kernel) rfl rfl rfl rfl (Nat.le_of_ble_eq_true rfl) dX12_codesTell_68 (fun u H locs hw hP hD hS => ?_)
          obtain ⟨ql2_12, hql_13, rfl⟩ := hw
          have hP : va_P D vwCl [(g 24, .inl (cI, 6, .inl (l6 u0 u1 u2 (nI ca) u4 u5))), (g 25, .inl (cI, 6, .inl (l6 v0 v1 v2 (nI cb) v4 v5))), (g 26, .inl (cI, 3200, .inl (fun j => nI (cs j)))), (g 31, .inl (cI, 120, .inl nw)), (g 46, .inl (cI, 9, .inl (fun j => nI (pt j)))), (mm, .inr (12, mo g (nI ta) (nI pa) (nI pe) pd (nI pb) pp pf pg pn rt rn (nI cd) sn (nI il) 0 am at_ aa mt_ 0 (-1) wt wy (nI it_) (nI rm) (nI ud) (nI nu) sd (nI qn) (nI qw) qo (nI qb) (nI (zq + 1)) qa (nI qi) (nI oc))), (g 86, .inl (cJ, 1700, .inr (.inl ql2_12)))] H := hP
          have hD : va_D A [(g 24, .inl (cI, 6, .inl (l6 u0 u1 u2 (nI ca) u4 u5))), (g 25, .inl (cI, 6, .inl (l6 v0 v1 v2 (nI cb) v4 v5))), (g 26, .inl (cI, 3200, .inl (fun j => nI (cs j)))), (g 31, .inl (cI, 120, .inl nw)), (g 46, .inl (cI, 9, .inl (fun j => nI (pt j)))), (mm, .inr (12, mo g (nI ta) (nI pa) (nI pe) pd (nI pb) pp pf pg pn rt rn (nI cd) sn (nI il) 0 am at_ aa mt_ 0 (-1) wt wy (nI it_) (nI rm) (nI ud) (nI nu) sd (nI qn) (nI qw) qo (nI qb) (nI (zq + 1)) qa (nI qi) (nI oc))), (g 86, .inl (cJ, 1700, .inr (.inl ql2_12)))] := hD
          have hs_14 := stk_push hst hzq0 hql_13 (kx_i2l (by omega))
          refine lv_goto (tgt := 104) hx hb dX12_codesTell_71 (by decide) ?_
          refine lv_iinc (v := nI (i + 1)) (lv' := [(3, .int (nI (i + 1))), (4, .int (nI (cs (1600 + i)))), (0, .ref mm), (1, .int 0), (2, .int (nI d))]) hx hb dX12_codesTell_104 hl (k := 1) rfl (ninc i 1 (by decide)) (by decide) rfl (fun ls hl => ?_)
          refine lv_goto (tgt := 28) hx hb dX12_codesTell_107 (by decide) ?_
          have hP := hP.sub (ws' := [(mm, .inr (12, mo g (nI ta) (nI pa) (nI pe) pd (nI pb) pp pf pg pn rt rn (nI cd) sn (nI il) 0 am at_ aa mt_ 0 (-1) wt wy (nI it_) (nI rm) (nI ud) (nI nu) sd (nI qn) (nI qw) qo (nI qb) (nI (zq + 1)) qa (nI qi) (nI oc))), (g 24, .inl (cI, 6, .inl (l6 u0 u1 u2 (nI ca) u4 u5))), (g 25, .inl (cI, 6, .inl (l6 v0 v1 v2 (nI cb) v4 v5))), (g 26, .inl (cI, 3200, .inl (fun j => nI (cs j)))), (g 31, .inl (cI, 120, .inl nw)), (g 46, .inl (cI, 9, .inl (fun j => nI (pt j)))), (g 86, .inl (cJ, 1700, .inr (.inl ql2_12)))]) [5, 0, 1, 2, 3, 4, 6] rfl
          have hD := hD.sub (ws' := [(mm, .inr (12, mo g (nI ta) (nI pa) (nI pe) pd (nI pb) pp pf pg pn rt rn (nI cd) sn (nI il) 0 am at_ aa mt_ 0 (-1) wt wy (nI it_) (nI rm) (nI ud) (nI nu) sd (nI qn) (nI qw) qo (nI qb) (nI (zq + 1)) qa (nI qi) (nI oc))), (g 24, .inl (cI, 6, .inl (l6 u0 u1 u2 (nI ca) u4 u5))), (g 25, .inl (cI, 6, .inl (l6 v0 v1 v2 (nI cb) v4 v5))), (g 26, .inl (cI, 3200, .inl (fun j => nI (cs j)))), (g 31, .inl (cI, 120, .inl nw)), (g 46, .inl (cI, 9, .inl (fun j => nI (pt j)))), (g 86, .inl (cJ, 1700, .inr (.inl ql2_12)))]) [5, 0, 1, 2, 3, 4, 6] (by decide +kernel) rfl
          exact ih_lp_2 (i + 1) (zq + 1) ql2_12 (Int64.ofNat (cs (1600 + i) - 1000) :: SS) _ _ _ (by omega) (by omega) (by omega) (show _ = SS.length + 1 by omega) (by omega) hs_14 hns3 hT3 hP hD hS (lv_sub hl [0, 2, 3, 4] rfl)
        · rw [kcSt_nm (by omega) (by omega)] at hT1
          obtain rfl := Option.some.inj hT1
          have htp2 : SS.length + 1 ≤ 64 := hT2
          refine lv_aload_n hx hb dX12_codesTell_40 rfl (lv_at hl 1 rfl) ?_
          refine sk_get (v := .ref (g 26)) (C := RX12) (T := TX12) (N := 92) hx hb hts inlX12 hown hK hP 0 rfl rfl 26 (by decide) w_5_181 rfl dX12_codesTell_41 ?_
          refine lv_sipush (v := 1600) hx hb dX12_codesTell_44 (by decide) ?_
          refine lv_iload_n hx hb dX12_codesTell_47 rfl (lv_at hl 0 rfl) ?_
          refine lv_iadd hx hb dX12_codesTell_48 ?_
          refine sk_top (nI (1600 + i)) (nI_add 1600 i) ?_
          refine va_iald hx hb hK.1 hP 3 0 rfl rfl (vin (1600 + i) 3200 (by omega) (by omega)) dX12_codesTell_49 ?_
          refine sk_top (nI (cs (1600 + i))) (nrd cs (1600 + i) (by omega)) ?_
          have hb_15 := hcs (1600 + i)
          refine lv_istore (lv' := [(4, .int (nI (cs (1600 + i)))), (3, .int (nI i)), (0, .ref mm), (1, .int 0), (2, .int (nI d))]) hx hb dX12_codesTell_50 hl (by decide) rfl (fun ls hl => ?_)
          refine lv_iload hx hb dX12_codesTell_52 (lv_at hl 0 rfl) ?_
          refine lv_sipush (v := 1000) hx hb dX12_codesTell_54 (by decide) ?_
          refine lv_icmp_lt (tgt := 74) hx hb dX12_codesTell_57 (by decide) (fun c_16 => ?_) (fun c => absurd ((nlt (cs (1600 + i)) 1000 (by omega) (by omega)).mpr (by omega)) c)
          refine lv_iload hx hb dX12_codesTell_74 (lv_at hl 0 rfl) ?_
          refine lv_bipush (v := 40) hx hb dX12_codesTell_76 (by decide) ?_
          refine lv_icmp_lt (tgt := 98) hx hb dX12_codesTell_78 (by decide) (fun c => absurd ((nlt (cs (1600 + i)) 40 (by omega) (by omega)).mp c) (by omega)) (fun c_17 => ?_)
          refine lv_aload_n hx hb dX12_codesTell_81 rfl (lv_at hl 2 rfl) ?_
          refine lv_aload_n hx hb dX12_codesTell_82 rfl (lv_at hl 2 rfl) ?_
          refine lv_iload hx hb dX12_codesTell_83 (lv_at hl 0 rfl) ?_
          refine lv_bipush (v := 40) hx hb dX12_codesTell_85 (by decide) ?_
          refine lv_isub hx hb dX12_codesTell_87 ?_
          refine sk_top (nI (cs (1600 + i) - 40)) (nsub (cs (1600 + i)) 40 (by omega)) ?_
          refine lv_iload_n hx hb dX12_codesTell_88 rfl (lv_at hl 4 rfl) ?_
          refine sk_Vl (q0 := 0) (n := 2) (rest := [.ref mm]) (wr := [(g 24, .inl (cI, 6, .inl (l6 u0 u1 u2 (nI ca) u4 u5))), (g 25, .inl (cI, 6, .inl (l6 v0 v1 v2 (nI cb) v4 v5))), (g 26, .inl (cI, 3200, .inl (fun j => nI (cs j)))), (g 86, .inl (cJ, 1700, .inr (.inl zl)))]) ⟨hx, hb, hml, hown, hts⟩ hl.1 (c_nm_qPartOf l D cI cJ cC cZ cS mm g ta pa pe pd pb pp pf pg pn rt rn cd sn il 0 am at_ aa mt_ wt wy it_ rm ud nu sd qn qw qo qb zq qa qi oc (cs (1600 + i) - 40) d nw pt nm (by omega) (by omega) hnm hnw hpt) w_7_143 w_7_145 w_0_77 w_1_14 w_7_146 (by decide +kernel) ⟨⟨(Nat.le_of_ble_eq_true rfl), (Nat.le_of_ble_eq_true rfl)⟩, (Nat.le_of_ble_eq_true rfl), (Nat.le_of_ble_eq_true rfl)⟩ hK hP hD hS hA [0, 4, 5] [1, 2, 3, 6] rfl rfl (by decide +kernel) (by decide +kernel) (by decide +kernel) rfl rfl rfl rfl (Nat.le_of_ble_eq_true rfl) dX12_codesTell_89 (fun r_18 u H locs hw hP hD hS => ?_)
          obtain ⟨hr_19, rfl⟩ := hw
          have hP : va_P D vwCl [(g 24, .inl (cI, 6, .inl (l6 u0 u1 u2 (nI ca) u4 u5))), (g 25, .inl (cI, 6, .inl (l6 v0 v1 v2 (nI cb) v4 v5))), (g 26, .inl (cI, 3200, .inl (fun j => nI (cs j)))), (g 86, .inl (cJ, 1700, .inr (.inl zl))), (mm, .inr (12, mo g (nI ta) (nI pa) (nI pe) pd (nI pb) pp pf pg pn rt rn (nI cd) sn (nI il) 0 am at_ aa mt_ 0 (-1) wt wy (nI it_) (nI rm) (nI ud) (nI nu) sd (nI qn) (nI qw) qo (nI qb) (nI zq) qa (nI qi) (nI oc))), (g 31, .inl (cI, 120, .inl nw)), (g 46, .inl (cI, 9, .inl (fun j => nI (pt j))))] H := hP
          have hD : va_D A [(g 24, .inl (cI, 6, .inl (l6 u0 u1 u2 (nI ca) u4 u5))), (g 25, .inl (cI, 6, .inl (l6 v0 v1 v2 (nI cb) v4 v5))), (g 26, .inl (cI, 3200, .inl (fun j => nI (cs j)))), (g 86, .inl (cJ, 1700, .inr (.inl zl))), (mm, .inr (12, mo g (nI ta) (nI pa) (nI pe) pd (nI pb) pp pf pg pn rt rn (nI cd) sn (nI il) 0 am at_ aa mt_ 0 (-1) wt wy (nI it_) (nI rm) (nI ud) (nI nu) sd (nI qn) (nI qw) qo (nI qb) (nI zq) qa (nI qi) (nI oc))), (g 31, .inl (cI, 120, .inl nw)), (g 46, .inl (cI, 9, .inl (fun j => nI (pt j))))] := hD
          subst hr_19
          refine sk_Vv (q0 := 0) (n := 1) (rest := []) (wr := [(g 24, .inl (cI, 6, .inl (l6 u0 u1 u2 (nI ca) u4 u5))), (g 25, .inl (cI, 6, .inl (l6 v0 v1 v2 (nI cb) v4 v5))), (g 26, .inl (cI, 3200, .inl (fun j => nI (cs j)))), (g 31, .inl (cI, 120, .inl nw)), (g 46, .inl (cI, 9, .inl (fun j => nI (pt j))))]) ⟨hx, hb, hml, hown, hts⟩ hl.1 (c_nm_qPuts l D cI cJ cC cZ cS mm g ta pa pe pd pb pp pf pg pn rt rn cd sn il 0 am at_ aa mt_ wt wy it_ rm ud nu sd qn qw qo qb zq qa qi oc (nm (cs (1600 + i) - 40)) zl (by omega)) w_7_139 w_7_141 w_0_76 w_1_14 w_7_142 (by decide +kernel) ⟨⟨(Nat.le_of_ble_eq_true rfl), (Nat.le_of_ble_eq_true rfl)⟩, (Nat.le_of_ble_eq_true rfl), (Nat.le_of_ble_eq_true rfl)⟩ hK hP hD hS hA [4, 3] [0, 1, 2, 5, 6] rfl rfl (by decide +kernel) (by decide +kernel) (by decide +kernel) rfl rfl rfl rfl (Nat.le_of_ble_eq_true rfl) dX12_codesTell_92 (fun u H locs hw hP hD hS => ?_)
          obtain ⟨ql2_20, hql_21, rfl⟩ := hw
          have hP : va_P D vwCl [(g 24, .inl (cI, 6, .inl (l6 u0 u1 u2 (nI ca) u4 u5))), (g 25, .inl (cI, 6, .inl (l6 v0 v1 v2 (nI cb) v4 v5))), (g 26, .inl (cI, 3200, .inl (fun j => nI (cs j)))), (g 31, .inl (cI, 120, .inl nw)), (g 46, .inl (cI, 9, .inl (fun j => nI (pt j)))), (mm, .inr (12, mo g (nI ta) (nI pa) (nI pe) pd (nI pb) pp pf pg pn rt rn (nI cd) sn (nI il) 0 am at_ aa mt_ 0 (-1) wt wy (nI it_) (nI rm) (nI ud) (nI nu) sd (nI qn) (nI qw) qo (nI qb) (nI (zq + 1)) qa (nI qi) (nI oc))), (g 86, .inl (cJ, 1700, .inr (.inl ql2_20)))] H := hP
          have hD : va_D A [(g 24, .inl (cI, 6, .inl (l6 u0 u1 u2 (nI ca) u4 u5))), (g 25, .inl (cI, 6, .inl (l6 v0 v1 v2 (nI cb) v4 v5))), (g 26, .inl (cI, 3200, .inl (fun j => nI (cs j)))), (g 31, .inl (cI, 120, .inl nw)), (g 46, .inl (cI, 9, .inl (fun j => nI (pt j)))), (mm, .inr (12, mo g (nI ta) (nI pa) (nI pe) pd (nI pb) pp pf pg pn rt rn (nI cd) sn (nI il) 0 am at_ aa mt_ 0 (-1) wt wy (nI it_) (nI rm) (nI ud) (nI nu) sd (nI qn) (nI qw) qo (nI qb) (nI (zq + 1)) qa (nI qi) (nI oc))), (g 86, .inl (cJ, 1700, .inr (.inl ql2_20)))] := hD
          have hs_22 := stk_push hst hzq0 hql_21 rfl
          refine lv_goto (tgt := 104) hx hb dX12_codesTell_95 (by decide) ?_
          refine lv_iinc (v := nI (i + 1)) (lv' := [(3, .int (nI (i + 1))), (4, .int (nI (cs (1600 + i)))), (0, .ref mm), (1, .int 0), (2, .int (nI d))]) hx hb dX12_codesTell_104 hl (k := 1) rfl (ninc i 1 (by decide)) (by decide) rfl (fun ls hl => ?_)
          refine lv_goto (tgt := 28) hx hb dX12_codesTell_107 (by decide) ?_
          have hP := hP.sub (ws' := [(mm, .inr (12, mo g (nI ta) (nI pa) (nI pe) pd (nI pb) pp pf pg pn rt rn (nI cd) sn (nI il) 0 am at_ aa mt_ 0 (-1) wt wy (nI it_) (nI rm) (nI ud) (nI nu) sd (nI qn) (nI qw) qo (nI qb) (nI (zq + 1)) qa (nI qi) (nI oc))), (g 24, .inl (cI, 6, .inl (l6 u0 u1 u2 (nI ca) u4 u5))), (g 25, .inl (cI, 6, .inl (l6 v0 v1 v2 (nI cb) v4 v5))), (g 26, .inl (cI, 3200, .inl (fun j => nI (cs j)))), (g 31, .inl (cI, 120, .inl nw)), (g 46, .inl (cI, 9, .inl (fun j => nI (pt j)))), (g 86, .inl (cJ, 1700, .inr (.inl ql2_20)))]) [5, 0, 1, 2, 3, 4, 6] rfl
          have hD := hD.sub (ws' := [(mm, .inr (12, mo g (nI ta) (nI pa) (nI pe) pd (nI pb) pp pf pg pn rt rn (nI cd) sn (nI il) 0 am at_ aa mt_ 0 (-1) wt wy (nI it_) (nI rm) (nI ud) (nI nu) sd (nI qn) (nI qw) qo (nI qb) (nI (zq + 1)) qa (nI qi) (nI oc))), (g 24, .inl (cI, 6, .inl (l6 u0 u1 u2 (nI ca) u4 u5))), (g 25, .inl (cI, 6, .inl (l6 v0 v1 v2 (nI cb) v4 v5))), (g 26, .inl (cI, 3200, .inl (fun j => nI (cs j)))), (g 31, .inl (cI, 120, .inl nw)), (g 46, .inl (cI, 9, .inl (fun j => nI (pt j)))), (g 86, .inl (cJ, 1700, .inr (.inl ql2_20)))]) [5, 0, 1, 2, 3, 4, 6] (by decide +kernel) rfl
          exact ih_lp_2 (i + 1) (zq + 1) ql2_20 (nm (cs (1600 + i) - 40) :: SS) _ _ _ (by omega) (by omega) (by omega) (show _ = SS.length + 1 by omega) (by omega) hs_22 hns3 hT3 hP hD hS (lv_sub hl [0, 2, 3, 4] rfl)
  exact lp_2 (cb - ca + 1) ca 0 ql ([]) _ _ _ (Nat.lt_succ_self _) (by omega) (by omega) rfl (by omega) True.intro hns hex hP hD hS (lv_sub hl [0, 1, 2, 3] rfl)
set_option maxHeartbeats 4000000 in
set_option maxRecDepth 100000 in
theorem c_nm_codesTell1 (l : Launch) (D : va_G) (cI cJ cC cZ cS : ClassId) (mm : Nat) (g : Nat → Nat) (ta : Nat) (pa : Nat) (pe : Nat) (pd : Int32) (pb : Nat) (pp : Int32) (pf : Int32) (pg : Int32) (pn : Int32) (rt : Int32) (rn : Int32) (cd : Nat) (sn : Int32) (il : Nat) (tk : Int32) (am : Int32) (at_ : Int32) (aa : Int32) (mt_ : Int32) (wt : Int32) (wy : Int64) (it_ : Nat) (rm : Nat) (ud : Nat) (nu : Nat) (sd : Int64) (qn : Nat) (qw : Nat) (qo : Int32) (qb : Nat) (qp : Nat) (qa : Int64) (qi : Nat) (oc : Nat) (d : Nat) (u0 : Int32) (u1 : Int32) (u2 : Int32) (u3 : Int32) (u5 : Int32) (ca : Nat) (v0 : Int32) (v1 : Int32) (v2 : Int32) (v3 : Int32) (v5 : Int32) (cb : Nat) (cs : Nat → Nat) (nw : Nat → Int32) (pt : Nat → Nat) (ql : Nat → Int64) (K : List Nat) (nm : Nat → Int64) (v : Int64) (kn : Nat) (hd : d < 9) (hab : ca ≤ cb) (hbk : cb ≤ K.length) (hkl : K.length ≤ 1600) (hKc : ∀ j, j < K.length → cs (1600 + j) = K.getD j 0) (hkn : kn < 2) (hns : kcNs kn (kcSub K (ca, cb))) (hnm : mnO nm am at_ aa nw d) (hex : kcEx nm 64 (kcSub K (ca, cb)) [] = some [v]) (hcs : ∀ j, cs j ≤ 20000) (hnw : nowOk nw) (hpt : ∀ j, pt j ≤ 9) : skM l yX12_codesTell cX12_codesTell 5 (some .long) 2 50 0 0 D (skT cI cJ cC cZ cS) [.ref mm, .int 1, .int (nI d)] [(mm, .inr (12, mo g (nI ta) (nI pa) (nI pe) pd (nI pb) pp pf pg pn rt rn (nI cd) sn (nI il) tk am at_ aa mt_ 0 (-1) wt wy (nI it_) (nI rm) (nI ud) (nI nu) sd (nI qn) (nI qw) qo (nI qb) (nI qp) qa (nI qi) (nI oc))), (g 24, .inl (cI, 6, .inl (l6 u0 u1 u2 u3 (nI ca) u5))), (g 25, .inl (cI, 6, .inl (l6 v0 v1 v2 v3 (nI cb) v5))), (g 26, .inl (cI, 3200, .inl (fun j => nI (cs j)))), (g 31, .inl (cI, 120, .inl nw)), (g 46, .inl (cI, 9, .inl (fun j => nI (pt j)))), (g 86, .inl (cJ, 1700, .inr (.inl ql)))] (skL D (skT cI cJ cC cZ cS) (fun (r : Int64) (u : va_W) => ∃ (qp2 : Nat), ∃ (ql2 : Nat → Int64), r = v ∧ u = [(mm, .inr (12, mo g (nI ta) (nI pa) (nI pe) pd (nI pb) pp pf pg pn rt rn (nI cd) sn (nI il) 1 am at_ aa mt_ 0 (-1) wt wy (nI it_) (nI rm) (nI ud) (nI nu) sd (nI qn) (nI qw) qo (nI qb) (nI qp2) qa (nI qi) (nI oc))), (g 24, .inl (cI, 6, .inl (l6 u0 u1 u2 u3 (nI ca) u5))), (g 25, .inl (cI, 6, .inl (l6 v0 v1 v2 v3 (nI cb) v5))), (g 26, .inl (cI, 3200, .inl (fun j => nI (cs j)))), (g 31, .inl (cI, 120, .inl nw)), (g 46, .inl (cI, 9, .inl (fun j => nI (pt j)))), (g 86, .inl (cJ, 1700, .inr (.inl ql2)))])) := by
  refine skM_of (by decide +kernel) (Nat.le_of_ble_eq_true rfl) ?_
  intro p e s m below meth c A ls E hP hD hl
  obtain ⟨hx, hb, hr, hml, hlocks, hin, hown, hts, hK, hA⟩ := E
  have hown : s.vm.findClass RX12 = some m.cls := hown
  have hS : va_S A s.heap s.heap [] := va_S.rf
  have hl : lv_has ls 5 [(0, .ref mm), (1, .int 1), (2, .int (nI d))] := hl
  refine lv_aload_n hx hb dX12_codesTell_0 rfl (lv_at hl 0 rfl) ?_
  refine lv_iload_n hx hb dX12_codesTell_1 rfl (lv_at hl 1 rfl) ?_
  refine lv_iconst (v := 1) hx hb dX12_codesTell_2 (by decide) ?_
  refine lv_icmp_ne (tgt := 10) hx hb dX12_codesTell_3 (by decide) (fun c => absurd c (by decide)) (fun c_1 => ?_)
  refine lv_iconst (v := 1) hx hb dX12_codesTell_6 (by decide) ?_
  refine lv_goto (tgt := 11) hx hb dX12_codesTell_7 (by decide) ?_
  refine sk_put (ws' := [(mm, .inr (12, mo g (nI ta) (nI pa) (nI pe) pd (nI pb) pp pf pg pn rt rn (nI cd) sn (nI il) 1 am at_ aa mt_ 0 (-1) wt wy (nI it_) (nI rm) (nI ud) (nI nu) sd (nI qn) (nI qw) qo (nI qb) (nI qp) qa (nI qi) (nI oc))), (g 24, .inl (cI, 6, .inl (l6 u0 u1 u2 u3 (nI ca) u5))), (g 25, .inl (cI, 6, .inl (l6 v0 v1 v2 v3 (nI cb) v5))), (g 26, .inl (cI, 3200, .inl (fun j => nI (cs j)))), (g 31, .inl (cI, 120, .inl nw)), (g 46, .inl (cI, 9, .inl (fun j => nI (pt j)))), (g 86, .inl (cJ, 1700, .inr (.inl ql)))]) (C := RX12) (T := TX12) (N := 92) (v := .int 1) hx hb hts inlX12 tyX12 tyX12_ok nmX12 hown hK hP hD hS 0 rfl rfl 30 (by decide) w_5_185 rfl rfl rfl (Nat.le_of_ble_eq_true rfl) rfl dX12_codesTell_11 (fun H locs hP hD hS => ?_)
  refine lv_aload_n hx hb dX12_codesTell_14 rfl (lv_at hl 0 rfl) ?_
  refine lv_iconst (v := 0) hx hb dX12_codesTell_15 (by decide) ?_
  refine sk_put (ws' := [(mm, .inr (12, mo g (nI ta) (nI pa) (nI pe) pd (nI pb) pp pf pg pn rt rn (nI cd) sn (nI il) 1 am at_ aa mt_ 0 (-1) wt wy (nI it_) (nI rm) (nI ud) (nI nu) sd (nI qn) (nI qw) qo (nI qb) 0 qa (nI qi) (nI oc))), (g 24, .inl (cI, 6, .inl (l6 u0 u1 u2 u3 (nI ca) u5))), (g 25, .inl (cI, 6, .inl (l6 v0 v1 v2 v3 (nI cb) v5))), (g 26, .inl (cI, 3200, .inl (fun j => nI (cs j)))), (g 31, .inl (cI, 120, .inl nw)), (g 46, .inl (cI, 9, .inl (fun j => nI (pt j)))), (g 86, .inl (cJ, 1700, .inr (.inl ql)))]) (C := RX12) (T := TX12) (N := 92) (v := .int 0) hx hb hts inlX12 tyX12 tyX12_ok nmX12 hown hK hP hD hS 0 rfl rfl 87 (by decide) w_6_2 rfl rfl rfl (Nat.le_of_ble_eq_true rfl) rfl dX12_codesTell_16 (fun H locs hP hD hS => ?_)
  refine lv_aload_n hx hb dX12_codesTell_19 rfl (lv_at hl 0 rfl) ?_
  refine sk_get (v := .ref (g 24)) (C := RX12) (T := TX12) (N := 92) hx hb hts inlX12 hown hK hP 0 rfl rfl 24 (by decide) w_5_179 rfl dX12_codesTell_20 ?_
  refine lv_iconst (v := 3) hx hb dX12_codesTell_23 (by decide) ?_
  refine lv_iload_n hx hb dX12_codesTell_24 rfl (lv_at hl 1 rfl) ?_
  refine lv_iadd hx hb dX12_codesTell_25 ?_
  refine sk_top 4 (by decide) ?_
  refine va_iald hx hb hK.1 hP 1 0 rfl rfl (by unfold vp_in; decide) dX12_codesTell_26 ?_
  refine sk_top (nI ca) rfl ?_
  refine lv_istore_n (lv' := [(3, .int (nI ca)), (0, .ref mm), (1, .int 1), (2, .int (nI d))]) hx hb dX12_codesTell_27 rfl hl (by decide) rfl (fun ls hl => ?_)
  have lp_2 : ∀ (n_3 : Nat) (i : Nat) (zq : Nat) (zl : Nat → Int64) (SS : List Int64) (H : Heap) (locs : List Loc) (ls : Array Slot), cb - i < n_3 → (ca ≤ i) → (i ≤ cb) → (zq = SS.length) → (zq ≤ 64) → (stkO zl SS) → (kcNs kn (kcSub K (i, cb))) → (kcEx nm 64 (kcSub K (i, cb)) SS = some [v]) → va_P D vwCl [(mm, .inr (12, mo g (nI ta) (nI pa) (nI pe) pd (nI pb) pp pf pg pn rt rn (nI cd) sn (nI il) 1 am at_ aa mt_ 0 (-1) wt wy (nI it_) (nI rm) (nI ud) (nI nu) sd (nI qn) (nI qw) qo (nI qb) (nI zq) qa (nI qi) (nI oc))), (g 24, .inl (cI, 6, .inl (l6 u0 u1 u2 u3 (nI ca) u5))), (g 25, .inl (cI, 6, .inl (l6 v0 v1 v2 v3 (nI cb) v5))), (g 26, .inl (cI, 3200, .inl (fun j => nI (cs j)))), (g 31, .inl (cI, 120, .inl nw)), (g 46, .inl (cI, 9, .inl (fun j => nI (pt j)))), (g 86, .inl (cJ, 1700, .inr (.inl zl)))] H → va_D A [(mm, .inr (12, mo g (nI ta) (nI pa) (nI pe) pd (nI pb) pp pf pg pn rt rn (nI cd) sn (nI il) 1 am at_ aa mt_ 0 (-1) wt wy (nI it_) (nI rm) (nI ud) (nI nu) sd (nI qn) (nI qw) qo (nI qb) (nI zq) qa (nI qi) (nI oc))), (g 24, .inl (cI, 6, .inl (l6 u0 u1 u2 u3 (nI ca) u5))), (g 25, .inl (cI, 6, .inl (l6 v0 v1 v2 v3 (nI cb) v5))), (g 26, .inl (cI, 3200, .inl (fun j => nI (cs j)))), (g 31, .inl (cI, 120, .inl nw)), (g 46, .inl (cI, 9, .inl (fun j => nI (pt j)))), (g 86, .inl (cJ, 1700, .inr (.inl zl)))] → va_S A s.heap H locs → lv_has ls 5 [(3, .int (nI i)), (0, .ref mm), (1, .int 1), (2, .int (nI d))] → W p l e { frames := 2, cells := 0, slots := 0, locals := 50 } s m ([.ref mm, .int 1, .int (nI d)] : List Value).toArray below meth c H locs 0 0 (MQ below (skL D (skT cI cJ cC cZ cS) (fun (r : Int64) (u : va_W) => ∃ (qp2 : Nat), ∃ (ql2 : Nat → Int64), r = v ∧ u = [(mm, .inr (12, mo g (nI ta) (nI pa) (nI pe) pd (nI pb) pp pf pg pn rt rn (nI cd) sn (nI il) 1 am at_ aa mt_ 0 (-1) wt wy (nI it_) (nI rm) (nI ud) (nI nu) sd (nI qn) (nI qw) qo (nI qb) (nI qp2) qa (nI qi) (nI oc))), (g 24, .inl (cI, 6, .inl (l6 u0 u1 u2 u3 (nI ca) u5))), (g 25, .inl (cI, 6, .inl (l6 v0 v1 v2 v3 (nI cb) v5))), (g 26, .inl (cI, 3200, .inl (fun j => nI (cs j)))), (g 31, .inl (cI, 120, .inl nw)), (g 46, .inl (cI, 9, .inl (fun j => nI (pt j)))), (g 86, .inl (cJ, 1700, .inr (.inl ql2)))]) A) ([.ref mm, .int 1, .int (nI d)] : List Value).toArray s 0 0 A) (F0 m 28 ls []) := by
    intro n_3
    induction n_3 with
    | zero => intro i zq zl SS H locs ls hm; exact absurd hm (Nat.not_lt_zero _)
    | succ n_3 ih_lp_2 =>
      intro i zq zl SS H locs ls hm hi1 hi2 hzq0 hzq1 hst hns2 hex2 hP hD hS hl
      refine lv_iload_n hx hb dX12_codesTell_28 rfl (lv_at hl 0 rfl) ?_
      refine lv_aload_n hx hb dX12_codesTell_29 rfl (lv_at hl 1 rfl) ?_
      refine sk_get (v := .ref (g 25)) (C := RX12) (T := TX12) (N := 92) hx hb hts inlX12 hown hK hP 0 rfl rfl 25 (by decide) w_5_180 rfl dX12_codesTell_30 ?_
      refine lv_iconst (v := 3) hx hb dX12_codesTell_33 (by decide) ?_
      refine lv_iload_n hx hb dX12_codesTell_34 rfl (lv_at hl 2 rfl) ?_
      refine lv_iadd hx hb dX12_codesTell_35 ?_
      refine sk_top 4 (by decide) ?_
      refine va_iald hx hb hK.1 hP 2 0 rfl rfl (by unfold vp_in; decide) dX12_codesTell_36 ?_
      refine sk_top (nI cb) rfl ?_
      refine lv_icmp_ge (tgt := 110) hx hb dX12_codesTell_37 (by decide) (fun c_4 => ?_) (fun c_4 => ?_)
      · have c_4 : cb ≤ i := (nle cb i (by omega) (by omega)).mp c_4
        obtain rfl := kx_end hex2 (by omega)
        have htp3 : zq = 1 := hzq0
        refine lv_aload_n hx hb dX12_codesTell_110 rfl (lv_at hl 1 rfl) ?_
        refine sk_get (v := .ref (g 86)) (C := RX12) (T := TX12) (N := 92) hx hb hts inlX12 hown hK hP 0 rfl rfl 86 (by decide) w_6_1 rfl dX12_codesTell_111 ?_
        refine lv_iconst (v := 0) hx hb dX12_codesTell_114 (by decide) ?_
        refine va_lald hx hb hK.1 hP 6 1 rfl rfl (by unfold vp_in; decide) dX12_codesTell_115 ?_
        refine sk_topl v (hst.1) ?_
        exact sk_lret hx hb hr hlocks hK hP hD hS (⟨zq, zl, rfl, rfl⟩) (Nat.le_of_ble_eq_true rfl) (Nat.le_of_ble_eq_true rfl) dX12_codesTell_116
      · have c_4 : ¬ (cb ≤ i) := fun h => c_4 ((nle cb i (by omega) (by omega)).mpr h)
        have hib : i < cb := by omega
        rw [kcSub_c hib (by omega), ← hKc i (by omega)] at hex2 hns2
        have hns3 : kcNs kn (kcSub K (i + 1, cb)) := fun x hx => hns2 x (List.mem_cons_of_mem _ hx)
        obtain ⟨T, hT1, hT2, hT3⟩ := kcEx_c hex2
        rcases kx_c3 hkn (hns2 _ (List.mem_cons_self ..)) with ⟨hc1, hc2⟩ | ⟨hc1, hc2⟩ | ⟨hc1, hc2⟩
        · obtain ⟨b1, a1, R1, rfl, rfl⟩ := kcSt_two (by omega) hT1
          have htp2 : zq = R1.length + 2 := hzq0
          refine lv_aload_n hx hb dX12_codesTell_40 rfl (lv_at hl 1 rfl) ?_
          refine sk_get (v := .ref (g 26)) (C := RX12) (T := TX12) (N := 92) hx hb hts inlX12 hown hK hP 0 rfl rfl 26 (by decide) w_5_181 rfl dX12_codesTell_41 ?_
          refine lv_sipush (v := 1600) hx hb dX12_codesTell_44 (by decide) ?_
          refine lv_iload_n hx hb dX12_codesTell_47 rfl (lv_at hl 0 rfl) ?_
          refine lv_iadd hx hb dX12_codesTell_48 ?_
          refine sk_top (nI (1600 + i)) (nI_add 1600 i) ?_
          refine va_iald hx hb hK.1 hP 3 0 rfl rfl (vin (1600 + i) 3200 (by omega) (by omega)) dX12_codesTell_49 ?_
          refine sk_top (nI (cs (1600 + i))) (nrd cs (1600 + i) (by omega)) ?_
          have hb_5 := hcs (1600 + i)
          refine lv_istore (lv' := [(4, .int (nI (cs (1600 + i)))), (3, .int (nI i)), (0, .ref mm), (1, .int 1), (2, .int (nI d))]) hx hb dX12_codesTell_50 hl (by decide) rfl (fun ls hl => ?_)
          refine lv_iload hx hb dX12_codesTell_52 (lv_at hl 0 rfl) ?_
          refine lv_sipush (v := 1000) hx hb dX12_codesTell_54 (by decide) ?_
          refine lv_icmp_lt (tgt := 74) hx hb dX12_codesTell_57 (by decide) (fun c_6 => ?_) (fun c => absurd ((nlt (cs (1600 + i)) 1000 (by omega) (by omega)).mpr (by omega)) c)
          refine lv_iload hx hb dX12_codesTell_74 (lv_at hl 0 rfl) ?_
          refine lv_bipush (v := 40) hx hb dX12_codesTell_76 (by decide) ?_
          refine lv_icmp_lt (tgt := 98) hx hb dX12_codesTell_78 (by decide) (fun c_7 => ?_) (fun c => absurd ((nlt (cs (1600 + i)) 40 (by omega) (by omega)).mpr (by omega)) c)
          refine lv_aload_n hx hb dX12_codesTell_98 rfl (lv_at hl 2 rfl) ?_
          refine lv_iload hx hb dX12_codesTell_99 (lv_at hl 0 rfl) ?_
          refine sk_Vv (q0 := 0) (n := 1) (rest := []) (wr := [(g 24, .inl (cI, 6, .inl (l6 u0 u1 u2 u3 (nI ca) u5))), (g 25, .inl (cI, 6, .inl (l6 v0 v1 v2 v3 (nI cb) v5))), (g 26, .inl (cI, 3200, .inl (fun j => nI (cs j)))), (g 31, .inl (cI, 120, .inl nw)), (g 46, .inl (cI, 9, .inl (fun j => nI (pt j))))]) ⟨hx, hb, hml, hown, hts⟩ hl.1 (c_nm_qJoins l D cI cJ cC cZ cS mm g ta pa pe pd pb pp pf pg pn rt rn cd sn il 1 am at_ aa mt_ wt wy it_ rm ud nu sd qn qw qo qb zq qa qi oc (cs (1600 + i)) zl a1 b1 R1 (by omega) (by omega) hst (by omega) (by omega)) w_7_156 w_7_158 w_0_80 w_1_14 w_7_159 (by decide +kernel) ⟨⟨(Nat.le_of_ble_eq_true rfl), (Nat.le_of_ble_eq_true rfl)⟩, (Nat.le_of_ble_eq_true rfl), (Nat.le_of_ble_eq_true rfl)⟩ hK hP hD hS hA [0, 6] [1, 2, 3, 4, 5] rfl rfl (by decide +kernel) (by decide +kernel) (by decide +kernel) rfl rfl rfl rfl (Nat.le_of_ble_eq_true rfl) dX12_codesTell_101 (fun u H locs hw hP hD hS => ?_)
          obtain ⟨ql2_8, hst2_9, rfl⟩ := hw
          have hP : va_P D vwCl [(g 24, .inl (cI, 6, .inl (l6 u0 u1 u2 u3 (nI ca) u5))), (g 25, .inl (cI, 6, .inl (l6 v0 v1 v2 v3 (nI cb) v5))), (g 26, .inl (cI, 3200, .inl (fun j => nI (cs j)))), (g 31, .inl (cI, 120, .inl nw)), (g 46, .inl (cI, 9, .inl (fun j => nI (pt j)))), (mm, .inr (12, mo g (nI ta) (nI pa) (nI pe) pd (nI pb) pp pf pg pn rt rn (nI cd) sn (nI il) 1 am at_ aa mt_ 0 (-1) wt wy (nI it_) (nI rm) (nI ud) (nI nu) sd (nI qn) (nI qw) qo (nI qb) (nI (zq - 2 + 1)) qa (nI qi) (nI oc))), (g 86, .inl (cJ, 1700, .inr (.inl ql2_8)))] H := hP
          have hD : va_D A [(g 24, .inl (cI, 6, .inl (l6 u0 u1 u2 u3 (nI ca) u5))), (g 25, .inl (cI, 6, .inl (l6 v0 v1 v2 v3 (nI cb) v5))), (g 26, .inl (cI, 3200, .inl (fun j => nI (cs j)))), (g 31, .inl (cI, 120, .inl nw)), (g 46, .inl (cI, 9, .inl (fun j => nI (pt j)))), (mm, .inr (12, mo g (nI ta) (nI pa) (nI pe) pd (nI pb) pp pf pg pn rt rn (nI cd) sn (nI il) 1 am at_ aa mt_ 0 (-1) wt wy (nI it_) (nI rm) (nI ud) (nI nu) sd (nI qn) (nI qw) qo (nI qb) (nI (zq - 2 + 1)) qa (nI qi) (nI oc))), (g 86, .inl (cJ, 1700, .inr (.inl ql2_8)))] := hD
          refine lv_iinc (v := nI (i + 1)) (lv' := [(3, .int (nI (i + 1))), (4, .int (nI (cs (1600 + i)))), (0, .ref mm), (1, .int 1), (2, .int (nI d))]) hx hb dX12_codesTell_104 hl (k := 1) rfl (ninc i 1 (by decide)) (by decide) rfl (fun ls hl => ?_)
          refine lv_goto (tgt := 28) hx hb dX12_codesTell_107 (by decide) ?_
          have hP := hP.sub (ws' := [(mm, .inr (12, mo g (nI ta) (nI pa) (nI pe) pd (nI pb) pp pf pg pn rt rn (nI cd) sn (nI il) 1 am at_ aa mt_ 0 (-1) wt wy (nI it_) (nI rm) (nI ud) (nI nu) sd (nI qn) (nI qw) qo (nI qb) (nI (zq - 2 + 1)) qa (nI qi) (nI oc))), (g 24, .inl (cI, 6, .inl (l6 u0 u1 u2 u3 (nI ca) u5))), (g 25, .inl (cI, 6, .inl (l6 v0 v1 v2 v3 (nI cb) v5))), (g 26, .inl (cI, 3200, .inl (fun j => nI (cs j)))), (g 31, .inl (cI, 120, .inl nw)), (g 46, .inl (cI, 9, .inl (fun j => nI (pt j)))), (g 86, .inl (cJ, 1700, .inr (.inl ql2_8)))]) [5, 0, 1, 2, 3, 4, 6] rfl
          have hD := hD.sub (ws' := [(mm, .inr (12, mo g (nI ta) (nI pa) (nI pe) pd (nI pb) pp pf pg pn rt rn (nI cd) sn (nI il) 1 am at_ aa mt_ 0 (-1) wt wy (nI it_) (nI rm) (nI ud) (nI nu) sd (nI qn) (nI qw) qo (nI qb) (nI (zq - 2 + 1)) qa (nI qi) (nI oc))), (g 24, .inl (cI, 6, .inl (l6 u0 u1 u2 u3 (nI ca) u5))), (g 25, .inl (cI, 6, .inl (l6 v0 v1 v2 v3 (nI cb) v5))), (g 26, .inl (cI, 3200, .inl (fun j => nI (cs j)))), (g 31, .inl (cI, 120, .inl nw)), (g 46, .inl (cI, 9, .inl (fun j => nI (pt j)))), (g 86, .inl (cJ, 1700, .inr (.inl ql2_8)))]) [5, 0, 1, 2, 3, 4, 6] (by decide +kernel) rfl
          exact ih_lp_2 (i + 1) (zq - 2 + 1) ql2_8 (kcOp (cs (1600 + i)) a1 b1 :: R1) _ _ _ (by omega) (by omega) (by omega) (show _ = R1.length + 1 by omega) (by omega) hst2_9 hns3 hT3 hP hD hS (lv_sub hl [0, 2, 3, 4] rfl)
        · rw [kcSt_num (by omega)] at hT1
          obtain rfl := Option.some.inj hT1
          have htp2 : SS.length + 1 ≤ 64 := hT2
          refine lv_aload_n hx hb dX12_codesTell_40 rfl (lv_at hl 1 rfl) ?_
          refine sk_get (v := .ref (g 26)) (C := RX12) (T := TX12) (N := 92) hx hb hts inlX12 hown hK hP 0 rfl rfl 26 (by decide) w_5_181 rfl dX12_codesTell_41 ?_
          refine lv_sipush (v := 1600) hx hb dX12_codesTell_44 (by decide) ?_
          refine lv_iload_n hx hb dX12_codesTell_47 rfl (lv_at hl 0 rfl) ?_
          refine lv_iadd hx hb dX12_codesTell_48 ?_
          refine sk_top (nI (1600 + i)) (nI_add 1600 i) ?_
          refine va_iald hx hb hK.1 hP 3 0 rfl rfl (vin (1600 + i) 3200 (by omega) (by omega)) dX12_codesTell_49 ?_
          refine sk_top (nI (cs (1600 + i))) (nrd cs (1600 + i) (by omega)) ?_
          have hb_10 := hcs (1600 + i)
          refine lv_istore (lv' := [(4, .int (nI (cs (1600 + i)))), (3, .int (nI i)), (0, .ref mm), (1, .int 1), (2, .int (nI d))]) hx hb dX12_codesTell_50 hl (by decide) rfl (fun ls hl => ?_)
          refine lv_iload hx hb dX12_codesTell_52 (lv_at hl 0 rfl) ?_
          refine lv_sipush (v := 1000) hx hb dX12_codesTell_54 (by decide) ?_
          refine lv_icmp_lt (tgt := 74) hx hb dX12_codesTell_57 (by decide) (fun c => absurd ((nlt (cs (1600 + i)) 1000 (by omega) (by omega)).mp c) (by omega)) (fun c_11 => ?_)
          refine lv_aload_n hx hb dX12_codesTell_60 rfl (lv_at hl 2 rfl) ?_
          refine lv_iload hx hb dX12_codesTell_61 (lv_at hl 0 rfl) ?_
          refine lv_sipush (v := 1000) hx hb dX12_codesTell_63 (by decide) ?_
          refine lv_isub hx hb dX12_codesTell_66 ?_
          refine sk_top (nI (cs (1600 + i) - 1000)) (nsub (cs (1600 + i)) 1000 (by omega)) ?_
          refine lv_i2l hx hb dX12_codesTell_67 rfl ?_
          refine sk_Vv (q0 := 0) (n := 1) (rest := []) (wr := [(g 24, .inl (cI, 6, .inl (l6 u0 u1 u2 u3 (nI ca) u5))), (g 25, .inl (cI, 6, .inl (l6 v0 v1 v2 v3 (nI cb) v5))), (g 26, .inl (cI, 3200, .inl (fun j => nI (cs j)))), (g 31, .inl (cI, 120, .inl nw)), (g 46, .inl (cI, 9, .inl (fun j => nI (pt j))))]) ⟨hx, hb, hml, hown, hts⟩ hl.1 (c_nm_qPuts l D cI cJ cC cZ cS mm g ta pa pe pd pb pp pf pg pn rt rn cd sn il 1 am at_ aa mt_ wt wy it_ rm ud nu sd qn qw qo qb zq qa qi oc (Int32.toInt64 (nI (cs (1600 + i) - 1000))) zl (by omega)) w_7_139 w_7_141 w_0_76 w_1_14 w_7_142 (by decide +kernel) ⟨⟨(Nat.le_of_ble_eq_true rfl), (Nat.le_of_ble_eq_true rfl)⟩, (Nat.le_of_ble_eq_true rfl), (Nat.le_of_ble_eq_true rfl)⟩ hK hP hD hS hA [0, 6] [1, 2, 3, 4, 5] rfl rfl (by decide +kernel) (by decide +kernel) (by decide +kernel) rfl rfl rfl rfl (Nat.le_of_ble_eq_true rfl) dX12_codesTell_68 (fun u H locs hw hP hD hS => ?_)
          obtain ⟨ql2_12, hql_13, rfl⟩ := hw
          have hP : va_P D vwCl [(g 24, .inl (cI, 6, .inl (l6 u0 u1 u2 u3 (nI ca) u5))), (g 25, .inl (cI, 6, .inl (l6 v0 v1 v2 v3 (nI cb) v5))), (g 26, .inl (cI, 3200, .inl (fun j => nI (cs j)))), (g 31, .inl (cI, 120, .inl nw)), (g 46, .inl (cI, 9, .inl (fun j => nI (pt j)))), (mm, .inr (12, mo g (nI ta) (nI pa) (nI pe) pd (nI pb) pp pf pg pn rt rn (nI cd) sn (nI il) 1 am at_ aa mt_ 0 (-1) wt wy (nI it_) (nI rm) (nI ud) (nI nu) sd (nI qn) (nI qw) qo (nI qb) (nI (zq + 1)) qa (nI qi) (nI oc))), (g 86, .inl (cJ, 1700, .inr (.inl ql2_12)))] H := hP
          have hD : va_D A [(g 24, .inl (cI, 6, .inl (l6 u0 u1 u2 u3 (nI ca) u5))), (g 25, .inl (cI, 6, .inl (l6 v0 v1 v2 v3 (nI cb) v5))), (g 26, .inl (cI, 3200, .inl (fun j => nI (cs j)))), (g 31, .inl (cI, 120, .inl nw)), (g 46, .inl (cI, 9, .inl (fun j => nI (pt j)))), (mm, .inr (12, mo g (nI ta) (nI pa) (nI pe) pd (nI pb) pp pf pg pn rt rn (nI cd) sn (nI il) 1 am at_ aa mt_ 0 (-1) wt wy (nI it_) (nI rm) (nI ud) (nI nu) sd (nI qn) (nI qw) qo (nI qb) (nI (zq + 1)) qa (nI qi) (nI oc))), (g 86, .inl (cJ, 1700, .inr (.inl ql2_12)))] := hD
          have hs_14 := stk_push hst hzq0 hql_13 (kx_i2l (by omega))
          refine lv_goto (tgt := 104) hx hb dX12_codesTell_71 (by decide) ?_
          refine lv_iinc (v := nI (i + 1)) (lv' := [(3, .int (nI (i + 1))), (4, .int (nI (cs (1600 + i)))), (0, .ref mm), (1, .int 1), (2, .int (nI d))]) hx hb dX12_codesTell_104 hl (k := 1) rfl (ninc i 1 (by decide)) (by decide) rfl (fun ls hl => ?_)
          refine lv_goto (tgt := 28) hx hb dX12_codesTell_107 (by decide) ?_
          have hP := hP.sub (ws' := [(mm, .inr (12, mo g (nI ta) (nI pa) (nI pe) pd (nI pb) pp pf pg pn rt rn (nI cd) sn (nI il) 1 am at_ aa mt_ 0 (-1) wt wy (nI it_) (nI rm) (nI ud) (nI nu) sd (nI qn) (nI qw) qo (nI qb) (nI (zq + 1)) qa (nI qi) (nI oc))), (g 24, .inl (cI, 6, .inl (l6 u0 u1 u2 u3 (nI ca) u5))), (g 25, .inl (cI, 6, .inl (l6 v0 v1 v2 v3 (nI cb) v5))), (g 26, .inl (cI, 3200, .inl (fun j => nI (cs j)))), (g 31, .inl (cI, 120, .inl nw)), (g 46, .inl (cI, 9, .inl (fun j => nI (pt j)))), (g 86, .inl (cJ, 1700, .inr (.inl ql2_12)))]) [5, 0, 1, 2, 3, 4, 6] rfl
          have hD := hD.sub (ws' := [(mm, .inr (12, mo g (nI ta) (nI pa) (nI pe) pd (nI pb) pp pf pg pn rt rn (nI cd) sn (nI il) 1 am at_ aa mt_ 0 (-1) wt wy (nI it_) (nI rm) (nI ud) (nI nu) sd (nI qn) (nI qw) qo (nI qb) (nI (zq + 1)) qa (nI qi) (nI oc))), (g 24, .inl (cI, 6, .inl (l6 u0 u1 u2 u3 (nI ca) u5))), (g 25, .inl (cI, 6, .inl (l6 v0 v1 v2 v3 (nI cb) v5))), (g 26, .inl (cI, 3200, .inl (fun j => nI (cs j)))), (g 31, .inl (cI, 120, .inl nw)), (g 46, .inl (cI, 9, .inl (fun j => nI (pt j)))), (g 86, .inl (cJ, 1700, .inr (.inl ql2_12)))]) [5, 0, 1, 2, 3, 4, 6] (by decide +kernel) rfl
          exact ih_lp_2 (i + 1) (zq + 1) ql2_12 (Int64.ofNat (cs (1600 + i) - 1000) :: SS) _ _ _ (by omega) (by omega) (by omega) (show _ = SS.length + 1 by omega) (by omega) hs_14 hns3 hT3 hP hD hS (lv_sub hl [0, 2, 3, 4] rfl)
        · rw [kcSt_nm (by omega) (by omega)] at hT1
          obtain rfl := Option.some.inj hT1
          have htp2 : SS.length + 1 ≤ 64 := hT2
          refine lv_aload_n hx hb dX12_codesTell_40 rfl (lv_at hl 1 rfl) ?_
          refine sk_get (v := .ref (g 26)) (C := RX12) (T := TX12) (N := 92) hx hb hts inlX12 hown hK hP 0 rfl rfl 26 (by decide) w_5_181 rfl dX12_codesTell_41 ?_
          refine lv_sipush (v := 1600) hx hb dX12_codesTell_44 (by decide) ?_
          refine lv_iload_n hx hb dX12_codesTell_47 rfl (lv_at hl 0 rfl) ?_
          refine lv_iadd hx hb dX12_codesTell_48 ?_
          refine sk_top (nI (1600 + i)) (nI_add 1600 i) ?_
          refine va_iald hx hb hK.1 hP 3 0 rfl rfl (vin (1600 + i) 3200 (by omega) (by omega)) dX12_codesTell_49 ?_
          refine sk_top (nI (cs (1600 + i))) (nrd cs (1600 + i) (by omega)) ?_
          have hb_15 := hcs (1600 + i)
          refine lv_istore (lv' := [(4, .int (nI (cs (1600 + i)))), (3, .int (nI i)), (0, .ref mm), (1, .int 1), (2, .int (nI d))]) hx hb dX12_codesTell_50 hl (by decide) rfl (fun ls hl => ?_)
          refine lv_iload hx hb dX12_codesTell_52 (lv_at hl 0 rfl) ?_
          refine lv_sipush (v := 1000) hx hb dX12_codesTell_54 (by decide) ?_
          refine lv_icmp_lt (tgt := 74) hx hb dX12_codesTell_57 (by decide) (fun c_16 => ?_) (fun c => absurd ((nlt (cs (1600 + i)) 1000 (by omega) (by omega)).mpr (by omega)) c)
          refine lv_iload hx hb dX12_codesTell_74 (lv_at hl 0 rfl) ?_
          refine lv_bipush (v := 40) hx hb dX12_codesTell_76 (by decide) ?_
          refine lv_icmp_lt (tgt := 98) hx hb dX12_codesTell_78 (by decide) (fun c => absurd ((nlt (cs (1600 + i)) 40 (by omega) (by omega)).mp c) (by omega)) (fun c_17 => ?_)
          refine lv_aload_n hx hb dX12_codesTell_81 rfl (lv_at hl 2 rfl) ?_
          refine lv_aload_n hx hb dX12_codesTell_82 rfl (lv_at hl 2 rfl) ?_
          refine lv_iload hx hb dX12_codesTell_83 (lv_at hl 0 rfl) ?_
          refine lv_bipush (v := 40) hx hb dX12_codesTell_85 (by decide) ?_
          refine lv_isub hx hb dX12_codesTell_87 ?_
          refine sk_top (nI (cs (1600 + i) - 40)) (nsub (cs (1600 + i)) 40 (by omega)) ?_
          refine lv_iload_n hx hb dX12_codesTell_88 rfl (lv_at hl 4 rfl) ?_
          refine sk_Vl (q0 := 0) (n := 2) (rest := [.ref mm]) (wr := [(g 24, .inl (cI, 6, .inl (l6 u0 u1 u2 u3 (nI ca) u5))), (g 25, .inl (cI, 6, .inl (l6 v0 v1 v2 v3 (nI cb) v5))), (g 26, .inl (cI, 3200, .inl (fun j => nI (cs j)))), (g 86, .inl (cJ, 1700, .inr (.inl zl)))]) ⟨hx, hb, hml, hown, hts⟩ hl.1 (c_nm_qPartOf l D cI cJ cC cZ cS mm g ta pa pe pd pb pp pf pg pn rt rn cd sn il 1 am at_ aa mt_ wt wy it_ rm ud nu sd qn qw qo qb zq qa qi oc (cs (1600 + i) - 40) d nw pt nm (by omega) (by omega) hnm hnw hpt) w_7_143 w_7_145 w_0_77 w_1_14 w_7_146 (by decide +kernel) ⟨⟨(Nat.le_of_ble_eq_true rfl), (Nat.le_of_ble_eq_true rfl)⟩, (Nat.le_of_ble_eq_true rfl), (Nat.le_of_ble_eq_true rfl)⟩ hK hP hD hS hA [0, 4, 5] [1, 2, 3, 6] rfl rfl (by decide +kernel) (by decide +kernel) (by decide +kernel) rfl rfl rfl rfl (Nat.le_of_ble_eq_true rfl) dX12_codesTell_89 (fun r_18 u H locs hw hP hD hS => ?_)
          obtain ⟨hr_19, rfl⟩ := hw
          have hP : va_P D vwCl [(g 24, .inl (cI, 6, .inl (l6 u0 u1 u2 u3 (nI ca) u5))), (g 25, .inl (cI, 6, .inl (l6 v0 v1 v2 v3 (nI cb) v5))), (g 26, .inl (cI, 3200, .inl (fun j => nI (cs j)))), (g 86, .inl (cJ, 1700, .inr (.inl zl))), (mm, .inr (12, mo g (nI ta) (nI pa) (nI pe) pd (nI pb) pp pf pg pn rt rn (nI cd) sn (nI il) 1 am at_ aa mt_ 0 (-1) wt wy (nI it_) (nI rm) (nI ud) (nI nu) sd (nI qn) (nI qw) qo (nI qb) (nI zq) qa (nI qi) (nI oc))), (g 31, .inl (cI, 120, .inl nw)), (g 46, .inl (cI, 9, .inl (fun j => nI (pt j))))] H := hP
          have hD : va_D A [(g 24, .inl (cI, 6, .inl (l6 u0 u1 u2 u3 (nI ca) u5))), (g 25, .inl (cI, 6, .inl (l6 v0 v1 v2 v3 (nI cb) v5))), (g 26, .inl (cI, 3200, .inl (fun j => nI (cs j)))), (g 86, .inl (cJ, 1700, .inr (.inl zl))), (mm, .inr (12, mo g (nI ta) (nI pa) (nI pe) pd (nI pb) pp pf pg pn rt rn (nI cd) sn (nI il) 1 am at_ aa mt_ 0 (-1) wt wy (nI it_) (nI rm) (nI ud) (nI nu) sd (nI qn) (nI qw) qo (nI qb) (nI zq) qa (nI qi) (nI oc))), (g 31, .inl (cI, 120, .inl nw)), (g 46, .inl (cI, 9, .inl (fun j => nI (pt j))))] := hD
          subst hr_19
          refine sk_Vv (q0 := 0) (n := 1) (rest := []) (wr := [(g 24, .inl (cI, 6, .inl (l6 u0 u1 u2 u3 (nI ca) u5))), (g 25, .inl (cI, 6, .inl (l6 v0 v1 v2 v3 (nI cb) v5))), (g 26, .inl (cI, 3200, .inl (fun j => nI (cs j)))), (g 31, .inl (cI, 120, .inl nw)), (g 46, .inl (cI, 9, .inl (fun j => nI (pt j))))]) ⟨hx, hb, hml, hown, hts⟩ hl.1 (c_nm_qPuts l D cI cJ cC cZ cS mm g ta pa pe pd pb pp pf pg pn rt rn cd sn il 1 am at_ aa mt_ wt wy it_ rm ud nu sd qn qw qo qb zq qa qi oc (nm (cs (1600 + i) - 40)) zl (by omega)) w_7_139 w_7_141 w_0_76 w_1_14 w_7_142 (by decide +kernel) ⟨⟨(Nat.le_of_ble_eq_true rfl), (Nat.le_of_ble_eq_true rfl)⟩, (Nat.le_of_ble_eq_true rfl), (Nat.le_of_ble_eq_true rfl)⟩ hK hP hD hS hA [4, 3] [0, 1, 2, 5, 6] rfl rfl (by decide +kernel) (by decide +kernel) (by decide +kernel) rfl rfl rfl rfl (Nat.le_of_ble_eq_true rfl) dX12_codesTell_92 (fun u H locs hw hP hD hS => ?_)
          obtain ⟨ql2_20, hql_21, rfl⟩ := hw
          have hP : va_P D vwCl [(g 24, .inl (cI, 6, .inl (l6 u0 u1 u2 u3 (nI ca) u5))), (g 25, .inl (cI, 6, .inl (l6 v0 v1 v2 v3 (nI cb) v5))), (g 26, .inl (cI, 3200, .inl (fun j => nI (cs j)))), (g 31, .inl (cI, 120, .inl nw)), (g 46, .inl (cI, 9, .inl (fun j => nI (pt j)))), (mm, .inr (12, mo g (nI ta) (nI pa) (nI pe) pd (nI pb) pp pf pg pn rt rn (nI cd) sn (nI il) 1 am at_ aa mt_ 0 (-1) wt wy (nI it_) (nI rm) (nI ud) (nI nu) sd (nI qn) (nI qw) qo (nI qb) (nI (zq + 1)) qa (nI qi) (nI oc))), (g 86, .inl (cJ, 1700, .inr (.inl ql2_20)))] H := hP
          have hD : va_D A [(g 24, .inl (cI, 6, .inl (l6 u0 u1 u2 u3 (nI ca) u5))), (g 25, .inl (cI, 6, .inl (l6 v0 v1 v2 v3 (nI cb) v5))), (g 26, .inl (cI, 3200, .inl (fun j => nI (cs j)))), (g 31, .inl (cI, 120, .inl nw)), (g 46, .inl (cI, 9, .inl (fun j => nI (pt j)))), (mm, .inr (12, mo g (nI ta) (nI pa) (nI pe) pd (nI pb) pp pf pg pn rt rn (nI cd) sn (nI il) 1 am at_ aa mt_ 0 (-1) wt wy (nI it_) (nI rm) (nI ud) (nI nu) sd (nI qn) (nI qw) qo (nI qb) (nI (zq + 1)) qa (nI qi) (nI oc))), (g 86, .inl (cJ, 1700, .inr (.inl ql2_20)))] := hD
          have hs_22 := stk_push hst hzq0 hql_21 rfl
          refine lv_goto (tgt := 104) hx hb dX12_codesTell_95 (by decide) ?_
          refine lv_iinc (v := nI (i + 1)) (lv' := [(3, .int (nI (i + 1))), (4, .int (nI (cs (1600 + i)))), (0, .ref mm), (1, .int 1), (2, .int (nI d))]) hx hb dX12_codesTell_104 hl (k := 1) rfl (ninc i 1 (by decide)) (by decide) rfl (fun ls hl => ?_)
          refine lv_goto (tgt := 28) hx hb dX12_codesTell_107 (by decide) ?_
          have hP := hP.sub (ws' := [(mm, .inr (12, mo g (nI ta) (nI pa) (nI pe) pd (nI pb) pp pf pg pn rt rn (nI cd) sn (nI il) 1 am at_ aa mt_ 0 (-1) wt wy (nI it_) (nI rm) (nI ud) (nI nu) sd (nI qn) (nI qw) qo (nI qb) (nI (zq + 1)) qa (nI qi) (nI oc))), (g 24, .inl (cI, 6, .inl (l6 u0 u1 u2 u3 (nI ca) u5))), (g 25, .inl (cI, 6, .inl (l6 v0 v1 v2 v3 (nI cb) v5))), (g 26, .inl (cI, 3200, .inl (fun j => nI (cs j)))), (g 31, .inl (cI, 120, .inl nw)), (g 46, .inl (cI, 9, .inl (fun j => nI (pt j)))), (g 86, .inl (cJ, 1700, .inr (.inl ql2_20)))]) [5, 0, 1, 2, 3, 4, 6] rfl
          have hD := hD.sub (ws' := [(mm, .inr (12, mo g (nI ta) (nI pa) (nI pe) pd (nI pb) pp pf pg pn rt rn (nI cd) sn (nI il) 1 am at_ aa mt_ 0 (-1) wt wy (nI it_) (nI rm) (nI ud) (nI nu) sd (nI qn) (nI qw) qo (nI qb) (nI (zq + 1)) qa (nI qi) (nI oc))), (g 24, .inl (cI, 6, .inl (l6 u0 u1 u2 u3 (nI ca) u5))), (g 25, .inl (cI, 6, .inl (l6 v0 v1 v2 v3 (nI cb) v5))), (g 26, .inl (cI, 3200, .inl (fun j => nI (cs j)))), (g 31, .inl (cI, 120, .inl nw)), (g 46, .inl (cI, 9, .inl (fun j => nI (pt j)))), (g 86, .inl (cJ, 1700, .inr (.inl ql2_20)))]) [5, 0, 1, 2, 3, 4, 6] (by decide +kernel) rfl
          exact ih_lp_2 (i + 1) (zq + 1) ql2_20 (nm (cs (1600 + i) - 40) :: SS) _ _ _ (by omega) (by omega) (by omega) (show _ = SS.length + 1 by omega) (by omega) hs_22 hns3 hT3 hP hD hS (lv_sub hl [0, 2, 3, 4] rfl)
  exact lp_2 (cb - ca + 1) ca 0 ql ([]) _ _ _ (Nat.lt_succ_self _) (by omega) (by omega) rfl (by omega) True.intro hns hex hP hD hS (lv_sub hl [0, 1, 2, 3] rfl)
set_option maxHeartbeats 4000000 in
set_option maxRecDepth 100000 in
theorem c_nm_codesTell2 (l : Launch) (D : va_G) (cI cJ cC cZ cS : ClassId) (mm : Nat) (g : Nat → Nat) (ta : Nat) (pa : Nat) (pe : Nat) (pd : Int32) (pb : Nat) (pp : Int32) (pf : Int32) (pg : Int32) (pn : Int32) (rt : Int32) (rn : Int32) (cd : Nat) (sn : Int32) (il : Nat) (tk : Int32) (am : Int32) (at_ : Int32) (aa : Int32) (mt_ : Int32) (wt : Int32) (wy : Int64) (it_ : Nat) (rm : Nat) (ud : Nat) (nu : Nat) (sd : Int64) (qn : Nat) (qw : Nat) (qo : Int32) (qb : Nat) (qp : Nat) (qa : Int64) (qi : Nat) (oc : Nat) (d : Nat) (u0 : Int32) (u1 : Int32) (u2 : Int32) (u3 : Int32) (u4 : Int32) (ca : Nat) (v0 : Int32) (v1 : Int32) (v2 : Int32) (v3 : Int32) (v4 : Int32) (cb : Nat) (cs : Nat → Nat) (nw : Nat → Int32) (pt : Nat → Nat) (ql : Nat → Int64) (K : List Nat) (nm : Nat → Int64) (v : Int64) (kn : Nat) (hd : d < 9) (hab : ca ≤ cb) (hbk : cb ≤ K.length) (hkl : K.length ≤ 1600) (hKc : ∀ j, j < K.length → cs (1600 + j) = K.getD j 0) (hkn : kn < 2) (hns : kcNs kn (kcSub K (ca, cb))) (hnm : mnO nm am at_ aa nw d) (hex : kcEx nm 64 (kcSub K (ca, cb)) [] = some [v]) (hcs : ∀ j, cs j ≤ 20000) (hnw : nowOk nw) (hpt : ∀ j, pt j ≤ 9) : skM l yX12_codesTell cX12_codesTell 5 (some .long) 2 50 0 0 D (skT cI cJ cC cZ cS) [.ref mm, .int 2, .int (nI d)] [(mm, .inr (12, mo g (nI ta) (nI pa) (nI pe) pd (nI pb) pp pf pg pn rt rn (nI cd) sn (nI il) tk am at_ aa mt_ 0 (-1) wt wy (nI it_) (nI rm) (nI ud) (nI nu) sd (nI qn) (nI qw) qo (nI qb) (nI qp) qa (nI qi) (nI oc))), (g 24, .inl (cI, 6, .inl (l6 u0 u1 u2 u3 u4 (nI ca)))), (g 25, .inl (cI, 6, .inl (l6 v0 v1 v2 v3 v4 (nI cb)))), (g 26, .inl (cI, 3200, .inl (fun j => nI (cs j)))), (g 31, .inl (cI, 120, .inl nw)), (g 46, .inl (cI, 9, .inl (fun j => nI (pt j)))), (g 86, .inl (cJ, 1700, .inr (.inl ql)))] (skL D (skT cI cJ cC cZ cS) (fun (r : Int64) (u : va_W) => ∃ (qp2 : Nat), ∃ (ql2 : Nat → Int64), r = v ∧ u = [(mm, .inr (12, mo g (nI ta) (nI pa) (nI pe) pd (nI pb) pp pf pg pn rt rn (nI cd) sn (nI il) 0 am at_ aa mt_ 0 (-1) wt wy (nI it_) (nI rm) (nI ud) (nI nu) sd (nI qn) (nI qw) qo (nI qb) (nI qp2) qa (nI qi) (nI oc))), (g 24, .inl (cI, 6, .inl (l6 u0 u1 u2 u3 u4 (nI ca)))), (g 25, .inl (cI, 6, .inl (l6 v0 v1 v2 v3 v4 (nI cb)))), (g 26, .inl (cI, 3200, .inl (fun j => nI (cs j)))), (g 31, .inl (cI, 120, .inl nw)), (g 46, .inl (cI, 9, .inl (fun j => nI (pt j)))), (g 86, .inl (cJ, 1700, .inr (.inl ql2)))])) := by
  refine skM_of (by decide +kernel) (Nat.le_of_ble_eq_true rfl) ?_
  intro p e s m below meth c A ls E hP hD hl
  obtain ⟨hx, hb, hr, hml, hlocks, hin, hown, hts, hK, hA⟩ := E
  have hown : s.vm.findClass RX12 = some m.cls := hown
  have hS : va_S A s.heap s.heap [] := va_S.rf
  have hl : lv_has ls 5 [(0, .ref mm), (1, .int 2), (2, .int (nI d))] := hl
  refine lv_aload_n hx hb dX12_codesTell_0 rfl (lv_at hl 0 rfl) ?_
  refine lv_iload_n hx hb dX12_codesTell_1 rfl (lv_at hl 1 rfl) ?_
  refine lv_iconst (v := 1) hx hb dX12_codesTell_2 (by decide) ?_
  refine lv_icmp_ne (tgt := 10) hx hb dX12_codesTell_3 (by decide) (fun c_1 => ?_) (fun c => absurd c (by decide))
  refine lv_iconst (v := 0) hx hb dX12_codesTell_10 (by decide) ?_
  refine sk_put (ws' := [(mm, .inr (12, mo g (nI ta) (nI pa) (nI pe) pd (nI pb) pp pf pg pn rt rn (nI cd) sn (nI il) 0 am at_ aa mt_ 0 (-1) wt wy (nI it_) (nI rm) (nI ud) (nI nu) sd (nI qn) (nI qw) qo (nI qb) (nI qp) qa (nI qi) (nI oc))), (g 24, .inl (cI, 6, .inl (l6 u0 u1 u2 u3 u4 (nI ca)))), (g 25, .inl (cI, 6, .inl (l6 v0 v1 v2 v3 v4 (nI cb)))), (g 26, .inl (cI, 3200, .inl (fun j => nI (cs j)))), (g 31, .inl (cI, 120, .inl nw)), (g 46, .inl (cI, 9, .inl (fun j => nI (pt j)))), (g 86, .inl (cJ, 1700, .inr (.inl ql)))]) (C := RX12) (T := TX12) (N := 92) (v := .int 0) hx hb hts inlX12 tyX12 tyX12_ok nmX12 hown hK hP hD hS 0 rfl rfl 30 (by decide) w_5_185 rfl rfl rfl (Nat.le_of_ble_eq_true rfl) rfl dX12_codesTell_11 (fun H locs hP hD hS => ?_)
  refine lv_aload_n hx hb dX12_codesTell_14 rfl (lv_at hl 0 rfl) ?_
  refine lv_iconst (v := 0) hx hb dX12_codesTell_15 (by decide) ?_
  refine sk_put (ws' := [(mm, .inr (12, mo g (nI ta) (nI pa) (nI pe) pd (nI pb) pp pf pg pn rt rn (nI cd) sn (nI il) 0 am at_ aa mt_ 0 (-1) wt wy (nI it_) (nI rm) (nI ud) (nI nu) sd (nI qn) (nI qw) qo (nI qb) 0 qa (nI qi) (nI oc))), (g 24, .inl (cI, 6, .inl (l6 u0 u1 u2 u3 u4 (nI ca)))), (g 25, .inl (cI, 6, .inl (l6 v0 v1 v2 v3 v4 (nI cb)))), (g 26, .inl (cI, 3200, .inl (fun j => nI (cs j)))), (g 31, .inl (cI, 120, .inl nw)), (g 46, .inl (cI, 9, .inl (fun j => nI (pt j)))), (g 86, .inl (cJ, 1700, .inr (.inl ql)))]) (C := RX12) (T := TX12) (N := 92) (v := .int 0) hx hb hts inlX12 tyX12 tyX12_ok nmX12 hown hK hP hD hS 0 rfl rfl 87 (by decide) w_6_2 rfl rfl rfl (Nat.le_of_ble_eq_true rfl) rfl dX12_codesTell_16 (fun H locs hP hD hS => ?_)
  refine lv_aload_n hx hb dX12_codesTell_19 rfl (lv_at hl 0 rfl) ?_
  refine sk_get (v := .ref (g 24)) (C := RX12) (T := TX12) (N := 92) hx hb hts inlX12 hown hK hP 0 rfl rfl 24 (by decide) w_5_179 rfl dX12_codesTell_20 ?_
  refine lv_iconst (v := 3) hx hb dX12_codesTell_23 (by decide) ?_
  refine lv_iload_n hx hb dX12_codesTell_24 rfl (lv_at hl 1 rfl) ?_
  refine lv_iadd hx hb dX12_codesTell_25 ?_
  refine sk_top 5 (by decide) ?_
  refine va_iald hx hb hK.1 hP 1 0 rfl rfl (by unfold vp_in; decide) dX12_codesTell_26 ?_
  refine sk_top (nI ca) rfl ?_
  refine lv_istore_n (lv' := [(3, .int (nI ca)), (0, .ref mm), (1, .int 2), (2, .int (nI d))]) hx hb dX12_codesTell_27 rfl hl (by decide) rfl (fun ls hl => ?_)
  have lp_2 : ∀ (n_3 : Nat) (i : Nat) (zq : Nat) (zl : Nat → Int64) (SS : List Int64) (H : Heap) (locs : List Loc) (ls : Array Slot), cb - i < n_3 → (ca ≤ i) → (i ≤ cb) → (zq = SS.length) → (zq ≤ 64) → (stkO zl SS) → (kcNs kn (kcSub K (i, cb))) → (kcEx nm 64 (kcSub K (i, cb)) SS = some [v]) → va_P D vwCl [(mm, .inr (12, mo g (nI ta) (nI pa) (nI pe) pd (nI pb) pp pf pg pn rt rn (nI cd) sn (nI il) 0 am at_ aa mt_ 0 (-1) wt wy (nI it_) (nI rm) (nI ud) (nI nu) sd (nI qn) (nI qw) qo (nI qb) (nI zq) qa (nI qi) (nI oc))), (g 24, .inl (cI, 6, .inl (l6 u0 u1 u2 u3 u4 (nI ca)))), (g 25, .inl (cI, 6, .inl (l6 v0 v1 v2 v3 v4 (nI cb)))), (g 26, .inl (cI, 3200, .inl (fun j => nI (cs j)))), (g 31, .inl (cI, 120, .inl nw)), (g 46, .inl (cI, 9, .inl (fun j => nI (pt j)))), (g 86, .inl (cJ, 1700, .inr (.inl zl)))] H → va_D A [(mm, .inr (12, mo g (nI ta) (nI pa) (nI pe) pd (nI pb) pp pf pg pn rt rn (nI cd) sn (nI il) 0 am at_ aa mt_ 0 (-1) wt wy (nI it_) (nI rm) (nI ud) (nI nu) sd (nI qn) (nI qw) qo (nI qb) (nI zq) qa (nI qi) (nI oc))), (g 24, .inl (cI, 6, .inl (l6 u0 u1 u2 u3 u4 (nI ca)))), (g 25, .inl (cI, 6, .inl (l6 v0 v1 v2 v3 v4 (nI cb)))), (g 26, .inl (cI, 3200, .inl (fun j => nI (cs j)))), (g 31, .inl (cI, 120, .inl nw)), (g 46, .inl (cI, 9, .inl (fun j => nI (pt j)))), (g 86, .inl (cJ, 1700, .inr (.inl zl)))] → va_S A s.heap H locs → lv_has ls 5 [(3, .int (nI i)), (0, .ref mm), (1, .int 2), (2, .int (nI d))] → W p l e { frames := 2, cells := 0, slots := 0, locals := 50 } s m ([.ref mm, .int 2, .int (nI d)] : List Value).toArray below meth c H locs 0 0 (MQ below (skL D (skT cI cJ cC cZ cS) (fun (r : Int64) (u : va_W) => ∃ (qp2 : Nat), ∃ (ql2 : Nat → Int64), r = v ∧ u = [(mm, .inr (12, mo g (nI ta) (nI pa) (nI pe) pd (nI pb) pp pf pg pn rt rn (nI cd) sn (nI il) 0 am at_ aa mt_ 0 (-1) wt wy (nI it_) (nI rm) (nI ud) (nI nu) sd (nI qn) (nI qw) qo (nI qb) (nI qp2) qa (nI qi) (nI oc))), (g 24, .inl (cI, 6, .inl (l6 u0 u1 u2 u3 u4 (nI ca)))), (g 25, .inl (cI, 6, .inl (l6 v0 v1 v2 v3 v4 (nI cb)))), (g 26, .inl (cI, 3200, .inl (fun j => nI (cs j)))), (g 31, .inl (cI, 120, .inl nw)), (g 46, .inl (cI, 9, .inl (fun j => nI (pt j)))), (g 86, .inl (cJ, 1700, .inr (.inl ql2)))]) A) ([.ref mm, .int 2, .int (nI d)] : List Value).toArray s 0 0 A) (F0 m 28 ls []) := by
    intro n_3
    induction n_3 with
    | zero => intro i zq zl SS H locs ls hm; exact absurd hm (Nat.not_lt_zero _)
    | succ n_3 ih_lp_2 =>
      intro i zq zl SS H locs ls hm hi1 hi2 hzq0 hzq1 hst hns2 hex2 hP hD hS hl
      refine lv_iload_n hx hb dX12_codesTell_28 rfl (lv_at hl 0 rfl) ?_
      refine lv_aload_n hx hb dX12_codesTell_29 rfl (lv_at hl 1 rfl) ?_
      refine sk_get (v := .ref (g 25)) (C := RX12) (T := TX12) (N := 92) hx hb hts inlX12 hown hK hP 0 rfl rfl 25 (by decide) w_5_180 rfl dX12_codesTell_30 ?_
      refine lv_iconst (v := 3) hx hb dX12_codesTell_33 (by decide) ?_
      refine lv_iload_n hx hb dX12_codesTell_34 rfl (lv_at hl 2 rfl) ?_
      refine lv_iadd hx hb dX12_codesTell_35 ?_
      refine sk_top 5 (by decide) ?_
      refine va_iald hx hb hK.1 hP 2 0 rfl rfl (by unfold vp_in; decide) dX12_codesTell_36 ?_
      refine sk_top (nI cb) rfl ?_
      refine lv_icmp_ge (tgt := 110) hx hb dX12_codesTell_37 (by decide) (fun c_4 => ?_) (fun c_4 => ?_)
      · have c_4 : cb ≤ i := (nle cb i (by omega) (by omega)).mp c_4
        obtain rfl := kx_end hex2 (by omega)
        have htp3 : zq = 1 := hzq0
        refine lv_aload_n hx hb dX12_codesTell_110 rfl (lv_at hl 1 rfl) ?_
        refine sk_get (v := .ref (g 86)) (C := RX12) (T := TX12) (N := 92) hx hb hts inlX12 hown hK hP 0 rfl rfl 86 (by decide) w_6_1 rfl dX12_codesTell_111 ?_
        refine lv_iconst (v := 0) hx hb dX12_codesTell_114 (by decide) ?_
        refine va_lald hx hb hK.1 hP 6 1 rfl rfl (by unfold vp_in; decide) dX12_codesTell_115 ?_
        refine sk_topl v (hst.1) ?_
        exact sk_lret hx hb hr hlocks hK hP hD hS (⟨zq, zl, rfl, rfl⟩) (Nat.le_of_ble_eq_true rfl) (Nat.le_of_ble_eq_true rfl) dX12_codesTell_116
      · have c_4 : ¬ (cb ≤ i) := fun h => c_4 ((nle cb i (by omega) (by omega)).mpr h)
        have hib : i < cb := by omega
        rw [kcSub_c hib (by omega), ← hKc i (by omega)] at hex2 hns2
        have hns3 : kcNs kn (kcSub K (i + 1, cb)) := fun x hx => hns2 x (List.mem_cons_of_mem _ hx)
        obtain ⟨T, hT1, hT2, hT3⟩ := kcEx_c hex2
        rcases kx_c3 hkn (hns2 _ (List.mem_cons_self ..)) with ⟨hc1, hc2⟩ | ⟨hc1, hc2⟩ | ⟨hc1, hc2⟩
        · obtain ⟨b1, a1, R1, rfl, rfl⟩ := kcSt_two (by omega) hT1
          have htp2 : zq = R1.length + 2 := hzq0
          refine lv_aload_n hx hb dX12_codesTell_40 rfl (lv_at hl 1 rfl) ?_
          refine sk_get (v := .ref (g 26)) (C := RX12) (T := TX12) (N := 92) hx hb hts inlX12 hown hK hP 0 rfl rfl 26 (by decide) w_5_181 rfl dX12_codesTell_41 ?_
          refine lv_sipush (v := 1600) hx hb dX12_codesTell_44 (by decide) ?_
          refine lv_iload_n hx hb dX12_codesTell_47 rfl (lv_at hl 0 rfl) ?_
          refine lv_iadd hx hb dX12_codesTell_48 ?_
          refine sk_top (nI (1600 + i)) (nI_add 1600 i) ?_
          refine va_iald hx hb hK.1 hP 3 0 rfl rfl (vin (1600 + i) 3200 (by omega) (by omega)) dX12_codesTell_49 ?_
          refine sk_top (nI (cs (1600 + i))) (nrd cs (1600 + i) (by omega)) ?_
          have hb_5 := hcs (1600 + i)
          refine lv_istore (lv' := [(4, .int (nI (cs (1600 + i)))), (3, .int (nI i)), (0, .ref mm), (1, .int 2), (2, .int (nI d))]) hx hb dX12_codesTell_50 hl (by decide) rfl (fun ls hl => ?_)
          refine lv_iload hx hb dX12_codesTell_52 (lv_at hl 0 rfl) ?_
          refine lv_sipush (v := 1000) hx hb dX12_codesTell_54 (by decide) ?_
          refine lv_icmp_lt (tgt := 74) hx hb dX12_codesTell_57 (by decide) (fun c_6 => ?_) (fun c => absurd ((nlt (cs (1600 + i)) 1000 (by omega) (by omega)).mpr (by omega)) c)
          refine lv_iload hx hb dX12_codesTell_74 (lv_at hl 0 rfl) ?_
          refine lv_bipush (v := 40) hx hb dX12_codesTell_76 (by decide) ?_
          refine lv_icmp_lt (tgt := 98) hx hb dX12_codesTell_78 (by decide) (fun c_7 => ?_) (fun c => absurd ((nlt (cs (1600 + i)) 40 (by omega) (by omega)).mpr (by omega)) c)
          refine lv_aload_n hx hb dX12_codesTell_98 rfl (lv_at hl 2 rfl) ?_
          refine lv_iload hx hb dX12_codesTell_99 (lv_at hl 0 rfl) ?_
          refine sk_Vv (q0 := 0) (n := 1) (rest := []) (wr := [(g 24, .inl (cI, 6, .inl (l6 u0 u1 u2 u3 u4 (nI ca)))), (g 25, .inl (cI, 6, .inl (l6 v0 v1 v2 v3 v4 (nI cb)))), (g 26, .inl (cI, 3200, .inl (fun j => nI (cs j)))), (g 31, .inl (cI, 120, .inl nw)), (g 46, .inl (cI, 9, .inl (fun j => nI (pt j))))]) ⟨hx, hb, hml, hown, hts⟩ hl.1 (c_nm_qJoins l D cI cJ cC cZ cS mm g ta pa pe pd pb pp pf pg pn rt rn cd sn il 0 am at_ aa mt_ wt wy it_ rm ud nu sd qn qw qo qb zq qa qi oc (cs (1600 + i)) zl a1 b1 R1 (by omega) (by omega) hst (by omega) (by omega)) w_7_156 w_7_158 w_0_80 w_1_14 w_7_159 (by decide +kernel) ⟨⟨(Nat.le_of_ble_eq_true rfl), (Nat.le_of_ble_eq_true rfl)⟩, (Nat.le_of_ble_eq_true rfl), (Nat.le_of_ble_eq_true rfl)⟩ hK hP hD hS hA [0, 6] [1, 2, 3, 4, 5] rfl rfl (by decide +kernel) (by decide +kernel) (by decide +kernel) rfl rfl rfl rfl (Nat.le_of_ble_eq_true rfl) dX12_codesTell_101 (fun u H locs hw hP hD hS => ?_)
          obtain ⟨ql2_8, hst2_9, rfl⟩ := hw
          have hP : va_P D vwCl [(g 24, .inl (cI, 6, .inl (l6 u0 u1 u2 u3 u4 (nI ca)))), (g 25, .inl (cI, 6, .inl (l6 v0 v1 v2 v3 v4 (nI cb)))), (g 26, .inl (cI, 3200, .inl (fun j => nI (cs j)))), (g 31, .inl (cI, 120, .inl nw)), (g 46, .inl (cI, 9, .inl (fun j => nI (pt j)))), (mm, .inr (12, mo g (nI ta) (nI pa) (nI pe) pd (nI pb) pp pf pg pn rt rn (nI cd) sn (nI il) 0 am at_ aa mt_ 0 (-1) wt wy (nI it_) (nI rm) (nI ud) (nI nu) sd (nI qn) (nI qw) qo (nI qb) (nI (zq - 2 + 1)) qa (nI qi) (nI oc))), (g 86, .inl (cJ, 1700, .inr (.inl ql2_8)))] H := hP
          have hD : va_D A [(g 24, .inl (cI, 6, .inl (l6 u0 u1 u2 u3 u4 (nI ca)))), (g 25, .inl (cI, 6, .inl (l6 v0 v1 v2 v3 v4 (nI cb)))), (g 26, .inl (cI, 3200, .inl (fun j => nI (cs j)))), (g 31, .inl (cI, 120, .inl nw)), (g 46, .inl (cI, 9, .inl (fun j => nI (pt j)))), (mm, .inr (12, mo g (nI ta) (nI pa) (nI pe) pd (nI pb) pp pf pg pn rt rn (nI cd) sn (nI il) 0 am at_ aa mt_ 0 (-1) wt wy (nI it_) (nI rm) (nI ud) (nI nu) sd (nI qn) (nI qw) qo (nI qb) (nI (zq - 2 + 1)) qa (nI qi) (nI oc))), (g 86, .inl (cJ, 1700, .inr (.inl ql2_8)))] := hD
          refine lv_iinc (v := nI (i + 1)) (lv' := [(3, .int (nI (i + 1))), (4, .int (nI (cs (1600 + i)))), (0, .ref mm), (1, .int 2), (2, .int (nI d))]) hx hb dX12_codesTell_104 hl (k := 1) rfl (ninc i 1 (by decide)) (by decide) rfl (fun ls hl => ?_)
          refine lv_goto (tgt := 28) hx hb dX12_codesTell_107 (by decide) ?_
          have hP := hP.sub (ws' := [(mm, .inr (12, mo g (nI ta) (nI pa) (nI pe) pd (nI pb) pp pf pg pn rt rn (nI cd) sn (nI il) 0 am at_ aa mt_ 0 (-1) wt wy (nI it_) (nI rm) (nI ud) (nI nu) sd (nI qn) (nI qw) qo (nI qb) (nI (zq - 2 + 1)) qa (nI qi) (nI oc))), (g 24, .inl (cI, 6, .inl (l6 u0 u1 u2 u3 u4 (nI ca)))), (g 25, .inl (cI, 6, .inl (l6 v0 v1 v2 v3 v4 (nI cb)))), (g 26, .inl (cI, 3200, .inl (fun j => nI (cs j)))), (g 31, .inl (cI, 120, .inl nw)), (g 46, .inl (cI, 9, .inl (fun j => nI (pt j)))), (g 86, .inl (cJ, 1700, .inr (.inl ql2_8)))]) [5, 0, 1, 2, 3, 4, 6] rfl
          have hD := hD.sub (ws' := [(mm, .inr (12, mo g (nI ta) (nI pa) (nI pe) pd (nI pb) pp pf pg pn rt rn (nI cd) sn (nI il) 0 am at_ aa mt_ 0 (-1) wt wy (nI it_) (nI rm) (nI ud) (nI nu) sd (nI qn) (nI qw) qo (nI qb) (nI (zq - 2 + 1)) qa (nI qi) (nI oc))), (g 24, .inl (cI, 6, .inl (l6 u0 u1 u2 u3 u4 (nI ca)))), (g 25, .inl (cI, 6, .inl (l6 v0 v1 v2 v3 v4 (nI cb)))), (g 26, .inl (cI, 3200, .inl (fun j => nI (cs j)))), (g 31, .inl (cI, 120, .inl nw)), (g 46, .inl (cI, 9, .inl (fun j => nI (pt j)))), (g 86, .inl (cJ, 1700, .inr (.inl ql2_8)))]) [5, 0, 1, 2, 3, 4, 6] (by decide +kernel) rfl
          exact ih_lp_2 (i + 1) (zq - 2 + 1) ql2_8 (kcOp (cs (1600 + i)) a1 b1 :: R1) _ _ _ (by omega) (by omega) (by omega) (show _ = R1.length + 1 by omega) (by omega) hst2_9 hns3 hT3 hP hD hS (lv_sub hl [0, 2, 3, 4] rfl)
        · rw [kcSt_num (by omega)] at hT1
          obtain rfl := Option.some.inj hT1
          have htp2 : SS.length + 1 ≤ 64 := hT2
          refine lv_aload_n hx hb dX12_codesTell_40 rfl (lv_at hl 1 rfl) ?_
          refine sk_get (v := .ref (g 26)) (C := RX12) (T := TX12) (N := 92) hx hb hts inlX12 hown hK hP 0 rfl rfl 26 (by decide) w_5_181 rfl dX12_codesTell_41 ?_
          refine lv_sipush (v := 1600) hx hb dX12_codesTell_44 (by decide) ?_
          refine lv_iload_n hx hb dX12_codesTell_47 rfl (lv_at hl 0 rfl) ?_
          refine lv_iadd hx hb dX12_codesTell_48 ?_
          refine sk_top (nI (1600 + i)) (nI_add 1600 i) ?_
          refine va_iald hx hb hK.1 hP 3 0 rfl rfl (vin (1600 + i) 3200 (by omega) (by omega)) dX12_codesTell_49 ?_
          refine sk_top (nI (cs (1600 + i))) (nrd cs (1600 + i) (by omega)) ?_
          have hb_10 := hcs (1600 + i)
          refine lv_istore (lv' := [(4, .int (nI (cs (1600 + i)))), (3, .int (nI i)), (0, .ref mm), (1, .int 2), (2, .int (nI d))]) hx hb dX12_codesTell_50 hl (by decide) rfl (fun ls hl => ?_)
          refine lv_iload hx hb dX12_codesTell_52 (lv_at hl 0 rfl) ?_
          refine lv_sipush (v := 1000) hx hb dX12_codesTell_54 (by decide) ?_
          refine lv_icmp_lt (tgt := 74) hx hb dX12_codesTell_57 (by decide) (fun c => absurd ((nlt (cs (1600 + i)) 1000 (by omega) (by omega)).mp c) (by omega)) (fun c_11 => ?_)
          refine lv_aload_n hx hb dX12_codesTell_60 rfl (lv_at hl 2 rfl) ?_
          refine lv_iload hx hb dX12_codesTell_61 (lv_at hl 0 rfl) ?_
          refine lv_sipush (v := 1000) hx hb dX12_codesTell_63 (by decide) ?_
          refine lv_isub hx hb dX12_codesTell_66 ?_
          refine sk_top (nI (cs (1600 + i) - 1000)) (nsub (cs (1600 + i)) 1000 (by omega)) ?_
          refine lv_i2l hx hb dX12_codesTell_67 rfl ?_
          refine sk_Vv (q0 := 0) (n := 1) (rest := []) (wr := [(g 24, .inl (cI, 6, .inl (l6 u0 u1 u2 u3 u4 (nI ca)))), (g 25, .inl (cI, 6, .inl (l6 v0 v1 v2 v3 v4 (nI cb)))), (g 26, .inl (cI, 3200, .inl (fun j => nI (cs j)))), (g 31, .inl (cI, 120, .inl nw)), (g 46, .inl (cI, 9, .inl (fun j => nI (pt j))))]) ⟨hx, hb, hml, hown, hts⟩ hl.1 (c_nm_qPuts l D cI cJ cC cZ cS mm g ta pa pe pd pb pp pf pg pn rt rn cd sn il 0 am at_ aa mt_ wt wy it_ rm ud nu sd qn qw qo qb zq qa qi oc (Int32.toInt64 (nI (cs (1600 + i) - 1000))) zl (by omega)) w_7_139 w_7_141 w_0_76 w_1_14 w_7_142 (by decide +kernel) ⟨⟨(Nat.le_of_ble_eq_true rfl), (Nat.le_of_ble_eq_true rfl)⟩, (Nat.le_of_ble_eq_true rfl), (Nat.le_of_ble_eq_true rfl)⟩ hK hP hD hS hA [0, 6] [1, 2, 3, 4, 5] rfl rfl (by decide +kernel) (by decide +kernel) (by decide +kernel) rfl rfl rfl rfl (Nat.le_of_ble_eq_true rfl) dX12_codesTell_68 (fun u H locs hw hP hD hS => ?_)
          obtain ⟨ql2_12, hql_13, rfl⟩ := hw
          have hP : va_P D vwCl [(g 24, .inl (cI, 6, .inl (l6 u0 u1 u2 u3 u4 (nI ca)))), (g 25, .inl (cI, 6, .inl (l6 v0 v1 v2 v3 v4 (nI cb)))), (g 26, .inl (cI, 3200, .inl (fun j => nI (cs j)))), (g 31, .inl (cI, 120, .inl nw)), (g 46, .inl (cI, 9, .inl (fun j => nI (pt j)))), (mm, .inr (12, mo g (nI ta) (nI pa) (nI pe) pd (nI pb) pp pf pg pn rt rn (nI cd) sn (nI il) 0 am at_ aa mt_ 0 (-1) wt wy (nI it_) (nI rm) (nI ud) (nI nu) sd (nI qn) (nI qw) qo (nI qb) (nI (zq + 1)) qa (nI qi) (nI oc))), (g 86, .inl (cJ, 1700, .inr (.inl ql2_12)))] H := hP
          have hD : va_D A [(g 24, .inl (cI, 6, .inl (l6 u0 u1 u2 u3 u4 (nI ca)))), (g 25, .inl (cI, 6, .inl (l6 v0 v1 v2 v3 v4 (nI cb)))), (g 26, .inl (cI, 3200, .inl (fun j => nI (cs j)))), (g 31, .inl (cI, 120, .inl nw)), (g 46, .inl (cI, 9, .inl (fun j => nI (pt j)))), (mm, .inr (12, mo g (nI ta) (nI pa) (nI pe) pd (nI pb) pp pf pg pn rt rn (nI cd) sn (nI il) 0 am at_ aa mt_ 0 (-1) wt wy (nI it_) (nI rm) (nI ud) (nI nu) sd (nI qn) (nI qw) qo (nI qb) (nI (zq + 1)) qa (nI qi) (nI oc))), (g 86, .inl (cJ, 1700, .inr (.inl ql2_12)))] := hD
          have hs_14 := stk_push hst hzq0 hql_13 (kx_i2l (by omega))
          refine lv_goto (tgt := 104) hx hb dX12_codesTell_71 (by decide) ?_
          refine lv_iinc (v := nI (i + 1)) (lv' := [(3, .int (nI (i + 1))), (4, .int (nI (cs (1600 + i)))), (0, .ref mm), (1, .int 2), (2, .int (nI d))]) hx hb dX12_codesTell_104 hl (k := 1) rfl (ninc i 1 (by decide)) (by decide) rfl (fun ls hl => ?_)
          refine lv_goto (tgt := 28) hx hb dX12_codesTell_107 (by decide) ?_
          have hP := hP.sub (ws' := [(mm, .inr (12, mo g (nI ta) (nI pa) (nI pe) pd (nI pb) pp pf pg pn rt rn (nI cd) sn (nI il) 0 am at_ aa mt_ 0 (-1) wt wy (nI it_) (nI rm) (nI ud) (nI nu) sd (nI qn) (nI qw) qo (nI qb) (nI (zq + 1)) qa (nI qi) (nI oc))), (g 24, .inl (cI, 6, .inl (l6 u0 u1 u2 u3 u4 (nI ca)))), (g 25, .inl (cI, 6, .inl (l6 v0 v1 v2 v3 v4 (nI cb)))), (g 26, .inl (cI, 3200, .inl (fun j => nI (cs j)))), (g 31, .inl (cI, 120, .inl nw)), (g 46, .inl (cI, 9, .inl (fun j => nI (pt j)))), (g 86, .inl (cJ, 1700, .inr (.inl ql2_12)))]) [5, 0, 1, 2, 3, 4, 6] rfl
          have hD := hD.sub (ws' := [(mm, .inr (12, mo g (nI ta) (nI pa) (nI pe) pd (nI pb) pp pf pg pn rt rn (nI cd) sn (nI il) 0 am at_ aa mt_ 0 (-1) wt wy (nI it_) (nI rm) (nI ud) (nI nu) sd (nI qn) (nI qw) qo (nI qb) (nI (zq + 1)) qa (nI qi) (nI oc))), (g 24, .inl (cI, 6, .inl (l6 u0 u1 u2 u3 u4 (nI ca)))), (g 25, .inl (cI, 6, .inl (l6 v0 v1 v2 v3 v4 (nI cb)))), (g 26, .inl (cI, 3200, .inl (fun j => nI (cs j)))), (g 31, .inl (cI, 120, .inl nw)), (g 46, .inl (cI, 9, .inl (fun j => nI (pt j)))), (g 86, .inl (cJ, 1700, .inr (.inl ql2_12)))]) [5, 0, 1, 2, 3, 4, 6] (by decide +kernel) rfl
          exact ih_lp_2 (i + 1) (zq + 1) ql2_12 (Int64.ofNat (cs (1600 + i) - 1000) :: SS) _ _ _ (by omega) (by omega) (by omega) (show _ = SS.length + 1 by omega) (by omega) hs_14 hns3 hT3 hP hD hS (lv_sub hl [0, 2, 3, 4] rfl)
        · rw [kcSt_nm (by omega) (by omega)] at hT1
          obtain rfl := Option.some.inj hT1
          have htp2 : SS.length + 1 ≤ 64 := hT2
          refine lv_aload_n hx hb dX12_codesTell_40 rfl (lv_at hl 1 rfl) ?_
          refine sk_get (v := .ref (g 26)) (C := RX12) (T := TX12) (N := 92) hx hb hts inlX12 hown hK hP 0 rfl rfl 26 (by decide) w_5_181 rfl dX12_codesTell_41 ?_
          refine lv_sipush (v := 1600) hx hb dX12_codesTell_44 (by decide) ?_
          refine lv_iload_n hx hb dX12_codesTell_47 rfl (lv_at hl 0 rfl) ?_
          refine lv_iadd hx hb dX12_codesTell_48 ?_
          refine sk_top (nI (1600 + i)) (nI_add 1600 i) ?_
          refine va_iald hx hb hK.1 hP 3 0 rfl rfl (vin (1600 + i) 3200 (by omega) (by omega)) dX12_codesTell_49 ?_
          refine sk_top (nI (cs (1600 + i))) (nrd cs (1600 + i) (by omega)) ?_
          have hb_15 := hcs (1600 + i)
          refine lv_istore (lv' := [(4, .int (nI (cs (1600 + i)))), (3, .int (nI i)), (0, .ref mm), (1, .int 2), (2, .int (nI d))]) hx hb dX12_codesTell_50 hl (by decide) rfl (fun ls hl => ?_)
          refine lv_iload hx hb dX12_codesTell_52 (lv_at hl 0 rfl) ?_
          refine lv_sipush (v := 1000) hx hb dX12_codesTell_54 (by decide) ?_
          refine lv_icmp_lt (tgt := 74) hx hb dX12_codesTell_57 (by decide) (fun c_16 => ?_) (fun c => absurd ((nlt (cs (1600 + i)) 1000 (by omega) (by omega)).mpr (by omega)) c)
          refine lv_iload hx hb dX12_codesTell_74 (lv_at hl 0 rfl) ?_
          refine lv_bipush (v := 40) hx hb dX12_codesTell_76 (by decide) ?_
          refine lv_icmp_lt (tgt := 98) hx hb dX12_codesTell_78 (by decide) (fun c => absurd ((nlt (cs (1600 + i)) 40 (by omega) (by omega)).mp c) (by omega)) (fun c_17 => ?_)
          refine lv_aload_n hx hb dX12_codesTell_81 rfl (lv_at hl 2 rfl) ?_
          refine lv_aload_n hx hb dX12_codesTell_82 rfl (lv_at hl 2 rfl) ?_
          refine lv_iload hx hb dX12_codesTell_83 (lv_at hl 0 rfl) ?_
          refine lv_bipush (v := 40) hx hb dX12_codesTell_85 (by decide) ?_
          refine lv_isub hx hb dX12_codesTell_87 ?_
          refine sk_top (nI (cs (1600 + i) - 40)) (nsub (cs (1600 + i)) 40 (by omega)) ?_
          refine lv_iload_n hx hb dX12_codesTell_88 rfl (lv_at hl 4 rfl) ?_
          refine sk_Vl (q0 := 0) (n := 2) (rest := [.ref mm]) (wr := [(g 24, .inl (cI, 6, .inl (l6 u0 u1 u2 u3 u4 (nI ca)))), (g 25, .inl (cI, 6, .inl (l6 v0 v1 v2 v3 v4 (nI cb)))), (g 26, .inl (cI, 3200, .inl (fun j => nI (cs j)))), (g 86, .inl (cJ, 1700, .inr (.inl zl)))]) ⟨hx, hb, hml, hown, hts⟩ hl.1 (c_nm_qPartOf l D cI cJ cC cZ cS mm g ta pa pe pd pb pp pf pg pn rt rn cd sn il 0 am at_ aa mt_ wt wy it_ rm ud nu sd qn qw qo qb zq qa qi oc (cs (1600 + i) - 40) d nw pt nm (by omega) (by omega) hnm hnw hpt) w_7_143 w_7_145 w_0_77 w_1_14 w_7_146 (by decide +kernel) ⟨⟨(Nat.le_of_ble_eq_true rfl), (Nat.le_of_ble_eq_true rfl)⟩, (Nat.le_of_ble_eq_true rfl), (Nat.le_of_ble_eq_true rfl)⟩ hK hP hD hS hA [0, 4, 5] [1, 2, 3, 6] rfl rfl (by decide +kernel) (by decide +kernel) (by decide +kernel) rfl rfl rfl rfl (Nat.le_of_ble_eq_true rfl) dX12_codesTell_89 (fun r_18 u H locs hw hP hD hS => ?_)
          obtain ⟨hr_19, rfl⟩ := hw
          have hP : va_P D vwCl [(g 24, .inl (cI, 6, .inl (l6 u0 u1 u2 u3 u4 (nI ca)))), (g 25, .inl (cI, 6, .inl (l6 v0 v1 v2 v3 v4 (nI cb)))), (g 26, .inl (cI, 3200, .inl (fun j => nI (cs j)))), (g 86, .inl (cJ, 1700, .inr (.inl zl))), (mm, .inr (12, mo g (nI ta) (nI pa) (nI pe) pd (nI pb) pp pf pg pn rt rn (nI cd) sn (nI il) 0 am at_ aa mt_ 0 (-1) wt wy (nI it_) (nI rm) (nI ud) (nI nu) sd (nI qn) (nI qw) qo (nI qb) (nI zq) qa (nI qi) (nI oc))), (g 31, .inl (cI, 120, .inl nw)), (g 46, .inl (cI, 9, .inl (fun j => nI (pt j))))] H := hP
          have hD : va_D A [(g 24, .inl (cI, 6, .inl (l6 u0 u1 u2 u3 u4 (nI ca)))), (g 25, .inl (cI, 6, .inl (l6 v0 v1 v2 v3 v4 (nI cb)))), (g 26, .inl (cI, 3200, .inl (fun j => nI (cs j)))), (g 86, .inl (cJ, 1700, .inr (.inl zl))), (mm, .inr (12, mo g (nI ta) (nI pa) (nI pe) pd (nI pb) pp pf pg pn rt rn (nI cd) sn (nI il) 0 am at_ aa mt_ 0 (-1) wt wy (nI it_) (nI rm) (nI ud) (nI nu) sd (nI qn) (nI qw) qo (nI qb) (nI zq) qa (nI qi) (nI oc))), (g 31, .inl (cI, 120, .inl nw)), (g 46, .inl (cI, 9, .inl (fun j => nI (pt j))))] := hD
          subst hr_19
          refine sk_Vv (q0 := 0) (n := 1) (rest := []) (wr := [(g 24, .inl (cI, 6, .inl (l6 u0 u1 u2 u3 u4 (nI ca)))), (g 25, .inl (cI, 6, .inl (l6 v0 v1 v2 v3 v4 (nI cb)))), (g 26, .inl (cI, 3200, .inl (fun j => nI (cs j)))), (g 31, .inl (cI, 120, .inl nw)), (g 46, .inl (cI, 9, .inl (fun j => nI (pt j))))]) ⟨hx, hb, hml, hown, hts⟩ hl.1 (c_nm_qPuts l D cI cJ cC cZ cS mm g ta pa pe pd pb pp pf pg pn rt rn cd sn il 0 am at_ aa mt_ wt wy it_ rm ud nu sd qn qw qo qb zq qa qi oc (nm (cs (1600 + i) - 40)) zl (by omega)) w_7_139 w_7_141 w_0_76 w_1_14 w_7_142 (by decide +kernel) ⟨⟨(Nat.le_of_ble_eq_true rfl), (Nat.le_of_ble_eq_true rfl)⟩, (Nat.le_of_ble_eq_true rfl), (Nat.le_of_ble_eq_true rfl)⟩ hK hP hD hS hA [4, 3] [0, 1, 2, 5, 6] rfl rfl (by decide +kernel) (by decide +kernel) (by decide +kernel) rfl rfl rfl rfl (Nat.le_of_ble_eq_true rfl) dX12_codesTell_92 (fun u H locs hw hP hD hS => ?_)
          obtain ⟨ql2_20, hql_21, rfl⟩ := hw
          have hP : va_P D vwCl [(g 24, .inl (cI, 6, .inl (l6 u0 u1 u2 u3 u4 (nI ca)))), (g 25, .inl (cI, 6, .inl (l6 v0 v1 v2 v3 v4 (nI cb)))), (g 26, .inl (cI, 3200, .inl (fun j => nI (cs j)))), (g 31, .inl (cI, 120, .inl nw)), (g 46, .inl (cI, 9, .inl (fun j => nI (pt j)))), (mm, .inr (12, mo g (nI ta) (nI pa) (nI pe) pd (nI pb) pp pf pg pn rt rn (nI cd) sn (nI il) 0 am at_ aa mt_ 0 (-1) wt wy (nI it_) (nI rm) (nI ud) (nI nu) sd (nI qn) (nI qw) qo (nI qb) (nI (zq + 1)) qa (nI qi) (nI oc))), (g 86, .inl (cJ, 1700, .inr (.inl ql2_20)))] H := hP
          have hD : va_D A [(g 24, .inl (cI, 6, .inl (l6 u0 u1 u2 u3 u4 (nI ca)))), (g 25, .inl (cI, 6, .inl (l6 v0 v1 v2 v3 v4 (nI cb)))), (g 26, .inl (cI, 3200, .inl (fun j => nI (cs j)))), (g 31, .inl (cI, 120, .inl nw)), (g 46, .inl (cI, 9, .inl (fun j => nI (pt j)))), (mm, .inr (12, mo g (nI ta) (nI pa) (nI pe) pd (nI pb) pp pf pg pn rt rn (nI cd) sn (nI il) 0 am at_ aa mt_ 0 (-1) wt wy (nI it_) (nI rm) (nI ud) (nI nu) sd (nI qn) (nI qw) qo (nI qb) (nI (zq + 1)) qa (nI qi) (nI oc))), (g 86, .inl (cJ, 1700, .inr (.inl ql2_20)))] := hD
          have hs_22 := stk_push hst hzq0 hql_21 rfl
          refine lv_goto (tgt := 104) hx hb dX12_codesTell_95 (by decide) ?_
          refine lv_iinc (v := nI (i + 1)) (lv' := [(3, .int (nI (i + 1))), (4, .int (nI (cs (1600 + i)))), (0, .ref mm), (1, .int 2), (2, .int (nI d))]) hx hb dX12_codesTell_104 hl (k := 1) rfl (ninc i 1 (by decide)) (by decide) rfl (fun ls hl => ?_)
          refine lv_goto (tgt := 28) hx hb dX12_codesTell_107 (by decide) ?_
          have hP := hP.sub (ws' := [(mm, .inr (12, mo g (nI ta) (nI pa) (nI pe) pd (nI pb) pp pf pg pn rt rn (nI cd) sn (nI il) 0 am at_ aa mt_ 0 (-1) wt wy (nI it_) (nI rm) (nI ud) (nI nu) sd (nI qn) (nI qw) qo (nI qb) (nI (zq + 1)) qa (nI qi) (nI oc))), (g 24, .inl (cI, 6, .inl (l6 u0 u1 u2 u3 u4 (nI ca)))), (g 25, .inl (cI, 6, .inl (l6 v0 v1 v2 v3 v4 (nI cb)))), (g 26, .inl (cI, 3200, .inl (fun j => nI (cs j)))), (g 31, .inl (cI, 120, .inl nw)), (g 46, .inl (cI, 9, .inl (fun j => nI (pt j)))), (g 86, .inl (cJ, 1700, .inr (.inl ql2_20)))]) [5, 0, 1, 2, 3, 4, 6] rfl
          have hD := hD.sub (ws' := [(mm, .inr (12, mo g (nI ta) (nI pa) (nI pe) pd (nI pb) pp pf pg pn rt rn (nI cd) sn (nI il) 0 am at_ aa mt_ 0 (-1) wt wy (nI it_) (nI rm) (nI ud) (nI nu) sd (nI qn) (nI qw) qo (nI qb) (nI (zq + 1)) qa (nI qi) (nI oc))), (g 24, .inl (cI, 6, .inl (l6 u0 u1 u2 u3 u4 (nI ca)))), (g 25, .inl (cI, 6, .inl (l6 v0 v1 v2 v3 v4 (nI cb)))), (g 26, .inl (cI, 3200, .inl (fun j => nI (cs j)))), (g 31, .inl (cI, 120, .inl nw)), (g 46, .inl (cI, 9, .inl (fun j => nI (pt j)))), (g 86, .inl (cJ, 1700, .inr (.inl ql2_20)))]) [5, 0, 1, 2, 3, 4, 6] (by decide +kernel) rfl
          exact ih_lp_2 (i + 1) (zq + 1) ql2_20 (nm (cs (1600 + i) - 40) :: SS) _ _ _ (by omega) (by omega) (by omega) (show _ = SS.length + 1 by omega) (by omega) hs_22 hns3 hT3 hP hD hS (lv_sub hl [0, 2, 3, 4] rfl)
  exact lp_2 (cb - ca + 1) ca 0 ql ([]) _ _ _ (Nat.lt_succ_self _) (by omega) (by omega) rfl (by omega) True.intro hns hex hP hD hS (lv_sub hl [0, 1, 2, 3] rfl)
