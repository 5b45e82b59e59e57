section KwZ
variable {p : Program} {l : Launch} {e : Env} {R : Room} {s : State} {m : MethodId} {args : Array Value} {below : List Frame} {meth : Method} {c : Code} {H : Heap} {locs : List Loc} {cells slots : Nat} {Q : State → Prop}
variable {cc : ByteArray} {pc : Nat} {ls : Array Slot} {rest : List Value} {D : va_G} {tys : List (ClassId × FieldType)} {ws : va_W} {A : Nat → Prop} {H0 : Heap} {a : Nat}
theorem sk_zastE (hexec : p.tables.exec = Jvm.exec) (hb : c.code = cc) (hK : skK D tys s) (hP : va_P D vwCl ws H) (hD : va_D A ws) (hS : va_S A H0 H locs) (q0 t0 : Nat) {cA : ClassId} {n : Nat} {f : Nat → Int32} {ws' : (Nat → Int32) → va_W} (ha : ws[q0]? = some (a, .inl (cA, n, .inl f))) (ht : tys[t0]? = some (cA, .boolean)) {k : Nat} {x y : Int32} (hk : k < n) (hn : n < 2147483648) (hw' : ∀ f', ws.set q0 (a, .inl (cA, n, .inl f')) = ws' f') (hy : vp_nar .boolean x = y) (hdg : decode cc pc = .ok (.bastore, 1))
    (kk : ∀ (f' : Nat → Int32) (H1 : Heap) (locs1 : List Loc), f' = upd f k y → va_P D vwCl (ws' f') H1 → va_D A (ws' f') → va_S A H0 H1 locs1 → W p l e R s m args below meth c H1 locs1 cells slots Q (F0 m (pc + 1) ls rest)) : W p l e R s m args below meth c H locs cells slots Q (F0 m pc ls (.int x :: .int (nI k) :: .ref a :: rest)) :=
  va_zast hexec hb hK.1 hP hD hS q0 t0 ha ht (vin k n hk hn) hdg (fun H1 locs1 h1 h2 h3 => kk _ H1 locs1 (by rw [nI_clamp (by omega), hy]) ((hw' _) ▸ h1) ((hw' _) ▸ h2) h3)
end KwZ
theorem kw_said {L : LkS} {wk b w d m : Nat} (hm : m < 10) (h : lG L 0 = none) : m = kcSaid L wk b w d m := by
  unfold kcSaid
  rw [kcV_none (by decide) h, if_neg (by decide)]
  exact (kten_n hm).symm
theorem kw_said2 {L : LkS} {nm : Nat → Int64} {wk b w d m : Nat} (hL : kcLk L) (h : ∀ j, j < 5 → nm j = kcNm wk b w d m 0 0 j) : kcTen (kcV L 0 nm) = kcSaid L wk b w d m := by
  unfold kcSaid
  rw [kcV_cg (w := 0) (nm2 := kcNm wk b w d m 0 0) hL (by decide) h]
theorem kw_bec {L : LkS} {wk b w d m t al : Nat} (ht : t < 10) (h : lG L 1 = none) : t = kcBec L wk b w d m t al := by
  unfold kcBec
  rw [kcV_none (by decide) h, if_pos rfl]
  exact (kten_n ht).symm
/-! the days, laid -/
def mlS (L : LkS) (wk : Nat) (B W : Nat → Nat) (li d : Nat) (f : Nat → Int32) (n : Nat) : Prop := ∀ m, m < n → f (10 * d + m) = nI ((kcSaid L wk (B d) (W d) d m + li) % 10)
def kone (q : Prop) [Decidable q] : Int32 := if q then 1 else 0
def mlW (L : LkS) (wk : Nat) (B W : Nat → Nat) (li d a m : Nat) : Int32 := kone (kcBec L wk (B d) (W d) d a ((kcSaid L wk (B d) (W d) d m + li) % 10) 0 = m)
def mlO (L : LkS) (wk : Nat) (B W : Nat → Nat) (d a m : Nat) : Int32 := kone (kcBec L wk (B d) (W d) d a 0 1 = m)
set_option maxHeartbeats 4000000 in
set_option maxRecDepth 100000 in
theorem c_nm_wordOf (l : Launch) (D : va_G) (cI cJ cC cZ cS : ClassId) (mm : Nat) (g : Nat → Nat) (ta : Nat) (pa : Nat) (pe : Nat) (pd : Int32) (pb : Nat) (pp : Int32) (pf : Int32) (pg : Int32) (pn : Int32) (rt : Int32) (rn : Int32) (cd : Nat) (sn : Int32) (il : Nat) (tk : Int32) (am : Int32) (at_ : Int32) (aa : Int32) (mt_ : Int32) (wt : Int32) (wy : Int64) (it_ : Nat) (rm : Nat) (ud : Nat) (nu : Nat) (sd : Int64) (qn : Nat) (qw : Nat) (qo : Int32) (qb : Nat) (qp : Nat) (qa : Int64) (qi : Nat) (oc : Nat) (d : Nat) (mq : Nat) (u0 : Int32) (u1 : Int32) (u2 : Int32) (u3 : Int32) (u4 : Int32) (u5 : Int32) (v0 : Int32) (v1 : Int32) (v2 : Int32) (v3 : Int32) (v4 : Int32) (v5 : Int32) (cs : Nat → Nat) (nw : Nat → Int32) (pt : Nat → Nat) (ql : Nat → Int64) (L : LkS) (wk : Nat) (b : Nat) (w : Nat) (hd : d < 9) (hm : mq < 10) (hLk : kcLk L) (hkl : (lK L).length ≤ 1600) (hmd : mdO nw wk b w d) (hwk : wk ≤ 999) (hb9 : b ≤ 9) (hw9 : w ≤ 9) (hmw0 : mwO L 0 u3 v3 cs) (hcs : ∀ j, cs j ≤ 20000) (hnw : nowOk nw) (hpt : ∀ j, pt j ≤ 9) : skM l yX12_wordOf cX12_wordOf 3 (some .int) 3 74 0 0 D (skT cI cJ cC cZ cS) [.ref mm, .int (nI d), .int (nI mq)] [(mm, .inr (12, mo g (nI ta) (nI pa) (nI pe) pd (nI pb) pp pf pg pn rt rn (nI cd) sn (nI il) tk am at_ aa mt_ 0 (-1) wt wy (nI it_) (nI rm) (nI ud) (nI nu) sd (nI qn) (nI qw) qo (nI qb) (nI qp) qa (nI qi) (nI oc))), (g 24, .inl (cI, 6, .inl (l6 u0 u1 u2 u3 u4 u5))), (g 25, .inl (cI, 6, .inl (l6 v0 v1 v2 v3 v4 v5))), (g 26, .inl (cI, 3200, .inl (fun j => nI (cs j)))), (g 31, .inl (cI, 120, .inl nw)), (g 46, .inl (cI, 9, .inl (fun j => nI (pt j)))), (g 86, .inl (cJ, 1700, .inr (.inl ql)))] (skI D (skT cI cJ cC cZ cS) (fun (r : Int32) (u : va_W) => ∃ (v : Nat), ∃ (tk2 : Int32), ∃ (qp2 : Nat), ∃ (am2 : Int32), ∃ (ql2 : Nat → Int64), v = kcSaid L wk b w d mq ∧ r = nI v ∧ u = [(mm, .inr (12, mo g (nI ta) (nI pa) (nI pe) pd (nI pb) pp pf pg pn rt rn (nI cd) sn (nI il) tk2 am2 at_ aa mt_ 0 (-1) wt wy (nI it_) (nI rm) (nI ud) (nI nu) sd (nI qn) (nI qw) qo (nI qb) (nI qp2) qa (nI qi) (nI oc))), (g 24, .inl (cI, 6, .inl (l6 u0 u1 u2 u3 u4 u5))), (g 25, .inl (cI, 6, .inl (l6 v0 v1 v2 v3 v4 v5))), (g 26, .inl (cI, 3200, .inl (fun j => nI (cs j)))), (g 31, .inl (cI, 120, .inl nw)), (g 46, .inl (cI, 9, .inl (fun j => nI (pt j)))), (g 86, .inl (cJ, 1700, .inr (.inl ql2)))])) := by
  refine skM_of pf_X12_wordOf (Nat.le_of_ble_eq_true rfl) ?_
  intro p e s m below meth c A ls E hP hD hl
  refine skE_el E (fun hx hb hr hml hlocks hin hown hts hK hA => ?_)
  have hown : s.vm.findClass RX12 = some m.cls := hown
  have hS : va_S A s.heap s.heap [] := va_S.rf
  have hl : lv_has ls 3 [(0, .ref mm), (1, .int (nI d)), (2, .int (nI mq))] := hl
  refine lv_aload_n hx hb dX12_wordOf_0 rfl (lv_at hl 0 rfl) ?_
  refine sk_get (v := .ref (g 24)) (C := RX12) (T := TX12) (N := 92) hx hb hts inlX12 hown hK hP 0 rfl rfl 24 (by decide) w_5_179 rfl dX12_wordOf_1 ?_
  refine lv_iconst (v := 3) hx hb dX12_wordOf_4 (by decide) ?_
  refine va_iald hx hb hK.1 hP 1 0 rfl rfl (by unfold vp_in; decide) dX12_wordOf_5 ?_
  refine sk_top u3 rfl ?_
  refine lv_iconst (v := (-1)) hx hb dX12_wordOf_6 (by decide) ?_
  refine lv_icmp_ne (tgt := 12) hx hb dX12_wordOf_7 (by decide) (fun c_1 => ?_) (fun c_1 => ?_)
  · skip
    refine lv_aload_n hx hb dX12_wordOf_12 rfl (lv_at hl 0 rfl) ?_
    refine lv_iload_n hx hb dX12_wordOf_13 rfl (lv_at hl 2 rfl) ?_
    refine sk_put (ws' := [(mm, .inr (12, mo g (nI ta) (nI pa) (nI pe) pd (nI pb) pp pf pg pn rt rn (nI cd) sn (nI il) tk (nI mq) at_ aa mt_ 0 (-1) wt wy (nI it_) (nI rm) (nI ud) (nI nu) sd (nI qn) (nI qw) qo (nI qb) (nI qp) qa (nI qi) (nI oc))), (g 24, .inl (cI, 6, .inl (l6 u0 u1 u2 u3 u4 u5))), (g 25, .inl (cI, 6, .inl (l6 v0 v1 v2 v3 v4 v5))), (g 26, .inl (cI, 3200, .inl (fun j => nI (cs j)))), (g 31, .inl (cI, 120, .inl nw)), (g 46, .inl (cI, 9, .inl (fun j => nI (pt j)))), (g 86, .inl (cJ, 1700, .inr (.inl ql)))]) (C := RX12) (T := TX12) (N := 92) (v := .int (nI mq)) hx hb hts inlX12 tyX12 tyX12_ok nmX12 hown hK hP hD hS 0 rfl rfl 33 (by decide) w_5_188 rfl rfl rfl (Nat.le_of_ble_eq_true rfl) rfl dX12_wordOf_14 (fun H locs hP hD hS => ?_)
    refine lv_aload_n hx hb dX12_wordOf_17 rfl (lv_at hl 0 rfl) ?_
    refine lv_iconst (v := 0) hx hb dX12_wordOf_18 (by decide) ?_
    refine lv_iload_n hx hb dX12_wordOf_19 rfl (lv_at hl 1 rfl) ?_
    obtain ⟨ca, cb, rfl, rfl, hab_, hbk_, hKc_, hG_⟩ := mw_some hLk hmw0 c_1
    obtain ⟨nm, hnm, hn5⟩ := mn_any (am := nI mq) (at_ := at_) (aa := aa) hmd rfl (by omega) (by omega) (by omega) (by omega) (by omega)
    refine sk_Vl (q0 := 0) (n := 2) (rest := []) (wr := fmR om_7_7f _) ⟨hx, hb, hml, hown, hts⟩ hl.1 (c_nm_codesTell0 l D cI cJ cC cZ cS mm g ta pa pe pd pb pp pf pg pn rt rn cd sn il tk (nI mq) at_ aa mt_ wt wy it_ rm ud nu sd qn qw qo qb qp qa qi oc d u0 u1 u2 u4 u5 ca v0 v1 v2 v4 v5 cb cs nw pt ql (lK L) nm (kcV L 0 nm) 0 (by omega) hab_ hbk_ hkl hKc_ (by decide) (kw_ns hLk rfl hG_) hnm (kw_ex hLk (by decide) hG_ nm) hcs hnw hpt) w_7_135 w_7_137 w_0_75 w_1_14 w_7_138 hd_X12_codesTell_2 ⟨⟨(Nat.le_of_ble_eq_true rfl), (Nat.le_of_ble_eq_true rfl)⟩, (Nat.le_of_ble_eq_true rfl), (Nat.le_of_ble_eq_true rfl)⟩ hK hP hD hS hA (fmT om_7_7f 0) (fmF om_7_7f 0) (fm_C1 rfl rfl) (fm_R rfl rfl) (fm_nT om_7_7f 0) (fm_nF om_7_7f 0) (fm_di om_7_7f 0) rfl rfl rfl rfl (Nat.le_of_ble_eq_true rfl) dX12_wordOf_20 (fun r_4 u H locs hw hP hD hS => ?_)
    refine exE hw (fun qp2_2 hw1 => exE hw1 (fun ql2_3 hw2 => anE hw2 (fun er_6 eu_5 => ?_)))
    clear hw hw1 hw2
    subst er_6
    refine o_mgE (ws' := [(mm, .inr (12, mo g (nI ta) (nI pa) (nI pe) pd (nI pb) pp pf pg pn rt rn (nI cd) sn (nI il) 0 (nI mq) at_ aa mt_ 0 (-1) wt wy (nI it_) (nI rm) (nI ud) (nI nu) sd (nI qn) (nI qw) qo (nI qb) (nI qp2_2) qa (nI qi) (nI oc))), (g 24, .inl (cI, 6, .inl (l6 u0 u1 u2 (nI ca) u4 u5))), (g 25, .inl (cI, 6, .inl (l6 v0 v1 v2 (nI cb) v4 v5))), (g 26, .inl (cI, 3200, .inl (fun j => nI (cs j)))), (g 31, .inl (cI, 120, .inl nw)), (g 46, .inl (cI, 9, .inl (fun j => nI (pt j)))), (g 86, .inl (cJ, 1700, .inr (.inl ql2_3)))]) eu_5 hP hD rfl (fun hP hD => ?_)
    refine sk_Si (n := 1) (rest := []) (wr := [(mm, .inr (12, mo g (nI ta) (nI pa) (nI pe) pd (nI pb) pp pf pg pn rt rn (nI cd) sn (nI il) 0 (nI mq) at_ aa mt_ 0 (-1) wt wy (nI it_) (nI rm) (nI ud) (nI nu) sd (nI qn) (nI qw) qo (nI qb) (nI qp2_2) qa (nI qi) (nI oc))), (g 24, .inl (cI, 6, .inl (l6 u0 u1 u2 (nI ca) u4 u5))), (g 25, .inl (cI, 6, .inl (l6 v0 v1 v2 (nI cb) v4 v5))), (g 26, .inl (cI, 3200, .inl (fun j => nI (cs j)))), (g 31, .inl (cI, 120, .inl nw)), (g 46, .inl (cI, 9, .inl (fun j => nI (pt j)))), (g 86, .inl (cJ, 1700, .inr (.inl ql2_3)))]) ⟨hx, hb, hml, hown, hts⟩ hl.1 (c_nm_byTen l D cI cJ cC cZ cS (kcV L 0 nm)) w_7_168 w_7_169 w_1_14 w_7_170 hd_X12_byTen_1 ⟨⟨(Nat.le_of_ble_eq_true rfl), (Nat.le_of_ble_eq_true rfl)⟩, (Nat.le_of_ble_eq_true rfl), (Nat.le_of_ble_eq_true rfl)⟩ hK hP hD hS hA [] [0, 1, 2, 3, 4, 5, 6] rfl rfl (by decide +kernel) (by decide +kernel) (by decide +kernel) rfl rfl (Nat.le_of_ble_eq_true rfl) dX12_wordOf_23 (fun r_7 u H locs hw hP hD hS => ?_)
    obtain ⟨rfl, rfl⟩ := hw
    refine o_re (ws' := [(mm, .inr (12, mo g (nI ta) (nI pa) (nI pe) pd (nI pb) pp pf pg pn rt rn (nI cd) sn (nI il) 0 (nI mq) at_ aa mt_ 0 (-1) wt wy (nI it_) (nI rm) (nI ud) (nI nu) sd (nI qn) (nI qw) qo (nI qb) (nI qp2_2) qa (nI qi) (nI oc))), (g 24, .inl (cI, 6, .inl (l6 u0 u1 u2 (nI ca) u4 u5))), (g 25, .inl (cI, 6, .inl (l6 v0 v1 v2 (nI cb) v4 v5))), (g 26, .inl (cI, 3200, .inl (fun j => nI (cs j)))), (g 31, .inl (cI, 120, .inl nw)), (g 46, .inl (cI, 9, .inl (fun j => nI (pt j)))), (g 86, .inl (cJ, 1700, .inr (.inl ql2_3)))]) hP hD rfl (fun hP hD => ?_)
    exact sk_iret hx hb hr rfl hlocks hK hP hD hS (⟨kcTen (kcV L 0 nm), 0, qp2_2, nI mq, ql2_3, kw_said2 hLk hn5, rfl, rfl⟩) (Nat.le_of_ble_eq_true rfl) (Nat.le_of_ble_eq_true rfl) dX12_wordOf_26
  · skip
    refine lv_iload_n hx hb dX12_wordOf_10 rfl (lv_at hl 2 rfl) ?_
    exact sk_iret hx hb hr rfl hlocks hK hP hD hS (⟨mq, tk, qp, am, ql, kw_said hm (mw_none hLk hkl hmw0 c_1), rfl, rfl⟩) (Nat.le_of_ble_eq_true rfl) (Nat.le_of_ble_eq_true rfl) dX12_wordOf_11
set_option maxHeartbeats 4000000 in
set_option maxRecDepth 100000 in
theorem c_nm_becomesBy0 (l : Launch) (D : va_G) (cI cJ cC cZ cS : ClassId) (mm : Nat) (g : Nat → Nat) (ta : Nat) (pa : Nat) (pe : Nat) (pd : Int32) (pb : Nat) (pp : Int32) (pf : Int32) (pg : Int32) (pn : Int32) (rt : Int32) (rn : Int32) (cd : Nat) (sn : Int32) (il : Nat) (tk : Int32) (am : Int32) (at_ : Int32) (aa : Int32) (mt_ : Int32) (wt : Int32) (wy : Int64) (it_ : Nat) (rm : Nat) (ud : Nat) (nu : Nat) (sd : Int64) (qn : Nat) (qw : Nat) (qo : Int32) (qb : Nat) (qp : Nat) (qa : Int64) (qi : Nat) (oc : Nat) (d : Nat) (mq : Nat) (t : Nat) (u0 : Int32) (u1 : Int32) (u2 : Int32) (u3 : Int32) (u4 : Int32) (u5 : Int32) (v0 : Int32) (v1 : Int32) (v2 : Int32) (v3 : Int32) (v4 : Int32) (v5 : Int32) (cs : Nat → Nat) (nw : Nat → Int32) (pt : Nat → Nat) (ql : Nat → Int64) (L : LkS) (wk : Nat) (b : Nat) (w : Nat) (hd : d < 9) (hm : mq < 10) (ht : t < 10) (hLk : kcLk L) (hkl : (lK L).length ≤ 1600) (hmd : mdO nw wk b w d) (hwk : wk ≤ 999) (hb9 : b ≤ 9) (hw9 : w ≤ 9) (hmw1 : mwO L 1 u4 v4 cs) (hcs : ∀ j, cs j ≤ 20000) (hnw : nowOk nw) (hpt : ∀ j, pt j ≤ 9) : skM l yX12_becomesBy cX12_becomesBy 5 (some .int) 3 74 0 0 D (skT cI cJ cC cZ cS) [.ref mm, .int (nI d), .int (nI mq), .int (nI t), .int 0] [(mm, .inr (12, mo g (nI ta) (nI pa) (nI pe) pd (nI pb) pp pf pg pn rt rn (nI cd) sn (nI il) tk am at_ aa mt_ 0 (-1) wt wy (nI it_) (nI rm) (nI ud) (nI nu) sd (nI qn) (nI qw) qo (nI qb) (nI qp) qa (nI qi) (nI oc))), (g 24, .inl (cI, 6, .inl (l6 u0 u1 u2 u3 u4 u5))), (g 25, .inl (cI, 6, .inl (l6 v0 v1 v2 v3 v4 v5))), (g 26, .inl (cI, 3200, .inl (fun j => nI (cs j)))), (g 31, .inl (cI, 120, .inl nw)), (g 46, .inl (cI, 9, .inl (fun j => nI (pt j)))), (g 86, .inl (cJ, 1700, .inr (.inl ql)))] (skI D (skT cI cJ cC cZ cS) (fun (r : Int32) (u : va_W) => ∃ (v : Nat), ∃ (tk2 : Int32), ∃ (qp2 : Nat), ∃ (am2 : Int32), ∃ (at_2 : Int32), ∃ (aa2 : Int32), ∃ (ql2 : Nat → Int64), v = kcBec L wk b w d mq t 0 ∧ r = nI v ∧ u = [(mm, .inr (12, mo g (nI ta) (nI pa) (nI pe) pd (nI pb) pp pf pg pn rt rn (nI cd) sn (nI il) tk2 am2 at_2 aa2 mt_ 0 (-1) wt wy (nI it_) (nI rm) (nI ud) (nI nu) sd (nI qn) (nI qw) qo (nI qb) (nI qp2) qa (nI qi) (nI oc))), (g 24, .inl (cI, 6, .inl (l6 u0 u1 u2 u3 u4 u5))), (g 25, .inl (cI, 6, .inl (l6 v0 v1 v2 v3 v4 v5))), (g 26, .inl (cI, 3200, .inl (fun j => nI (cs j)))), (g 31, .inl (cI, 120, .inl nw)), (g 46, .inl (cI, 9, .inl (fun j => nI (pt j)))), (g 86, .inl (cJ, 1700, .inr (.inl ql2)))])) := by
  refine skM_of pf_X12_becomesBy (Nat.le_of_ble_eq_true rfl) ?_
  intro p e s m below meth c A ls E hP hD hl
  refine skE_el E (fun hx hb hr hml hlocks hin hown hts hK hA => ?_)
  have hown : s.vm.findClass RX12 = some m.cls := hown
  have hS : va_S A s.heap s.heap [] := va_S.rf
  have hl : lv_has ls 5 [(0, .ref mm), (1, .int (nI d)), (2, .int (nI mq)), (3, .int (nI t)), (4, .int 0)] := hl
  refine lv_aload_n hx hb dX12_becomesBy_0 rfl (lv_at hl 0 rfl) ?_
  refine lv_iload_n hx hb dX12_becomesBy_1 rfl (lv_at hl 2 rfl) ?_
  refine sk_put (ws' := [(mm, .inr (12, mo g (nI ta) (nI pa) (nI pe) pd (nI pb) pp pf pg pn rt rn (nI cd) sn (nI il) tk (nI mq) at_ aa mt_ 0 (-1) wt wy (nI it_) (nI rm) (nI ud) (nI nu) sd (nI qn) (nI qw) qo (nI qb) (nI qp) qa (nI qi) (nI oc))), (g 24, .inl (cI, 6, .inl (l6 u0 u1 u2 u3 u4 u5))), (g 25, .inl (cI, 6, .inl (l6 v0 v1 v2 v3 v4 v5))), (g 26, .inl (cI, 3200, .inl (fun j => nI (cs j)))), (g 31, .inl (cI, 120, .inl nw)), (g 46, .inl (cI, 9, .inl (fun j => nI (pt j)))), (g 86, .inl (cJ, 1700, .inr (.inl ql)))]) (C := RX12) (T := TX12) (N := 92) (v := .int (nI mq)) hx hb hts inlX12 tyX12 tyX12_ok nmX12 hown hK hP hD hS 0 rfl rfl 33 (by decide) w_5_188 rfl rfl rfl (Nat.le_of_ble_eq_true rfl) rfl dX12_becomesBy_2 (fun H locs hP hD hS => ?_)
  refine lv_aload_n hx hb dX12_becomesBy_5 rfl (lv_at hl 0 rfl) ?_
  refine lv_iload hx hb dX12_becomesBy_6 (lv_at hl 4 rfl) ?_
  refine lv_if_eq (tgt := 15) hx hb dX12_becomesBy_8 (by decide) (fun c_1 => ?_) (fun c => absurd c (by decide))
  refine lv_iload_n hx hb dX12_becomesBy_15 rfl (lv_at hl 3 rfl) ?_
  refine sk_put (ws' := [(mm, .inr (12, mo g (nI ta) (nI pa) (nI pe) pd (nI pb) pp pf pg pn rt rn (nI cd) sn (nI il) tk (nI mq) (nI t) aa mt_ 0 (-1) wt wy (nI it_) (nI rm) (nI ud) (nI nu) sd (nI qn) (nI qw) qo (nI qb) (nI qp) qa (nI qi) (nI oc))), (g 24, .inl (cI, 6, .inl (l6 u0 u1 u2 u3 u4 u5))), (g 25, .inl (cI, 6, .inl (l6 v0 v1 v2 v3 v4 v5))), (g 26, .inl (cI, 3200, .inl (fun j => nI (cs j)))), (g 31, .inl (cI, 120, .inl nw)), (g 46, .inl (cI, 9, .inl (fun j => nI (pt j)))), (g 86, .inl (cJ, 1700, .inr (.inl ql)))]) (C := RX12) (T := TX12) (N := 92) (v := .int (nI t)) hx hb hts inlX12 tyX12 tyX12_ok nmX12 hown hK hP hD hS 0 rfl rfl 34 (by decide) w_5_189 rfl rfl rfl (Nat.le_of_ble_eq_true rfl) rfl dX12_becomesBy_16 (fun H locs hP hD hS => ?_)
  refine lv_aload_n hx hb dX12_becomesBy_19 rfl (lv_at hl 0 rfl) ?_
  refine lv_iload hx hb dX12_becomesBy_20 (lv_at hl 4 rfl) ?_
  refine lv_if_eq (tgt := 29) hx hb dX12_becomesBy_22 (by decide) (fun c_2 => ?_) (fun c => absurd c (by decide))
  refine lv_iconst (v := 0) hx hb dX12_becomesBy_29 (by decide) ?_
  refine sk_put (ws' := [(mm, .inr (12, mo g (nI ta) (nI pa) (nI pe) pd (nI pb) pp pf pg pn rt rn (nI cd) sn (nI il) tk (nI mq) (nI t) 0 mt_ 0 (-1) wt wy (nI it_) (nI rm) (nI ud) (nI nu) sd (nI qn) (nI qw) qo (nI qb) (nI qp) qa (nI qi) (nI oc))), (g 24, .inl (cI, 6, .inl (l6 u0 u1 u2 u3 u4 u5))), (g 25, .inl (cI, 6, .inl (l6 v0 v1 v2 v3 v4 v5))), (g 26, .inl (cI, 3200, .inl (fun j => nI (cs j)))), (g 31, .inl (cI, 120, .inl nw)), (g 46, .inl (cI, 9, .inl (fun j => nI (pt j)))), (g 86, .inl (cJ, 1700, .inr (.inl ql)))]) (C := RX12) (T := TX12) (N := 92) (v := .int 0) hx hb hts inlX12 tyX12 tyX12_ok nmX12 hown hK hP hD hS 0 rfl rfl 35 (by decide) w_5_190 rfl rfl rfl (Nat.le_of_ble_eq_true rfl) rfl dX12_becomesBy_30 (fun H locs hP hD hS => ?_)
  refine lv_aload_n hx hb dX12_becomesBy_33 rfl (lv_at hl 0 rfl) ?_
  refine sk_get (v := .ref (g 24)) (C := RX12) (T := TX12) (N := 92) hx hb hts inlX12 hown hK hP 0 rfl rfl 24 (by decide) w_5_179 rfl dX12_becomesBy_34 ?_
  refine lv_iconst (v := 4) hx hb dX12_becomesBy_37 (by decide) ?_
  refine va_iald hx hb hK.1 hP 1 0 rfl rfl (by unfold vp_in; decide) dX12_becomesBy_38 ?_
  refine sk_top u4 rfl ?_
  refine lv_iconst (v := (-1)) hx hb dX12_becomesBy_39 (by decide) ?_
  refine lv_icmp_ne (tgt := 50) hx hb dX12_becomesBy_40 (by decide) (fun c_3 => ?_) (fun c_3 => ?_)
  · skip
    refine lv_aload_n hx hb dX12_becomesBy_50 rfl (lv_at hl 0 rfl) ?_
    refine lv_iconst (v := 1) hx hb dX12_becomesBy_51 (by decide) ?_
    refine lv_iload_n hx hb dX12_becomesBy_52 rfl (lv_at hl 1 rfl) ?_
    obtain ⟨ca, cb, rfl, rfl, hab_, hbk_, hKc_, hG_⟩ := mw_some hLk hmw1 c_3
    have hnm := mn_of (m := mq) (t := t) (al := 0) hmd rfl rfl rfl (by omega) (by omega) (by omega) (by omega) (by omega) (by omega) (by omega)
    generalize hq9 : kcNm wk b w d mq t 0 = nm at hnm
    refine sk_Vl (q0 := 0) (n := 2) (rest := []) (wr := fmR om_7_7f _) ⟨hx, hb, hml, hown, hts⟩ hl.1 (c_nm_codesTell1 l D cI cJ cC cZ cS mm g ta pa pe pd pb pp pf pg pn rt rn cd sn il tk (nI mq) (nI t) 0 mt_ wt wy it_ rm ud nu sd qn qw qo qb qp qa qi oc d u0 u1 u2 u3 u5 ca v0 v1 v2 v3 v5 cb cs nw pt ql (lK L) nm (kcV L 1 nm) 1 (by omega) hab_ hbk_ hkl hKc_ (by decide) (kw_ns hLk rfl hG_) hnm (kw_ex hLk (by decide) hG_ nm) hcs hnw hpt) w_7_135 w_7_137 w_0_75 w_1_14 w_7_138 hd_X12_codesTell_2 ⟨⟨(Nat.le_of_ble_eq_true rfl), (Nat.le_of_ble_eq_true rfl)⟩, (Nat.le_of_ble_eq_true rfl), (Nat.le_of_ble_eq_true rfl)⟩ hK hP hD hS hA (fmT om_7_7f 0) (fmF om_7_7f 0) (fm_C1 rfl rfl) (fm_R rfl rfl) (fm_nT om_7_7f 0) (fm_nF om_7_7f 0) (fm_di om_7_7f 0) rfl rfl rfl rfl (Nat.le_of_ble_eq_true rfl) dX12_becomesBy_53 (fun r_6 u H locs hw hP hD hS => ?_)
    refine exE hw (fun qp2_4 hw1 => exE hw1 (fun ql2_5 hw2 => anE hw2 (fun er_8 eu_7 => ?_)))
    clear hw hw1 hw2
    subst er_8
    refine o_mgE (ws' := [(mm, .inr (12, mo g (nI ta) (nI pa) (nI pe) pd (nI pb) pp pf pg pn rt rn (nI cd) sn (nI il) 1 (nI mq) (nI t) 0 mt_ 0 (-1) wt wy (nI it_) (nI rm) (nI ud) (nI nu) sd (nI qn) (nI qw) qo (nI qb) (nI qp2_4) qa (nI qi) (nI oc))), (g 24, .inl (cI, 6, .inl (l6 u0 u1 u2 u3 (nI ca) u5))), (g 25, .inl (cI, 6, .inl (l6 v0 v1 v2 v3 (nI cb) v5))), (g 26, .inl (cI, 3200, .inl (fun j => nI (cs j)))), (g 31, .inl (cI, 120, .inl nw)), (g 46, .inl (cI, 9, .inl (fun j => nI (pt j)))), (g 86, .inl (cJ, 1700, .inr (.inl ql2_5)))]) eu_7 hP hD rfl (fun hP hD => ?_)
    refine sk_Si (n := 1) (rest := []) (wr := [(mm, .inr (12, mo g (nI ta) (nI pa) (nI pe) pd (nI pb) pp pf pg pn rt rn (nI cd) sn (nI il) 1 (nI mq) (nI t) 0 mt_ 0 (-1) wt wy (nI it_) (nI rm) (nI ud) (nI nu) sd (nI qn) (nI qw) qo (nI qb) (nI qp2_4) qa (nI qi) (nI oc))), (g 24, .inl (cI, 6, .inl (l6 u0 u1 u2 u3 (nI ca) u5))), (g 25, .inl (cI, 6, .inl (l6 v0 v1 v2 v3 (nI cb) v5))), (g 26, .inl (cI, 3200, .inl (fun j => nI (cs j)))), (g 31, .inl (cI, 120, .inl nw)), (g 46, .inl (cI, 9, .inl (fun j => nI (pt j)))), (g 86, .inl (cJ, 1700, .inr (.inl ql2_5)))]) ⟨hx, hb, hml, hown, hts⟩ hl.1 (c_nm_byTen l D cI cJ cC cZ cS (kcV L 1 nm)) w_7_168 w_7_169 w_1_14 w_7_170 hd_X12_byTen_1 ⟨⟨(Nat.le_of_ble_eq_true rfl), (Nat.le_of_ble_eq_true rfl)⟩, (Nat.le_of_ble_eq_true rfl), (Nat.le_of_ble_eq_true rfl)⟩ hK hP hD hS hA [] [0, 1, 2, 3, 4, 5, 6] rfl rfl (by decide +kernel) (by decide +kernel) (by decide +kernel) rfl rfl (Nat.le_of_ble_eq_true rfl) dX12_becomesBy_56 (fun r_9 u H locs hw hP hD hS => ?_)
    obtain ⟨rfl, rfl⟩ := hw
    refine o_re (ws' := [(mm, .inr (12, mo g (nI ta) (nI pa) (nI pe) pd (nI pb) pp pf pg pn rt rn (nI cd) sn (nI il) 1 (nI mq) (nI t) 0 mt_ 0 (-1) wt wy (nI it_) (nI rm) (nI ud) (nI nu) sd (nI qn) (nI qw) qo (nI qb) (nI qp2_4) qa (nI qi) (nI oc))), (g 24, .inl (cI, 6, .inl (l6 u0 u1 u2 u3 (nI ca) u5))), (g 25, .inl (cI, 6, .inl (l6 v0 v1 v2 v3 (nI cb) v5))), (g 26, .inl (cI, 3200, .inl (fun j => nI (cs j)))), (g 31, .inl (cI, 120, .inl nw)), (g 46, .inl (cI, 9, .inl (fun j => nI (pt j)))), (g 86, .inl (cJ, 1700, .inr (.inl ql2_5)))]) hP hD rfl (fun hP hD => ?_)
    exact sk_iret hx hb hr rfl hlocks hK hP hD hS (⟨kcTen (kcV L 1 nm), 1, qp2_4, nI mq, nI t, 0, ql2_5, (by rw [← hq9]; rfl), rfl, rfl⟩) (Nat.le_of_ble_eq_true rfl) (Nat.le_of_ble_eq_true rfl) dX12_becomesBy_59
  · skip
    refine lv_aload_n hx hb dX12_becomesBy_43 rfl (lv_at hl 0 rfl) ?_
    refine sk_get (v := .int (nI t)) (C := RX12) (T := TX12) (N := 92) hx hb hts inlX12 hown hK hP 0 rfl rfl 34 (by decide) w_5_189 rfl dX12_becomesBy_44 ?_
    refine lv_goto (tgt := 59) hx hb dX12_becomesBy_47 (by decide) ?_
    exact sk_iret hx hb hr rfl hlocks hK hP hD hS (⟨t, tk, qp, nI mq, nI t, 0, ql, kw_bec (by omega) (mw_none hLk hkl hmw1 c_3), rfl, rfl⟩) (Nat.le_of_ble_eq_true rfl) (Nat.le_of_ble_eq_true rfl) dX12_becomesBy_59
