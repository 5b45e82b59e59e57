set_option maxHeartbeats 4000000 in
set_option maxRecDepth 100000 in
theorem c_em_qIsBracket (l : Launch) (D : va_G) (cI cJ cC cZ cS : ClassId) (o : Nat) (ho : o ≤ 100) : skM l yX12_qIsBracket cX12_qIsBracket 1 (some .boolean) 0 0 0 0 D (skT cI cJ cC cZ cS) [.int (nI o)] [] (skI D (skT cI cJ cC cZ cS) (fun (r : Int32) (u : va_W) => ∃ (b : Nat), ((b = 0 ∧ ¬ (20 ≤ o ∧ o ≤ 24)) ∨ (b = 1 ∧ 20 ≤ o ∧ o ≤ 24)) ∧ r = nI b ∧ u = [])) := by
  refine skM_of pf_X12_qIsBracket (Nat.le_of_ble_eq_true rfl) ?_
  intro p e s m below meth c A ls E hP hD hl
  refine skE_el E (fun hx hb hr hml hlocks hin hown hts hK hA => ?_)
  have hown : s.vm.findClass RX12 = some m.cls := hown
  have hS : va_S A s.heap s.heap [] := va_S.rf
  have hl : lv_has ls 1 [(0, .int (nI o))] := hl
  refine lv_iload_n hx hb dX12_qIsBracket_0 rfl (lv_at hl 0 rfl) ?_
  refine lv_bipush (v := 20) hx hb dX12_qIsBracket_1 (by decide) ?_
  refine lv_icmp_lt (tgt := 16) hx hb dX12_qIsBracket_3 (by decide) (fun c_1 => ?_) (fun c_1 => ?_)
  · have c_1 : o < 20 := (nlt o 20 (by omega) (by omega)).mp c_1
    refine lv_iconst (v := 0) hx hb dX12_qIsBracket_16 (by decide) ?_
    exact sk_iret hx hb hr rfl hlocks hK hP hD hS (⟨0, by omega, rfl, rfl⟩) (Nat.le_of_ble_eq_true rfl) (Nat.le_of_ble_eq_true rfl) dX12_qIsBracket_17
  · have c_1 : ¬ (o < 20) := fun h => c_1 ((nlt o 20 (by omega) (by omega)).mpr h)
    refine lv_iload_n hx hb dX12_qIsBracket_6 rfl (lv_at hl 0 rfl) ?_
    refine lv_bipush (v := 24) hx hb dX12_qIsBracket_7 (by decide) ?_
    refine lv_icmp_gt (tgt := 16) hx hb dX12_qIsBracket_9 (by decide) (fun c_2 => ?_) (fun c_2 => ?_)
    · have c_2 : 24 < o := (nlt 24 o (by omega) (by omega)).mp c_2
      refine lv_iconst (v := 0) hx hb dX12_qIsBracket_16 (by decide) ?_
      exact sk_iret hx hb hr rfl hlocks hK hP hD hS (⟨0, by omega, rfl, rfl⟩) (Nat.le_of_ble_eq_true rfl) (Nat.le_of_ble_eq_true rfl) dX12_qIsBracket_17
    · have c_2 : ¬ (24 < o) := fun h => c_2 ((nlt 24 o (by omega) (by omega)).mpr h)
      refine lv_iconst (v := 1) hx hb dX12_qIsBracket_12 (by decide) ?_
      refine lv_goto (tgt := 17) hx hb dX12_qIsBracket_13 (by decide) ?_
      exact sk_iret hx hb hr rfl hlocks hK hP hD hS (⟨1, by omega, rfl, rfl⟩) (Nat.le_of_ble_eq_true rfl) (Nat.le_of_ble_eq_true rfl) dX12_qIsBracket_17
set_option maxHeartbeats 4000000 in
set_option maxRecDepth 100000 in
theorem c_em_qBracket (l : Launch) (D : va_G) (cI cJ cC cZ cS : ClassId) (mm : Nat) (g : Nat → Nat) (ta : Nat) (pa : Nat) (pe : Nat) (pd : Int32) (pb : Nat) (pp : Int32) (pf : Int32) (pg : Int32) (pn : Int32) (rt : Int32) (rn : Int32) (cd : Nat) (sn : Int32) (il : Nat) (tk : Int32) (am : Int32) (at_ : Int32) (aa : Int32) (wt : Int32) (wy : Int64) (rm : Nat) (ud : Nat) (nu : Nat) (sd : Int64) (qn : Nat) (qw : Nat) (qo : Int32) (qb : Nat) (qp : Nat) (qa : Int64) (qi : Nat) (oc : Nat) (qt : Nat → Nat) (hqw : qw ≤ 1700) (hqb : qb ≤ 1700) (hqt : ∀ j, qt j ≤ 100) : skM l yX12_qBracket cX12_qBracket 2 (some .int) 1 20 0 0 D (skT cI cJ cC cZ cS) [.ref mm] [(mm, .inr (12, mo g (nI ta) (nI pa) (nI pe) pd (nI pb) pp pf pg pn rt rn (nI cd) sn (nI il) tk am at_ aa 0 0 (-1) wt wy 0 (nI rm) (nI ud) (nI nu) sd (nI qn) (nI qw) qo (nI qb) (nI qp) qa (nI qi) (nI oc))), (g 82, .inl (cI, 1700, .inl (fun j => nI (qt j))))] (skI D (skT cI cJ cC cZ cS) (fun (r : Int32) (u : va_W) => lbO qt qb qw r ∧ u = [(mm, .inr (12, mo g (nI ta) (nI pa) (nI pe) pd (nI pb) pp pf pg pn rt rn (nI cd) sn (nI il) tk am at_ aa 0 0 (-1) wt wy 0 (nI rm) (nI ud) (nI nu) sd (nI qn) (nI qw) qo (nI qb) (nI qp) qa (nI qi) (nI oc))), (g 82, .inl (cI, 1700, .inl (fun j => nI (qt j))))])) := by
  refine skM_of pf_X12_qBracket (Nat.le_of_ble_eq_true rfl) ?_
  intro p e s m below meth c A ls E hP hD hl
  refine skE_el E (fun hx hb hr hml hlocks hin hown hts hK hA => ?_)
  have hown : s.vm.findClass RX12 = some m.cls := hown
  have hS : va_S A s.heap s.heap [] := va_S.rf
  have hl : lv_has ls 2 [(0, .ref mm)] := hl
  refine lv_aload_n hx hb dX12_qBracket_0 rfl (lv_at hl 0 rfl) ?_
  refine sk_get (v := .int (nI qw)) (C := RX12) (T := TX12) (N := 92) hx hb hts inlX12 hown hK hP 0 rfl rfl 83 (by decide) w_5_238 rfl dX12_qBracket_1 ?_
  refine lv_iconst (v := 1) hx hb dX12_qBracket_4 (by decide) ?_
  refine lv_isub hx hb dX12_qBracket_5 ?_
  refine lv_istore_n (lv' := [(1, .int (nI qw - 1)), (0, .ref mm)]) hx hb dX12_qBracket_6 rfl hl (by decide) rfl (fun ls hl => ?_)
  have lp_1 : ∀ (n_2 : Nat) (zk : Nat) (H : Heap) (locs : List Loc) (ls : Array Slot), zk < n_2 → (zk ≤ qw) → (nbr qt zk qw) → va_P D vwCl [(mm, .inr (12, mo g (nI ta) (nI pa) (nI pe) pd (nI pb) pp pf pg pn rt rn (nI cd) sn (nI il) tk am at_ aa 0 0 (-1) wt wy 0 (nI rm) (nI ud) (nI nu) sd (nI qn) (nI qw) qo (nI qb) (nI qp) qa (nI qi) (nI oc))), (g 82, .inl (cI, 1700, .inl (fun j => nI (qt j))))] H → va_D A [(mm, .inr (12, mo g (nI ta) (nI pa) (nI pe) pd (nI pb) pp pf pg pn rt rn (nI cd) sn (nI il) tk am at_ aa 0 0 (-1) wt wy 0 (nI rm) (nI ud) (nI nu) sd (nI qn) (nI qw) qo (nI qb) (nI qp) qa (nI qi) (nI oc))), (g 82, .inl (cI, 1700, .inl (fun j => nI (qt j))))] → va_S A s.heap H locs → lv_has ls 2 [(1, .int (nI zk - 1)), (0, .ref mm)] → W p l e { frames := 1, cells := 0, slots := 0, locals := 20 } s m ([.ref mm] : List Value).toArray below meth c H locs 0 0 (MQ below (skI D (skT cI cJ cC cZ cS) (fun (r : Int32) (u : va_W) => lbO qt qb qw r ∧ u = [(mm, .inr (12, mo g (nI ta) (nI pa) (nI pe) pd (nI pb) pp pf pg pn rt rn (nI cd) sn (nI il) tk am at_ aa 0 0 (-1) wt wy 0 (nI rm) (nI ud) (nI nu) sd (nI qn) (nI qw) qo (nI qb) (nI qp) qa (nI qi) (nI oc))), (g 82, .inl (cI, 1700, .inl (fun j => nI (qt j))))]) A) ([.ref mm] : List Value).toArray s 0 0 A) (F0 m 7 ls []) := by
    intro n_2
    induction n_2 with
    | zero => intro zk H locs ls hm; exact absurd hm (Nat.not_lt_zero _)
    | succ n_2 ih_lp_1 =>
      intro zk H locs ls hm hzk hnb hP hD hS hl
      refine lv_iload_n hx hb dX12_qBracket_7 rfl (lv_at hl 0 rfl) ?_
      refine lv_aload_n hx hb dX12_qBracket_8 rfl (lv_at hl 1 rfl) ?_
      refine sk_get (v := .int (nI qb)) (C := RX12) (T := TX12) (N := 92) hx hb hts inlX12 hown hK hP 0 rfl rfl 85 (by decide) w_6_0 rfl dX12_qBracket_9 ?_
      refine lv_icmp_lt (tgt := 33) hx hb dX12_qBracket_12 (by decide) (fun c_3 => ?_) (fun c_3 => ?_)
      · have c_3 : ((zk : Nat) : Int) - 1 < ((qb : Nat) : Int) := (ilt (ivp zk (by omega)) (ivn qb (by omega))).mp c_3
        refine lv_iload_n hx hb dX12_qBracket_33 rfl (lv_at hl 0 rfl) ?_
        refine lv_aload_n hx hb dX12_qBracket_34 rfl (lv_at hl 1 rfl) ?_
        refine sk_get (v := .int (nI qb)) (C := RX12) (T := TX12) (N := 92) hx hb hts inlX12 hown hK hP 0 rfl rfl 85 (by decide) w_6_0 rfl dX12_qBracket_35 ?_
        refine lv_icmp_lt (tgt := 50) hx hb dX12_qBracket_38 (by decide) (fun c_4 => ?_) (fun c => absurd ((ilt (ivp zk (by omega)) (ivn qb (by omega))).mpr (by omega)) c)
        refine lv_iconst (v := (-1)) hx hb dX12_qBracket_50 (by decide) ?_
        exact sk_iret hx hb hr rfl hlocks hK hP hD hS (⟨(lb_none hnb (by omega)), rfl⟩) (Nat.le_of_ble_eq_true rfl) (Nat.le_of_ble_eq_true rfl) dX12_qBracket_51
      · have c_3 : ¬ (((zk : Nat) : Int) - 1 < ((qb : Nat) : Int)) := fun h => c_3 ((ilt (ivp zk (by omega)) (ivn qb (by omega))).mpr h)
        rw [npred zk (by omega)] at hl
        refine lv_aload_n hx hb dX12_qBracket_15 rfl (lv_at hl 1 rfl) ?_
        refine sk_get (v := .ref (g 82)) (C := RX12) (T := TX12) (N := 92) hx hb hts inlX12 hown hK hP 0 rfl rfl 82 (by decide) w_5_237 rfl dX12_qBracket_16 ?_
        refine lv_iload_n hx hb dX12_qBracket_19 rfl (lv_at hl 0 rfl) ?_
        refine va_iald hx hb hK.1 hP 1 0 rfl rfl (vin (zk - 1) 1700 (by omega) (by omega)) dX12_qBracket_20 ?_
        refine sk_top (nI (qt (zk - 1))) (nrd qt (zk - 1) (by omega)) ?_
        have hb_5 := hqt (zk - 1)
        refine sk_Si (n := 1) (rest := []) (wr := [(mm, .inr (12, mo g (nI ta) (nI pa) (nI pe) pd (nI pb) pp pf pg pn rt rn (nI cd) sn (nI il) tk am at_ aa 0 0 (-1) wt wy 0 (nI rm) (nI ud) (nI nu) sd (nI qn) (nI qw) qo (nI qb) (nI qp) qa (nI qi) (nI oc))), (g 82, .inl (cI, 1700, .inl (fun j => nI (qt j))))]) ⟨hx, hb, hml, hown, hts⟩ hl.1 (c_em_qIsBracket l D cI cJ cC cZ cS (qt (zk - 1)) (by omega)) w_7_75 w_7_76 w_1_14 w_7_77 hd_X12_qIsBracket_1 ⟨⟨(Nat.le_of_ble_eq_true rfl), (Nat.le_of_ble_eq_true rfl)⟩, (Nat.le_of_ble_eq_true rfl), (Nat.le_of_ble_eq_true rfl)⟩ hK hP hD hS hA [] [0, 1] rfl rfl (by decide +kernel) (by decide +kernel) (by decide +kernel) rfl rfl (Nat.le_of_ble_eq_true rfl) dX12_qBracket_21 (fun r_7 u H locs hw hP hD hS => ?_)
        obtain ⟨b_6, hb1_8, rfl, rfl⟩ := hw
        refine o_re (ws' := [(mm, .inr (12, mo g (nI ta) (nI pa) (nI pe) pd (nI pb) pp pf pg pn rt rn (nI cd) sn (nI il) tk am at_ aa 0 0 (-1) wt wy 0 (nI rm) (nI ud) (nI nu) sd (nI qn) (nI qw) qo (nI qb) (nI qp) qa (nI qi) (nI oc))), (g 82, .inl (cI, 1700, .inl (fun j => nI (qt j))))]) hP hD rfl (fun hP hD => ?_)
        refine lv_if_ne (tgt := 33) hx hb dX12_qBracket_24 (by decide) (fun c_9 => ?_) (fun c_9 => ?_)
        · have c_9 : ¬ (b_6 = 0) := fun h => c_9 ((neq b_6 0 (by omega) (by omega)).mpr h)
          refine lv_iload_n hx hb dX12_qBracket_33 rfl (lv_at hl 0 rfl) ?_
          refine lv_aload_n hx hb dX12_qBracket_34 rfl (lv_at hl 1 rfl) ?_
          refine sk_get (v := .int (nI qb)) (C := RX12) (T := TX12) (N := 92) hx hb hts inlX12 hown hK hP 0 rfl rfl 85 (by decide) w_6_0 rfl dX12_qBracket_35 ?_
          refine lv_icmp_lt (tgt := 50) hx hb dX12_qBracket_38 (by decide) (fun c => absurd ((nlt (zk - 1) qb (by omega) (by omega)).mp c) (by omega)) (fun c_10 => ?_)
          refine lv_aload_n hx hb dX12_qBracket_41 rfl (lv_at hl 1 rfl) ?_
          refine sk_get (v := .ref (g 82)) (C := RX12) (T := TX12) (N := 92) hx hb hts inlX12 hown hK hP 0 rfl rfl 82 (by decide) w_5_237 rfl dX12_qBracket_42 ?_
          refine lv_iload_n hx hb dX12_qBracket_45 rfl (lv_at hl 0 rfl) ?_
          refine va_iald hx hb hK.1 hP 1 0 rfl rfl (vin (zk - 1) 1700 (by omega) (by omega)) dX12_qBracket_46 ?_
          refine sk_top (nI (qt (zk - 1))) (nrd qt (zk - 1) (by omega)) ?_
          have hb_11 := hqt (zk - 1)
          refine lv_goto (tgt := 51) hx hb dX12_qBracket_47 (by decide) ?_
          exact sk_iret hx hb hr rfl hlocks hK hP hD hS (⟨(lb_some hnb (by omega) (by omega) (by omega) (by omega) (by omega)), rfl⟩) (Nat.le_of_ble_eq_true rfl) (Nat.le_of_ble_eq_true rfl) dX12_qBracket_51
        · have c_9 : b_6 = 0 := (neq b_6 0 (by omega) (by omega)).mp c_9
          refine lv_iinc (v := nI (zk - 1) - 1) (lv' := [(1, .int (nI (zk - 1) - 1)), (0, .ref mm)]) hx hb dX12_qBracket_27 hl (k := 0) rfl (ndn _) (by decide) rfl (fun ls hl => ?_)
          refine lv_goto (tgt := 7) hx hb dX12_qBracket_30 (by decide) ?_
          exact ih_lp_1 (zk - 1) _ _ _ (by omega) (by omega) (nbr_s hnb (by omega)) hP hD hS (lv_sub hl [0, 1] rfl)
  exact lp_1 (qw + 1) qw _ _ _ (Nat.lt_succ_self _) (by omega) nbr_0 hP hD hS (lv_sub hl [0, 1] rfl)
set_option maxHeartbeats 4000000 in
set_option maxRecDepth 100000 in
theorem c_em_qDropsToBracket (l : Launch) (D : va_G) (cI cJ cC cZ cS : ClassId) (mm : Nat) (g : Nat → Nat) (ta : Nat) (pa : Nat) (pe : Nat) (pd : Int32) (pb : Nat) (pp : Int32) (pf : Int32) (pg : Int32) (pn : Int32) (rt : Int32) (rn : Int32) (cd : Nat) (sn : Int32) (il : Nat) (tk : Int32) (am : Int32) (at_ : Int32) (aa : Int32) (wt : Int32) (wy : Int64) (rm : Nat) (ud : Nat) (nu : Nat) (sd : Int64) (qn : Nat) (qw : Nat) (qo : Int32) (qb : Nat) (qp : Nat) (qa : Int64) (qi : Nat) (oc : Nat) (qs : Nat → Nat) (qt : Nat → Nat) (K : Nat) (n0 : Nat) (tb : Nat → Nat) (kn : Nat) (d0 : Nat) (m0 : Nat) (T : Res) (cq : Cur) (hqs_ : qn + qw ≤ 1690) (hqb : qb ≤ 1700) (hsj : SJ (K + 1) n0 qs qn qt qb qw) (hyd : YD tb pe kn d0 m0 qb T cq qs qn qt qw qo) (hs42 : ¬ isS tb pe 42 cq = true) (hs47 : ¬ isS tb pe 47 cq = true) (hqs : ∀ j, qs j ≤ 20000) (hqt : ∀ j, qt j ≤ 100) : skM l yX12_qDropsToBracket cX12_qDropsToBracket 1 none 2 41 0 0 D (skT cI cJ cC cZ cS) [.ref mm] [(mm, .inr (12, mo g (nI ta) (nI pa) (nI pe) pd (nI pb) pp pf pg pn rt rn (nI cd) sn (nI il) tk am at_ aa 0 0 (-1) wt wy 0 (nI rm) (nI ud) (nI nu) sd (nI qn) (nI qw) qo (nI qb) (nI qp) qa (nI qi) (nI oc))), (g 80, .inl (cI, 1700, .inl (fun j => nI (qs j)))), (g 82, .inl (cI, 1700, .inl (fun j => nI (qt j))))] (skV D (skT cI cJ cC cZ cS) (fun (u : va_W) => ∃ (qw2 : Nat), ∃ (qn2 : Nat), ∃ (qs2 : Nat → Nat), SJ (K + 1) n0 qs2 qn2 qt qb qw2 ∧ qn2 + qw2 = qn + qw ∧ qw2 ≤ qw ∧ (qw2 ≤ qb ∨ (20 ≤ qt (qw2 - 1) ∧ qt (qw2 - 1) ≤ 24)) ∧ nbr qt qw2 qw ∧ YD tb pe kn d0 m0 qb T cq qs2 qn2 qt qw2 qo ∧ (∀ j, qs2 j ≤ 20000) ∧ u = [(mm, .inr (12, mo g (nI ta) (nI pa) (nI pe) pd (nI pb) pp pf pg pn rt rn (nI cd) sn (nI il) tk am at_ aa 0 0 (-1) wt wy 0 (nI rm) (nI ud) (nI nu) sd (nI qn2) (nI qw2) qo (nI qb) (nI qp) qa (nI qi) (nI oc))), (g 80, .inl (cI, 1700, .inl (fun j => nI (qs2 j)))), (g 82, .inl (cI, 1700, .inl (fun j => nI (qt j))))])) := by
  refine skM_of pf_X12_qDropsToBracket (Nat.le_of_ble_eq_true rfl) ?_
  intro p e s m below meth c A ls E hP hD hl
  refine skE_el E (fun hx hb hr hml hlocks hin hown hts hK hA => ?_)
  have hown : s.vm.findClass RX12 = some m.cls := hown
  have hS : va_S A s.heap s.heap [] := va_S.rf
  have hl : lv_has ls 1 [(0, .ref mm)] := hl
  have lp_1 : ∀ (n_2 : Nat) (zn : Nat) (zw : Nat) (zs : Nat → Nat) (H : Heap) (locs : List Loc) (ls : Array Slot), zw < n_2 → (∀ j, zs j ≤ 20000) → (zn + zw = qn + qw) → (zw ≤ qw) → (SJ (K + 1) n0 zs zn qt qb zw) → (nbr qt zw qw) → (YD tb pe kn d0 m0 qb T cq zs zn qt zw qo) → va_P D vwCl [(mm, .inr (12, mo g (nI ta) (nI pa) (nI pe) pd (nI pb) pp pf pg pn rt rn (nI cd) sn (nI il) tk am at_ aa 0 0 (-1) wt wy 0 (nI rm) (nI ud) (nI nu) sd (nI zn) (nI zw) qo (nI qb) (nI qp) qa (nI qi) (nI oc))), (g 80, .inl (cI, 1700, .inl (fun j => nI (zs j)))), (g 82, .inl (cI, 1700, .inl (fun j => nI (qt j))))] H → va_D A [(mm, .inr (12, mo g (nI ta) (nI pa) (nI pe) pd (nI pb) pp pf pg pn rt rn (nI cd) sn (nI il) tk am at_ aa 0 0 (-1) wt wy 0 (nI rm) (nI ud) (nI nu) sd (nI zn) (nI zw) qo (nI qb) (nI qp) qa (nI qi) (nI oc))), (g 80, .inl (cI, 1700, .inl (fun j => nI (zs j)))), (g 82, .inl (cI, 1700, .inl (fun j => nI (qt j))))] → va_S A s.heap H locs → lv_has ls 1 [(0, .ref mm)] → W p l e { frames := 2, cells := 0, slots := 0, locals := 41 } s m ([.ref mm] : List Value).toArray below meth c H locs 0 0 (MQ below (skV D (skT cI cJ cC cZ cS) (fun (u : va_W) => ∃ (qw2 : Nat), ∃ (qn2 : Nat), ∃ (qs2 : Nat → Nat), SJ (K + 1) n0 qs2 qn2 qt qb qw2 ∧ qn2 + qw2 = qn + qw ∧ qw2 ≤ qw ∧ (qw2 ≤ qb ∨ (20 ≤ qt (qw2 - 1) ∧ qt (qw2 - 1) ≤ 24)) ∧ nbr qt qw2 qw ∧ YD tb pe kn d0 m0 qb T cq qs2 qn2 qt qw2 qo ∧ (∀ j, qs2 j ≤ 20000) ∧ u = [(mm, .inr (12, mo g (nI ta) (nI pa) (nI pe) pd (nI pb) pp pf pg pn rt rn (nI cd) sn (nI il) tk am at_ aa 0 0 (-1) wt wy 0 (nI rm) (nI ud) (nI nu) sd (nI qn2) (nI qw2) qo (nI qb) (nI qp) qa (nI qi) (nI oc))), (g 80, .inl (cI, 1700, .inl (fun j => nI (qs2 j)))), (g 82, .inl (cI, 1700, .inl (fun j => nI (qt j))))]) A) ([.ref mm] : List Value).toArray s 0 0 A) (F0 m 0 ls []) := by
    intro n_2
    induction n_2 with
    | zero => intro zn zw zs H locs ls hm; exact absurd hm (Nat.not_lt_zero _)
    | succ n_2 ih_lp_1 =>
      intro zn zw zs H locs ls hm hzs hzs_ hzw hzj hzn hzy hP hD hS hl
      refine lv_aload_n hx hb dX12_qDropsToBracket_0 rfl (lv_at hl 0 rfl) ?_
      refine sk_get (v := .int (nI zw)) (C := RX12) (T := TX12) (N := 92) hx hb hts inlX12 hown hK hP 0 rfl rfl 83 (by decide) w_5_238 rfl dX12_qDropsToBracket_1 ?_
      refine lv_aload_n hx hb dX12_qDropsToBracket_4 rfl (lv_at hl 0 rfl) ?_
      refine sk_get (v := .int (nI qb)) (C := RX12) (T := TX12) (N := 92) hx hb hts inlX12 hown hK hP 0 rfl rfl 85 (by decide) w_6_0 rfl dX12_qDropsToBracket_5 ?_
      refine lv_icmp_le (tgt := 35) hx hb dX12_qDropsToBracket_8 (by decide) (fun c_3 => ?_) (fun c_3 => ?_)
      · have c_3 : zw ≤ qb := (nle zw qb (by omega) (by omega)).mp c_3
        exact sk_vret hx hb hr hlocks hK hP hD hS (⟨zw, zn, zs, hzj, by omega, by omega, by omega, hzn, hzy, hzs, rfl⟩) (Nat.le_of_ble_eq_true rfl) (Nat.le_of_ble_eq_true rfl) dX12_qDropsToBracket_35
      · have c_3 : ¬ (zw ≤ qb) := fun h => c_3 ((nle zw qb (by omega) (by omega)).mpr h)
        refine lv_aload_n hx hb dX12_qDropsToBracket_11 rfl (lv_at hl 0 rfl) ?_
        refine sk_get (v := .ref (g 82)) (C := RX12) (T := TX12) (N := 92) hx hb hts inlX12 hown hK hP 0 rfl rfl 82 (by decide) w_5_237 rfl dX12_qDropsToBracket_12 ?_
        refine lv_aload_n hx hb dX12_qDropsToBracket_15 rfl (lv_at hl 0 rfl) ?_
        refine sk_get (v := .int (nI zw)) (C := RX12) (T := TX12) (N := 92) hx hb hts inlX12 hown hK hP 0 rfl rfl 83 (by decide) w_5_238 rfl dX12_qDropsToBracket_16 ?_
        refine lv_iconst (v := 1) hx hb dX12_qDropsToBracket_19 (by decide) ?_
        refine lv_isub hx hb dX12_qDropsToBracket_20 ?_
        refine sk_top (nI (zw - 1)) (nsub zw 1 (by omega)) ?_
        refine va_iald hx hb hK.1 hP 2 0 rfl rfl (vin (zw - 1) 1700 (by omega) (by omega)) dX12_qDropsToBracket_21 ?_
        refine sk_top (nI (qt (zw - 1))) (nrd qt (zw - 1) (by omega)) ?_
        have hb_4 := hqt (zw - 1)
        refine sk_Si (n := 1) (rest := []) (wr := [(mm, .inr (12, mo g (nI ta) (nI pa) (nI pe) pd (nI pb) pp pf pg pn rt rn (nI cd) sn (nI il) tk am at_ aa 0 0 (-1) wt wy 0 (nI rm) (nI ud) (nI nu) sd (nI zn) (nI zw) qo (nI qb) (nI qp) qa (nI qi) (nI oc))), (g 80, .inl (cI, 1700, .inl (fun j => nI (zs j)))), (g 82, .inl (cI, 1700, .inl (fun j => nI (qt j))))]) ⟨hx, hb, hml, hown, hts⟩ hl.1 (c_em_qIsBracket l D cI cJ cC cZ cS (qt (zw - 1)) (by omega)) w_7_75 w_7_76 w_1_14 w_7_77 hd_X12_qIsBracket_1 ⟨⟨(Nat.le_of_ble_eq_true rfl), (Nat.le_of_ble_eq_true rfl)⟩, (Nat.le_of_ble_eq_true rfl), (Nat.le_of_ble_eq_true rfl)⟩ hK hP hD hS hA [] [0, 1, 2] rfl rfl (by decide +kernel) (by decide +kernel) (by decide +kernel) rfl rfl (Nat.le_of_ble_eq_true rfl) dX12_qDropsToBracket_22 (fun r_6 u H locs hw hP hD hS => ?_)
        obtain ⟨b_5, hb1_7, rfl, rfl⟩ := hw
        refine o_re (ws' := [(mm, .inr (12, mo g (nI ta) (nI pa) (nI pe) pd (nI pb) pp pf pg pn rt rn (nI cd) sn (nI il) tk am at_ aa 0 0 (-1) wt wy 0 (nI rm) (nI ud) (nI nu) sd (nI zn) (nI zw) qo (nI qb) (nI qp) qa (nI qi) (nI oc))), (g 80, .inl (cI, 1700, .inl (fun j => nI (zs j)))), (g 82, .inl (cI, 1700, .inl (fun j => nI (qt j))))]) hP hD rfl (fun hP hD => ?_)
        refine lv_if_ne (tgt := 35) hx hb dX12_qDropsToBracket_25 (by decide) (fun c_8 => ?_) (fun c_8 => ?_)
        · have c_8 : ¬ (b_5 = 0) := fun h => c_8 ((neq b_5 0 (by omega) (by omega)).mpr h)
          exact sk_vret hx hb hr hlocks hK hP hD hS (⟨zw, zn, zs, hzj, by omega, by omega, by omega, hzn, hzy, hzs, rfl⟩) (Nat.le_of_ble_eq_true rfl) (Nat.le_of_ble_eq_true rfl) dX12_qDropsToBracket_35
        · have c_8 : b_5 = 0 := (neq b_5 0 (by omega) (by omega)).mp c_8
          refine lv_aload_n hx hb dX12_qDropsToBracket_28 rfl (lv_at hl 0 rfl) ?_
          refine sk_Vv (q0 := 0) (n := 0) (rest := []) (wr := fmR om_3_7 _) ⟨hx, hb, hml, hown, hts⟩ hl.1 (c_em_qDrops l D cI cJ cC cZ cS mm g ta pa pe pd pb pp pf pg pn rt rn cd sn il tk am at_ aa wt wy rm ud nu sd zn zw qo qb qp qa qi oc zs qt (by omega) (by omega) (by omega) hzs hqt) w_7_63 w_7_65 w_0_63 w_1_14 w_7_66 hd_X12_qDrops_0 ⟨⟨(Nat.le_of_ble_eq_true rfl), (Nat.le_of_ble_eq_true rfl)⟩, (Nat.le_of_ble_eq_true rfl), (Nat.le_of_ble_eq_true rfl)⟩ hK hP hD hS hA (fmT om_3_7 0) (fmF om_3_7 0) (fm_C1 rfl rfl) (fm_R rfl rfl) (fm_nT om_3_7 0) (fm_nF om_3_7 0) (fm_di om_3_7 0) rfl rfl rfl rfl (Nat.le_of_ble_eq_true rfl) dX12_qDropsToBracket_29 (fun u H locs hw hP hD hS => ?_)
          refine exE hw (fun qs2_9 hw1 => anE hw1 (fun hqe_10 hw2 => anE hw2 (fun hqs2_11 eu_12 => ?_)))
          clear hw hw1 hw2
          refine o_mgE (ws' := [(mm, .inr (12, mo g (nI ta) (nI pa) (nI pe) pd (nI pb) pp pf pg pn rt rn (nI cd) sn (nI il) tk am at_ aa 0 0 (-1) wt wy 0 (nI rm) (nI ud) (nI nu) sd (nI (zn + 1)) (nI (zw - 1)) qo (nI qb) (nI qp) qa (nI qi) (nI oc))), (g 80, .inl (cI, 1700, .inl (fun j => nI (qs2_9 j)))), (g 82, .inl (cI, 1700, .inl (fun j => nI (qt j))))]) eu_12 hP hD rfl (fun hP hD => ?_)
          refine lv_goto (tgt := 0) hx hb dX12_qDropsToBracket_32 (by decide) ?_
          exact ih_lp_1 (zn + 1) (zw - 1) qs2_9 _ _ _ (by omega) hqs2_11 (by omega) (by omega) (SJ_drop hzj (by omega) (by omega) hqe_10) (nbr_s hzn (by omega)) (yd_drop hzy (by omega) (by omega) hs42 hs47 hqe_10) hP hD hS (lv_sub hl [0] rfl)
  exact lp_1 (qw + 1) qn qw qs _ _ _ (Nat.lt_succ_self _) hqs (by omega) (by omega) hsj nbr_0 hyd hP hD hS (lv_sub hl [0] rfl)
