set_option maxHeartbeats 4000000 in
set_option maxRecDepth 100000 in
theorem c_em_qEndsPart (l : Launch) (D : va_G) (cI cJ cC cZ cS : ClassId) (mm : Nat) (g : Nat → Nat) (ta : Nat) (pa : Nat) (pe : Nat) (pd : Int32) (pb : Nat) (pp : Int32) (pf : Int32) (pg : Int32) (pn : Int32) (rt : Int32) (rn : Int32) (cd : Nat) (sn : Int32) (il : Nat) (tk : Int32) (am : Int32) (at_ : Int32) (aa : Int32) (wt : Int32) (wy : Int64) (rm : Nat) (ud : Nat) (nu : Nat) (sd : Int64) (qn : Nat) (qw : Nat) (qo : Int32) (qb : Nat) (qp : Nat) (qa : Int64) (qi : Nat) (oc : Nat) (qs : Nat → Nat) (qt : Nat → Nat) (K : Nat) (n0 : Nat) (tb : Nat → Nat) (kn : Nat) (d0 : Nat) (m0 : Nat) (T : Res) (cq : Cur) (hpb : pb ≤ 5) (hqs_ : qn + qw ≤ 1690) (hqb : qb ≤ 1700) (hsj : pb = 0 → SJ (K + 1) n0 qs qn qt qb qw) (hya : pb = 0 → YY (Xa tb pe kn 0) d0 m0 qb T cq qs qn qt qw qo) (hqs : ∀ j, qs j ≤ 20000) (hqt : ∀ j, qt j ≤ 100) : skM l yX12_qEndsPart cX12_qEndsPart 1 none 2 41 0 0 D (skT cI cJ cC cZ cS) [.ref mm] [(mm, .inr (12, mo g (nI ta) (nI pa) (nI pe) pd (nI pb) pp pf pg pn rt rn (nI cd) sn (nI il) tk am at_ aa 0 0 (-1) wt wy 0 (nI rm) (nI ud) (nI nu) sd (nI qn) (nI qw) qo (nI qb) (nI qp) qa (nI qi) (nI oc))), (g 80, .inl (cI, 1700, .inl (fun j => nI (qs j)))), (g 82, .inl (cI, 1700, .inl (fun j => nI (qt j))))] (skV D (skT cI cJ cC cZ cS) (fun (u : va_W) => ∃ (qw2 : Nat), ∃ (qn2 : Nat), ∃ (qo2 : Int32), ∃ (qs2 : Nat → Nat), (pb = 0 → SJ (K + 1) n0 qs2 qn2 qt qb qw2) ∧ qn2 + qw2 = qn + qw ∧ (pb = 0 → (YY (Xa tb pe kn 0) d0 m0 qb T cq qs2 qn2 qt qw2 qo2 ∧ ¬ topO qt qb qw2 = 60)) ∧ (∀ j, qs2 j ≤ 20000) ∧ u = [(mm, .inr (12, mo g (nI ta) (nI pa) (nI pe) pd (nI pb) pp pf pg pn rt rn (nI cd) sn (nI il) tk am at_ aa 0 0 (-1) wt wy 0 (nI rm) (nI ud) (nI nu) sd (nI qn2) (nI qw2) qo2 (nI qb) (nI qp) qa (nI qi) (nI oc))), (g 80, .inl (cI, 1700, .inl (fun j => nI (qs2 j)))), (g 82, .inl (cI, 1700, .inl (fun j => nI (qt j))))])) := by
  refine skM_of pf_X12_qEndsPart (Nat.le_of_ble_eq_true rfl) ?_
  intro p e s m below meth c A ls E hP hD hl
  refine skE_el E (fun hx hb hr hml hlocks hin hown hts hK hA => ?_)
  have hown : s.vm.findClass RX12 = some m.cls := hown
  have hS : va_S A s.heap s.heap [] := va_S.rf
  have hl : lv_has ls 1 [(0, .ref mm)] := hl
  have lp_1 : ∀ (n_2 : Nat) (zn : Nat) (zw : Nat) (zo : Int32) (zs : Nat → Nat) (H : Heap) (locs : List Loc) (ls : Array Slot), zw < n_2 → (∀ j, zs j ≤ 20000) → (zn + zw = qn + qw) → (pb = 0 → SJ (K + 1) n0 zs zn qt qb zw) → (pb = 0 → YY (Xa tb pe kn 0) d0 m0 qb T cq zs zn qt zw zo) → va_P D vwCl [(mm, .inr (12, mo g (nI ta) (nI pa) (nI pe) pd (nI pb) pp pf pg pn rt rn (nI cd) sn (nI il) tk am at_ aa 0 0 (-1) wt wy 0 (nI rm) (nI ud) (nI nu) sd (nI zn) (nI zw) zo (nI qb) (nI qp) qa (nI qi) (nI oc))), (g 80, .inl (cI, 1700, .inl (fun j => nI (zs j)))), (g 82, .inl (cI, 1700, .inl (fun j => nI (qt j))))] H → va_D A [(mm, .inr (12, mo g (nI ta) (nI pa) (nI pe) pd (nI pb) pp pf pg pn rt rn (nI cd) sn (nI il) tk am at_ aa 0 0 (-1) wt wy 0 (nI rm) (nI ud) (nI nu) sd (nI zn) (nI zw) zo (nI qb) (nI qp) qa (nI qi) (nI oc))), (g 80, .inl (cI, 1700, .inl (fun j => nI (zs j)))), (g 82, .inl (cI, 1700, .inl (fun j => nI (qt j))))] → va_S A s.heap H locs → lv_has ls 1 [(0, .ref mm)] → W p l e { frames := 2, cells := 0, slots := 0, locals := 41 } s m ([.ref mm] : List Value).toArray below meth c H locs 0 0 (MQ below (skV D (skT cI cJ cC cZ cS) (fun (u : va_W) => ∃ (qw2 : Nat), ∃ (qn2 : Nat), ∃ (qo2 : Int32), ∃ (qs2 : Nat → Nat), (pb = 0 → SJ (K + 1) n0 qs2 qn2 qt qb qw2) ∧ qn2 + qw2 = qn + qw ∧ (pb = 0 → (YY (Xa tb pe kn 0) d0 m0 qb T cq qs2 qn2 qt qw2 qo2 ∧ ¬ topO qt qb qw2 = 60)) ∧ (∀ j, qs2 j ≤ 20000) ∧ u = [(mm, .inr (12, mo g (nI ta) (nI pa) (nI pe) pd (nI pb) pp pf pg pn rt rn (nI cd) sn (nI il) tk am at_ aa 0 0 (-1) wt wy 0 (nI rm) (nI ud) (nI nu) sd (nI qn2) (nI qw2) qo2 (nI qb) (nI qp) qa (nI qi) (nI oc))), (g 80, .inl (cI, 1700, .inl (fun j => nI (qs2 j)))), (g 82, .inl (cI, 1700, .inl (fun j => nI (qt j))))]) A) ([.ref mm] : List Value).toArray s 0 0 A) (F0 m 0 ls []) := by
    intro n_2
    induction n_2 with
    | zero => intro zn zw zo zs H locs ls hm; exact absurd hm (Nat.not_lt_zero _)
    | succ n_2 ih_lp_1 =>
      intro zn zw zo zs H locs ls hm hzs hzs_ hzj hzy hP hD hS hl
      refine lv_aload_n hx hb dX12_qEndsPart_0 rfl (lv_at hl 0 rfl) ?_
      refine sk_get (v := .int (nI pb)) (C := RX12) (T := TX12) (N := 92) hx hb hts inlX12 hown hK hP 0 rfl rfl 5 (by decide) w_5_160 rfl dX12_qEndsPart_1 ?_
      refine lv_if_ne (tgt := 51) hx hb dX12_qEndsPart_4 (by decide) (fun c_3 => ?_) (fun c_3 => ?_)
      · have c_3 : ¬ (pb = 0) := fun h => c_3 ((neq pb 0 (by omega) (by omega)).mpr h)
        exact sk_vret hx hb hr hlocks hK hP hD hS (⟨zw, zn, zo, zs, hzj, by omega, (fun h0 => ⟨hzy h0, by unfold topO; split <;> omega⟩), hzs, rfl⟩) (Nat.le_of_ble_eq_true rfl) (Nat.le_of_ble_eq_true rfl) dX12_qEndsPart_51
      · have c_3 : pb = 0 := (neq pb 0 (by omega) (by omega)).mp c_3
        refine lv_aload_n hx hb dX12_qEndsPart_7 rfl (lv_at hl 0 rfl) ?_
        refine sk_get (v := .int (nI zw)) (C := RX12) (T := TX12) (N := 92) hx hb hts inlX12 hown hK hP 0 rfl rfl 83 (by decide) w_5_238 rfl dX12_qEndsPart_8 ?_
        refine lv_aload_n hx hb dX12_qEndsPart_11 rfl (lv_at hl 0 rfl) ?_
        refine sk_get (v := .int (nI qb)) (C := RX12) (T := TX12) (N := 92) hx hb hts inlX12 hown hK hP 0 rfl rfl 85 (by decide) w_6_0 rfl dX12_qEndsPart_12 ?_
        refine lv_icmp_le (tgt := 51) hx hb dX12_qEndsPart_15 (by decide) (fun c_4 => ?_) (fun c_4 => ?_)
        · have c_4 : zw ≤ qb := (nle zw qb (by omega) (by omega)).mp c_4
          exact sk_vret hx hb hr hlocks hK hP hD hS (⟨zw, zn, zo, zs, hzj, by omega, (fun h0 => ⟨hzy h0, by unfold topO; split <;> omega⟩), hzs, rfl⟩) (Nat.le_of_ble_eq_true rfl) (Nat.le_of_ble_eq_true rfl) dX12_qEndsPart_51
        · have c_4 : ¬ (zw ≤ qb) := fun h => c_4 ((nle zw qb (by omega) (by omega)).mpr h)
          refine lv_aload_n hx hb dX12_qEndsPart_18 rfl (lv_at hl 0 rfl) ?_
          refine sk_get (v := .ref (g 82)) (C := RX12) (T := TX12) (N := 92) hx hb hts inlX12 hown hK hP 0 rfl rfl 82 (by decide) w_5_237 rfl dX12_qEndsPart_19 ?_
          refine lv_aload_n hx hb dX12_qEndsPart_22 rfl (lv_at hl 0 rfl) ?_
          refine sk_get (v := .int (nI zw)) (C := RX12) (T := TX12) (N := 92) hx hb hts inlX12 hown hK hP 0 rfl rfl 83 (by decide) w_5_238 rfl dX12_qEndsPart_23 ?_
          refine lv_iconst (v := 1) hx hb dX12_qEndsPart_26 (by decide) ?_
          refine lv_isub hx hb dX12_qEndsPart_27 ?_
          refine sk_top (nI (zw - 1)) (nsub zw 1 (by omega)) ?_
          refine va_iald hx hb hK.1 hP 2 0 rfl rfl (vin (zw - 1) 1700 (by omega) (by omega)) dX12_qEndsPart_28 ?_
          refine sk_top (nI (qt (zw - 1))) (nrd qt (zw - 1) (by omega)) ?_
          have hb_5 := hqt (zw - 1)
          refine lv_bipush (v := 60) hx hb dX12_qEndsPart_29 (by decide) ?_
          refine lv_icmp_lt (tgt := 51) hx hb dX12_qEndsPart_31 (by decide) (fun c_6 => ?_) (fun c_6 => ?_)
          · have c_6 : qt (zw - 1) < 60 := (nlt (qt (zw - 1)) 60 (by omega) (by omega)).mp c_6
            exact sk_vret hx hb hr hlocks hK hP hD hS (⟨zw, zn, zo, zs, hzj, by omega, (fun h0 => ⟨hzy h0, by unfold topO; split <;> omega⟩), hzs, rfl⟩) (Nat.le_of_ble_eq_true rfl) (Nat.le_of_ble_eq_true rfl) dX12_qEndsPart_51
          · have c_6 : ¬ (qt (zw - 1) < 60) := fun h => c_6 ((nlt (qt (zw - 1)) 60 (by omega) (by omega)).mpr h)
            refine lv_aload_n hx hb dX12_qEndsPart_34 rfl (lv_at hl 0 rfl) ?_
            refine lv_dup hx hb dX12_qEndsPart_35 rfl ?_
            refine sk_get (v := .int zo) (C := RX12) (T := TX12) (N := 92) hx hb hts inlX12 hown hK hP 0 rfl rfl 84 (by decide) w_5_239 rfl dX12_qEndsPart_36 ?_
            refine lv_iconst (v := 1) hx hb dX12_qEndsPart_39 (by decide) ?_
            refine lv_isub hx hb dX12_qEndsPart_40 ?_
            refine lv_topi (fun v_7 ev_7 => ?_)
            refine sk_put (ws' := [(mm, .inr (12, mo g (nI ta) (nI pa) (nI pe) pd (nI pb) pp pf pg pn rt rn (nI cd) sn (nI il) tk am at_ aa 0 0 (-1) wt wy 0 (nI rm) (nI ud) (nI nu) sd (nI zn) (nI zw) v_7 (nI qb) (nI qp) qa (nI qi) (nI oc))), (g 80, .inl (cI, 1700, .inl (fun j => nI (zs j)))), (g 82, .inl (cI, 1700, .inl (fun j => nI (qt j))))]) (C := RX12) (T := TX12) (N := 92) (v := .int v_7) hx hb hts inlX12 tyX12 tyX12_ok nmX12 hown hK hP hD hS 0 rfl rfl 84 (by decide) w_5_239 rfl rfl rfl (Nat.le_of_ble_eq_true rfl) rfl dX12_qEndsPart_41 (fun H locs hP hD hS => ?_)
            refine lv_aload_n hx hb dX12_qEndsPart_44 rfl (lv_at hl 0 rfl) ?_
            refine sk_Vv (q0 := 0) (n := 0) (rest := []) (wr := fmR om_3_7 _) ⟨hx, hb, hml, hown, hts⟩ hl.1 (c_em_qDrops l D cI cJ cC cZ cS mm g ta pa pe pd pb pp pf pg pn rt rn cd sn il tk am at_ aa wt wy rm ud nu sd zn zw v_7 qb qp qa qi oc zs qt (by omega) (by omega) (by omega) hzs hqt) w_7_63 w_7_65 w_0_63 w_1_14 w_7_66 hd_X12_qDrops_0 ⟨⟨(Nat.le_of_ble_eq_true rfl), (Nat.le_of_ble_eq_true rfl)⟩, (Nat.le_of_ble_eq_true rfl), (Nat.le_of_ble_eq_true rfl)⟩ hK hP hD hS hA (fmT om_3_7 0) (fmF om_3_7 0) (fm_C1 rfl rfl) (fm_R rfl rfl) (fm_nT om_3_7 0) (fm_nF om_3_7 0) (fm_di om_3_7 0) rfl rfl rfl rfl (Nat.le_of_ble_eq_true rfl) dX12_qEndsPart_45 (fun u H locs hw hP hD hS => ?_)
            refine exE hw (fun qs2_8 hw1 => anE hw1 (fun hqe_9 hw2 => anE hw2 (fun hqs2_10 eu_11 => ?_)))
            clear hw hw1 hw2
            refine o_mgE (ws' := [(mm, .inr (12, mo g (nI ta) (nI pa) (nI pe) pd (nI pb) pp pf pg pn rt rn (nI cd) sn (nI il) tk am at_ aa 0 0 (-1) wt wy 0 (nI rm) (nI ud) (nI nu) sd (nI (zn + 1)) (nI (zw - 1)) v_7 (nI qb) (nI qp) qa (nI qi) (nI oc))), (g 80, .inl (cI, 1700, .inl (fun j => nI (qs2_8 j)))), (g 82, .inl (cI, 1700, .inl (fun j => nI (qt j))))]) eu_11 hP hD rfl (fun hP hD => ?_)
            refine lv_goto (tgt := 0) hx hb dX12_qEndsPart_48 (by decide) ?_
            exact ih_lp_1 (zn + 1) (zw - 1) v_7 qs2_8 _ _ _ (by omega) hqs2_10 (by omega) (fun h0 => SJ_drop (hzj h0) (by omega) (by omega) hqe_9) (fun h0 => by have h9 := y_weeks (hzy h0) (by omega) (by omega); rw [← hqe_9, ← ev_7] at h9; exact h9) hP hD hS (lv_sub hl [0] rfl)
  exact lp_1 (qw + 1) qn qw qo qs _ _ _ (Nat.lt_succ_self _) hqs (by omega) hsj hya hP hD hS (lv_sub hl [0] rfl)

