set_option maxHeartbeats 4000000 in
set_option maxRecDepth 100000 in
theorem c_em_fail (l : Launch) (D : va_G) (cI cJ cC cZ cS : ClassId) (mm : Nat) (g : Nat → Nat) (ta : Nat) (pa : Nat) (pe : Nat) (pd : Int32) (pb : Nat) (pp : Int32) (pf : Int32) (pg : Int32) (pn : Int32) (rt : Int32) (rn : Int32) (cd : Nat) (sn : Int32) (il : Nat) (tk : Int32) (am : Int32) (at_ : Int32) (aa : Int32) (wt : Int32) (wy : Int64) (rm : Nat) (ud : Nat) (nu : Nat) (sd : Int64) (qn : Nat) (qw : Nat) (qo : Int32) (qb : Nat) (qp : Nat) (qa : Int64) (qi : Nat) (oc : Nat) (w : Nat) (o : Int32) (hpb : pb ≤ 5) (hw : 1 ≤ w) (hw5 : w ≤ 5) : skM l yX12_fail cX12_fail 3 none 0 0 0 0 D (skT cI cJ cC cZ cS) [.ref mm, .int (nI w), .int o] [(mm, .inr (12, mo g (nI ta) (nI pa) (nI pe) pd (nI pb) pp pf pg pn rt rn (nI cd) sn (nI il) tk am at_ aa 0 0 (-1) wt wy 0 (nI rm) (nI ud) (nI nu) sd (nI qn) (nI qw) qo (nI qb) (nI qp) qa (nI qi) (nI oc)))] (skV D (skT cI cJ cC cZ cS) (fun (u : va_W) => ∃ (pb2 : Nat), ∃ (pp2 : Int32), pb2 ≤ 5 ∧ ¬ pb2 = 0 ∧ ((pb = 0 ∧ pb2 = w ∧ pp2 = o) ∨ (¬ pb = 0 ∧ pb2 = pb ∧ pp2 = pp)) ∧ u = [(mm, .inr (12, mo g (nI ta) (nI pa) (nI pe) pd (nI pb2) pp2 pf pg pn rt rn (nI cd) sn (nI il) tk am at_ aa 0 0 (-1) wt wy 0 (nI rm) (nI ud) (nI nu) sd (nI qn) (nI qw) qo (nI qb) (nI qp) qa (nI qi) (nI oc)))])) := by
  refine skM_of pf_X12_fail (Nat.le_of_ble_eq_true rfl) ?_
  intro p e s m below meth c A ls E hP hD hl
  refine skE_el E (fun hx hb hr hml hlocks hin hown hts hK hA => ?_)
  have hown : s.vm.findClass RX12 = some m.cls := hown
  have hS : va_S A s.heap s.heap [] := va_S.rf
  have hl : lv_has ls 3 [(0, .ref mm), (1, .int (nI w)), (2, .int o)] := hl
  refine lv_aload_n hx hb dX12_fail_0 rfl (lv_at hl 0 rfl) ?_
  refine sk_get (v := .int (nI pb)) (C := RX12) (T := TX12) (N := 92) hx hb hts inlX12 hown hK hP 0 rfl rfl 5 (by decide) w_5_160 rfl dX12_fail_1 ?_
  refine lv_if_eq (tgt := 8) hx hb dX12_fail_4 (by decide) (fun c_1 => ?_) (fun c_1 => ?_)
  · have c_1 : pb = 0 := (neq pb 0 (by omega) (by omega)).mp c_1
    refine lv_aload_n hx hb dX12_fail_8 rfl (lv_at hl 0 rfl) ?_
    refine lv_iload_n hx hb dX12_fail_9 rfl (lv_at hl 1 rfl) ?_
    refine sk_put (ws' := [(mm, .inr (12, mo g (nI ta) (nI pa) (nI pe) pd (nI w) pp pf pg pn rt rn (nI cd) sn (nI il) tk am at_ aa 0 0 (-1) wt wy 0 (nI rm) (nI ud) (nI nu) sd (nI qn) (nI qw) qo (nI qb) (nI qp) qa (nI qi) (nI oc)))]) (C := RX12) (T := TX12) (N := 92) (v := .int (nI w)) hx hb hts inlX12 tyX12 tyX12_ok nmX12 hown hK hP hD hS 0 rfl rfl 5 (by decide) w_5_160 rfl rfl rfl (Nat.le_of_ble_eq_true rfl) rfl dX12_fail_10 (fun H locs hP hD hS => ?_)
    refine lv_aload_n hx hb dX12_fail_13 rfl (lv_at hl 0 rfl) ?_
    refine lv_iload_n hx hb dX12_fail_14 rfl (lv_at hl 2 rfl) ?_
    refine sk_put (ws' := [(mm, .inr (12, mo g (nI ta) (nI pa) (nI pe) pd (nI w) o pf pg pn rt rn (nI cd) sn (nI il) tk am at_ aa 0 0 (-1) wt wy 0 (nI rm) (nI ud) (nI nu) sd (nI qn) (nI qw) qo (nI qb) (nI qp) qa (nI qi) (nI oc)))]) (C := RX12) (T := TX12) (N := 92) (v := .int o) hx hb hts inlX12 tyX12 tyX12_ok nmX12 hown hK hP hD hS 0 rfl rfl 6 (by decide) w_5_161 rfl rfl rfl (Nat.le_of_ble_eq_true rfl) rfl dX12_fail_15 (fun H locs hP hD hS => ?_)
    exact sk_vret hx hb hr hlocks hK hP hD hS (⟨w, o, by omega, by omega, Or.inl ⟨c_1, rfl, rfl⟩, rfl⟩) (Nat.le_of_ble_eq_true rfl) (Nat.le_of_ble_eq_true rfl) dX12_fail_18
  · have c_1 : ¬ (pb = 0) := fun h => c_1 ((neq pb 0 (by omega) (by omega)).mpr h)
    exact sk_vret hx hb hr hlocks hK hP hD hS (⟨pb, pp, by omega, by omega, Or.inr ⟨c_1, rfl, rfl⟩, rfl⟩) (Nat.le_of_ble_eq_true rfl) (Nat.le_of_ble_eq_true rfl) dX12_fail_7
set_option maxHeartbeats 4000000 in
set_option maxRecDepth 100000 in
theorem c_em_look (l : Launch) (D : va_G) (cI cJ cC cZ cS : ClassId) (mm : Nat) (g : Nat → Nat) (ta : Nat) (pa : Nat) (pe : Nat) (pd : Int32) (pb : Nat) (pp : Int32) (pf : Int32) (pg : Int32) (pn : Int32) (rt : Int32) (rn : Int32) (cd : Nat) (sn : Int32) (il : Nat) (tk : Int32) (am : Int32) (at_ : Int32) (aa : Int32) (wt : Int32) (wy : Int64) (rm : Nat) (ud : Nat) (nu : Nat) (sd : Int64) (qn : Nat) (qw : Nat) (qo : Int32) (qb : Nat) (qp : Nat) (qa : Int64) (qi : Nat) (oc : Nat) (tb : Nat → Nat) (hpa : pa ≤ pe) (hpe : pe ≤ 1600) (htb : ∀ j, tb j ≤ 255) : skM l yX12_look cX12_look 1 (some .int) 0 0 0 0 D (skT cI cJ cC cZ cS) [.ref mm] [(mm, .inr (12, mo g (nI ta) (nI pa) (nI pe) pd (nI pb) pp pf pg pn rt rn (nI cd) sn (nI il) tk am at_ aa 0 0 (-1) wt wy 0 (nI rm) (nI ud) (nI nu) sd (nI qn) (nI qw) qo (nI qb) (nI qp) qa (nI qi) (nI oc))), (g 0, .inl (cI, 1600, .inl (fun j => nI (tb j))))] (skI D (skT cI cJ cC cZ cS) (fun (r : Int32) (u : va_W) => ∃ (pa2 : Nat), pa ≤ pa2 ∧ pa2 ≤ pe ∧ lkOk tb r pa2 pe ∧ stay tb pe pa pa2 ∧ pa2 = sk tb pe pa ∧ u = [(mm, .inr (12, mo g (nI ta) (nI pa2) (nI pe) pd (nI pb) pp pf pg pn rt rn (nI cd) sn (nI il) tk am at_ aa 0 0 (-1) wt wy 0 (nI rm) (nI ud) (nI nu) sd (nI qn) (nI qw) qo (nI qb) (nI qp) qa (nI qi) (nI oc))), (g 0, .inl (cI, 1600, .inl (fun j => nI (tb j))))])) := by
  refine skM_of pf_X12_look (Nat.le_of_ble_eq_true rfl) ?_
  intro p e s m below meth c A ls E hP hD hl
  refine skE_el E (fun hx hb hr hml hlocks hin hown hts hK hA => ?_)
  have hown : s.vm.findClass RX12 = some m.cls := hown
  have hS : va_S A s.heap s.heap [] := va_S.rf
  have hl : lv_has ls 1 [(0, .ref mm)] := hl
  have lp_1 : ∀ (n_2 : Nat) (za : Nat) (H : Heap) (locs : List Loc) (ls : Array Slot), pe - za < n_2 → (pa ≤ za) → (za ≤ pe) → (stay tb pe pa za) → (ext qB tb pe za = ext qB tb pe pa) → va_P D vwCl [(mm, .inr (12, mo g (nI ta) (nI za) (nI pe) pd (nI pb) pp pf pg pn rt rn (nI cd) sn (nI il) tk am at_ aa 0 0 (-1) wt wy 0 (nI rm) (nI ud) (nI nu) sd (nI qn) (nI qw) qo (nI qb) (nI qp) qa (nI qi) (nI oc))), (g 0, .inl (cI, 1600, .inl (fun j => nI (tb j))))] H → va_D A [(mm, .inr (12, mo g (nI ta) (nI za) (nI pe) pd (nI pb) pp pf pg pn rt rn (nI cd) sn (nI il) tk am at_ aa 0 0 (-1) wt wy 0 (nI rm) (nI ud) (nI nu) sd (nI qn) (nI qw) qo (nI qb) (nI qp) qa (nI qi) (nI oc))), (g 0, .inl (cI, 1600, .inl (fun j => nI (tb j))))] → va_S A s.heap H locs → lv_has ls 1 [(0, .ref mm)] → W p l e { frames := 0, cells := 0, slots := 0, locals := 0 } s m ([.ref mm] : List Value).toArray below meth c H locs 0 0 (MQ below (skI D (skT cI cJ cC cZ cS) (fun (r : Int32) (u : va_W) => ∃ (pa2 : Nat), pa ≤ pa2 ∧ pa2 ≤ pe ∧ lkOk tb r pa2 pe ∧ stay tb pe pa pa2 ∧ pa2 = sk tb pe pa ∧ u = [(mm, .inr (12, mo g (nI ta) (nI pa2) (nI pe) pd (nI pb) pp pf pg pn rt rn (nI cd) sn (nI il) tk am at_ aa 0 0 (-1) wt wy 0 (nI rm) (nI ud) (nI nu) sd (nI qn) (nI qw) qo (nI qb) (nI qp) qa (nI qi) (nI oc))), (g 0, .inl (cI, 1600, .inl (fun j => nI (tb j))))]) A) ([.ref mm] : List Value).toArray s 0 0 A) (F0 m 0 ls []) := by
    intro n_2
    induction n_2 with
    | zero => intro za H locs ls hm; exact absurd hm (Nat.not_lt_zero _)
    | succ n_2 ih_lp_1 =>
      intro za H locs ls hm hza hza2 hsty hze hP hD hS hl
      refine lv_aload_n hx hb dX12_look_0 rfl (lv_at hl 0 rfl) ?_
      refine sk_get (v := .int (nI za)) (C := RX12) (T := TX12) (N := 92) hx hb hts inlX12 hown hK hP 0 rfl rfl 2 (by decide) w_5_157 rfl dX12_look_1 ?_
      refine lv_aload_n hx hb dX12_look_4 rfl (lv_at hl 0 rfl) ?_
      refine sk_get (v := .int (nI pe)) (C := RX12) (T := TX12) (N := 92) hx hb hts inlX12 hown hK hP 0 rfl rfl 3 (by decide) w_5_158 rfl dX12_look_5 ?_
      refine lv_icmp_ge (tgt := 52) hx hb dX12_look_8 (by decide) (fun c_3 => ?_) (fun c_3 => ?_)
      · have c_3 : pe ≤ za := (nle pe za (by omega) (by omega)).mp c_3
        refine lv_aload_n hx hb dX12_look_52 rfl (lv_at hl 0 rfl) ?_
        refine sk_get (v := .int (nI za)) (C := RX12) (T := TX12) (N := 92) hx hb hts inlX12 hown hK hP 0 rfl rfl 2 (by decide) w_5_157 rfl dX12_look_53 ?_
        refine lv_aload_n hx hb dX12_look_56 rfl (lv_at hl 0 rfl) ?_
        refine sk_get (v := .int (nI pe)) (C := RX12) (T := TX12) (N := 92) hx hb hts inlX12 hown hK hP 0 rfl rfl 3 (by decide) w_5_158 rfl dX12_look_57 ?_
        refine lv_icmp_ge (tgt := 75) hx hb dX12_look_60 (by decide) (fun c_4 => ?_) (fun c_4 => ?_)
        · have c_4 : pe ≤ za := (nle pe za (by omega) (by omega)).mp c_4
          refine lv_iconst (v := (-1)) hx hb dX12_look_75 (by decide) ?_
          exact sk_iret hx hb hr rfl hlocks hK hP hD hS (⟨za, by omega, by omega, (Or.inl ⟨rfl, by omega⟩), hsty, ext_fin hze (by rw [qB_t]; omega), rfl⟩) (Nat.le_of_ble_eq_true rfl) (Nat.le_of_ble_eq_true rfl) dX12_look_76
        · have c_4 : ¬ (pe ≤ za) := fun h => c_4 ((nle pe za (by omega) (by omega)).mpr h)
          refine lv_aload_n hx hb dX12_look_63 rfl (lv_at hl 0 rfl) ?_
          refine sk_get (v := .ref (g 0)) (C := RX12) (T := TX12) (N := 92) hx hb hts inlX12 hown hK hP 0 rfl rfl 0 (by decide) w_5_155 rfl dX12_look_64 ?_
          refine lv_aload_n hx hb dX12_look_67 rfl (lv_at hl 0 rfl) ?_
          refine sk_get (v := .int (nI za)) (C := RX12) (T := TX12) (N := 92) hx hb hts inlX12 hown hK hP 0 rfl rfl 2 (by decide) w_5_157 rfl dX12_look_68 ?_
          refine va_iald hx hb hK.1 hP 1 0 rfl rfl (vin za 1600 (by omega) (by omega)) dX12_look_71 ?_
          refine sk_top (nI (tb za)) (nrd tb za (by omega)) ?_
          have hb_5 := htb za
          refine lv_goto (tgt := 76) hx hb dX12_look_72 (by decide) ?_
          exact sk_iret hx hb hr rfl hlocks hK hP hD hS (⟨za, by omega, by omega, (Or.inr ⟨by omega, rfl, by omega, by omega⟩), hsty, ext_fin hze (by rw [qB_t]; omega), rfl⟩) (Nat.le_of_ble_eq_true rfl) (Nat.le_of_ble_eq_true rfl) dX12_look_76
      · have c_3 : ¬ (pe ≤ za) := fun h => c_3 ((nle pe za (by omega) (by omega)).mpr h)
        refine lv_aload_n hx hb dX12_look_11 rfl (lv_at hl 0 rfl) ?_
        refine sk_get (v := .ref (g 0)) (C := RX12) (T := TX12) (N := 92) hx hb hts inlX12 hown hK hP 0 rfl rfl 0 (by decide) w_5_155 rfl dX12_look_12 ?_
        refine lv_aload_n hx hb dX12_look_15 rfl (lv_at hl 0 rfl) ?_
        refine sk_get (v := .int (nI za)) (C := RX12) (T := TX12) (N := 92) hx hb hts inlX12 hown hK hP 0 rfl rfl 2 (by decide) w_5_157 rfl dX12_look_16 ?_
        refine va_iald hx hb hK.1 hP 1 0 rfl rfl (vin za 1600 (by omega) (by omega)) dX12_look_19 ?_
        refine sk_top (nI (tb za)) (nrd tb za (by omega)) ?_
        have hb_6 := htb za
        refine lv_bipush (v := 10) hx hb dX12_look_20 (by decide) ?_
        refine lv_icmp_eq (tgt := 39) hx hb dX12_look_22 (by decide) (fun c_7 => ?_) (fun c_7 => ?_)
        · have c_7 : tb za = 10 := (neq (tb za) 10 (by omega) (by omega)).mp c_7
          refine lv_aload_n hx hb dX12_look_39 rfl (lv_at hl 0 rfl) ?_
          refine lv_dup hx hb dX12_look_40 rfl ?_
          refine sk_get (v := .int (nI za)) (C := RX12) (T := TX12) (N := 92) hx hb hts inlX12 hown hK hP 0 rfl rfl 2 (by decide) w_5_157 rfl dX12_look_41 ?_
          refine lv_iconst (v := 1) hx hb dX12_look_44 (by decide) ?_
          refine lv_iadd hx hb dX12_look_45 ?_
          refine sk_top (nI (za + 1)) (nI_add za 1) ?_
          refine sk_put (ws' := [(mm, .inr (12, mo g (nI ta) (nI (za + 1)) (nI pe) pd (nI pb) pp pf pg pn rt rn (nI cd) sn (nI il) tk am at_ aa 0 0 (-1) wt wy 0 (nI rm) (nI ud) (nI nu) sd (nI qn) (nI qw) qo (nI qb) (nI qp) qa (nI qi) (nI oc))), (g 0, .inl (cI, 1600, .inl (fun j => nI (tb j))))]) (C := RX12) (T := TX12) (N := 92) (v := .int (nI (za + 1))) hx hb hts inlX12 tyX12 tyX12_ok nmX12 hown hK hP hD hS 0 rfl rfl 2 (by decide) w_5_157 rfl rfl rfl (Nat.le_of_ble_eq_true rfl) rfl dX12_look_46 (fun H locs hP hD hS => ?_)
          refine lv_goto (tgt := 0) hx hb dX12_look_49 (by decide) ?_
          exact ih_lp_1 (za + 1) _ _ _ (by omega) (by omega) (by omega) (stay_tr hsty (stay_bl (by omega))) (ext_nxt hze (by omega) (qB_t.mpr (by omega))) hP hD hS (lv_sub hl [0] rfl)
        · have c_7 : ¬ (tb za = 10) := fun h => c_7 ((neq (tb za) 10 (by omega) (by omega)).mpr h)
          refine lv_aload_n hx hb dX12_look_25 rfl (lv_at hl 0 rfl) ?_
          refine sk_get (v := .ref (g 0)) (C := RX12) (T := TX12) (N := 92) hx hb hts inlX12 hown hK hP 0 rfl rfl 0 (by decide) w_5_155 rfl dX12_look_26 ?_
          refine lv_aload_n hx hb dX12_look_29 rfl (lv_at hl 0 rfl) ?_
          refine sk_get (v := .int (nI za)) (C := RX12) (T := TX12) (N := 92) hx hb hts inlX12 hown hK hP 0 rfl rfl 2 (by decide) w_5_157 rfl dX12_look_30 ?_
          refine va_iald hx hb hK.1 hP 1 0 rfl rfl (vin za 1600 (by omega) (by omega)) dX12_look_33 ?_
          refine sk_top (nI (tb za)) (nrd tb za (by omega)) ?_
          have hb_8 := htb za
          refine lv_bipush (v := 32) hx hb dX12_look_34 (by decide) ?_
          refine lv_icmp_ne (tgt := 52) hx hb dX12_look_36 (by decide) (fun c_9 => ?_) (fun c_9 => ?_)
          · have c_9 : ¬ (tb za = 32) := fun h => c_9 ((neq (tb za) 32 (by omega) (by omega)).mpr h)
            refine lv_aload_n hx hb dX12_look_52 rfl (lv_at hl 0 rfl) ?_
            refine sk_get (v := .int (nI za)) (C := RX12) (T := TX12) (N := 92) hx hb hts inlX12 hown hK hP 0 rfl rfl 2 (by decide) w_5_157 rfl dX12_look_53 ?_
            refine lv_aload_n hx hb dX12_look_56 rfl (lv_at hl 0 rfl) ?_
            refine sk_get (v := .int (nI pe)) (C := RX12) (T := TX12) (N := 92) hx hb hts inlX12 hown hK hP 0 rfl rfl 3 (by decide) w_5_158 rfl dX12_look_57 ?_
            refine lv_icmp_ge (tgt := 75) hx hb dX12_look_60 (by decide) (fun c_10 => ?_) (fun c_10 => ?_)
            · have c_10 : pe ≤ za := (nle pe za (by omega) (by omega)).mp c_10
              refine lv_iconst (v := (-1)) hx hb dX12_look_75 (by decide) ?_
              exact sk_iret hx hb hr rfl hlocks hK hP hD hS (⟨za, by omega, by omega, (Or.inl ⟨rfl, by omega⟩), hsty, ext_fin hze (by rw [qB_t]; omega), rfl⟩) (Nat.le_of_ble_eq_true rfl) (Nat.le_of_ble_eq_true rfl) dX12_look_76
            · have c_10 : ¬ (pe ≤ za) := fun h => c_10 ((nle pe za (by omega) (by omega)).mpr h)
              refine lv_aload_n hx hb dX12_look_63 rfl (lv_at hl 0 rfl) ?_
              refine sk_get (v := .ref (g 0)) (C := RX12) (T := TX12) (N := 92) hx hb hts inlX12 hown hK hP 0 rfl rfl 0 (by decide) w_5_155 rfl dX12_look_64 ?_
              refine lv_aload_n hx hb dX12_look_67 rfl (lv_at hl 0 rfl) ?_
              refine sk_get (v := .int (nI za)) (C := RX12) (T := TX12) (N := 92) hx hb hts inlX12 hown hK hP 0 rfl rfl 2 (by decide) w_5_157 rfl dX12_look_68 ?_
              refine va_iald hx hb hK.1 hP 1 0 rfl rfl (vin za 1600 (by omega) (by omega)) dX12_look_71 ?_
              refine sk_top (nI (tb za)) (nrd tb za (by omega)) ?_
              have hb_11 := htb za
              refine lv_goto (tgt := 76) hx hb dX12_look_72 (by decide) ?_
              exact sk_iret hx hb hr rfl hlocks hK hP hD hS (⟨za, by omega, by omega, (Or.inr ⟨by omega, rfl, by omega, by omega⟩), hsty, ext_fin hze (by rw [qB_t]; omega), rfl⟩) (Nat.le_of_ble_eq_true rfl) (Nat.le_of_ble_eq_true rfl) dX12_look_76
          · have c_9 : tb za = 32 := (neq (tb za) 32 (by omega) (by omega)).mp c_9
            refine lv_aload_n hx hb dX12_look_39 rfl (lv_at hl 0 rfl) ?_
            refine lv_dup hx hb dX12_look_40 rfl ?_
            refine sk_get (v := .int (nI za)) (C := RX12) (T := TX12) (N := 92) hx hb hts inlX12 hown hK hP 0 rfl rfl 2 (by decide) w_5_157 rfl dX12_look_41 ?_
            refine lv_iconst (v := 1) hx hb dX12_look_44 (by decide) ?_
            refine lv_iadd hx hb dX12_look_45 ?_
            refine sk_top (nI (za + 1)) (nI_add za 1) ?_
            refine sk_put (ws' := [(mm, .inr (12, mo g (nI ta) (nI (za + 1)) (nI pe) pd (nI pb) pp pf pg pn rt rn (nI cd) sn (nI il) tk am at_ aa 0 0 (-1) wt wy 0 (nI rm) (nI ud) (nI nu) sd (nI qn) (nI qw) qo (nI qb) (nI qp) qa (nI qi) (nI oc))), (g 0, .inl (cI, 1600, .inl (fun j => nI (tb j))))]) (C := RX12) (T := TX12) (N := 92) (v := .int (nI (za + 1))) hx hb hts inlX12 tyX12 tyX12_ok nmX12 hown hK hP hD hS 0 rfl rfl 2 (by decide) w_5_157 rfl rfl rfl (Nat.le_of_ble_eq_true rfl) rfl dX12_look_46 (fun H locs hP hD hS => ?_)
            refine lv_goto (tgt := 0) hx hb dX12_look_49 (by decide) ?_
            exact ih_lp_1 (za + 1) _ _ _ (by omega) (by omega) (by omega) (stay_tr hsty (stay_bl (by omega))) (ext_nxt hze (by omega) (qB_t.mpr (by omega))) hP hD hS (lv_sub hl [0] rfl)
  exact lp_1 (pe - pa + 1) pa _ _ _ (Nat.lt_succ_self _) (by omega) (by omega) stay_rf rfl hP hD hS (lv_sub hl [0] rfl)
