theorem dX12_fail_0 : decode cX12_fail 0 = .ok (.aload_n 0, 1) := by decide +kernel
theorem dX12_fail_1 : decode cX12_fail 1 = .ok (.getfield 195, 3) := by decide +kernel
theorem dX12_fail_4 : decode cX12_fail 4 = .ok (.ifCond .eq 4, 3) := by decide +kernel
theorem dX12_fail_8 : decode cX12_fail 8 = .ok (.aload_n 0, 1) := by decide +kernel
theorem dX12_fail_9 : decode cX12_fail 9 = .ok (.iload_n 1, 1) := by decide +kernel
theorem dX12_fail_10 : decode cX12_fail 10 = .ok (.putfield 195, 3) := by decide +kernel
theorem dX12_fail_13 : decode cX12_fail 13 = .ok (.aload_n 0, 1) := by decide +kernel
theorem dX12_fail_14 : decode cX12_fail 14 = .ok (.iload_n 2, 1) := by decide +kernel
theorem dX12_fail_15 : decode cX12_fail 15 = .ok (.putfield 198, 3) := by decide +kernel
theorem dX12_fail_18 : decode cX12_fail 18 = .ok (.return_, 1) := by decide +kernel
theorem dX12_fail_7 : decode cX12_fail 7 = .ok (.return_, 1) := by decide +kernel
theorem w_5_160 : (Cond.fieldLink RX12 195 "SameKeeperModel" "bad" "I") ∈ wsL_law := sk_mem (ck_5 _ (List.mem_of_getElem? (i := 160) rfl)) rfl
theorem w_5_161 : (Cond.fieldLink RX12 198 "SameKeeperModel" "badPlace" "I") ∈ wsL_law := sk_mem (ck_5 _ (List.mem_of_getElem? (i := 161) rfl)) rfl
theorem w_6_232 : (Cond.code yX12_fail cX12_fail 3 none) ∈ wsL_law := sk_mem (ck_6 _ (List.mem_of_getElem? (i := 232) rfl)) rfl
set_option maxHeartbeats 4000000 in
set_option maxRecDepth 100000 in
theorem c_m_fail (l : Launch) (D : va_G) (cI cJ cC cZ cS : ClassId) (mm : Nat) (g : Nat → Nat) (ta : Nat) (pa : Nat) (pe : Nat) (pd : Int32) (pb : Nat) (pp : Int32) (pf : Int32) (pg : Int32) (pn : Int32) (rt : Int32) (rn : Int32) (cd : Nat) (sn : Int32) (il : Nat) (tk : Int32) (am : Int32) (at_ : Int32) (aa : Int32) (wt : Int32) (wy : Int64) (rm : Nat) (ud : Nat) (nu : Nat) (sd : Int64) (qn : Nat) (qw : Nat) (qo : Int32) (qb : Nat) (qp : Nat) (qa : Int64) (qi : Nat) (oc : Nat) (w : Nat) (o : Int32) (hpb : pb ≤ 5) (hw : 1 ≤ w) (hw5 : w ≤ 5) : skM l yX12_fail cX12_fail 3 none 0 0 0 0 D (skT cI cJ cC cZ cS) [.ref mm, .int (nI w), .int o] [(mm, .inr (12, mo g (nI ta) (nI pa) (nI pe) pd (nI pb) pp pf pg pn rt rn (nI cd) sn (nI il) tk am at_ aa 0 0 (-1) wt wy 0 (nI rm) (nI ud) (nI nu) sd (nI qn) (nI qw) qo (nI qb) (nI qp) qa (nI qi) (nI oc)))] (skV D (skT cI cJ cC cZ cS) (fun (u : va_W) => ∃ (pb2 : Nat), ∃ (pp2 : Int32), pb2 ≤ 5 ∧ ¬ pb2 = 0 ∧ u = [(mm, .inr (12, mo g (nI ta) (nI pa) (nI pe) pd (nI pb2) pp2 pf pg pn rt rn (nI cd) sn (nI il) tk am at_ aa 0 0 (-1) wt wy 0 (nI rm) (nI ud) (nI nu) sd (nI qn) (nI qw) qo (nI qb) (nI qp) qa (nI qi) (nI oc)))])) := by
  refine skM_of (by decide +kernel) (Nat.le_of_ble_eq_true rfl) ?_
  intro p e s m below meth c A ls E hP hD hl
  obtain ⟨hx, hb, hr, hml, hlocks, hin, hown, hts, hK, hA⟩ := E
  have hown : s.vm.findClass RX12 = some m.cls := hown
  have hS : va_S A s.heap s.heap [] := va_S.rf
  have hl : lv_has ls 3 [(0, .ref mm), (1, .int (nI w)), (2, .int o)] := hl
  refine lv_aload_n hx hb dX12_fail_0 rfl (lv_at hl 0 rfl) ?_
  refine sk_get (v := .int (nI pb)) (C := RX12) (T := TX12) (N := 92) hx hb hts inlX12 hown hK hP 0 rfl rfl 5 (by decide) w_5_160 rfl dX12_fail_1 ?_
  refine lv_if_eq (tgt := 8) hx hb dX12_fail_4 (by decide) (fun c_1 => ?_) (fun c_1 => ?_)
  · have c_1 : pb = 0 := (neq pb 0 (by omega) (by omega)).mp c_1
    refine lv_aload_n hx hb dX12_fail_8 rfl (lv_at hl 0 rfl) ?_
    refine lv_iload_n hx hb dX12_fail_9 rfl (lv_at hl 1 rfl) ?_
    refine sk_put (ws' := [(mm, .inr (12, mo g (nI ta) (nI pa) (nI pe) pd (nI w) pp pf pg pn rt rn (nI cd) sn (nI il) tk am at_ aa 0 0 (-1) wt wy 0 (nI rm) (nI ud) (nI nu) sd (nI qn) (nI qw) qo (nI qb) (nI qp) qa (nI qi) (nI oc)))]) (C := RX12) (T := TX12) (N := 92) (v := .int (nI w)) hx hb hts inlX12 tyX12 tyX12_ok nmX12 hown hK hP hD hS 0 rfl rfl 5 (by decide) w_5_160 rfl rfl rfl (Nat.le_of_ble_eq_true rfl) rfl dX12_fail_10 (fun H locs hP hD hS => ?_)
    refine lv_aload_n hx hb dX12_fail_13 rfl (lv_at hl 0 rfl) ?_
    refine lv_iload_n hx hb dX12_fail_14 rfl (lv_at hl 2 rfl) ?_
    refine sk_put (ws' := [(mm, .inr (12, mo g (nI ta) (nI pa) (nI pe) pd (nI w) o pf pg pn rt rn (nI cd) sn (nI il) tk am at_ aa 0 0 (-1) wt wy 0 (nI rm) (nI ud) (nI nu) sd (nI qn) (nI qw) qo (nI qb) (nI qp) qa (nI qi) (nI oc)))]) (C := RX12) (T := TX12) (N := 92) (v := .int o) hx hb hts inlX12 tyX12 tyX12_ok nmX12 hown hK hP hD hS 0 rfl rfl 6 (by decide) w_5_161 rfl rfl rfl (Nat.le_of_ble_eq_true rfl) rfl dX12_fail_15 (fun H locs hP hD hS => ?_)
    exact sk_vret hx hb hr hlocks hK hP hD hS (⟨w, o, by omega, by omega, rfl⟩) (Nat.le_of_ble_eq_true rfl) (Nat.le_of_ble_eq_true rfl) dX12_fail_18
  · have c_1 : ¬ (pb = 0) := fun h => c_1 ((neq pb 0 (by omega) (by omega)).mpr h)
    exact sk_vret hx hb hr hlocks hK hP hD hS (⟨pb, pp, by omega, by omega, rfl⟩) (Nat.le_of_ble_eq_true rfl) (Nat.le_of_ble_eq_true rfl) dX12_fail_7
theorem dX12_look_0 : decode cX12_look 0 = .ok (.aload_n 0, 1) := by decide +kernel
theorem dX12_look_1 : decode cX12_look 1 = .ok (.getfield 201, 3) := by decide +kernel
theorem dX12_look_4 : decode cX12_look 4 = .ok (.aload_n 0, 1) := by decide +kernel
theorem dX12_look_5 : decode cX12_look 5 = .ok (.getfield 204, 3) := by decide +kernel
theorem dX12_look_8 : decode cX12_look 8 = .ok (.if_icmp .ge 44, 3) := by decide +kernel
theorem dX12_look_52 : decode cX12_look 52 = .ok (.aload_n 0, 1) := by decide +kernel
theorem dX12_look_53 : decode cX12_look 53 = .ok (.getfield 201, 3) := by decide +kernel
theorem dX12_look_56 : decode cX12_look 56 = .ok (.aload_n 0, 1) := by decide +kernel
theorem dX12_look_57 : decode cX12_look 57 = .ok (.getfield 204, 3) := by decide +kernel
theorem dX12_look_60 : decode cX12_look 60 = .ok (.if_icmp .ge 15, 3) := by decide +kernel
theorem dX12_look_75 : decode cX12_look 75 = .ok (.iconst (-1), 1) := by decide +kernel
theorem dX12_look_76 : decode cX12_look 76 = .ok (.ireturn, 1) := by decide +kernel
theorem dX12_look_63 : decode cX12_look 63 = .ok (.aload_n 0, 1) := by decide +kernel
theorem dX12_look_64 : decode cX12_look 64 = .ok (.getfield 7, 3) := by decide +kernel
theorem dX12_look_67 : decode cX12_look 67 = .ok (.aload_n 0, 1) := by decide +kernel
theorem dX12_look_68 : decode cX12_look 68 = .ok (.getfield 201, 3) := by decide +kernel
theorem dX12_look_71 : decode cX12_look 71 = .ok (.iaload, 1) := by decide +kernel
theorem dX12_look_72 : decode cX12_look 72 = .ok (.goto 4, 3) := by decide +kernel
theorem dX12_look_11 : decode cX12_look 11 = .ok (.aload_n 0, 1) := by decide +kernel
theorem dX12_look_12 : decode cX12_look 12 = .ok (.getfield 7, 3) := by decide +kernel
theorem dX12_look_15 : decode cX12_look 15 = .ok (.aload_n 0, 1) := by decide +kernel
theorem dX12_look_16 : decode cX12_look 16 = .ok (.getfield 201, 3) := by decide +kernel
theorem dX12_look_19 : decode cX12_look 19 = .ok (.iaload, 1) := by decide +kernel
theorem dX12_look_20 : decode cX12_look 20 = .ok (.bipush 10, 2) := by decide +kernel
theorem dX12_look_22 : decode cX12_look 22 = .ok (.if_icmp .eq 17, 3) := by decide +kernel
theorem dX12_look_39 : decode cX12_look 39 = .ok (.aload_n 0, 1) := by decide +kernel
theorem dX12_look_40 : decode cX12_look 40 = .ok (.dup, 1) := by decide +kernel
theorem dX12_look_41 : decode cX12_look 41 = .ok (.getfield 201, 3) := by decide +kernel
theorem dX12_look_44 : decode cX12_look 44 = .ok (.iconst 1, 1) := by decide +kernel
theorem dX12_look_45 : decode cX12_look 45 = .ok (.iadd, 1) := by decide +kernel
theorem dX12_look_46 : decode cX12_look 46 = .ok (.putfield 201, 3) := by decide +kernel
theorem dX12_look_49 : decode cX12_look 49 = .ok (.goto (-49), 3) := by decide +kernel
theorem dX12_look_25 : decode cX12_look 25 = .ok (.aload_n 0, 1) := by decide +kernel
theorem dX12_look_26 : decode cX12_look 26 = .ok (.getfield 7, 3) := by decide +kernel
theorem dX12_look_29 : decode cX12_look 29 = .ok (.aload_n 0, 1) := by decide +kernel
theorem dX12_look_30 : decode cX12_look 30 = .ok (.getfield 201, 3) := by decide +kernel
theorem dX12_look_33 : decode cX12_look 33 = .ok (.iaload, 1) := by decide +kernel
theorem dX12_look_34 : decode cX12_look 34 = .ok (.bipush 32, 2) := by decide +kernel
theorem dX12_look_36 : decode cX12_look 36 = .ok (.if_icmp .ne 16, 3) := by decide +kernel
theorem w_5_157 : (Cond.fieldLink RX12 201 "SameKeeperModel" "at" "I") ∈ wsL_law := sk_mem (ck_5 _ (List.mem_of_getElem? (i := 157) rfl)) rfl
theorem w_5_158 : (Cond.fieldLink RX12 204 "SameKeeperModel" "end" "I") ∈ wsL_law := sk_mem (ck_5 _ (List.mem_of_getElem? (i := 158) rfl)) rfl
theorem w_6_225 : (Cond.code yX12_look cX12_look 1 (some .int)) ∈ wsL_law := sk_mem (ck_6 _ (List.mem_of_getElem? (i := 225) rfl)) rfl
set_option maxHeartbeats 4000000 in
set_option maxRecDepth 100000 in
theorem c_m_look (l : Launch) (D : va_G) (cI cJ cC cZ cS : ClassId) (mm : Nat) (g : Nat → Nat) (ta : Nat) (pa : Nat) (pe : Nat) (pd : Int32) (pb : Nat) (pp : Int32) (pf : Int32) (pg : Int32) (pn : Int32) (rt : Int32) (rn : Int32) (cd : Nat) (sn : Int32) (il : Nat) (tk : Int32) (am : Int32) (at_ : Int32) (aa : Int32) (wt : Int32) (wy : Int64) (rm : Nat) (ud : Nat) (nu : Nat) (sd : Int64) (qn : Nat) (qw : Nat) (qo : Int32) (qb : Nat) (qp : Nat) (qa : Int64) (qi : Nat) (oc : Nat) (tb : Nat → Nat) (hpa : pa ≤ pe) (hpe : pe ≤ 1600) (htb : ∀ j, tb j ≤ 255) : skM l yX12_look cX12_look 1 (some .int) 0 0 0 0 D (skT cI cJ cC cZ cS) [.ref mm] [(mm, .inr (12, mo g (nI ta) (nI pa) (nI pe) pd (nI pb) pp pf pg pn rt rn (nI cd) sn (nI il) tk am at_ aa 0 0 (-1) wt wy 0 (nI rm) (nI ud) (nI nu) sd (nI qn) (nI qw) qo (nI qb) (nI qp) qa (nI qi) (nI oc))), (g 0, .inl (cI, 1600, .inl (fun j => nI (tb j))))] (skI D (skT cI cJ cC cZ cS) (fun (r : Int32) (u : va_W) => ∃ (pa2 : Nat), pa ≤ pa2 ∧ pa2 ≤ pe ∧ lkOk tb r pa2 pe ∧ stay tb pe pa pa2 ∧ u = [(mm, .inr (12, mo g (nI ta) (nI pa2) (nI pe) pd (nI pb) pp pf pg pn rt rn (nI cd) sn (nI il) tk am at_ aa 0 0 (-1) wt wy 0 (nI rm) (nI ud) (nI nu) sd (nI qn) (nI qw) qo (nI qb) (nI qp) qa (nI qi) (nI oc))), (g 0, .inl (cI, 1600, .inl (fun j => nI (tb j))))])) := by
  refine skM_of (by decide +kernel) (Nat.le_of_ble_eq_true rfl) ?_
  intro p e s m below meth c A ls E hP hD hl
  obtain ⟨hx, hb, hr, hml, hlocks, hin, hown, hts, hK, hA⟩ := E
  have hown : s.vm.findClass RX12 = some m.cls := hown
  have hS : va_S A s.heap s.heap [] := va_S.rf
  have hl : lv_has ls 1 [(0, .ref mm)] := hl
  have lp_1 : ∀ (n_2 : Nat) (za : Nat) (H : Heap) (locs : List Loc) (ls : Array Slot), pe - za < n_2 → (pa ≤ za) → (za ≤ pe) → (stay tb pe pa za) → va_P D vwCl [(mm, .inr (12, mo g (nI ta) (nI za) (nI pe) pd (nI pb) pp pf pg pn rt rn (nI cd) sn (nI il) tk am at_ aa 0 0 (-1) wt wy 0 (nI rm) (nI ud) (nI nu) sd (nI qn) (nI qw) qo (nI qb) (nI qp) qa (nI qi) (nI oc))), (g 0, .inl (cI, 1600, .inl (fun j => nI (tb j))))] H → va_D A [(mm, .inr (12, mo g (nI ta) (nI za) (nI pe) pd (nI pb) pp pf pg pn rt rn (nI cd) sn (nI il) tk am at_ aa 0 0 (-1) wt wy 0 (nI rm) (nI ud) (nI nu) sd (nI qn) (nI qw) qo (nI qb) (nI qp) qa (nI qi) (nI oc))), (g 0, .inl (cI, 1600, .inl (fun j => nI (tb j))))] → va_S A s.heap H locs → lv_has ls 1 [(0, .ref mm)] → W p l e { frames := 0, cells := 0, slots := 0, locals := 0 } s m ([.ref mm] : List Value).toArray below meth c H locs 0 0 (MQ below (skI D (skT cI cJ cC cZ cS) (fun (r : Int32) (u : va_W) => ∃ (pa2 : Nat), pa ≤ pa2 ∧ pa2 ≤ pe ∧ lkOk tb r pa2 pe ∧ stay tb pe pa pa2 ∧ u = [(mm, .inr (12, mo g (nI ta) (nI pa2) (nI pe) pd (nI pb) pp pf pg pn rt rn (nI cd) sn (nI il) tk am at_ aa 0 0 (-1) wt wy 0 (nI rm) (nI ud) (nI nu) sd (nI qn) (nI qw) qo (nI qb) (nI qp) qa (nI qi) (nI oc))), (g 0, .inl (cI, 1600, .inl (fun j => nI (tb j))))]) A) ([.ref mm] : List Value).toArray s 0 0 A) (F0 m 0 ls []) := by
    intro n_2
    induction n_2 with
    | zero => intro za H locs ls hm; exact absurd hm (Nat.not_lt_zero _)
    | succ n_2 ih_lp_1 =>
      intro za H locs ls hm hza hza2 hsty hP hD hS hl
      refine lv_aload_n hx hb dX12_look_0 rfl (lv_at hl 0 rfl) ?_
      refine sk_get (v := .int (nI za)) (C := RX12) (T := TX12) (N := 92) hx hb hts inlX12 hown hK hP 0 rfl rfl 2 (by decide) w_5_157 rfl dX12_look_1 ?_
      refine lv_aload_n hx hb dX12_look_4 rfl (lv_at hl 0 rfl) ?_
      refine sk_get (v := .int (nI pe)) (C := RX12) (T := TX12) (N := 92) hx hb hts inlX12 hown hK hP 0 rfl rfl 3 (by decide) w_5_158 rfl dX12_look_5 ?_
      refine lv_icmp_ge (tgt := 52) hx hb dX12_look_8 (by decide) (fun c_3 => ?_) (fun c_3 => ?_)
      · have c_3 : pe ≤ za := (nle pe za (by omega) (by omega)).mp c_3
        refine lv_aload_n hx hb dX12_look_52 rfl (lv_at hl 0 rfl) ?_
        refine sk_get (v := .int (nI za)) (C := RX12) (T := TX12) (N := 92) hx hb hts inlX12 hown hK hP 0 rfl rfl 2 (by decide) w_5_157 rfl dX12_look_53 ?_
        refine lv_aload_n hx hb dX12_look_56 rfl (lv_at hl 0 rfl) ?_
        refine sk_get (v := .int (nI pe)) (C := RX12) (T := TX12) (N := 92) hx hb hts inlX12 hown hK hP 0 rfl rfl 3 (by decide) w_5_158 rfl dX12_look_57 ?_
        refine lv_icmp_ge (tgt := 75) hx hb dX12_look_60 (by decide) (fun c_4 => ?_) (fun c_4 => ?_)
        · have c_4 : pe ≤ za := (nle pe za (by omega) (by omega)).mp c_4
          refine lv_iconst (v := (-1)) hx hb dX12_look_75 (by decide) ?_
          exact sk_iret hx hb hr rfl hlocks hK hP hD hS (⟨za, by omega, by omega, (Or.inl ⟨rfl, by omega⟩), hsty, rfl⟩) (Nat.le_of_ble_eq_true rfl) (Nat.le_of_ble_eq_true rfl) dX12_look_76
        · have c_4 : ¬ (pe ≤ za) := fun h => c_4 ((nle pe za (by omega) (by omega)).mpr h)
          refine lv_aload_n hx hb dX12_look_63 rfl (lv_at hl 0 rfl) ?_
          refine sk_get (v := .ref (g 0)) (C := RX12) (T := TX12) (N := 92) hx hb hts inlX12 hown hK hP 0 rfl rfl 0 (by decide) w_5_155 rfl dX12_look_64 ?_
          refine lv_aload_n hx hb dX12_look_67 rfl (lv_at hl 0 rfl) ?_
          refine sk_get (v := .int (nI za)) (C := RX12) (T := TX12) (N := 92) hx hb hts inlX12 hown hK hP 0 rfl rfl 2 (by decide) w_5_157 rfl dX12_look_68 ?_
          refine va_iald hx hb hK.1 hP 1 0 rfl rfl (vin za 1600 (by omega) (by omega)) dX12_look_71 ?_
          refine sk_top (nI (tb za)) (nrd tb za (by omega)) ?_
          have hb_5 := htb za
          refine lv_goto (tgt := 76) hx hb dX12_look_72 (by decide) ?_
          exact sk_iret hx hb hr rfl hlocks hK hP hD hS (⟨za, by omega, by omega, (Or.inr ⟨by omega, rfl, by omega, by omega⟩), hsty, rfl⟩) (Nat.le_of_ble_eq_true rfl) (Nat.le_of_ble_eq_true rfl) dX12_look_76
      · have c_3 : ¬ (pe ≤ za) := fun h => c_3 ((nle pe za (by omega) (by omega)).mpr h)
        refine lv_aload_n hx hb dX12_look_11 rfl (lv_at hl 0 rfl) ?_
        refine sk_get (v := .ref (g 0)) (C := RX12) (T := TX12) (N := 92) hx hb hts inlX12 hown hK hP 0 rfl rfl 0 (by decide) w_5_155 rfl dX12_look_12 ?_
        refine lv_aload_n hx hb dX12_look_15 rfl (lv_at hl 0 rfl) ?_
        refine sk_get (v := .int (nI za)) (C := RX12) (T := TX12) (N := 92) hx hb hts inlX12 hown hK hP 0 rfl rfl 2 (by decide) w_5_157 rfl dX12_look_16 ?_
        refine va_iald hx hb hK.1 hP 1 0 rfl rfl (vin za 1600 (by omega) (by omega)) dX12_look_19 ?_
        refine sk_top (nI (tb za)) (nrd tb za (by omega)) ?_
        have hb_6 := htb za
        refine lv_bipush (v := 10) hx hb dX12_look_20 (by decide) ?_
        refine lv_icmp_eq (tgt := 39) hx hb dX12_look_22 (by decide) (fun c_7 => ?_) (fun c_7 => ?_)
        · have c_7 : tb za = 10 := (neq (tb za) 10 (by omega) (by omega)).mp c_7
          refine lv_aload_n hx hb dX12_look_39 rfl (lv_at hl 0 rfl) ?_
          refine lv_dup hx hb dX12_look_40 rfl ?_
          refine sk_get (v := .int (nI za)) (C := RX12) (T := TX12) (N := 92) hx hb hts inlX12 hown hK hP 0 rfl rfl 2 (by decide) w_5_157 rfl dX12_look_41 ?_
          refine lv_iconst (v := 1) hx hb dX12_look_44 (by decide) ?_
          refine lv_iadd hx hb dX12_look_45 ?_
          refine sk_top (nI (za + 1)) (nI_add za 1) ?_
          refine sk_put (ws' := [(mm, .inr (12, mo g (nI ta) (nI (za + 1)) (nI pe) pd (nI pb) pp pf pg pn rt rn (nI cd) sn (nI il) tk am at_ aa 0 0 (-1) wt wy 0 (nI rm) (nI ud) (nI nu) sd (nI qn) (nI qw) qo (nI qb) (nI qp) qa (nI qi) (nI oc))), (g 0, .inl (cI, 1600, .inl (fun j => nI (tb j))))]) (C := RX12) (T := TX12) (N := 92) (v := .int (nI (za + 1))) hx hb hts inlX12 tyX12 tyX12_ok nmX12 hown hK hP hD hS 0 rfl rfl 2 (by decide) w_5_157 rfl rfl rfl (Nat.le_of_ble_eq_true rfl) rfl dX12_look_46 (fun H locs hP hD hS => ?_)
          refine lv_goto (tgt := 0) hx hb dX12_look_49 (by decide) ?_
          exact ih_lp_1 (za + 1) _ _ _ (by omega) (by omega) (by omega) (stay_tr hsty (stay_bl (by omega))) hP hD hS (lv_sub hl [0] rfl)
        · have c_7 : ¬ (tb za = 10) := fun h => c_7 ((neq (tb za) 10 (by omega) (by omega)).mpr h)
          refine lv_aload_n hx hb dX12_look_25 rfl (lv_at hl 0 rfl) ?_
          refine sk_get (v := .ref (g 0)) (C := RX12) (T := TX12) (N := 92) hx hb hts inlX12 hown hK hP 0 rfl rfl 0 (by decide) w_5_155 rfl dX12_look_26 ?_
          refine lv_aload_n hx hb dX12_look_29 rfl (lv_at hl 0 rfl) ?_
          refine sk_get (v := .int (nI za)) (C := RX12) (T := TX12) (N := 92) hx hb hts inlX12 hown hK hP 0 rfl rfl 2 (by decide) w_5_157 rfl dX12_look_30 ?_
          refine va_iald hx hb hK.1 hP 1 0 rfl rfl (vin za 1600 (by omega) (by omega)) dX12_look_33 ?_
          refine sk_top (nI (tb za)) (nrd tb za (by omega)) ?_
          have hb_8 := htb za
          refine lv_bipush (v := 32) hx hb dX12_look_34 (by decide) ?_
          refine lv_icmp_ne (tgt := 52) hx hb dX12_look_36 (by decide) (fun c_9 => ?_) (fun c_9 => ?_)
          · have c_9 : ¬ (tb za = 32) := fun h => c_9 ((neq (tb za) 32 (by omega) (by omega)).mpr h)
            refine lv_aload_n hx hb dX12_look_52 rfl (lv_at hl 0 rfl) ?_
            refine sk_get (v := .int (nI za)) (C := RX12) (T := TX12) (N := 92) hx hb hts inlX12 hown hK hP 0 rfl rfl 2 (by decide) w_5_157 rfl dX12_look_53 ?_
            refine lv_aload_n hx hb dX12_look_56 rfl (lv_at hl 0 rfl) ?_
            refine sk_get (v := .int (nI pe)) (C := RX12) (T := TX12) (N := 92) hx hb hts inlX12 hown hK hP 0 rfl rfl 3 (by decide) w_5_158 rfl dX12_look_57 ?_
            refine lv_icmp_ge (tgt := 75) hx hb dX12_look_60 (by decide) (fun c_10 => ?_) (fun c_10 => ?_)
            · have c_10 : pe ≤ za := (nle pe za (by omega) (by omega)).mp c_10
              refine lv_iconst (v := (-1)) hx hb dX12_look_75 (by decide) ?_
              exact sk_iret hx hb hr rfl hlocks hK hP hD hS (⟨za, by omega, by omega, (Or.inl ⟨rfl, by omega⟩), hsty, rfl⟩) (Nat.le_of_ble_eq_true rfl) (Nat.le_of_ble_eq_true rfl) dX12_look_76
            · have c_10 : ¬ (pe ≤ za) := fun h => c_10 ((nle pe za (by omega) (by omega)).mpr h)
              refine lv_aload_n hx hb dX12_look_63 rfl (lv_at hl 0 rfl) ?_
              refine sk_get (v := .ref (g 0)) (C := RX12) (T := TX12) (N := 92) hx hb hts inlX12 hown hK hP 0 rfl rfl 0 (by decide) w_5_155 rfl dX12_look_64 ?_
              refine lv_aload_n hx hb dX12_look_67 rfl (lv_at hl 0 rfl) ?_
              refine sk_get (v := .int (nI za)) (C := RX12) (T := TX12) (N := 92) hx hb hts inlX12 hown hK hP 0 rfl rfl 2 (by decide) w_5_157 rfl dX12_look_68 ?_
              refine va_iald hx hb hK.1 hP 1 0 rfl rfl (vin za 1600 (by omega) (by omega)) dX12_look_71 ?_
              refine sk_top (nI (tb za)) (nrd tb za (by omega)) ?_
              have hb_11 := htb za
              refine lv_goto (tgt := 76) hx hb dX12_look_72 (by decide) ?_
              exact sk_iret hx hb hr rfl hlocks hK hP hD hS (⟨za, by omega, by omega, (Or.inr ⟨by omega, rfl, by omega, by omega⟩), hsty, rfl⟩) (Nat.le_of_ble_eq_true rfl) (Nat.le_of_ble_eq_true rfl) dX12_look_76
          · have c_9 : tb za = 32 := (neq (tb za) 32 (by omega) (by omega)).mp c_9
            refine lv_aload_n hx hb dX12_look_39 rfl (lv_at hl 0 rfl) ?_
            refine lv_dup hx hb dX12_look_40 rfl ?_
            refine sk_get (v := .int (nI za)) (C := RX12) (T := TX12) (N := 92) hx hb hts inlX12 hown hK hP 0 rfl rfl 2 (by decide) w_5_157 rfl dX12_look_41 ?_
            refine lv_iconst (v := 1) hx hb dX12_look_44 (by decide) ?_
            refine lv_iadd hx hb dX12_look_45 ?_
            refine sk_top (nI (za + 1)) (nI_add za 1) ?_
            refine sk_put (ws' := [(mm, .inr (12, mo g (nI ta) (nI (za + 1)) (nI pe) pd (nI pb) pp pf pg pn rt rn (nI cd) sn (nI il) tk am at_ aa 0 0 (-1) wt wy 0 (nI rm) (nI ud) (nI nu) sd (nI qn) (nI qw) qo (nI qb) (nI qp) qa (nI qi) (nI oc))), (g 0, .inl (cI, 1600, .inl (fun j => nI (tb j))))]) (C := RX12) (T := TX12) (N := 92) (v := .int (nI (za + 1))) hx hb hts inlX12 tyX12 tyX12_ok nmX12 hown hK hP hD hS 0 rfl rfl 2 (by decide) w_5_157 rfl rfl rfl (Nat.le_of_ble_eq_true rfl) rfl dX12_look_46 (fun H locs hP hD hS => ?_)
            refine lv_goto (tgt := 0) hx hb dX12_look_49 (by decide) ?_
            exact ih_lp_1 (za + 1) _ _ _ (by omega) (by omega) (by omega) (stay_tr hsty (stay_bl (by omega))) hP hD hS (lv_sub hl [0] rfl)
  exact lp_1 (pe - pa + 1) pa _ _ _ (Nat.lt_succ_self _) (by omega) (by omega) stay_rf hP hD hS (lv_sub hl [0] rfl)
theorem dX12_isHere_0 : decode cX12_isHere 0 = .ok (.aload_n 0, 1) := by decide +kernel
theorem dX12_isHere_1 : decode cX12_isHere 1 = .ok (.getfield 195, 3) := by decide +kernel
theorem dX12_isHere_4 : decode cX12_isHere 4 = .ok (.ifCond .ne 24, 3) := by decide +kernel
theorem dX12_isHere_28 : decode cX12_isHere 28 = .ok (.iconst 0, 1) := by decide +kernel
theorem dX12_isHere_29 : decode cX12_isHere 29 = .ok (.ireturn, 1) := by decide +kernel
theorem dX12_isHere_7 : decode cX12_isHere 7 = .ok (.aload_n 0, 1) := by decide +kernel
theorem dX12_isHere_8 : decode cX12_isHere 8 = .ok (.invokevirtual 207, 3) := by decide +kernel
theorem dX12_isHere_11 : decode cX12_isHere 11 = .ok (.invokestatic 211, 3) := by decide +kernel
theorem dX12_isHere_14 : decode cX12_isHere 14 = .ok (.ifCond .eq 14, 3) := by decide +kernel
theorem dX12_isHere_17 : decode cX12_isHere 17 = .ok (.aload_n 0, 1) := by decide +kernel
theorem dX12_isHere_18 : decode cX12_isHere 18 = .ok (.getfield 201, 3) := by decide +kernel
theorem dX12_isHere_21 : decode cX12_isHere 21 = .ok (.aload_n 0, 1) := by decide +kernel
theorem dX12_isHere_22 : decode cX12_isHere 22 = .ok (.getfield 215, 3) := by decide +kernel
theorem dX12_isHere_25 : decode cX12_isHere 25 = .ok (.if_icmp .ne 5, 3) := by decide +kernel
theorem dX12_isHere_30 : decode cX12_isHere 30 = .ok (.aload_n 0, 1) := by decide +kernel
theorem dX12_isHere_31 : decode cX12_isHere 31 = .ok (.getfield 201, 3) := by decide +kernel
theorem dX12_isHere_34 : decode cX12_isHere 34 = .ok (.istore_n 2, 1) := by decide +kernel
theorem dX12_isHere_35 : decode cX12_isHere 35 = .ok (.iload_n 2, 1) := by decide +kernel
theorem dX12_isHere_36 : decode cX12_isHere 36 = .ok (.aload_n 0, 1) := by decide +kernel
theorem dX12_isHere_37 : decode cX12_isHere 37 = .ok (.getfield 204, 3) := by decide +kernel
theorem dX12_isHere_40 : decode cX12_isHere 40 = .ok (.if_icmp .ge 21, 3) := by decide +kernel
theorem dX12_isHere_61 : decode cX12_isHere 61 = .ok (.iload_n 2, 1) := by decide +kernel
theorem dX12_isHere_62 : decode cX12_isHere 62 = .ok (.aload_n 0, 1) := by decide +kernel
theorem dX12_isHere_63 : decode cX12_isHere 63 = .ok (.getfield 201, 3) := by decide +kernel
theorem dX12_isHere_66 : decode cX12_isHere 66 = .ok (.isub, 1) := by decide +kernel
theorem dX12_isHere_67 : decode cX12_isHere 67 = .ok (.aload_n 1, 1) := by decide +kernel
theorem dX12_isHere_68 : decode cX12_isHere 68 = .ok (.arraylength, 1) := by decide +kernel
theorem dX12_isHere_69 : decode cX12_isHere 69 = .ok (.if_icmp .eq 5, 3) := by decide +kernel
theorem dX12_isHere_74 : decode cX12_isHere 74 = .ok (.iconst 0, 1) := by decide +kernel
theorem dX12_isHere_75 : decode cX12_isHere 75 = .ok (.istore_n 3, 1) := by decide +kernel
theorem dX12_isHere_76 : decode cX12_isHere 76 = .ok (.iload_n 3, 1) := by decide +kernel
theorem dX12_isHere_77 : decode cX12_isHere 77 = .ok (.aload_n 1, 1) := by decide +kernel
theorem dX12_isHere_78 : decode cX12_isHere 78 = .ok (.arraylength, 1) := by decide +kernel
theorem dX12_isHere_79 : decode cX12_isHere 79 = .ok (.if_icmp .ge 28, 3) := by decide +kernel
theorem dX12_isHere_107 : decode cX12_isHere 107 = .ok (.iconst 1, 1) := by decide +kernel
theorem dX12_isHere_108 : decode cX12_isHere 108 = .ok (.ireturn, 1) := by decide +kernel
theorem dX12_isHere_82 : decode cX12_isHere 82 = .ok (.aload_n 0, 1) := by decide +kernel
theorem dX12_isHere_83 : decode cX12_isHere 83 = .ok (.getfield 7, 3) := by decide +kernel
theorem dX12_isHere_86 : decode cX12_isHere 86 = .ok (.aload_n 0, 1) := by decide +kernel
theorem dX12_isHere_87 : decode cX12_isHere 87 = .ok (.getfield 201, 3) := by decide +kernel
theorem dX12_isHere_90 : decode cX12_isHere 90 = .ok (.iload_n 3, 1) := by decide +kernel
theorem dX12_isHere_91 : decode cX12_isHere 91 = .ok (.iadd, 1) := by decide +kernel
theorem dX12_isHere_92 : decode cX12_isHere 92 = .ok (.iaload, 1) := by decide +kernel
theorem dX12_isHere_93 : decode cX12_isHere 93 = .ok (.aload_n 1, 1) := by decide +kernel
theorem dX12_isHere_94 : decode cX12_isHere 94 = .ok (.iload_n 3, 1) := by decide +kernel
theorem dX12_isHere_95 : decode cX12_isHere 95 = .ok (.caload, 1) := by decide +kernel
theorem dX12_isHere_96 : decode cX12_isHere 96 = .ok (.if_icmp .eq 5, 3) := by decide +kernel
theorem dX12_isHere_101 : decode cX12_isHere 101 = .ok (.iinc 3 1, 3) := by decide +kernel
theorem dX12_isHere_104 : decode cX12_isHere 104 = .ok (.goto (-28), 3) := by decide +kernel
theorem dX12_isHere_99 : decode cX12_isHere 99 = .ok (.iconst 0, 1) := by decide +kernel
theorem dX12_isHere_100 : decode cX12_isHere 100 = .ok (.ireturn, 1) := by decide +kernel
theorem dX12_isHere_72 : decode cX12_isHere 72 = .ok (.iconst 0, 1) := by decide +kernel
theorem dX12_isHere_73 : decode cX12_isHere 73 = .ok (.ireturn, 1) := by decide +kernel
theorem dX12_isHere_43 : decode cX12_isHere 43 = .ok (.aload_n 0, 1) := by decide +kernel
theorem dX12_isHere_44 : decode cX12_isHere 44 = .ok (.getfield 7, 3) := by decide +kernel
theorem dX12_isHere_47 : decode cX12_isHere 47 = .ok (.iload_n 2, 1) := by decide +kernel
theorem dX12_isHere_48 : decode cX12_isHere 48 = .ok (.iaload, 1) := by decide +kernel
theorem dX12_isHere_49 : decode cX12_isHere 49 = .ok (.invokestatic 211, 3) := by decide +kernel
theorem dX12_isHere_52 : decode cX12_isHere 52 = .ok (.ifCond .eq 9, 3) := by decide +kernel
theorem dX12_isHere_55 : decode cX12_isHere 55 = .ok (.iinc 2 1, 3) := by decide +kernel
theorem dX12_isHere_58 : decode cX12_isHere 58 = .ok (.goto (-23), 3) := by decide +kernel
theorem w_6_222 : (Cond.methodLink RX12 207 yX12_look) ∈ wsL_law := sk_mem (ck_6 _ (List.mem_of_getElem? (i := 222) rfl)) rfl
theorem w_6_224 : (Cond.instanceMethod yX12_look) ∈ wsL_law := sk_mem (ck_6 _ (List.mem_of_getElem? (i := 224) rfl)) rfl
theorem w_0_45 : (Cond.selects RX12 yX12_look yX12_look) ∈ wsL_law := sk_mem (ck_0 _ (List.mem_of_getElem? (i := 45) rfl)) rfl
theorem w_6_226 : (Cond.methodLink RX12 211 yX12_isLetter) ∈ wsL_law := sk_mem (ck_6 _ (List.mem_of_getElem? (i := 226) rfl)) rfl
theorem w_6_227 : (Cond.static yX12_isLetter) ∈ wsL_law := sk_mem (ck_6 _ (List.mem_of_getElem? (i := 227) rfl)) rfl
theorem w_5_159 : (Cond.fieldLink RX12 215 "SameKeeperModel" "ended" "I") ∈ wsL_law := sk_mem (ck_5 _ (List.mem_of_getElem? (i := 159) rfl)) rfl
theorem w_6_221 : (Cond.code yX12_isHere cX12_isHere 4 (some .boolean)) ∈ wsL_law := sk_mem (ck_6 _ (List.mem_of_getElem? (i := 221) rfl)) rfl
set_option maxHeartbeats 4000000 in
set_option maxRecDepth 100000 in
theorem c_m_isHere (l : Launch) (D : va_G) (cI cJ cC cZ cS : ClassId) (mm : Nat) (g : Nat → Nat) (ta : Nat) (pa : Nat) (pe : Nat) (pd : Int32) (pb : Nat) (pp : Int32) (pf : Int32) (pg : Int32) (pn : Int32) (rt : Int32) (rn : Int32) (cd : Nat) (sn : Int32) (il : Nat) (tk : Int32) (am : Int32) (at_ : Int32) (aa : Int32) (wt : Int32) (wy : Int64) (rm : Nat) (ud : Nat) (nu : Nat) (sd : Int64) (qn : Nat) (qw : Nat) (qo : Int32) (qb : Nat) (qp : Nat) (qa : Int64) (qi : Nat) (oc : Nat) (tb : Nat → Nat) (h1 : Nat) (L : Nat) (wf_ : Nat → Int32) (hpa : pa ≤ pe) (hpe : pe ≤ 1600) (hpb : pb ≤ 5) (hL : 1 ≤ L) (hL2 : L ≤ 10) (htb : ∀ j, tb j ≤ 255) : skM l yX12_isHere cX12_isHere 4 (some .boolean) 1 20 0 0 D (skT cI cJ cC cZ cS) [.ref mm, .ref h1] [(mm, .inr (12, mo g (nI ta) (nI pa) (nI pe) pd (nI pb) pp pf pg pn rt rn (nI cd) sn (nI il) tk am at_ aa 0 0 (-1) wt wy 0 (nI rm) (nI ud) (nI nu) sd (nI qn) (nI qw) qo (nI qb) (nI qp) qa (nI qi) (nI oc))), (g 0, .inl (cI, 1600, .inl (fun j => nI (tb j)))), (h1, .inl (cC, L, .inl wf_))] (skI D (skT cI cJ cC cZ cS) (fun (r : Int32) (u : va_W) => ∃ (b : Nat), ∃ (pa2 : Nat), pa ≤ pa2 ∧ pa2 ≤ pe ∧ stay tb pe pa pa2 ∧ (b = 0 ∨ (b = 1 ∧ pb = 0 ∧ pa2 + L ≤ pe)) ∧ r = nI b ∧ u = [(mm, .inr (12, mo g (nI ta) (nI pa2) (nI pe) pd (nI pb) pp pf pg pn rt rn (nI cd) sn (nI il) tk am at_ aa 0 0 (-1) wt wy 0 (nI rm) (nI ud) (nI nu) sd (nI qn) (nI qw) qo (nI qb) (nI qp) qa (nI qi) (nI oc))), (g 0, .inl (cI, 1600, .inl (fun j => nI (tb j)))), (h1, .inl (cC, L, .inl wf_))])) := by
  refine skM_of (by decide +kernel) (Nat.le_of_ble_eq_true rfl) ?_
  intro p e s m below meth c A ls E hP hD hl
  obtain ⟨hx, hb, hr, hml, hlocks, hin, hown, hts, hK, hA⟩ := E
  have hown : s.vm.findClass RX12 = some m.cls := hown
  have hS : va_S A s.heap s.heap [] := va_S.rf
  have hl : lv_has ls 4 [(0, .ref mm), (1, .ref h1)] := hl
  refine lv_aload_n hx hb dX12_isHere_0 rfl (lv_at hl 0 rfl) ?_
  refine sk_get (v := .int (nI pb)) (C := RX12) (T := TX12) (N := 92) hx hb hts inlX12 hown hK hP 0 rfl rfl 5 (by decide) w_5_160 rfl dX12_isHere_1 ?_
  refine lv_if_ne (tgt := 28) hx hb dX12_isHere_4 (by decide) (fun c_1 => ?_) (fun c_1 => ?_)
  · have c_1 : ¬ (pb = 0) := fun h => c_1 ((neq pb 0 (by omega) (by omega)).mpr h)
    refine lv_iconst (v := 0) hx hb dX12_isHere_28 (by decide) ?_
    exact sk_iret hx hb hr rfl hlocks hK hP hD hS (⟨0, pa, by omega, by omega, stay_rf, by omega, rfl, rfl⟩) (Nat.le_of_ble_eq_true rfl) (Nat.le_of_ble_eq_true rfl) dX12_isHere_29
  · have c_1 : pb = 0 := (neq pb 0 (by omega) (by omega)).mp c_1
    refine lv_aload_n hx hb dX12_isHere_7 rfl (lv_at hl 0 rfl) ?_
    refine sk_Vi (q0 := 0) (n := 0) (rest := []) (wr := [(h1, .inl (cC, L, .inl wf_))]) ⟨hx, hb, hml, hown, hts⟩ hl.1 (c_m_look l D cI cJ cC cZ cS mm g ta pa pe pd pb pp pf pg pn rt rn cd sn il tk am at_ aa wt wy rm ud nu sd qn qw qo qb qp qa qi oc tb (by omega) (by omega) htb) w_6_222 w_6_224 w_0_45 w_1_14 w_6_225 (by decide +kernel) ⟨⟨(Nat.le_of_ble_eq_true rfl), (Nat.le_of_ble_eq_true rfl)⟩, (Nat.le_of_ble_eq_true rfl), (Nat.le_of_ble_eq_true rfl)⟩ hK hP hD hS hA [0, 1] [2] rfl rfl (by decide +kernel) (by decide +kernel) (by decide +kernel) rfl rfl rfl rfl (Nat.le_of_ble_eq_true rfl) dX12_isHere_8 (fun r_3 u H locs hw hP hD hS => ?_)
    obtain ⟨pa2_2, hpa2_4, hpa3_5, hlk_6, hst_7, rfl⟩ := hw
    have hP : va_P D vwCl [(h1, .inl (cC, L, .inl wf_)), (mm, .inr (12, mo g (nI ta) (nI pa2_2) (nI pe) pd (nI pb) pp pf pg pn rt rn (nI cd) sn (nI il) tk am at_ aa 0 0 (-1) wt wy 0 (nI rm) (nI ud) (nI nu) sd (nI qn) (nI qw) qo (nI qb) (nI qp) qa (nI qi) (nI oc))), (g 0, .inl (cI, 1600, .inl (fun j => nI (tb j))))] H := hP
    have hD : va_D A [(h1, .inl (cC, L, .inl wf_)), (mm, .inr (12, mo g (nI ta) (nI pa2_2) (nI pe) pd (nI pb) pp pf pg pn rt rn (nI cd) sn (nI il) tk am at_ aa 0 0 (-1) wt wy 0 (nI rm) (nI ud) (nI nu) sd (nI qn) (nI qw) qo (nI qb) (nI qp) qa (nI qi) (nI oc))), (g 0, .inl (cI, 1600, .inl (fun j => nI (tb j))))] := hD
    refine sk_Si (n := 1) (rest := []) (wr := [(h1, .inl (cC, L, .inl wf_)), (mm, .inr (12, mo g (nI ta) (nI pa2_2) (nI pe) pd (nI pb) pp pf pg pn rt rn (nI cd) sn (nI il) tk am at_ aa 0 0 (-1) wt wy 0 (nI rm) (nI ud) (nI nu) sd (nI qn) (nI qw) qo (nI qb) (nI qp) qa (nI qi) (nI oc))), (g 0, .inl (cI, 1600, .inl (fun j => nI (tb j))))]) ⟨hx, hb, hml, hown, hts⟩ hl.1 (c_m_isLetter l D cI cJ cC cZ cS r_3) w_6_226 w_6_227 w_1_14 w_6_228 (by decide +kernel) ⟨⟨(Nat.le_of_ble_eq_true rfl), (Nat.le_of_ble_eq_true rfl)⟩, (Nat.le_of_ble_eq_true rfl), (Nat.le_of_ble_eq_true rfl)⟩ hK hP hD hS hA [] [0, 1, 2] rfl rfl (by decide +kernel) (by decide +kernel) (by decide +kernel) rfl rfl (Nat.le_of_ble_eq_true rfl) dX12_isHere_11 (fun r_9 u H locs hw hP hD hS => ?_)
    obtain ⟨b_8, hb1_10, rfl, rfl⟩ := hw
    have hP : va_P D vwCl [(h1, .inl (cC, L, .inl wf_)), (mm, .inr (12, mo g (nI ta) (nI pa2_2) (nI pe) pd (nI pb) pp pf pg pn rt rn (nI cd) sn (nI il) tk am at_ aa 0 0 (-1) wt wy 0 (nI rm) (nI ud) (nI nu) sd (nI qn) (nI qw) qo (nI qb) (nI qp) qa (nI qi) (nI oc))), (g 0, .inl (cI, 1600, .inl (fun j => nI (tb j))))] H := hP
    have hD : va_D A [(h1, .inl (cC, L, .inl wf_)), (mm, .inr (12, mo g (nI ta) (nI pa2_2) (nI pe) pd (nI pb) pp pf pg pn rt rn (nI cd) sn (nI il) tk am at_ aa 0 0 (-1) wt wy 0 (nI rm) (nI ud) (nI nu) sd (nI qn) (nI qw) qo (nI qb) (nI qp) qa (nI qi) (nI oc))), (g 0, .inl (cI, 1600, .inl (fun j => nI (tb j))))] := hD
    refine lv_if_eq (tgt := 28) hx hb dX12_isHere_14 (by decide) (fun c_11 => ?_) (fun c_11 => ?_)
    · have c_11 : b_8 = 0 := (neq b_8 0 (by omega) (by omega)).mp c_11
      refine lv_iconst (v := 0) hx hb dX12_isHere_28 (by decide) ?_
      have hP := hP.sub (ws' := [(mm, .inr (12, mo g (nI ta) (nI pa2_2) (nI pe) pd (nI pb) pp pf pg pn rt rn (nI cd) sn (nI il) tk am at_ aa 0 0 (-1) wt wy 0 (nI rm) (nI ud) (nI nu) sd (nI qn) (nI qw) qo (nI qb) (nI qp) qa (nI qi) (nI oc))), (g 0, .inl (cI, 1600, .inl (fun j => nI (tb j)))), (h1, .inl (cC, L, .inl wf_))]) [1, 2, 0] rfl
      have hD := hD.sub (ws' := [(mm, .inr (12, mo g (nI ta) (nI pa2_2) (nI pe) pd (nI pb) pp pf pg pn rt rn (nI cd) sn (nI il) tk am at_ aa 0 0 (-1) wt wy 0 (nI rm) (nI ud) (nI nu) sd (nI qn) (nI qw) qo (nI qb) (nI qp) qa (nI qi) (nI oc))), (g 0, .inl (cI, 1600, .inl (fun j => nI (tb j)))), (h1, .inl (cC, L, .inl wf_))]) [1, 2, 0] (by decide +kernel) rfl
      exact sk_iret hx hb hr rfl hlocks hK hP hD hS (⟨0, pa2_2, by omega, by omega, hst_7, by omega, rfl, rfl⟩) (Nat.le_of_ble_eq_true rfl) (Nat.le_of_ble_eq_true rfl) dX12_isHere_29
    · have c_11 : ¬ (b_8 = 0) := fun h => c_11 ((neq b_8 0 (by omega) (by omega)).mpr h)
      refine lv_aload_n hx hb dX12_isHere_17 rfl (lv_at hl 0 rfl) ?_
      refine sk_get (v := .int (nI pa2_2)) (C := RX12) (T := TX12) (N := 92) hx hb hts inlX12 hown hK hP 1 rfl rfl 2 (by decide) w_5_157 rfl dX12_isHere_18 ?_
      refine lv_aload_n hx hb dX12_isHere_21 rfl (lv_at hl 0 rfl) ?_
      refine sk_get (v := .int pd) (C := RX12) (T := TX12) (N := 92) hx hb hts inlX12 hown hK hP 1 rfl rfl 4 (by decide) w_5_159 rfl dX12_isHere_22 ?_
      refine lv_icmp_ne (tgt := 30) hx hb dX12_isHere_25 (by decide) (fun c_12 => ?_) (fun c_12 => ?_)
      · skip
        refine lv_aload_n hx hb dX12_isHere_30 rfl (lv_at hl 0 rfl) ?_
        refine sk_get (v := .int (nI pa2_2)) (C := RX12) (T := TX12) (N := 92) hx hb hts inlX12 hown hK hP 1 rfl rfl 2 (by decide) w_5_157 rfl dX12_isHere_31 ?_
        refine lv_istore_n (lv' := [(2, .int (nI pa2_2)), (0, .ref mm), (1, .ref h1)]) hx hb dX12_isHere_34 rfl hl (by decide) rfl (fun ls hl => ?_)
        have lp_13 : ∀ (n_14 : Nat) (kk : Nat) (H : Heap) (locs : List Loc) (ls : Array Slot), pe - kk < n_14 → (pa2_2 ≤ kk) → (kk ≤ pe) → va_P D vwCl [(h1, .inl (cC, L, .inl wf_)), (mm, .inr (12, mo g (nI ta) (nI pa2_2) (nI pe) pd (nI pb) pp pf pg pn rt rn (nI cd) sn (nI il) tk am at_ aa 0 0 (-1) wt wy 0 (nI rm) (nI ud) (nI nu) sd (nI qn) (nI qw) qo (nI qb) (nI qp) qa (nI qi) (nI oc))), (g 0, .inl (cI, 1600, .inl (fun j => nI (tb j))))] H → va_D A [(h1, .inl (cC, L, .inl wf_)), (mm, .inr (12, mo g (nI ta) (nI pa2_2) (nI pe) pd (nI pb) pp pf pg pn rt rn (nI cd) sn (nI il) tk am at_ aa 0 0 (-1) wt wy 0 (nI rm) (nI ud) (nI nu) sd (nI qn) (nI qw) qo (nI qb) (nI qp) qa (nI qi) (nI oc))), (g 0, .inl (cI, 1600, .inl (fun j => nI (tb j))))] → va_S A s.heap H locs → lv_has ls 4 [(2, .int (nI kk)), (0, .ref mm), (1, .ref h1)] → W p l e { frames := 1, cells := 0, slots := 0, locals := 20 } s m ([.ref mm, .ref h1] : List Value).toArray below meth c H locs 0 0 (MQ below (skI D (skT cI cJ cC cZ cS) (fun (r : Int32) (u : va_W) => ∃ (b : Nat), ∃ (pa2 : Nat), pa ≤ pa2 ∧ pa2 ≤ pe ∧ stay tb pe pa pa2 ∧ (b = 0 ∨ (b = 1 ∧ pb = 0 ∧ pa2 + L ≤ pe)) ∧ r = nI b ∧ u = [(mm, .inr (12, mo g (nI ta) (nI pa2) (nI pe) pd (nI pb) pp pf pg pn rt rn (nI cd) sn (nI il) tk am at_ aa 0 0 (-1) wt wy 0 (nI rm) (nI ud) (nI nu) sd (nI qn) (nI qw) qo (nI qb) (nI qp) qa (nI qi) (nI oc))), (g 0, .inl (cI, 1600, .inl (fun j => nI (tb j)))), (h1, .inl (cC, L, .inl wf_))]) A) ([.ref mm, .ref h1] : List Value).toArray s 0 0 A) (F0 m 35 ls []) := by
          intro n_14
          induction n_14 with
          | zero => intro kk H locs ls hm; exact absurd hm (Nat.not_lt_zero _)
          | succ n_14 ih_lp_13 =>
            intro kk H locs ls hm hkk1 hkk2 hP hD hS hl
            refine lv_iload_n hx hb dX12_isHere_35 rfl (lv_at hl 0 rfl) ?_
            refine lv_aload_n hx hb dX12_isHere_36 rfl (lv_at hl 1 rfl) ?_
            refine sk_get (v := .int (nI pe)) (C := RX12) (T := TX12) (N := 92) hx hb hts inlX12 hown hK hP 1 rfl rfl 3 (by decide) w_5_158 rfl dX12_isHere_37 ?_
            refine lv_icmp_ge (tgt := 61) hx hb dX12_isHere_40 (by decide) (fun c_15 => ?_) (fun c_15 => ?_)
            · have c_15 : pe ≤ kk := (nle pe kk (by omega) (by omega)).mp c_15
              refine lv_iload_n hx hb dX12_isHere_61 rfl (lv_at hl 0 rfl) ?_
              refine lv_aload_n hx hb dX12_isHere_62 rfl (lv_at hl 1 rfl) ?_
              refine sk_get (v := .int (nI pa2_2)) (C := RX12) (T := TX12) (N := 92) hx hb hts inlX12 hown hK hP 1 rfl rfl 2 (by decide) w_5_157 rfl dX12_isHere_63 ?_
              refine lv_isub hx hb dX12_isHere_66 ?_
              refine sk_top (nI (kk - pa2_2)) (nsub kk pa2_2 (by omega)) ?_
              refine lv_aload_n hx hb dX12_isHere_67 rfl (lv_at hl 2 rfl) ?_
              refine va_alen (v := nI L) hx hb hK.1 hP 0 2 rfl rfl rfl dX12_isHere_68 ?_
              refine lv_icmp_eq (tgt := 74) hx hb dX12_isHere_69 (by decide) (fun c_16 => ?_) (fun c_16 => ?_)
              · have c_16 : kk - pa2_2 = L := (neq (kk - pa2_2) L (by omega) (by omega)).mp c_16
                refine lv_iconst (v := 0) hx hb dX12_isHere_74 (by decide) ?_
                refine lv_istore_n (lv' := [(3, .int 0), (2, .int (nI kk)), (0, .ref mm), (1, .ref h1)]) hx hb dX12_isHere_75 rfl hl (by decide) rfl (fun ls hl => ?_)
                have lp_17 : ∀ (n_18 : Nat) (i : Nat) (H : Heap) (locs : List Loc) (ls : Array Slot), L - i < n_18 → (i ≤ L) → va_P D vwCl [(h1, .inl (cC, L, .inl wf_)), (mm, .inr (12, mo g (nI ta) (nI pa2_2) (nI pe) pd (nI pb) pp pf pg pn rt rn (nI cd) sn (nI il) tk am at_ aa 0 0 (-1) wt wy 0 (nI rm) (nI ud) (nI nu) sd (nI qn) (nI qw) qo (nI qb) (nI qp) qa (nI qi) (nI oc))), (g 0, .inl (cI, 1600, .inl (fun j => nI (tb j))))] H → va_D A [(h1, .inl (cC, L, .inl wf_)), (mm, .inr (12, mo g (nI ta) (nI pa2_2) (nI pe) pd (nI pb) pp pf pg pn rt rn (nI cd) sn (nI il) tk am at_ aa 0 0 (-1) wt wy 0 (nI rm) (nI ud) (nI nu) sd (nI qn) (nI qw) qo (nI qb) (nI qp) qa (nI qi) (nI oc))), (g 0, .inl (cI, 1600, .inl (fun j => nI (tb j))))] → va_S A s.heap H locs → lv_has ls 4 [(3, .int (nI i)), (2, .int (nI kk)), (0, .ref mm), (1, .ref h1)] → W p l e { frames := 1, cells := 0, slots := 0, locals := 20 } s m ([.ref mm, .ref h1] : List Value).toArray below meth c H locs 0 0 (MQ below (skI D (skT cI cJ cC cZ cS) (fun (r : Int32) (u : va_W) => ∃ (b : Nat), ∃ (pa2 : Nat), pa ≤ pa2 ∧ pa2 ≤ pe ∧ stay tb pe pa pa2 ∧ (b = 0 ∨ (b = 1 ∧ pb = 0 ∧ pa2 + L ≤ pe)) ∧ r = nI b ∧ u = [(mm, .inr (12, mo g (nI ta) (nI pa2) (nI pe) pd (nI pb) pp pf pg pn rt rn (nI cd) sn (nI il) tk am at_ aa 0 0 (-1) wt wy 0 (nI rm) (nI ud) (nI nu) sd (nI qn) (nI qw) qo (nI qb) (nI qp) qa (nI qi) (nI oc))), (g 0, .inl (cI, 1600, .inl (fun j => nI (tb j)))), (h1, .inl (cC, L, .inl wf_))]) A) ([.ref mm, .ref h1] : List Value).toArray s 0 0 A) (F0 m 76 ls []) := by
                  intro n_18
                  induction n_18 with
                  | zero => intro i H locs ls hm; exact absurd hm (Nat.not_lt_zero _)
                  | succ n_18 ih_lp_17 =>
                    intro i H locs ls hm hi hP hD hS hl
                    refine lv_iload_n hx hb dX12_isHere_76 rfl (lv_at hl 0 rfl) ?_
                    refine lv_aload_n hx hb dX12_isHere_77 rfl (lv_at hl 3 rfl) ?_
                    refine va_alen (v := nI L) hx hb hK.1 hP 0 2 rfl rfl rfl dX12_isHere_78 ?_
                    refine lv_icmp_ge (tgt := 107) hx hb dX12_isHere_79 (by decide) (fun c_19 => ?_) (fun c_19 => ?_)
                    · have c_19 : L ≤ i := (nle L i (by omega) (by omega)).mp c_19
                      refine lv_iconst (v := 1) hx hb dX12_isHere_107 (by decide) ?_
                      have hP := hP.sub (ws' := [(mm, .inr (12, mo g (nI ta) (nI pa2_2) (nI pe) pd (nI pb) pp pf pg pn rt rn (nI cd) sn (nI il) tk am at_ aa 0 0 (-1) wt wy 0 (nI rm) (nI ud) (nI nu) sd (nI qn) (nI qw) qo (nI qb) (nI qp) qa (nI qi) (nI oc))), (g 0, .inl (cI, 1600, .inl (fun j => nI (tb j)))), (h1, .inl (cC, L, .inl wf_))]) [1, 2, 0] rfl
                      have hD := hD.sub (ws' := [(mm, .inr (12, mo g (nI ta) (nI pa2_2) (nI pe) pd (nI pb) pp pf pg pn rt rn (nI cd) sn (nI il) tk am at_ aa 0 0 (-1) wt wy 0 (nI rm) (nI ud) (nI nu) sd (nI qn) (nI qw) qo (nI qb) (nI qp) qa (nI qi) (nI oc))), (g 0, .inl (cI, 1600, .inl (fun j => nI (tb j)))), (h1, .inl (cC, L, .inl wf_))]) [1, 2, 0] (by decide +kernel) rfl
                      exact sk_iret hx hb hr rfl hlocks hK hP hD hS (⟨1, pa2_2, by omega, by omega, hst_7, by omega, rfl, rfl⟩) (Nat.le_of_ble_eq_true rfl) (Nat.le_of_ble_eq_true rfl) dX12_isHere_108
                    · have c_19 : ¬ (L ≤ i) := fun h => c_19 ((nle L i (by omega) (by omega)).mpr h)
                      refine lv_aload_n hx hb dX12_isHere_82 rfl (lv_at hl 2 rfl) ?_
                      refine sk_get (v := .ref (g 0)) (C := RX12) (T := TX12) (N := 92) hx hb hts inlX12 hown hK hP 1 rfl rfl 0 (by decide) w_5_155 rfl dX12_isHere_83 ?_
                      refine lv_aload_n hx hb dX12_isHere_86 rfl (lv_at hl 2 rfl) ?_
                      refine sk_get (v := .int (nI pa2_2)) (C := RX12) (T := TX12) (N := 92) hx hb hts inlX12 hown hK hP 1 rfl rfl 2 (by decide) w_5_157 rfl dX12_isHere_87 ?_
                      refine lv_iload_n hx hb dX12_isHere_90 rfl (lv_at hl 0 rfl) ?_
                      refine lv_iadd hx hb dX12_isHere_91 ?_
                      refine sk_top (nI (pa2_2 + i)) (nI_add pa2_2 i) ?_
                      refine va_iald hx hb hK.1 hP 2 0 rfl rfl (vin (pa2_2 + i) 1600 (by omega) (by omega)) dX12_isHere_92 ?_
                      refine sk_top (nI (tb (pa2_2 + i))) (nrd tb (pa2_2 + i) (by omega)) ?_
                      have hb_20 := htb (pa2_2 + i)
                      refine lv_aload_n hx hb dX12_isHere_93 rfl (lv_at hl 3 rfl) ?_
                      refine lv_iload_n hx hb dX12_isHere_94 rfl (lv_at hl 0 rfl) ?_
                      refine va_cald hx hb hK.1 hP 0 2 rfl rfl (vin i L (by omega) (by omega)) dX12_isHere_95 ?_
                      refine lv_topi (fun v_21 ev_21 => ?_)
                      refine lv_icmp_eq (tgt := 101) hx hb dX12_isHere_96 (by decide) (fun c_22 => ?_) (fun c_22 => ?_)
                      · skip
                        refine lv_iinc (v := nI (i + 1)) (lv' := [(3, .int (nI (i + 1))), (2, .int (nI kk)), (0, .ref mm), (1, .ref h1)]) hx hb dX12_isHere_101 hl (k := 0) rfl (ninc i 1 (by decide)) (by decide) rfl (fun ls hl => ?_)
                        refine lv_goto (tgt := 76) hx hb dX12_isHere_104 (by decide) ?_
                        exact ih_lp_17 (i + 1) _ _ _ (by omega) (by omega) hP hD hS (lv_sub hl [0, 1, 2, 3] rfl)
                      · skip
                        refine lv_iconst (v := 0) hx hb dX12_isHere_99 (by decide) ?_
                        have hP := hP.sub (ws' := [(mm, .inr (12, mo g (nI ta) (nI pa2_2) (nI pe) pd (nI pb) pp pf pg pn rt rn (nI cd) sn (nI il) tk am at_ aa 0 0 (-1) wt wy 0 (nI rm) (nI ud) (nI nu) sd (nI qn) (nI qw) qo (nI qb) (nI qp) qa (nI qi) (nI oc))), (g 0, .inl (cI, 1600, .inl (fun j => nI (tb j)))), (h1, .inl (cC, L, .inl wf_))]) [1, 2, 0] rfl
                        have hD := hD.sub (ws' := [(mm, .inr (12, mo g (nI ta) (nI pa2_2) (nI pe) pd (nI pb) pp pf pg pn rt rn (nI cd) sn (nI il) tk am at_ aa 0 0 (-1) wt wy 0 (nI rm) (nI ud) (nI nu) sd (nI qn) (nI qw) qo (nI qb) (nI qp) qa (nI qi) (nI oc))), (g 0, .inl (cI, 1600, .inl (fun j => nI (tb j)))), (h1, .inl (cC, L, .inl wf_))]) [1, 2, 0] (by decide +kernel) rfl
                        exact sk_iret hx hb hr rfl hlocks hK hP hD hS (⟨0, pa2_2, by omega, by omega, hst_7, by omega, rfl, rfl⟩) (Nat.le_of_ble_eq_true rfl) (Nat.le_of_ble_eq_true rfl) dX12_isHere_100
                exact lp_17 (L - 0 + 1) 0 _ _ _ (Nat.lt_succ_self _) (by omega) hP hD hS (lv_sub hl [0, 1, 2, 3] rfl)
              · have c_16 : ¬ (kk - pa2_2 = L) := fun h => c_16 ((neq (kk - pa2_2) L (by omega) (by omega)).mpr h)
                refine lv_iconst (v := 0) hx hb dX12_isHere_72 (by decide) ?_
                have hP := hP.sub (ws' := [(mm, .inr (12, mo g (nI ta) (nI pa2_2) (nI pe) pd (nI pb) pp pf pg pn rt rn (nI cd) sn (nI il) tk am at_ aa 0 0 (-1) wt wy 0 (nI rm) (nI ud) (nI nu) sd (nI qn) (nI qw) qo (nI qb) (nI qp) qa (nI qi) (nI oc))), (g 0, .inl (cI, 1600, .inl (fun j => nI (tb j)))), (h1, .inl (cC, L, .inl wf_))]) [1, 2, 0] rfl
                have hD := hD.sub (ws' := [(mm, .inr (12, mo g (nI ta) (nI pa2_2) (nI pe) pd (nI pb) pp pf pg pn rt rn (nI cd) sn (nI il) tk am at_ aa 0 0 (-1) wt wy 0 (nI rm) (nI ud) (nI nu) sd (nI qn) (nI qw) qo (nI qb) (nI qp) qa (nI qi) (nI oc))), (g 0, .inl (cI, 1600, .inl (fun j => nI (tb j)))), (h1, .inl (cC, L, .inl wf_))]) [1, 2, 0] (by decide +kernel) rfl
                exact sk_iret hx hb hr rfl hlocks hK hP hD hS (⟨0, pa2_2, by omega, by omega, hst_7, by omega, rfl, rfl⟩) (Nat.le_of_ble_eq_true rfl) (Nat.le_of_ble_eq_true rfl) dX12_isHere_73
            · have c_15 : ¬ (pe ≤ kk) := fun h => c_15 ((nle pe kk (by omega) (by omega)).mpr h)
              refine lv_aload_n hx hb dX12_isHere_43 rfl (lv_at hl 1 rfl) ?_
              refine sk_get (v := .ref (g 0)) (C := RX12) (T := TX12) (N := 92) hx hb hts inlX12 hown hK hP 1 rfl rfl 0 (by decide) w_5_155 rfl dX12_isHere_44 ?_
              refine lv_iload_n hx hb dX12_isHere_47 rfl (lv_at hl 0 rfl) ?_
              refine va_iald hx hb hK.1 hP 2 0 rfl rfl (vin kk 1600 (by omega) (by omega)) dX12_isHere_48 ?_
              refine sk_top (nI (tb kk)) (nrd tb kk (by omega)) ?_
              have hb_23 := htb kk
              refine sk_Si (n := 1) (rest := []) (wr := [(h1, .inl (cC, L, .inl wf_)), (mm, .inr (12, mo g (nI ta) (nI pa2_2) (nI pe) pd (nI pb) pp pf pg pn rt rn (nI cd) sn (nI il) tk am at_ aa 0 0 (-1) wt wy 0 (nI rm) (nI ud) (nI nu) sd (nI qn) (nI qw) qo (nI qb) (nI qp) qa (nI qi) (nI oc))), (g 0, .inl (cI, 1600, .inl (fun j => nI (tb j))))]) ⟨hx, hb, hml, hown, hts⟩ hl.1 (c_m_isLetter l D cI cJ cC cZ cS (nI (tb kk))) w_6_226 w_6_227 w_1_14 w_6_228 (by decide +kernel) ⟨⟨(Nat.le_of_ble_eq_true rfl), (Nat.le_of_ble_eq_true rfl)⟩, (Nat.le_of_ble_eq_true rfl), (Nat.le_of_ble_eq_true rfl)⟩ hK hP hD hS hA [] [0, 1, 2] rfl rfl (by decide +kernel) (by decide +kernel) (by decide +kernel) rfl rfl (Nat.le_of_ble_eq_true rfl) dX12_isHere_49 (fun r_25 u H locs hw hP hD hS => ?_)
              obtain ⟨b_24, hb1_26, rfl, rfl⟩ := hw
              have hP : va_P D vwCl [(h1, .inl (cC, L, .inl wf_)), (mm, .inr (12, mo g (nI ta) (nI pa2_2) (nI pe) pd (nI pb) pp pf pg pn rt rn (nI cd) sn (nI il) tk am at_ aa 0 0 (-1) wt wy 0 (nI rm) (nI ud) (nI nu) sd (nI qn) (nI qw) qo (nI qb) (nI qp) qa (nI qi) (nI oc))), (g 0, .inl (cI, 1600, .inl (fun j => nI (tb j))))] H := hP
              have hD : va_D A [(h1, .inl (cC, L, .inl wf_)), (mm, .inr (12, mo g (nI ta) (nI pa2_2) (nI pe) pd (nI pb) pp pf pg pn rt rn (nI cd) sn (nI il) tk am at_ aa 0 0 (-1) wt wy 0 (nI rm) (nI ud) (nI nu) sd (nI qn) (nI qw) qo (nI qb) (nI qp) qa (nI qi) (nI oc))), (g 0, .inl (cI, 1600, .inl (fun j => nI (tb j))))] := hD
              refine lv_if_eq (tgt := 61) hx hb dX12_isHere_52 (by decide) (fun c_27 => ?_) (fun c_27 => ?_)
              · have c_27 : b_24 = 0 := (neq b_24 0 (by omega) (by omega)).mp c_27
                refine lv_iload_n hx hb dX12_isHere_61 rfl (lv_at hl 0 rfl) ?_
                refine lv_aload_n hx hb dX12_isHere_62 rfl (lv_at hl 1 rfl) ?_
                refine sk_get (v := .int (nI pa2_2)) (C := RX12) (T := TX12) (N := 92) hx hb hts inlX12 hown hK hP 1 rfl rfl 2 (by decide) w_5_157 rfl dX12_isHere_63 ?_
                refine lv_isub hx hb dX12_isHere_66 ?_
                refine sk_top (nI (kk - pa2_2)) (nsub kk pa2_2 (by omega)) ?_
                refine lv_aload_n hx hb dX12_isHere_67 rfl (lv_at hl 2 rfl) ?_
                refine va_alen (v := nI L) hx hb hK.1 hP 0 2 rfl rfl rfl dX12_isHere_68 ?_
                refine lv_icmp_eq (tgt := 74) hx hb dX12_isHere_69 (by decide) (fun c_28 => ?_) (fun c_28 => ?_)
                · have c_28 : kk - pa2_2 = L := (neq (kk - pa2_2) L (by omega) (by omega)).mp c_28
                  refine lv_iconst (v := 0) hx hb dX12_isHere_74 (by decide) ?_
                  refine lv_istore_n (lv' := [(3, .int 0), (2, .int (nI kk)), (0, .ref mm), (1, .ref h1)]) hx hb dX12_isHere_75 rfl hl (by decide) rfl (fun ls hl => ?_)
                  have lp_29 : ∀ (n_30 : Nat) (i : Nat) (H : Heap) (locs : List Loc) (ls : Array Slot), L - i < n_30 → (i ≤ L) → va_P D vwCl [(h1, .inl (cC, L, .inl wf_)), (mm, .inr (12, mo g (nI ta) (nI pa2_2) (nI pe) pd (nI pb) pp pf pg pn rt rn (nI cd) sn (nI il) tk am at_ aa 0 0 (-1) wt wy 0 (nI rm) (nI ud) (nI nu) sd (nI qn) (nI qw) qo (nI qb) (nI qp) qa (nI qi) (nI oc))), (g 0, .inl (cI, 1600, .inl (fun j => nI (tb j))))] H → va_D A [(h1, .inl (cC, L, .inl wf_)), (mm, .inr (12, mo g (nI ta) (nI pa2_2) (nI pe) pd (nI pb) pp pf pg pn rt rn (nI cd) sn (nI il) tk am at_ aa 0 0 (-1) wt wy 0 (nI rm) (nI ud) (nI nu) sd (nI qn) (nI qw) qo (nI qb) (nI qp) qa (nI qi) (nI oc))), (g 0, .inl (cI, 1600, .inl (fun j => nI (tb j))))] → va_S A s.heap H locs → lv_has ls 4 [(3, .int (nI i)), (2, .int (nI kk)), (0, .ref mm), (1, .ref h1)] → W p l e { frames := 1, cells := 0, slots := 0, locals := 20 } s m ([.ref mm, .ref h1] : List Value).toArray below meth c H locs 0 0 (MQ below (skI D (skT cI cJ cC cZ cS) (fun (r : Int32) (u : va_W) => ∃ (b : Nat), ∃ (pa2 : Nat), pa ≤ pa2 ∧ pa2 ≤ pe ∧ stay tb pe pa pa2 ∧ (b = 0 ∨ (b = 1 ∧ pb = 0 ∧ pa2 + L ≤ pe)) ∧ r = nI b ∧ u = [(mm, .inr (12, mo g (nI ta) (nI pa2) (nI pe) pd (nI pb) pp pf pg pn rt rn (nI cd) sn (nI il) tk am at_ aa 0 0 (-1) wt wy 0 (nI rm) (nI ud) (nI nu) sd (nI qn) (nI qw) qo (nI qb) (nI qp) qa (nI qi) (nI oc))), (g 0, .inl (cI, 1600, .inl (fun j => nI (tb j)))), (h1, .inl (cC, L, .inl wf_))]) A) ([.ref mm, .ref h1] : List Value).toArray s 0 0 A) (F0 m 76 ls []) := by
                    intro n_30
                    induction n_30 with
                    | zero => intro i H locs ls hm; exact absurd hm (Nat.not_lt_zero _)
                    | succ n_30 ih_lp_29 =>
                      intro i H locs ls hm hi hP hD hS hl
                      refine lv_iload_n hx hb dX12_isHere_76 rfl (lv_at hl 0 rfl) ?_
                      refine lv_aload_n hx hb dX12_isHere_77 rfl (lv_at hl 3 rfl) ?_
                      refine va_alen (v := nI L) hx hb hK.1 hP 0 2 rfl rfl rfl dX12_isHere_78 ?_
                      refine lv_icmp_ge (tgt := 107) hx hb dX12_isHere_79 (by decide) (fun c_31 => ?_) (fun c_31 => ?_)
                      · have c_31 : L ≤ i := (nle L i (by omega) (by omega)).mp c_31
                        refine lv_iconst (v := 1) hx hb dX12_isHere_107 (by decide) ?_
                        have hP := hP.sub (ws' := [(mm, .inr (12, mo g (nI ta) (nI pa2_2) (nI pe) pd (nI pb) pp pf pg pn rt rn (nI cd) sn (nI il) tk am at_ aa 0 0 (-1) wt wy 0 (nI rm) (nI ud) (nI nu) sd (nI qn) (nI qw) qo (nI qb) (nI qp) qa (nI qi) (nI oc))), (g 0, .inl (cI, 1600, .inl (fun j => nI (tb j)))), (h1, .inl (cC, L, .inl wf_))]) [1, 2, 0] rfl
                        have hD := hD.sub (ws' := [(mm, .inr (12, mo g (nI ta) (nI pa2_2) (nI pe) pd (nI pb) pp pf pg pn rt rn (nI cd) sn (nI il) tk am at_ aa 0 0 (-1) wt wy 0 (nI rm) (nI ud) (nI nu) sd (nI qn) (nI qw) qo (nI qb) (nI qp) qa (nI qi) (nI oc))), (g 0, .inl (cI, 1600, .inl (fun j => nI (tb j)))), (h1, .inl (cC, L, .inl wf_))]) [1, 2, 0] (by decide +kernel) rfl
                        exact sk_iret hx hb hr rfl hlocks hK hP hD hS (⟨1, pa2_2, by omega, by omega, hst_7, by omega, rfl, rfl⟩) (Nat.le_of_ble_eq_true rfl) (Nat.le_of_ble_eq_true rfl) dX12_isHere_108
                      · have c_31 : ¬ (L ≤ i) := fun h => c_31 ((nle L i (by omega) (by omega)).mpr h)
                        refine lv_aload_n hx hb dX12_isHere_82 rfl (lv_at hl 2 rfl) ?_
                        refine sk_get (v := .ref (g 0)) (C := RX12) (T := TX12) (N := 92) hx hb hts inlX12 hown hK hP 1 rfl rfl 0 (by decide) w_5_155 rfl dX12_isHere_83 ?_
                        refine lv_aload_n hx hb dX12_isHere_86 rfl (lv_at hl 2 rfl) ?_
                        refine sk_get (v := .int (nI pa2_2)) (C := RX12) (T := TX12) (N := 92) hx hb hts inlX12 hown hK hP 1 rfl rfl 2 (by decide) w_5_157 rfl dX12_isHere_87 ?_
                        refine lv_iload_n hx hb dX12_isHere_90 rfl (lv_at hl 0 rfl) ?_
                        refine lv_iadd hx hb dX12_isHere_91 ?_
                        refine sk_top (nI (pa2_2 + i)) (nI_add pa2_2 i) ?_
                        refine va_iald hx hb hK.1 hP 2 0 rfl rfl (vin (pa2_2 + i) 1600 (by omega) (by omega)) dX12_isHere_92 ?_
                        refine sk_top (nI (tb (pa2_2 + i))) (nrd tb (pa2_2 + i) (by omega)) ?_
                        have hb_32 := htb (pa2_2 + i)
                        refine lv_aload_n hx hb dX12_isHere_93 rfl (lv_at hl 3 rfl) ?_
                        refine lv_iload_n hx hb dX12_isHere_94 rfl (lv_at hl 0 rfl) ?_
                        refine va_cald hx hb hK.1 hP 0 2 rfl rfl (vin i L (by omega) (by omega)) dX12_isHere_95 ?_
                        refine lv_topi (fun v_33 ev_33 => ?_)
                        refine lv_icmp_eq (tgt := 101) hx hb dX12_isHere_96 (by decide) (fun c_34 => ?_) (fun c_34 => ?_)
                        · skip
                          refine lv_iinc (v := nI (i + 1)) (lv' := [(3, .int (nI (i + 1))), (2, .int (nI kk)), (0, .ref mm), (1, .ref h1)]) hx hb dX12_isHere_101 hl (k := 0) rfl (ninc i 1 (by decide)) (by decide) rfl (fun ls hl => ?_)
                          refine lv_goto (tgt := 76) hx hb dX12_isHere_104 (by decide) ?_
                          exact ih_lp_29 (i + 1) _ _ _ (by omega) (by omega) hP hD hS (lv_sub hl [0, 1, 2, 3] rfl)
                        · skip
                          refine lv_iconst (v := 0) hx hb dX12_isHere_99 (by decide) ?_
                          have hP := hP.sub (ws' := [(mm, .inr (12, mo g (nI ta) (nI pa2_2) (nI pe) pd (nI pb) pp pf pg pn rt rn (nI cd) sn (nI il) tk am at_ aa 0 0 (-1) wt wy 0 (nI rm) (nI ud) (nI nu) sd (nI qn) (nI qw) qo (nI qb) (nI qp) qa (nI qi) (nI oc))), (g 0, .inl (cI, 1600, .inl (fun j => nI (tb j)))), (h1, .inl (cC, L, .inl wf_))]) [1, 2, 0] rfl
                          have hD := hD.sub (ws' := [(mm, .inr (12, mo g (nI ta) (nI pa2_2) (nI pe) pd (nI pb) pp pf pg pn rt rn (nI cd) sn (nI il) tk am at_ aa 0 0 (-1) wt wy 0 (nI rm) (nI ud) (nI nu) sd (nI qn) (nI qw) qo (nI qb) (nI qp) qa (nI qi) (nI oc))), (g 0, .inl (cI, 1600, .inl (fun j => nI (tb j)))), (h1, .inl (cC, L, .inl wf_))]) [1, 2, 0] (by decide +kernel) rfl
                          exact sk_iret hx hb hr rfl hlocks hK hP hD hS (⟨0, pa2_2, by omega, by omega, hst_7, by omega, rfl, rfl⟩) (Nat.le_of_ble_eq_true rfl) (Nat.le_of_ble_eq_true rfl) dX12_isHere_100
                  exact lp_29 (L - 0 + 1) 0 _ _ _ (Nat.lt_succ_self _) (by omega) hP hD hS (lv_sub hl [0, 1, 2, 3] rfl)
                · have c_28 : ¬ (kk - pa2_2 = L) := fun h => c_28 ((neq (kk - pa2_2) L (by omega) (by omega)).mpr h)
                  refine lv_iconst (v := 0) hx hb dX12_isHere_72 (by decide) ?_
                  have hP := hP.sub (ws' := [(mm, .inr (12, mo g (nI ta) (nI pa2_2) (nI pe) pd (nI pb) pp pf pg pn rt rn (nI cd) sn (nI il) tk am at_ aa 0 0 (-1) wt wy 0 (nI rm) (nI ud) (nI nu) sd (nI qn) (nI qw) qo (nI qb) (nI qp) qa (nI qi) (nI oc))), (g 0, .inl (cI, 1600, .inl (fun j => nI (tb j)))), (h1, .inl (cC, L, .inl wf_))]) [1, 2, 0] rfl
                  have hD := hD.sub (ws' := [(mm, .inr (12, mo g (nI ta) (nI pa2_2) (nI pe) pd (nI pb) pp pf pg pn rt rn (nI cd) sn (nI il) tk am at_ aa 0 0 (-1) wt wy 0 (nI rm) (nI ud) (nI nu) sd (nI qn) (nI qw) qo (nI qb) (nI qp) qa (nI qi) (nI oc))), (g 0, .inl (cI, 1600, .inl (fun j => nI (tb j)))), (h1, .inl (cC, L, .inl wf_))]) [1, 2, 0] (by decide +kernel) rfl
                  exact sk_iret hx hb hr rfl hlocks hK hP hD hS (⟨0, pa2_2, by omega, by omega, hst_7, by omega, rfl, rfl⟩) (Nat.le_of_ble_eq_true rfl) (Nat.le_of_ble_eq_true rfl) dX12_isHere_73
              · have c_27 : ¬ (b_24 = 0) := fun h => c_27 ((neq b_24 0 (by omega) (by omega)).mpr h)
                refine lv_iinc (v := nI (kk + 1)) (lv' := [(2, .int (nI (kk + 1))), (0, .ref mm), (1, .ref h1)]) hx hb dX12_isHere_55 hl (k := 0) rfl (ninc kk 1 (by decide)) (by decide) rfl (fun ls hl => ?_)
                refine lv_goto (tgt := 35) hx hb dX12_isHere_58 (by decide) ?_
                exact ih_lp_13 (kk + 1) _ _ _ (by omega) (by omega) (by omega) hP hD hS (lv_sub hl [0, 1, 2] rfl)
        exact lp_13 (pe - pa2_2 + 1) pa2_2 _ _ _ (Nat.lt_succ_self _) (by omega) (by omega) hP hD hS (lv_sub hl [0, 1, 2] rfl)
      · skip
        refine lv_iconst (v := 0) hx hb dX12_isHere_28 (by decide) ?_
        have hP := hP.sub (ws' := [(mm, .inr (12, mo g (nI ta) (nI pa2_2) (nI pe) pd (nI pb) pp pf pg pn rt rn (nI cd) sn (nI il) tk am at_ aa 0 0 (-1) wt wy 0 (nI rm) (nI ud) (nI nu) sd (nI qn) (nI qw) qo (nI qb) (nI qp) qa (nI qi) (nI oc))), (g 0, .inl (cI, 1600, .inl (fun j => nI (tb j)))), (h1, .inl (cC, L, .inl wf_))]) [1, 2, 0] rfl
        have hD := hD.sub (ws' := [(mm, .inr (12, mo g (nI ta) (nI pa2_2) (nI pe) pd (nI pb) pp pf pg pn rt rn (nI cd) sn (nI il) tk am at_ aa 0 0 (-1) wt wy 0 (nI rm) (nI ud) (nI nu) sd (nI qn) (nI qw) qo (nI qb) (nI qp) qa (nI qi) (nI oc))), (g 0, .inl (cI, 1600, .inl (fun j => nI (tb j)))), (h1, .inl (cC, L, .inl wf_))]) [1, 2, 0] (by decide +kernel) rfl
        exact sk_iret hx hb hr rfl hlocks hK hP hD hS (⟨0, pa2_2, by omega, by omega, hst_7, by omega, rfl, rfl⟩) (Nat.le_of_ble_eq_true rfl) (Nat.le_of_ble_eq_true rfl) dX12_isHere_29
theorem dX12_takes_0 : decode cX12_takes 0 = .ok (.aload_n 0, 1) := by decide +kernel
theorem dX12_takes_1 : decode cX12_takes 1 = .ok (.aload_n 1, 1) := by decide +kernel
theorem dX12_takes_2 : decode cX12_takes 2 = .ok (.invokevirtual 218, 3) := by decide +kernel
theorem dX12_takes_5 : decode cX12_takes 5 = .ok (.ifCond .ne 5, 3) := by decide +kernel
theorem dX12_takes_10 : decode cX12_takes 10 = .ok (.aload_n 0, 1) := by decide +kernel
theorem dX12_takes_11 : decode cX12_takes 11 = .ok (.dup, 1) := by decide +kernel
theorem dX12_takes_12 : decode cX12_takes 12 = .ok (.getfield 201, 3) := by decide +kernel
theorem dX12_takes_15 : decode cX12_takes 15 = .ok (.aload_n 1, 1) := by decide +kernel
theorem dX12_takes_16 : decode cX12_takes 16 = .ok (.arraylength, 1) := by decide +kernel
theorem dX12_takes_17 : decode cX12_takes 17 = .ok (.iadd, 1) := by decide +kernel
theorem dX12_takes_18 : decode cX12_takes 18 = .ok (.putfield 201, 3) := by decide +kernel
theorem dX12_takes_21 : decode cX12_takes 21 = .ok (.aload_n 0, 1) := by decide +kernel
theorem dX12_takes_22 : decode cX12_takes 22 = .ok (.aload_n 0, 1) := by decide +kernel
theorem dX12_takes_23 : decode cX12_takes 23 = .ok (.getfield 201, 3) := by decide +kernel
theorem dX12_takes_26 : decode cX12_takes 26 = .ok (.putfield 215, 3) := by decide +kernel
theorem dX12_takes_29 : decode cX12_takes 29 = .ok (.iconst 1, 1) := by decide +kernel
theorem dX12_takes_30 : decode cX12_takes 30 = .ok (.ireturn, 1) := by decide +kernel
theorem dX12_takes_8 : decode cX12_takes 8 = .ok (.iconst 0, 1) := by decide +kernel
theorem dX12_takes_9 : decode cX12_takes 9 = .ok (.ireturn, 1) := by decide +kernel
theorem w_6_218 : (Cond.methodLink RX12 218 yX12_isHere) ∈ wsL_law := sk_mem (ck_6 _ (List.mem_of_getElem? (i := 218) rfl)) rfl
theorem w_6_220 : (Cond.instanceMethod yX12_isHere) ∈ wsL_law := sk_mem (ck_6 _ (List.mem_of_getElem? (i := 220) rfl)) rfl
theorem w_0_44 : (Cond.selects RX12 yX12_isHere yX12_isHere) ∈ wsL_law := sk_mem (ck_0 _ (List.mem_of_getElem? (i := 44) rfl)) rfl
theorem w_6_217 : (Cond.code yX12_takes cX12_takes 2 (some .boolean)) ∈ wsL_law := sk_mem (ck_6 _ (List.mem_of_getElem? (i := 217) rfl)) rfl
set_option maxHeartbeats 4000000 in
set_option maxRecDepth 100000 in
theorem c_m_takes (l : Launch) (D : va_G) (cI cJ cC cZ cS : ClassId) (mm : Nat) (g : Nat → Nat) (ta : Nat) (pa : Nat) (pe : Nat) (pd : Int32) (pb : Nat) (pp : Int32) (pf : Int32) (pg : Int32) (pn : Int32) (rt : Int32) (rn : Int32) (cd : Nat) (sn : Int32) (il : Nat) (tk : Int32) (am : Int32) (at_ : Int32) (aa : Int32) (wt : Int32) (wy : Int64) (rm : Nat) (ud : Nat) (nu : Nat) (sd : Int64) (qn : Nat) (qw : Nat) (qo : Int32) (qb : Nat) (qp : Nat) (qa : Int64) (qi : Nat) (oc : Nat) (tb : Nat → Nat) (h1 : Nat) (L : Nat) (wf_ : Nat → Int32) (hpa : pa ≤ pe) (hpe : pe ≤ 1600) (hpb : pb ≤ 5) (hL : 1 ≤ L) (hL2 : L ≤ 10) (htb : ∀ j, tb j ≤ 255) : skM l yX12_takes cX12_takes 2 (some .boolean) 2 43 0 0 D (skT cI cJ cC cZ cS) [.ref mm, .ref h1] [(mm, .inr (12, mo g (nI ta) (nI pa) (nI pe) pd (nI pb) pp pf pg pn rt rn (nI cd) sn (nI il) tk am at_ aa 0 0 (-1) wt wy 0 (nI rm) (nI ud) (nI nu) sd (nI qn) (nI qw) qo (nI qb) (nI qp) qa (nI qi) (nI oc))), (g 0, .inl (cI, 1600, .inl (fun j => nI (tb j)))), (h1, .inl (cC, L, .inl wf_))] (skI D (skT cI cJ cC cZ cS) (fun (r : Int32) (u : va_W) => ∃ (b : Nat), ∃ (pa2 : Nat), ∃ (pd2 : Int32), pa ≤ pa2 ∧ pa2 ≤ pe ∧ (b = 0 ∨ (b = 1 ∧ pb = 0 ∧ pa + L ≤ pa2)) ∧ r = nI b ∧ u = [(mm, .inr (12, mo g (nI ta) (nI pa2) (nI pe) pd2 (nI pb) pp pf pg pn rt rn (nI cd) sn (nI il) tk am at_ aa 0 0 (-1) wt wy 0 (nI rm) (nI ud) (nI nu) sd (nI qn) (nI qw) qo (nI qb) (nI qp) qa (nI qi) (nI oc))), (g 0, .inl (cI, 1600, .inl (fun j => nI (tb j)))), (h1, .inl (cC, L, .inl wf_))])) := by
  refine skM_of (by decide +kernel) (Nat.le_of_ble_eq_true rfl) ?_
  intro p e s m below meth c A ls E hP hD hl
  obtain ⟨hx, hb, hr, hml, hlocks, hin, hown, hts, hK, hA⟩ := E
  have hown : s.vm.findClass RX12 = some m.cls := hown
  have hS : va_S A s.heap s.heap [] := va_S.rf
  have hl : lv_has ls 2 [(0, .ref mm), (1, .ref h1)] := hl
  refine lv_aload_n hx hb dX12_takes_0 rfl (lv_at hl 0 rfl) ?_
  refine lv_aload_n hx hb dX12_takes_1 rfl (lv_at hl 1 rfl) ?_
  refine sk_Vi (q0 := 0) (n := 1) (rest := []) (wr := []) ⟨hx, hb, hml, hown, hts⟩ hl.1 (c_m_isHere l D cI cJ cC cZ cS mm g ta pa pe pd pb pp pf pg pn rt rn cd sn il tk am at_ aa wt wy rm ud nu sd qn qw qo qb qp qa qi oc tb h1 L wf_ (by omega) (by omega) (by omega) (by omega) (by omega) htb) w_6_218 w_6_220 w_0_44 w_1_14 w_6_221 (by decide +kernel) ⟨⟨(Nat.le_of_ble_eq_true rfl), (Nat.le_of_ble_eq_true rfl)⟩, (Nat.le_of_ble_eq_true rfl), (Nat.le_of_ble_eq_true rfl)⟩ hK hP hD hS hA [0, 1, 2] [] rfl rfl (by decide +kernel) (by decide +kernel) (by decide +kernel) rfl rfl rfl rfl (Nat.le_of_ble_eq_true rfl) dX12_takes_2 (fun r_3 u H locs hw hP hD hS => ?_)
  obtain ⟨b_1, pa2_2, hpa2_4, hpa3_5, hst_6, hb1_7, rfl, rfl⟩ := hw
  have hP : va_P D vwCl [(mm, .inr (12, mo g (nI ta) (nI pa2_2) (nI pe) pd (nI pb) pp pf pg pn rt rn (nI cd) sn (nI il) tk am at_ aa 0 0 (-1) wt wy 0 (nI rm) (nI ud) (nI nu) sd (nI qn) (nI qw) qo (nI qb) (nI qp) qa (nI qi) (nI oc))), (g 0, .inl (cI, 1600, .inl (fun j => nI (tb j)))), (h1, .inl (cC, L, .inl wf_))] H := hP
  have hD : va_D A [(mm, .inr (12, mo g (nI ta) (nI pa2_2) (nI pe) pd (nI pb) pp pf pg pn rt rn (nI cd) sn (nI il) tk am at_ aa 0 0 (-1) wt wy 0 (nI rm) (nI ud) (nI nu) sd (nI qn) (nI qw) qo (nI qb) (nI qp) qa (nI qi) (nI oc))), (g 0, .inl (cI, 1600, .inl (fun j => nI (tb j)))), (h1, .inl (cC, L, .inl wf_))] := hD
  refine lv_if_ne (tgt := 10) hx hb dX12_takes_5 (by decide) (fun c_8 => ?_) (fun c_8 => ?_)
  · have c_8 : ¬ (b_1 = 0) := fun h => c_8 ((neq b_1 0 (by omega) (by omega)).mpr h)
    refine lv_aload_n hx hb dX12_takes_10 rfl (lv_at hl 0 rfl) ?_
    refine lv_dup hx hb dX12_takes_11 rfl ?_
    refine sk_get (v := .int (nI pa2_2)) (C := RX12) (T := TX12) (N := 92) hx hb hts inlX12 hown hK hP 0 rfl rfl 2 (by decide) w_5_157 rfl dX12_takes_12 ?_
    refine lv_aload_n hx hb dX12_takes_15 rfl (lv_at hl 1 rfl) ?_
    refine va_alen (v := nI L) hx hb hK.1 hP 2 2 rfl rfl rfl dX12_takes_16 ?_
    refine lv_iadd hx hb dX12_takes_17 ?_
    refine sk_top (nI (pa2_2 + L)) (nI_add pa2_2 L) ?_
    refine sk_put (ws' := [(mm, .inr (12, mo g (nI ta) (nI (pa2_2 + L)) (nI pe) pd (nI pb) pp pf pg pn rt rn (nI cd) sn (nI il) tk am at_ aa 0 0 (-1) wt wy 0 (nI rm) (nI ud) (nI nu) sd (nI qn) (nI qw) qo (nI qb) (nI qp) qa (nI qi) (nI oc))), (g 0, .inl (cI, 1600, .inl (fun j => nI (tb j)))), (h1, .inl (cC, L, .inl wf_))]) (C := RX12) (T := TX12) (N := 92) (v := .int (nI (pa2_2 + L))) hx hb hts inlX12 tyX12 tyX12_ok nmX12 hown hK hP hD hS 0 rfl rfl 2 (by decide) w_5_157 rfl rfl rfl (Nat.le_of_ble_eq_true rfl) rfl dX12_takes_18 (fun H locs hP hD hS => ?_)
    refine lv_aload_n hx hb dX12_takes_21 rfl (lv_at hl 0 rfl) ?_
    refine lv_aload_n hx hb dX12_takes_22 rfl (lv_at hl 0 rfl) ?_
    refine sk_get (v := .int (nI (pa2_2 + L))) (C := RX12) (T := TX12) (N := 92) hx hb hts inlX12 hown hK hP 0 rfl rfl 2 (by decide) w_5_157 rfl dX12_takes_23 ?_
    refine sk_put (ws' := [(mm, .inr (12, mo g (nI ta) (nI (pa2_2 + L)) (nI pe) (nI (pa2_2 + L)) (nI pb) pp pf pg pn rt rn (nI cd) sn (nI il) tk am at_ aa 0 0 (-1) wt wy 0 (nI rm) (nI ud) (nI nu) sd (nI qn) (nI qw) qo (nI qb) (nI qp) qa (nI qi) (nI oc))), (g 0, .inl (cI, 1600, .inl (fun j => nI (tb j)))), (h1, .inl (cC, L, .inl wf_))]) (C := RX12) (T := TX12) (N := 92) (v := .int (nI (pa2_2 + L))) hx hb hts inlX12 tyX12 tyX12_ok nmX12 hown hK hP hD hS 0 rfl rfl 4 (by decide) w_5_159 rfl rfl rfl (Nat.le_of_ble_eq_true rfl) rfl dX12_takes_26 (fun H locs hP hD hS => ?_)
    refine lv_iconst (v := 1) hx hb dX12_takes_29 (by decide) ?_
    exact sk_iret hx hb hr rfl hlocks hK hP hD hS (⟨1, pa2_2 + L, nI (pa2_2 + L), by omega, by omega, by omega, rfl, rfl⟩) (Nat.le_of_ble_eq_true rfl) (Nat.le_of_ble_eq_true rfl) dX12_takes_30
  · have c_8 : b_1 = 0 := (neq b_1 0 (by omega) (by omega)).mp c_8
    refine lv_iconst (v := 0) hx hb dX12_takes_8 (by decide) ?_
    exact sk_iret hx hb hr rfl hlocks hK hP hD hS (⟨0, pa2_2, pd, by omega, by omega, by omega, rfl, rfl⟩) (Nat.le_of_ble_eq_true rfl) (Nat.le_of_ble_eq_true rfl) dX12_takes_9
theorem dX12_asks_0 : decode cX12_asks 0 = .ok (.aload_n 0, 1) := by decide +kernel
theorem dX12_asks_1 : decode cX12_asks 1 = .ok (.getfield 195, 3) := by decide +kernel
theorem dX12_asks_4 : decode cX12_asks 4 = .ok (.ifCond .ne 20, 3) := by decide +kernel
theorem dX12_asks_24 : decode cX12_asks 24 = .ok (.return_, 1) := by decide +kernel
theorem dX12_asks_7 : decode cX12_asks 7 = .ok (.aload_n 0, 1) := by decide +kernel
theorem dX12_asks_8 : decode cX12_asks 8 = .ok (.aload_n 1, 1) := by decide +kernel
theorem dX12_asks_9 : decode cX12_asks 9 = .ok (.invokevirtual 222, 3) := by decide +kernel
theorem dX12_asks_12 : decode cX12_asks 12 = .ok (.ifCond .ne 12, 3) := by decide +kernel
theorem dX12_asks_15 : decode cX12_asks 15 = .ok (.aload_n 0, 1) := by decide +kernel
theorem dX12_asks_16 : decode cX12_asks 16 = .ok (.iconst 1, 1) := by decide +kernel
theorem dX12_asks_17 : decode cX12_asks 17 = .ok (.aload_n 0, 1) := by decide +kernel
theorem dX12_asks_18 : decode cX12_asks 18 = .ok (.getfield 201, 3) := by decide +kernel
theorem dX12_asks_21 : decode cX12_asks 21 = .ok (.invokevirtual 225, 3) := by decide +kernel
theorem w_6_214 : (Cond.methodLink RX12 222 yX12_takes) ∈ wsL_law := sk_mem (ck_6 _ (List.mem_of_getElem? (i := 214) rfl)) rfl
theorem w_6_216 : (Cond.instanceMethod yX12_takes) ∈ wsL_law := sk_mem (ck_6 _ (List.mem_of_getElem? (i := 216) rfl)) rfl
theorem w_0_43 : (Cond.selects RX12 yX12_takes yX12_takes) ∈ wsL_law := sk_mem (ck_0 _ (List.mem_of_getElem? (i := 43) rfl)) rfl
theorem w_6_229 : (Cond.methodLink RX12 225 yX12_fail) ∈ wsL_law := sk_mem (ck_6 _ (List.mem_of_getElem? (i := 229) rfl)) rfl
theorem w_6_231 : (Cond.instanceMethod yX12_fail) ∈ wsL_law := sk_mem (ck_6 _ (List.mem_of_getElem? (i := 231) rfl)) rfl
theorem w_0_46 : (Cond.selects RX12 yX12_fail yX12_fail) ∈ wsL_law := sk_mem (ck_0 _ (List.mem_of_getElem? (i := 46) rfl)) rfl
theorem w_6_213 : (Cond.code yX12_asks cX12_asks 2 none) ∈ wsL_law := sk_mem (ck_6 _ (List.mem_of_getElem? (i := 213) rfl)) rfl
set_option maxHeartbeats 4000000 in
set_option maxRecDepth 100000 in
theorem c_m_asks (l : Launch) (D : va_G) (cI cJ cC cZ cS : ClassId) (mm : Nat) (g : Nat → Nat) (ta : Nat) (pa : Nat) (pe : Nat) (pd : Int32) (pb : Nat) (pp : Int32) (pf : Int32) (pg : Int32) (pn : Int32) (rt : Int32) (rn : Int32) (cd : Nat) (sn : Int32) (il : Nat) (tk : Int32) (am : Int32) (at_ : Int32) (aa : Int32) (wt : Int32) (wy : Int64) (rm : Nat) (ud : Nat) (nu : Nat) (sd : Int64) (qn : Nat) (qw : Nat) (qo : Int32) (qb : Nat) (qp : Nat) (qa : Int64) (qi : Nat) (oc : Nat) (tb : Nat → Nat) (h1 : Nat) (L : Nat) (wf_ : Nat → Int32) (hpa : pa ≤ pe) (hpe : pe ≤ 1600) (hpb : pb ≤ 5) (hL : 1 ≤ L) (hL2 : L ≤ 10) (htb : ∀ j, tb j ≤ 255) : skM l yX12_asks cX12_asks 2 none 3 64 0 0 D (skT cI cJ cC cZ cS) [.ref mm, .ref h1] [(mm, .inr (12, mo g (nI ta) (nI pa) (nI pe) pd (nI pb) pp pf pg pn rt rn (nI cd) sn (nI il) tk am at_ aa 0 0 (-1) wt wy 0 (nI rm) (nI ud) (nI nu) sd (nI qn) (nI qw) qo (nI qb) (nI qp) qa (nI qi) (nI oc))), (g 0, .inl (cI, 1600, .inl (fun j => nI (tb j)))), (h1, .inl (cC, L, .inl wf_))] (skV D (skT cI cJ cC cZ cS) (fun (u : va_W) => ∃ (pa2 : Nat), ∃ (pd2 : Int32), ∃ (pb2 : Nat), ∃ (pp2 : Int32), pa ≤ pa2 ∧ pa2 ≤ pe ∧ pb2 ≤ 5 ∧ (¬ pb2 = 0 ∨ (pb = 0 ∧ pa + L ≤ pa2)) ∧ u = [(mm, .inr (12, mo g (nI ta) (nI pa2) (nI pe) pd2 (nI pb2) pp2 pf pg pn rt rn (nI cd) sn (nI il) tk am at_ aa 0 0 (-1) wt wy 0 (nI rm) (nI ud) (nI nu) sd (nI qn) (nI qw) qo (nI qb) (nI qp) qa (nI qi) (nI oc))), (g 0, .inl (cI, 1600, .inl (fun j => nI (tb j)))), (h1, .inl (cC, L, .inl wf_))])) := by
  refine skM_of (by decide +kernel) (Nat.le_of_ble_eq_true rfl) ?_
  intro p e s m below meth c A ls E hP hD hl
  obtain ⟨hx, hb, hr, hml, hlocks, hin, hown, hts, hK, hA⟩ := E
  have hown : s.vm.findClass RX12 = some m.cls := hown
  have hS : va_S A s.heap s.heap [] := va_S.rf
  have hl : lv_has ls 2 [(0, .ref mm), (1, .ref h1)] := hl
  refine lv_aload_n hx hb dX12_asks_0 rfl (lv_at hl 0 rfl) ?_
  refine sk_get (v := .int (nI pb)) (C := RX12) (T := TX12) (N := 92) hx hb hts inlX12 hown hK hP 0 rfl rfl 5 (by decide) w_5_160 rfl dX12_asks_1 ?_
  refine lv_if_ne (tgt := 24) hx hb dX12_asks_4 (by decide) (fun c_1 => ?_) (fun c_1 => ?_)
  · have c_1 : ¬ (pb = 0) := fun h => c_1 ((neq pb 0 (by omega) (by omega)).mpr h)
    exact sk_vret hx hb hr hlocks hK hP hD hS (⟨pa, pd, pb, pp, by omega, by omega, by omega, by omega, rfl⟩) (Nat.le_of_ble_eq_true rfl) (Nat.le_of_ble_eq_true rfl) dX12_asks_24
  · have c_1 : pb = 0 := (neq pb 0 (by omega) (by omega)).mp c_1
    refine lv_aload_n hx hb dX12_asks_7 rfl (lv_at hl 0 rfl) ?_
    refine lv_aload_n hx hb dX12_asks_8 rfl (lv_at hl 1 rfl) ?_
    refine sk_Vi (q0 := 0) (n := 1) (rest := []) (wr := []) ⟨hx, hb, hml, hown, hts⟩ hl.1 (c_m_takes l D cI cJ cC cZ cS mm g ta pa pe pd pb pp pf pg pn rt rn cd sn il tk am at_ aa wt wy rm ud nu sd qn qw qo qb qp qa qi oc tb h1 L wf_ (by omega) (by omega) (by omega) (by omega) (by omega) htb) w_6_214 w_6_216 w_0_43 w_1_14 w_6_217 (by decide +kernel) ⟨⟨(Nat.le_of_ble_eq_true rfl), (Nat.le_of_ble_eq_true rfl)⟩, (Nat.le_of_ble_eq_true rfl), (Nat.le_of_ble_eq_true rfl)⟩ hK hP hD hS hA [0, 1, 2] [] rfl rfl (by decide +kernel) (by decide +kernel) (by decide +kernel) rfl rfl rfl rfl (Nat.le_of_ble_eq_true rfl) dX12_asks_9 (fun r_5 u H locs hw hP hD hS => ?_)
    obtain ⟨b_2, pa2_3, pd2_4, hpa2_6, hpa3_7, hb1_8, rfl, rfl⟩ := hw
    have hP : va_P D vwCl [(mm, .inr (12, mo g (nI ta) (nI pa2_3) (nI pe) pd2_4 (nI pb) pp pf pg pn rt rn (nI cd) sn (nI il) tk am at_ aa 0 0 (-1) wt wy 0 (nI rm) (nI ud) (nI nu) sd (nI qn) (nI qw) qo (nI qb) (nI qp) qa (nI qi) (nI oc))), (g 0, .inl (cI, 1600, .inl (fun j => nI (tb j)))), (h1, .inl (cC, L, .inl wf_))] H := hP
    have hD : va_D A [(mm, .inr (12, mo g (nI ta) (nI pa2_3) (nI pe) pd2_4 (nI pb) pp pf pg pn rt rn (nI cd) sn (nI il) tk am at_ aa 0 0 (-1) wt wy 0 (nI rm) (nI ud) (nI nu) sd (nI qn) (nI qw) qo (nI qb) (nI qp) qa (nI qi) (nI oc))), (g 0, .inl (cI, 1600, .inl (fun j => nI (tb j)))), (h1, .inl (cC, L, .inl wf_))] := hD
    refine lv_if_ne (tgt := 24) hx hb dX12_asks_12 (by decide) (fun c_9 => ?_) (fun c_9 => ?_)
    · have c_9 : ¬ (b_2 = 0) := fun h => c_9 ((neq b_2 0 (by omega) (by omega)).mpr h)
      exact sk_vret hx hb hr hlocks hK hP hD hS (⟨pa2_3, pd2_4, pb, pp, by omega, by omega, by omega, by omega, rfl⟩) (Nat.le_of_ble_eq_true rfl) (Nat.le_of_ble_eq_true rfl) dX12_asks_24
    · have c_9 : b_2 = 0 := (neq b_2 0 (by omega) (by omega)).mp c_9
      refine lv_aload_n hx hb dX12_asks_15 rfl (lv_at hl 0 rfl) ?_
      refine lv_iconst (v := 1) hx hb dX12_asks_16 (by decide) ?_
      refine lv_aload_n hx hb dX12_asks_17 rfl (lv_at hl 0 rfl) ?_
      refine sk_get (v := .int (nI pa2_3)) (C := RX12) (T := TX12) (N := 92) hx hb hts inlX12 hown hK hP 0 rfl rfl 2 (by decide) w_5_157 rfl dX12_asks_18 ?_
      refine sk_Vv (q0 := 0) (n := 2) (rest := []) (wr := [(g 0, .inl (cI, 1600, .inl (fun j => nI (tb j)))), (h1, .inl (cC, L, .inl wf_))]) ⟨hx, hb, hml, hown, hts⟩ hl.1 (c_m_fail l D cI cJ cC cZ cS mm g ta pa2_3 pe pd2_4 pb pp pf pg pn rt rn cd sn il tk am at_ aa wt wy rm ud nu sd qn qw qo qb qp qa qi oc 1 (nI pa2_3) (by omega) (by omega) (by omega)) w_6_229 w_6_231 w_0_46 w_1_14 w_6_232 (by decide +kernel) ⟨⟨(Nat.le_of_ble_eq_true rfl), (Nat.le_of_ble_eq_true rfl)⟩, (Nat.le_of_ble_eq_true rfl), (Nat.le_of_ble_eq_true rfl)⟩ hK hP hD hS hA [0] [1, 2] rfl rfl (by decide +kernel) (by decide +kernel) (by decide +kernel) rfl rfl rfl rfl (Nat.le_of_ble_eq_true rfl) dX12_asks_21 (fun u H locs hw hP hD hS => ?_)
      obtain ⟨pb2_10, pp2_11, hpb2_12, hpb3_13, rfl⟩ := hw
      have hP : va_P D vwCl [(g 0, .inl (cI, 1600, .inl (fun j => nI (tb j)))), (h1, .inl (cC, L, .inl wf_)), (mm, .inr (12, mo g (nI ta) (nI pa2_3) (nI pe) pd2_4 (nI pb2_10) pp2_11 pf pg pn rt rn (nI cd) sn (nI il) tk am at_ aa 0 0 (-1) wt wy 0 (nI rm) (nI ud) (nI nu) sd (nI qn) (nI qw) qo (nI qb) (nI qp) qa (nI qi) (nI oc)))] H := hP
      have hD : va_D A [(g 0, .inl (cI, 1600, .inl (fun j => nI (tb j)))), (h1, .inl (cC, L, .inl wf_)), (mm, .inr (12, mo g (nI ta) (nI pa2_3) (nI pe) pd2_4 (nI pb2_10) pp2_11 pf pg pn rt rn (nI cd) sn (nI il) tk am at_ aa 0 0 (-1) wt wy 0 (nI rm) (nI ud) (nI nu) sd (nI qn) (nI qw) qo (nI qb) (nI qp) qa (nI qi) (nI oc)))] := hD
      have hP := hP.sub (ws' := [(mm, .inr (12, mo g (nI ta) (nI pa2_3) (nI pe) pd2_4 (nI pb2_10) pp2_11 pf pg pn rt rn (nI cd) sn (nI il) tk am at_ aa 0 0 (-1) wt wy 0 (nI rm) (nI ud) (nI nu) sd (nI qn) (nI qw) qo (nI qb) (nI qp) qa (nI qi) (nI oc))), (g 0, .inl (cI, 1600, .inl (fun j => nI (tb j)))), (h1, .inl (cC, L, .inl wf_))]) [2, 0, 1] rfl
      have hD := hD.sub (ws' := [(mm, .inr (12, mo g (nI ta) (nI pa2_3) (nI pe) pd2_4 (nI pb2_10) pp2_11 pf pg pn rt rn (nI cd) sn (nI il) tk am at_ aa 0 0 (-1) wt wy 0 (nI rm) (nI ud) (nI nu) sd (nI qn) (nI qw) qo (nI qb) (nI qp) qa (nI qi) (nI oc))), (g 0, .inl (cI, 1600, .inl (fun j => nI (tb j)))), (h1, .inl (cC, L, .inl wf_))]) [2, 0, 1] (by decide +kernel) rfl
      exact sk_vret hx hb hr hlocks hK hP hD hS (⟨pa2_3, pd2_4, pb2_10, pp2_11, by omega, by omega, by omega, by omega, rfl⟩) (Nat.le_of_ble_eq_true rfl) (Nat.le_of_ble_eq_true rfl) dX12_asks_24
theorem dX12_takesSign_0 : decode cX12_takesSign 0 = .ok (.aload_n 0, 1) := by decide +kernel
theorem dX12_takesSign_1 : decode cX12_takesSign 1 = .ok (.getfield 195, 3) := by decide +kernel
theorem dX12_takesSign_4 : decode cX12_takesSign 4 = .ok (.ifCond .ne 11, 3) := by decide +kernel
theorem dX12_takesSign_15 : decode cX12_takesSign 15 = .ok (.iconst 0, 1) := by decide +kernel
theorem dX12_takesSign_16 : decode cX12_takesSign 16 = .ok (.ireturn, 1) := by decide +kernel
theorem dX12_takesSign_7 : decode cX12_takesSign 7 = .ok (.aload_n 0, 1) := by decide +kernel
theorem dX12_takesSign_8 : decode cX12_takesSign 8 = .ok (.invokevirtual 207, 3) := by decide +kernel
theorem dX12_takesSign_11 : decode cX12_takesSign 11 = .ok (.iload_n 1, 1) := by decide +kernel
theorem dX12_takesSign_12 : decode cX12_takesSign 12 = .ok (.if_icmp .eq 5, 3) := by decide +kernel
theorem dX12_takesSign_17 : decode cX12_takesSign 17 = .ok (.aload_n 0, 1) := by decide +kernel
theorem dX12_takesSign_18 : decode cX12_takesSign 18 = .ok (.dup, 1) := by decide +kernel
theorem dX12_takesSign_19 : decode cX12_takesSign 19 = .ok (.getfield 201, 3) := by decide +kernel
theorem dX12_takesSign_22 : decode cX12_takesSign 22 = .ok (.iconst 1, 1) := by decide +kernel
theorem dX12_takesSign_23 : decode cX12_takesSign 23 = .ok (.iadd, 1) := by decide +kernel
theorem dX12_takesSign_24 : decode cX12_takesSign 24 = .ok (.putfield 201, 3) := by decide +kernel
theorem dX12_takesSign_27 : decode cX12_takesSign 27 = .ok (.iconst 1, 1) := by decide +kernel
theorem dX12_takesSign_28 : decode cX12_takesSign 28 = .ok (.ireturn, 1) := by decide +kernel
theorem w_7_10 : (Cond.code yX12_takesSign cX12_takesSign 2 (some .boolean)) ∈ wsL_law := sk_mem (ck_7 _ (List.mem_of_getElem? (i := 10) rfl)) rfl
set_option maxHeartbeats 4000000 in
set_option maxRecDepth 100000 in
theorem c_m_takesSign (l : Launch) (D : va_G) (cI cJ cC cZ cS : ClassId) (mm : Nat) (g : Nat → Nat) (ta : Nat) (pa : Nat) (pe : Nat) (pd : Int32) (pb : Nat) (pp : Int32) (pf : Int32) (pg : Int32) (pn : Int32) (rt : Int32) (rn : Int32) (cd : Nat) (sn : Int32) (il : Nat) (tk : Int32) (am : Int32) (at_ : Int32) (aa : Int32) (wt : Int32) (wy : Int64) (rm : Nat) (ud : Nat) (nu : Nat) (sd : Int64) (qn : Nat) (qw : Nat) (qo : Int32) (qb : Nat) (qp : Nat) (qa : Int64) (qi : Nat) (oc : Nat) (w : Nat) (tb : Nat → Nat) (hpa : pa ≤ pe) (hpe : pe ≤ 1600) (hpb : pb ≤ 5) (hw : w ≤ 255) (htb : ∀ j, tb j ≤ 255) : skM l yX12_takesSign cX12_takesSign 2 (some .boolean) 1 20 0 0 D (skT cI cJ cC cZ cS) [.ref mm, .int (nI w)] [(mm, .inr (12, mo g (nI ta) (nI pa) (nI pe) pd (nI pb) pp pf pg pn rt rn (nI cd) sn (nI il) tk am at_ aa 0 0 (-1) wt wy 0 (nI rm) (nI ud) (nI nu) sd (nI qn) (nI qw) qo (nI qb) (nI qp) qa (nI qi) (nI oc))), (g 0, .inl (cI, 1600, .inl (fun j => nI (tb j))))] (skI D (skT cI cJ cC cZ cS) (fun (r : Int32) (u : va_W) => ∃ (b : Nat), ∃ (pa2 : Nat), pa ≤ pa2 ∧ pa2 ≤ pe ∧ (b = 0 ∨ (b = 1 ∧ pb = 0 ∧ pa + 1 ≤ pa2)) ∧ r = nI b ∧ u = [(mm, .inr (12, mo g (nI ta) (nI pa2) (nI pe) pd (nI pb) pp pf pg pn rt rn (nI cd) sn (nI il) tk am at_ aa 0 0 (-1) wt wy 0 (nI rm) (nI ud) (nI nu) sd (nI qn) (nI qw) qo (nI qb) (nI qp) qa (nI qi) (nI oc))), (g 0, .inl (cI, 1600, .inl (fun j => nI (tb j))))])) := by
  refine skM_of (by decide +kernel) (Nat.le_of_ble_eq_true rfl) ?_
  intro p e s m below meth c A ls E hP hD hl
  obtain ⟨hx, hb, hr, hml, hlocks, hin, hown, hts, hK, hA⟩ := E
  have hown : s.vm.findClass RX12 = some m.cls := hown
  have hS : va_S A s.heap s.heap [] := va_S.rf
  have hl : lv_has ls 2 [(0, .ref mm), (1, .int (nI w))] := hl
  refine lv_aload_n hx hb dX12_takesSign_0 rfl (lv_at hl 0 rfl) ?_
  refine sk_get (v := .int (nI pb)) (C := RX12) (T := TX12) (N := 92) hx hb hts inlX12 hown hK hP 0 rfl rfl 5 (by decide) w_5_160 rfl dX12_takesSign_1 ?_
  refine lv_if_ne (tgt := 15) hx hb dX12_takesSign_4 (by decide) (fun c_1 => ?_) (fun c_1 => ?_)
  · have c_1 : ¬ (pb = 0) := fun h => c_1 ((neq pb 0 (by omega) (by omega)).mpr h)
    refine lv_iconst (v := 0) hx hb dX12_takesSign_15 (by decide) ?_
    exact sk_iret hx hb hr rfl hlocks hK hP hD hS (⟨0, pa, by omega, by omega, by omega, rfl, rfl⟩) (Nat.le_of_ble_eq_true rfl) (Nat.le_of_ble_eq_true rfl) dX12_takesSign_16
  · have c_1 : pb = 0 := (neq pb 0 (by omega) (by omega)).mp c_1
    refine lv_aload_n hx hb dX12_takesSign_7 rfl (lv_at hl 0 rfl) ?_
    refine sk_Vi (q0 := 0) (n := 0) (rest := []) (wr := []) ⟨hx, hb, hml, hown, hts⟩ hl.1 (c_m_look l D cI cJ cC cZ cS mm g ta pa pe pd pb pp pf pg pn rt rn cd sn il tk am at_ aa wt wy rm ud nu sd qn qw qo qb qp qa qi oc tb (by omega) (by omega) htb) w_6_222 w_6_224 w_0_45 w_1_14 w_6_225 (by decide +kernel) ⟨⟨(Nat.le_of_ble_eq_true rfl), (Nat.le_of_ble_eq_true rfl)⟩, (Nat.le_of_ble_eq_true rfl), (Nat.le_of_ble_eq_true rfl)⟩ hK hP hD hS hA [0, 1] [] rfl rfl (by decide +kernel) (by decide +kernel) (by decide +kernel) rfl rfl rfl rfl (Nat.le_of_ble_eq_true rfl) dX12_takesSign_8 (fun r_3 u H locs hw hP hD hS => ?_)
    obtain ⟨pa2_2, hpa2_4, hpa3_5, hlk_6, hst_7, rfl⟩ := hw
    have hP : va_P D vwCl [(mm, .inr (12, mo g (nI ta) (nI pa2_2) (nI pe) pd (nI pb) pp pf pg pn rt rn (nI cd) sn (nI il) tk am at_ aa 0 0 (-1) wt wy 0 (nI rm) (nI ud) (nI nu) sd (nI qn) (nI qw) qo (nI qb) (nI qp) qa (nI qi) (nI oc))), (g 0, .inl (cI, 1600, .inl (fun j => nI (tb j))))] H := hP
    have hD : va_D A [(mm, .inr (12, mo g (nI ta) (nI pa2_2) (nI pe) pd (nI pb) pp pf pg pn rt rn (nI cd) sn (nI il) tk am at_ aa 0 0 (-1) wt wy 0 (nI rm) (nI ud) (nI nu) sd (nI qn) (nI qw) qo (nI qb) (nI qp) qa (nI qi) (nI oc))), (g 0, .inl (cI, 1600, .inl (fun j => nI (tb j))))] := hD
    refine lv_iload_n hx hb dX12_takesSign_11 rfl (lv_at hl 1 rfl) ?_
    refine lv_icmp_eq (tgt := 17) hx hb dX12_takesSign_12 (by decide) (fun c_8 => ?_) (fun c_8 => ?_)
    · have hq_9 := lk_at hlk_6 htb (w := w) (by omega) c_8
      refine lv_aload_n hx hb dX12_takesSign_17 rfl (lv_at hl 0 rfl) ?_
      refine lv_dup hx hb dX12_takesSign_18 rfl ?_
      refine sk_get (v := .int (nI pa2_2)) (C := RX12) (T := TX12) (N := 92) hx hb hts inlX12 hown hK hP 0 rfl rfl 2 (by decide) w_5_157 rfl dX12_takesSign_19 ?_
      refine lv_iconst (v := 1) hx hb dX12_takesSign_22 (by decide) ?_
      refine lv_iadd hx hb dX12_takesSign_23 ?_
      refine sk_top (nI (pa2_2 + 1)) (nI_add pa2_2 1) ?_
      refine sk_put (ws' := [(mm, .inr (12, mo g (nI ta) (nI (pa2_2 + 1)) (nI pe) pd (nI pb) pp pf pg pn rt rn (nI cd) sn (nI il) tk am at_ aa 0 0 (-1) wt wy 0 (nI rm) (nI ud) (nI nu) sd (nI qn) (nI qw) qo (nI qb) (nI qp) qa (nI qi) (nI oc))), (g 0, .inl (cI, 1600, .inl (fun j => nI (tb j))))]) (C := RX12) (T := TX12) (N := 92) (v := .int (nI (pa2_2 + 1))) hx hb hts inlX12 tyX12 tyX12_ok nmX12 hown hK hP hD hS 0 rfl rfl 2 (by decide) w_5_157 rfl rfl rfl (Nat.le_of_ble_eq_true rfl) rfl dX12_takesSign_24 (fun H locs hP hD hS => ?_)
      refine lv_iconst (v := 1) hx hb dX12_takesSign_27 (by decide) ?_
      exact sk_iret hx hb hr rfl hlocks hK hP hD hS (⟨1, pa2_2 + 1, by omega, by omega, by omega, rfl, rfl⟩) (Nat.le_of_ble_eq_true rfl) (Nat.le_of_ble_eq_true rfl) dX12_takesSign_28
    · skip
      refine lv_iconst (v := 0) hx hb dX12_takesSign_15 (by decide) ?_
      exact sk_iret hx hb hr rfl hlocks hK hP hD hS (⟨0, pa2_2, by omega, by omega, by omega, rfl, rfl⟩) (Nat.le_of_ble_eq_true rfl) (Nat.le_of_ble_eq_true rfl) dX12_takesSign_16
theorem dX12_asksSign_0 : decode cX12_asksSign 0 = .ok (.aload_n 0, 1) := by decide +kernel
theorem dX12_asksSign_1 : decode cX12_asksSign 1 = .ok (.getfield 195, 3) := by decide +kernel
theorem dX12_asksSign_4 : decode cX12_asksSign 4 = .ok (.ifCond .ne 20, 3) := by decide +kernel
theorem dX12_asksSign_24 : decode cX12_asksSign 24 = .ok (.return_, 1) := by decide +kernel
theorem dX12_asksSign_7 : decode cX12_asksSign 7 = .ok (.aload_n 0, 1) := by decide +kernel
theorem dX12_asksSign_8 : decode cX12_asksSign 8 = .ok (.iload_n 1, 1) := by decide +kernel
theorem dX12_asksSign_9 : decode cX12_asksSign 9 = .ok (.invokevirtual 229, 3) := by decide +kernel
theorem dX12_asksSign_12 : decode cX12_asksSign 12 = .ok (.ifCond .ne 12, 3) := by decide +kernel
theorem dX12_asksSign_15 : decode cX12_asksSign 15 = .ok (.aload_n 0, 1) := by decide +kernel
theorem dX12_asksSign_16 : decode cX12_asksSign 16 = .ok (.iconst 1, 1) := by decide +kernel
theorem dX12_asksSign_17 : decode cX12_asksSign 17 = .ok (.aload_n 0, 1) := by decide +kernel
theorem dX12_asksSign_18 : decode cX12_asksSign 18 = .ok (.getfield 201, 3) := by decide +kernel
theorem dX12_asksSign_21 : decode cX12_asksSign 21 = .ok (.invokevirtual 225, 3) := by decide +kernel
theorem w_7_7 : (Cond.methodLink RX12 229 yX12_takesSign) ∈ wsL_law := sk_mem (ck_7 _ (List.mem_of_getElem? (i := 7) rfl)) rfl
theorem w_7_9 : (Cond.instanceMethod yX12_takesSign) ∈ wsL_law := sk_mem (ck_7 _ (List.mem_of_getElem? (i := 9) rfl)) rfl
theorem w_0_49 : (Cond.selects RX12 yX12_takesSign yX12_takesSign) ∈ wsL_law := sk_mem (ck_0 _ (List.mem_of_getElem? (i := 49) rfl)) rfl
theorem w_7_6 : (Cond.code yX12_asksSign cX12_asksSign 2 none) ∈ wsL_law := sk_mem (ck_7 _ (List.mem_of_getElem? (i := 6) rfl)) rfl
set_option maxHeartbeats 4000000 in
set_option maxRecDepth 100000 in
theorem c_m_asksSign (l : Launch) (D : va_G) (cI cJ cC cZ cS : ClassId) (mm : Nat) (g : Nat → Nat) (ta : Nat) (pa : Nat) (pe : Nat) (pd : Int32) (pb : Nat) (pp : Int32) (pf : Int32) (pg : Int32) (pn : Int32) (rt : Int32) (rn : Int32) (cd : Nat) (sn : Int32) (il : Nat) (tk : Int32) (am : Int32) (at_ : Int32) (aa : Int32) (wt : Int32) (wy : Int64) (rm : Nat) (ud : Nat) (nu : Nat) (sd : Int64) (qn : Nat) (qw : Nat) (qo : Int32) (qb : Nat) (qp : Nat) (qa : Int64) (qi : Nat) (oc : Nat) (w : Nat) (tb : Nat → Nat) (hpa : pa ≤ pe) (hpe : pe ≤ 1600) (hpb : pb ≤ 5) (hw : w ≤ 255) (htb : ∀ j, tb j ≤ 255) : skM l yX12_asksSign cX12_asksSign 2 none 2 41 0 0 D (skT cI cJ cC cZ cS) [.ref mm, .int (nI w)] [(mm, .inr (12, mo g (nI ta) (nI pa) (nI pe) pd (nI pb) pp pf pg pn rt rn (nI cd) sn (nI il) tk am at_ aa 0 0 (-1) wt wy 0 (nI rm) (nI ud) (nI nu) sd (nI qn) (nI qw) qo (nI qb) (nI qp) qa (nI qi) (nI oc))), (g 0, .inl (cI, 1600, .inl (fun j => nI (tb j))))] (skV D (skT cI cJ cC cZ cS) (fun (u : va_W) => ∃ (pa2 : Nat), ∃ (pb2 : Nat), ∃ (pp2 : Int32), pa ≤ pa2 ∧ pa2 ≤ pe ∧ pb2 ≤ 5 ∧ (¬ pb2 = 0 ∨ (pb = 0 ∧ pa + 1 ≤ pa2)) ∧ u = [(mm, .inr (12, mo g (nI ta) (nI pa2) (nI pe) pd (nI pb2) pp2 pf pg pn rt rn (nI cd) sn (nI il) tk am at_ aa 0 0 (-1) wt wy 0 (nI rm) (nI ud) (nI nu) sd (nI qn) (nI qw) qo (nI qb) (nI qp) qa (nI qi) (nI oc))), (g 0, .inl (cI, 1600, .inl (fun j => nI (tb j))))])) := by
  refine skM_of (by decide +kernel) (Nat.le_of_ble_eq_true rfl) ?_
  intro p e s m below meth c A ls E hP hD hl
  obtain ⟨hx, hb, hr, hml, hlocks, hin, hown, hts, hK, hA⟩ := E
  have hown : s.vm.findClass RX12 = some m.cls := hown
  have hS : va_S A s.heap s.heap [] := va_S.rf
  have hl : lv_has ls 2 [(0, .ref mm), (1, .int (nI w))] := hl
  refine lv_aload_n hx hb dX12_asksSign_0 rfl (lv_at hl 0 rfl) ?_
  refine sk_get (v := .int (nI pb)) (C := RX12) (T := TX12) (N := 92) hx hb hts inlX12 hown hK hP 0 rfl rfl 5 (by decide) w_5_160 rfl dX12_asksSign_1 ?_
  refine lv_if_ne (tgt := 24) hx hb dX12_asksSign_4 (by decide) (fun c_1 => ?_) (fun c_1 => ?_)
  · have c_1 : ¬ (pb = 0) := fun h => c_1 ((neq pb 0 (by omega) (by omega)).mpr h)
    exact sk_vret hx hb hr hlocks hK hP hD hS (⟨pa, pb, pp, by omega, by omega, by omega, by omega, rfl⟩) (Nat.le_of_ble_eq_true rfl) (Nat.le_of_ble_eq_true rfl) dX12_asksSign_24
  · have c_1 : pb = 0 := (neq pb 0 (by omega) (by omega)).mp c_1
    refine lv_aload_n hx hb dX12_asksSign_7 rfl (lv_at hl 0 rfl) ?_
    refine lv_iload_n hx hb dX12_asksSign_8 rfl (lv_at hl 1 rfl) ?_
    refine sk_Vi (q0 := 0) (n := 1) (rest := []) (wr := []) ⟨hx, hb, hml, hown, hts⟩ hl.1 (c_m_takesSign l D cI cJ cC cZ cS mm g ta pa pe pd pb pp pf pg pn rt rn cd sn il tk am at_ aa wt wy rm ud nu sd qn qw qo qb qp qa qi oc w tb (by omega) (by omega) (by omega) (by omega) htb) w_7_7 w_7_9 w_0_49 w_1_14 w_7_10 (by decide +kernel) ⟨⟨(Nat.le_of_ble_eq_true rfl), (Nat.le_of_ble_eq_true rfl)⟩, (Nat.le_of_ble_eq_true rfl), (Nat.le_of_ble_eq_true rfl)⟩ hK hP hD hS hA [0, 1] [] rfl rfl (by decide +kernel) (by decide +kernel) (by decide +kernel) rfl rfl rfl rfl (Nat.le_of_ble_eq_true rfl) dX12_asksSign_9 (fun r_4 u H locs hw hP hD hS => ?_)
    obtain ⟨b_2, pa2_3, hpa2_5, hpa3_6, hb1_7, rfl, rfl⟩ := hw
    have hP : va_P D vwCl [(mm, .inr (12, mo g (nI ta) (nI pa2_3) (nI pe) pd (nI pb) pp pf pg pn rt rn (nI cd) sn (nI il) tk am at_ aa 0 0 (-1) wt wy 0 (nI rm) (nI ud) (nI nu) sd (nI qn) (nI qw) qo (nI qb) (nI qp) qa (nI qi) (nI oc))), (g 0, .inl (cI, 1600, .inl (fun j => nI (tb j))))] H := hP
    have hD : va_D A [(mm, .inr (12, mo g (nI ta) (nI pa2_3) (nI pe) pd (nI pb) pp pf pg pn rt rn (nI cd) sn (nI il) tk am at_ aa 0 0 (-1) wt wy 0 (nI rm) (nI ud) (nI nu) sd (nI qn) (nI qw) qo (nI qb) (nI qp) qa (nI qi) (nI oc))), (g 0, .inl (cI, 1600, .inl (fun j => nI (tb j))))] := hD
    refine lv_if_ne (tgt := 24) hx hb dX12_asksSign_12 (by decide) (fun c_8 => ?_) (fun c_8 => ?_)
    · have c_8 : ¬ (b_2 = 0) := fun h => c_8 ((neq b_2 0 (by omega) (by omega)).mpr h)
      exact sk_vret hx hb hr hlocks hK hP hD hS (⟨pa2_3, pb, pp, by omega, by omega, by omega, by omega, rfl⟩) (Nat.le_of_ble_eq_true rfl) (Nat.le_of_ble_eq_true rfl) dX12_asksSign_24
    · have c_8 : b_2 = 0 := (neq b_2 0 (by omega) (by omega)).mp c_8
      refine lv_aload_n hx hb dX12_asksSign_15 rfl (lv_at hl 0 rfl) ?_
      refine lv_iconst (v := 1) hx hb dX12_asksSign_16 (by decide) ?_
      refine lv_aload_n hx hb dX12_asksSign_17 rfl (lv_at hl 0 rfl) ?_
      refine sk_get (v := .int (nI pa2_3)) (C := RX12) (T := TX12) (N := 92) hx hb hts inlX12 hown hK hP 0 rfl rfl 2 (by decide) w_5_157 rfl dX12_asksSign_18 ?_
      refine sk_Vv (q0 := 0) (n := 2) (rest := []) (wr := [(g 0, .inl (cI, 1600, .inl (fun j => nI (tb j))))]) ⟨hx, hb, hml, hown, hts⟩ hl.1 (c_m_fail l D cI cJ cC cZ cS mm g ta pa2_3 pe pd pb pp pf pg pn rt rn cd sn il tk am at_ aa wt wy rm ud nu sd qn qw qo qb qp qa qi oc 1 (nI pa2_3) (by omega) (by omega) (by omega)) w_6_229 w_6_231 w_0_46 w_1_14 w_6_232 (by decide +kernel) ⟨⟨(Nat.le_of_ble_eq_true rfl), (Nat.le_of_ble_eq_true rfl)⟩, (Nat.le_of_ble_eq_true rfl), (Nat.le_of_ble_eq_true rfl)⟩ hK hP hD hS hA [0] [1] rfl rfl (by decide +kernel) (by decide +kernel) (by decide +kernel) rfl rfl rfl rfl (Nat.le_of_ble_eq_true rfl) dX12_asksSign_21 (fun u H locs hw hP hD hS => ?_)
      obtain ⟨pb2_9, pp2_10, hpb2_11, hpb3_12, rfl⟩ := hw
      have hP : va_P D vwCl [(g 0, .inl (cI, 1600, .inl (fun j => nI (tb j)))), (mm, .inr (12, mo g (nI ta) (nI pa2_3) (nI pe) pd (nI pb2_9) pp2_10 pf pg pn rt rn (nI cd) sn (nI il) tk am at_ aa 0 0 (-1) wt wy 0 (nI rm) (nI ud) (nI nu) sd (nI qn) (nI qw) qo (nI qb) (nI qp) qa (nI qi) (nI oc)))] H := hP
      have hD : va_D A [(g 0, .inl (cI, 1600, .inl (fun j => nI (tb j)))), (mm, .inr (12, mo g (nI ta) (nI pa2_3) (nI pe) pd (nI pb2_9) pp2_10 pf pg pn rt rn (nI cd) sn (nI il) tk am at_ aa 0 0 (-1) wt wy 0 (nI rm) (nI ud) (nI nu) sd (nI qn) (nI qw) qo (nI qb) (nI qp) qa (nI qi) (nI oc)))] := hD
      have hP := hP.sub (ws' := [(mm, .inr (12, mo g (nI ta) (nI pa2_3) (nI pe) pd (nI pb2_9) pp2_10 pf pg pn rt rn (nI cd) sn (nI il) tk am at_ aa 0 0 (-1) wt wy 0 (nI rm) (nI ud) (nI nu) sd (nI qn) (nI qw) qo (nI qb) (nI qp) qa (nI qi) (nI oc))), (g 0, .inl (cI, 1600, .inl (fun j => nI (tb j))))]) [1, 0] rfl
      have hD := hD.sub (ws' := [(mm, .inr (12, mo g (nI ta) (nI pa2_3) (nI pe) pd (nI pb2_9) pp2_10 pf pg pn rt rn (nI cd) sn (nI il) tk am at_ aa 0 0 (-1) wt wy 0 (nI rm) (nI ud) (nI nu) sd (nI qn) (nI qw) qo (nI qb) (nI qp) qa (nI qi) (nI oc))), (g 0, .inl (cI, 1600, .inl (fun j => nI (tb j))))]) [1, 0] (by decide +kernel) rfl
      exact sk_vret hx hb hr hlocks hK hP hD hS (⟨pa2_3, pb2_9, pp2_10, by omega, by omega, by omega, by omega, rfl⟩) (Nat.le_of_ble_eq_true rfl) (Nat.le_of_ble_eq_true rfl) dX12_asksSign_24
set_option maxHeartbeats 4000000 in
set_option maxRecDepth 100000 in
theorem c_m_isDigitN (l : Launch) (D : va_G) (cI cJ cC cZ cS : ClassId) (o : Nat) (ho : o ≤ 255) : skM l yX12_isDigit cX12_isDigit 1 (some .boolean) 0 0 0 0 D (skT cI cJ cC cZ cS) [.int (nI o)] [] (skI D (skT cI cJ cC cZ cS) (fun (r : Int32) (u : va_W) => ∃ (b : Nat), ((b = 0 ∧ (o < 48 ∨ 57 < o)) ∨ (b = 1 ∧ 48 ≤ o ∧ o ≤ 57)) ∧ r = nI b ∧ u = [])) := by
  refine skM_of (by decide +kernel) (Nat.le_of_ble_eq_true rfl) ?_
  intro p e s m below meth c A ls E hP hD hl
  obtain ⟨hx, hb, hr, hml, hlocks, hin, hown, hts, hK, hA⟩ := E
  have hown : s.vm.findClass RX12 = some m.cls := hown
  have hS : va_S A s.heap s.heap [] := va_S.rf
  have hl : lv_has ls 1 [(0, .int (nI o))] := hl
  refine lv_iload_n hx hb dX12_isDigit_0 rfl (lv_at hl 0 rfl) ?_
  refine lv_bipush (v := 48) hx hb dX12_isDigit_1 (by decide) ?_
  refine lv_icmp_lt (tgt := 16) hx hb dX12_isDigit_3 (by decide) (fun c_1 => ?_) (fun c_1 => ?_)
  · have c_1 : o < 48 := (nlt o 48 (by omega) (by omega)).mp c_1
    refine lv_iconst (v := 0) hx hb dX12_isDigit_16 (by decide) ?_
    exact sk_iret hx hb hr rfl hlocks hK hP hD hS (⟨0, by omega, rfl, rfl⟩) (Nat.le_of_ble_eq_true rfl) (Nat.le_of_ble_eq_true rfl) dX12_isDigit_17
  · have c_1 : ¬ (o < 48) := fun h => c_1 ((nlt o 48 (by omega) (by omega)).mpr h)
    refine lv_iload_n hx hb dX12_isDigit_6 rfl (lv_at hl 0 rfl) ?_
    refine lv_bipush (v := 57) hx hb dX12_isDigit_7 (by decide) ?_
    refine lv_icmp_gt (tgt := 16) hx hb dX12_isDigit_9 (by decide) (fun c_2 => ?_) (fun c_2 => ?_)
    · have c_2 : 57 < o := (nlt 57 o (by omega) (by omega)).mp c_2
      refine lv_iconst (v := 0) hx hb dX12_isDigit_16 (by decide) ?_
      exact sk_iret hx hb hr rfl hlocks hK hP hD hS (⟨0, by omega, rfl, rfl⟩) (Nat.le_of_ble_eq_true rfl) (Nat.le_of_ble_eq_true rfl) dX12_isDigit_17
    · have c_2 : ¬ (57 < o) := fun h => c_2 ((nlt 57 o (by omega) (by omega)).mpr h)
      refine lv_iconst (v := 1) hx hb dX12_isDigit_12 (by decide) ?_
      refine lv_goto (tgt := 17) hx hb dX12_isDigit_13 (by decide) ?_
      exact sk_iret hx hb hr rfl hlocks hK hP hD hS (⟨1, by omega, rfl, rfl⟩) (Nat.le_of_ble_eq_true rfl) (Nat.le_of_ble_eq_true rfl) dX12_isDigit_17
theorem i2l_le {a b : Nat} (ha : a < 2147483648) (hb : b < 2147483648) (h : Int32.toInt64 (nI a) ≤ Int32.toInt64 (nI b)) : a ≤ b := by
  have h1 := Int64.le_iff_toInt_le.mp h
  rw [lgv a ha, lgv b hb] at h1
  omega
theorem dX12_number_0 : decode cX12_number 0 = .ok (.aload_n 0, 1) := by decide +kernel
theorem dX12_number_1 : decode cX12_number 1 = .ok (.getfield 195, 3) := by decide +kernel
theorem dX12_number_4 : decode cX12_number 4 = .ok (.ifCond .eq 5, 3) := by decide +kernel
theorem dX12_number_9 : decode cX12_number 9 = .ok (.aload_n 0, 1) := by decide +kernel
theorem dX12_number_10 : decode cX12_number 10 = .ok (.invokevirtual 207, 3) := by decide +kernel
theorem dX12_number_13 : decode cX12_number 13 = .ok (.invokestatic 232, 3) := by decide +kernel
theorem dX12_number_16 : decode cX12_number 16 = .ok (.ifCond .eq 14, 3) := by decide +kernel
theorem dX12_number_30 : decode cX12_number 30 = .ok (.aload_n 0, 1) := by decide +kernel
theorem dX12_number_31 : decode cX12_number 31 = .ok (.iconst 1, 1) := by decide +kernel
theorem dX12_number_32 : decode cX12_number 32 = .ok (.aload_n 0, 1) := by decide +kernel
theorem dX12_number_33 : decode cX12_number 33 = .ok (.getfield 201, 3) := by decide +kernel
theorem dX12_number_36 : decode cX12_number 36 = .ok (.invokevirtual 225, 3) := by decide +kernel
theorem dX12_number_39 : decode cX12_number 39 = .ok (.iconst 0, 1) := by decide +kernel
theorem dX12_number_40 : decode cX12_number 40 = .ok (.ireturn, 1) := by decide +kernel
theorem dX12_number_19 : decode cX12_number 19 = .ok (.aload_n 0, 1) := by decide +kernel
theorem dX12_number_20 : decode cX12_number 20 = .ok (.getfield 201, 3) := by decide +kernel
theorem dX12_number_23 : decode cX12_number 23 = .ok (.aload_n 0, 1) := by decide +kernel
theorem dX12_number_24 : decode cX12_number 24 = .ok (.getfield 215, 3) := by decide +kernel
theorem dX12_number_27 : decode cX12_number 27 = .ok (.if_icmp .ne 14, 3) := by decide +kernel
theorem dX12_number_41 : decode cX12_number 41 = .ok (.aload_n 0, 1) := by decide +kernel
theorem dX12_number_42 : decode cX12_number 42 = .ok (.getfield 201, 3) := by decide +kernel
theorem dX12_number_45 : decode cX12_number 45 = .ok (.istore_n 3, 1) := by decide +kernel
theorem dX12_number_46 : decode cX12_number 46 = .ok (.iconst 0, 1) := by decide +kernel
theorem dX12_number_47 : decode cX12_number 47 = .ok (.istore 4, 2) := by decide +kernel
theorem dX12_number_49 : decode cX12_number 49 = .ok (.aload_n 0, 1) := by decide +kernel
theorem dX12_number_50 : decode cX12_number 50 = .ok (.getfield 201, 3) := by decide +kernel
theorem dX12_number_53 : decode cX12_number 53 = .ok (.aload_n 0, 1) := by decide +kernel
theorem dX12_number_54 : decode cX12_number 54 = .ok (.getfield 204, 3) := by decide +kernel
theorem dX12_number_57 : decode cX12_number 57 = .ok (.if_icmp .ge 72, 3) := by decide +kernel
theorem dX12_number_129 : decode cX12_number 129 = .ok (.aload_n 0, 1) := by decide +kernel
theorem dX12_number_130 : decode cX12_number 130 = .ok (.aload_n 0, 1) := by decide +kernel
theorem dX12_number_131 : decode cX12_number 131 = .ok (.getfield 201, 3) := by decide +kernel
theorem dX12_number_134 : decode cX12_number 134 = .ok (.putfield 215, 3) := by decide +kernel
theorem dX12_number_137 : decode cX12_number 137 = .ok (.aload_n 0, 1) := by decide +kernel
theorem dX12_number_138 : decode cX12_number 138 = .ok (.iload_n 3, 1) := by decide +kernel
theorem dX12_number_139 : decode cX12_number 139 = .ok (.putfield 235, 3) := by decide +kernel
theorem dX12_number_142 : decode cX12_number 142 = .ok (.iload 4, 2) := by decide +kernel
theorem dX12_number_144 : decode cX12_number 144 = .ok (.i2l, 1) := by decide +kernel
theorem dX12_number_145 : decode cX12_number 145 = .ok (.iload_n 1, 1) := by decide +kernel
theorem dX12_number_146 : decode cX12_number 146 = .ok (.i2l, 1) := by decide +kernel
theorem dX12_number_147 : decode cX12_number 147 = .ok (.iload_n 2, 1) := by decide +kernel
theorem dX12_number_148 : decode cX12_number 148 = .ok (.i2l, 1) := by decide +kernel
theorem dX12_number_149 : decode cX12_number 149 = .ok (.invokestatic 238, 3) := by decide +kernel
theorem dX12_number_152 : decode cX12_number 152 = .ok (.ifCond .ne 9, 3) := by decide +kernel
theorem dX12_number_161 : decode cX12_number 161 = .ok (.iload 4, 2) := by decide +kernel
theorem dX12_number_163 : decode cX12_number 163 = .ok (.ireturn, 1) := by decide +kernel
theorem dX12_number_155 : decode cX12_number 155 = .ok (.aload_n 0, 1) := by decide +kernel
theorem dX12_number_156 : decode cX12_number 156 = .ok (.iconst 2, 1) := by decide +kernel
theorem dX12_number_157 : decode cX12_number 157 = .ok (.iload_n 3, 1) := by decide +kernel
theorem dX12_number_158 : decode cX12_number 158 = .ok (.invokevirtual 225, 3) := by decide +kernel
theorem dX12_number_60 : decode cX12_number 60 = .ok (.aload_n 0, 1) := by decide +kernel
theorem dX12_number_61 : decode cX12_number 61 = .ok (.getfield 7, 3) := by decide +kernel
theorem dX12_number_64 : decode cX12_number 64 = .ok (.aload_n 0, 1) := by decide +kernel
theorem dX12_number_65 : decode cX12_number 65 = .ok (.getfield 201, 3) := by decide +kernel
theorem dX12_number_68 : decode cX12_number 68 = .ok (.iaload, 1) := by decide +kernel
theorem dX12_number_69 : decode cX12_number 69 = .ok (.invokestatic 232, 3) := by decide +kernel
theorem dX12_number_72 : decode cX12_number 72 = .ok (.ifCond .eq 57, 3) := by decide +kernel
theorem dX12_number_75 : decode cX12_number 75 = .ok (.aload_n 0, 1) := by decide +kernel
theorem dX12_number_76 : decode cX12_number 76 = .ok (.getfield 201, 3) := by decide +kernel
theorem dX12_number_79 : decode cX12_number 79 = .ok (.iload_n 3, 1) := by decide +kernel
theorem dX12_number_80 : decode cX12_number 80 = .ok (.isub, 1) := by decide +kernel
theorem dX12_number_81 : decode cX12_number 81 = .ok (.iconst 4, 1) := by decide +kernel
theorem dX12_number_82 : decode cX12_number 82 = .ok (.if_icmp .ne 14, 3) := by decide +kernel
theorem dX12_number_96 : decode cX12_number 96 = .ok (.bipush 10, 2) := by decide +kernel
theorem dX12_number_98 : decode cX12_number 98 = .ok (.iload 4, 2) := by decide +kernel
theorem dX12_number_100 : decode cX12_number 100 = .ok (.imul, 1) := by decide +kernel
theorem dX12_number_101 : decode cX12_number 101 = .ok (.aload_n 0, 1) := by decide +kernel
theorem dX12_number_102 : decode cX12_number 102 = .ok (.getfield 7, 3) := by decide +kernel
theorem dX12_number_105 : decode cX12_number 105 = .ok (.aload_n 0, 1) := by decide +kernel
theorem dX12_number_106 : decode cX12_number 106 = .ok (.getfield 201, 3) := by decide +kernel
theorem dX12_number_109 : decode cX12_number 109 = .ok (.iaload, 1) := by decide +kernel
theorem dX12_number_110 : decode cX12_number 110 = .ok (.iadd, 1) := by decide +kernel
theorem dX12_number_111 : decode cX12_number 111 = .ok (.bipush 48, 2) := by decide +kernel
theorem dX12_number_113 : decode cX12_number 113 = .ok (.isub, 1) := by decide +kernel
theorem dX12_number_114 : decode cX12_number 114 = .ok (.istore 4, 2) := by decide +kernel
theorem dX12_number_116 : decode cX12_number 116 = .ok (.aload_n 0, 1) := by decide +kernel
theorem dX12_number_117 : decode cX12_number 117 = .ok (.dup, 1) := by decide +kernel
theorem dX12_number_118 : decode cX12_number 118 = .ok (.getfield 201, 3) := by decide +kernel
theorem dX12_number_121 : decode cX12_number 121 = .ok (.iconst 1, 1) := by decide +kernel
theorem dX12_number_122 : decode cX12_number 122 = .ok (.iadd, 1) := by decide +kernel
theorem dX12_number_123 : decode cX12_number 123 = .ok (.putfield 201, 3) := by decide +kernel
theorem dX12_number_126 : decode cX12_number 126 = .ok (.goto (-77), 3) := by decide +kernel
theorem dX12_number_85 : decode cX12_number 85 = .ok (.aload_n 0, 1) := by decide +kernel
theorem dX12_number_86 : decode cX12_number 86 = .ok (.iconst 1, 1) := by decide +kernel
theorem dX12_number_87 : decode cX12_number 87 = .ok (.aload_n 0, 1) := by decide +kernel
theorem dX12_number_88 : decode cX12_number 88 = .ok (.getfield 201, 3) := by decide +kernel
theorem dX12_number_91 : decode cX12_number 91 = .ok (.invokevirtual 225, 3) := by decide +kernel
theorem dX12_number_94 : decode cX12_number 94 = .ok (.iconst 0, 1) := by decide +kernel
theorem dX12_number_95 : decode cX12_number 95 = .ok (.ireturn, 1) := by decide +kernel
theorem dX12_number_7 : decode cX12_number 7 = .ok (.iconst 0, 1) := by decide +kernel
theorem dX12_number_8 : decode cX12_number 8 = .ok (.ireturn, 1) := by decide +kernel
theorem w_6_237 : (Cond.methodLink RX12 232 yX12_isDigit) ∈ wsL_law := sk_mem (ck_6 _ (List.mem_of_getElem? (i := 237) rfl)) rfl
theorem w_6_238 : (Cond.static yX12_isDigit) ∈ wsL_law := sk_mem (ck_6 _ (List.mem_of_getElem? (i := 238) rfl)) rfl
theorem w_5_165 : (Cond.fieldLink RX12 235 "SameKeeperModel" "numberPlace" "I") ∈ wsL_law := sk_mem (ck_5 _ (List.mem_of_getElem? (i := 165) rfl)) rfl
theorem w_6_236 : (Cond.code yX12_number cX12_number 5 (some .int)) ∈ wsL_law := sk_mem (ck_6 _ (List.mem_of_getElem? (i := 236) rfl)) rfl
set_option maxHeartbeats 4000000 in
set_option maxRecDepth 100000 in
theorem c_m_number (l : Launch) (D : va_G) (cI cJ cC cZ cS : ClassId) (mm : Nat) (g : Nat → Nat) (ta : Nat) (pa : Nat) (pe : Nat) (pd : Int32) (pb : Nat) (pp : Int32) (pf : Int32) (pg : Int32) (pn : Int32) (rt : Int32) (rn : Int32) (cd : Nat) (sn : Int32) (il : Nat) (tk : Int32) (am : Int32) (at_ : Int32) (aa : Int32) (wt : Int32) (wy : Int64) (rm : Nat) (ud : Nat) (nu : Nat) (sd : Int64) (qn : Nat) (qw : Nat) (qo : Int32) (qb : Nat) (qp : Nat) (qa : Int64) (qi : Nat) (oc : Nat) (lo : Nat) (hi : Nat) (tb : Nat → Nat) (hpa : pa ≤ pe) (hpe : pe ≤ 1600) (hpb : pb ≤ 5) (hlo : lo ≤ 9999) (hhi : hi ≤ 9999) (htb : ∀ j, tb j ≤ 255) : skM l yX12_number cX12_number 5 (some .int) 1 25 0 0 D (skT cI cJ cC cZ cS) [.ref mm, .int (nI lo), .int (nI hi)] [(mm, .inr (12, mo g (nI ta) (nI pa) (nI pe) pd (nI pb) pp pf pg pn rt rn (nI cd) sn (nI il) tk am at_ aa 0 0 (-1) wt wy 0 (nI rm) (nI ud) (nI nu) sd (nI qn) (nI qw) qo (nI qb) (nI qp) qa (nI qi) (nI oc))), (g 0, .inl (cI, 1600, .inl (fun j => nI (tb j))))] (skI D (skT cI cJ cC cZ cS) (fun (r : Int32) (u : va_W) => ∃ (nv : Nat), ∃ (pa2 : Nat), ∃ (pd2 : Int32), ∃ (pb2 : Nat), ∃ (pp2 : Int32), ∃ (pn2 : Int32), pa ≤ pa2 ∧ pa2 ≤ pe ∧ pb2 ≤ 5 ∧ (¬ pb2 = 0 ∨ (pb = 0 ∧ pa + 1 ≤ pa2 ∧ lo ≤ nv ∧ nv ≤ hi)) ∧ nv ≤ 9999 ∧ r = nI nv ∧ u = [(mm, .inr (12, mo g (nI ta) (nI pa2) (nI pe) pd2 (nI pb2) pp2 pf pg pn2 rt rn (nI cd) sn (nI il) tk am at_ aa 0 0 (-1) wt wy 0 (nI rm) (nI ud) (nI nu) sd (nI qn) (nI qw) qo (nI qb) (nI qp) qa (nI qi) (nI oc))), (g 0, .inl (cI, 1600, .inl (fun j => nI (tb j))))])) := by
  refine skM_of (by decide +kernel) (Nat.le_of_ble_eq_true rfl) ?_
  intro p e s m below meth c A ls E hP hD hl
  obtain ⟨hx, hb, hr, hml, hlocks, hin, hown, hts, hK, hA⟩ := E
  have hown : s.vm.findClass RX12 = some m.cls := hown
  have hS : va_S A s.heap s.heap [] := va_S.rf
  have hl : lv_has ls 5 [(0, .ref mm), (1, .int (nI lo)), (2, .int (nI hi))] := hl
  refine lv_aload_n hx hb dX12_number_0 rfl (lv_at hl 0 rfl) ?_
  refine sk_get (v := .int (nI pb)) (C := RX12) (T := TX12) (N := 92) hx hb hts inlX12 hown hK hP 0 rfl rfl 5 (by decide) w_5_160 rfl dX12_number_1 ?_
  refine lv_if_eq (tgt := 9) hx hb dX12_number_4 (by decide) (fun c_1 => ?_) (fun c_1 => ?_)
  · have c_1 : pb = 0 := (neq pb 0 (by omega) (by omega)).mp c_1
    refine lv_aload_n hx hb dX12_number_9 rfl (lv_at hl 0 rfl) ?_
    refine sk_Vi (q0 := 0) (n := 0) (rest := []) (wr := []) ⟨hx, hb, hml, hown, hts⟩ hl.1 (c_m_look l D cI cJ cC cZ cS mm g ta pa pe pd pb pp pf pg pn rt rn cd sn il tk am at_ aa wt wy rm ud nu sd qn qw qo qb qp qa qi oc tb (by omega) (by omega) htb) w_6_222 w_6_224 w_0_45 w_1_14 w_6_225 (by decide +kernel) ⟨⟨(Nat.le_of_ble_eq_true rfl), (Nat.le_of_ble_eq_true rfl)⟩, (Nat.le_of_ble_eq_true rfl), (Nat.le_of_ble_eq_true rfl)⟩ hK hP hD hS hA [0, 1] [] rfl rfl (by decide +kernel) (by decide +kernel) (by decide +kernel) rfl rfl rfl rfl (Nat.le_of_ble_eq_true rfl) dX12_number_10 (fun r_3 u H locs hw hP hD hS => ?_)
    obtain ⟨pa2_2, hpa2_4, hpa3_5, hlk_6, hst_7, rfl⟩ := hw
    have hP : va_P D vwCl [(mm, .inr (12, mo g (nI ta) (nI pa2_2) (nI pe) pd (nI pb) pp pf pg pn rt rn (nI cd) sn (nI il) tk am at_ aa 0 0 (-1) wt wy 0 (nI rm) (nI ud) (nI nu) sd (nI qn) (nI qw) qo (nI qb) (nI qp) qa (nI qi) (nI oc))), (g 0, .inl (cI, 1600, .inl (fun j => nI (tb j))))] H := hP
    have hD : va_D A [(mm, .inr (12, mo g (nI ta) (nI pa2_2) (nI pe) pd (nI pb) pp pf pg pn rt rn (nI cd) sn (nI il) tk am at_ aa 0 0 (-1) wt wy 0 (nI rm) (nI ud) (nI nu) sd (nI qn) (nI qw) qo (nI qb) (nI qp) qa (nI qi) (nI oc))), (g 0, .inl (cI, 1600, .inl (fun j => nI (tb j))))] := hD
    refine sk_Si (n := 1) (rest := []) (wr := [(mm, .inr (12, mo g (nI ta) (nI pa2_2) (nI pe) pd (nI pb) pp pf pg pn rt rn (nI cd) sn (nI il) tk am at_ aa 0 0 (-1) wt wy 0 (nI rm) (nI ud) (nI nu) sd (nI qn) (nI qw) qo (nI qb) (nI qp) qa (nI qi) (nI oc))), (g 0, .inl (cI, 1600, .inl (fun j => nI (tb j))))]) ⟨hx, hb, hml, hown, hts⟩ hl.1 (c_m_isDigit l D cI cJ cC cZ cS r_3) w_6_237 w_6_238 w_1_14 w_6_239 (by decide +kernel) ⟨⟨(Nat.le_of_ble_eq_true rfl), (Nat.le_of_ble_eq_true rfl)⟩, (Nat.le_of_ble_eq_true rfl), (Nat.le_of_ble_eq_true rfl)⟩ hK hP hD hS hA [] [0, 1] rfl rfl (by decide +kernel) (by decide +kernel) (by decide +kernel) rfl rfl (Nat.le_of_ble_eq_true rfl) dX12_number_13 (fun r_9 u H locs hw hP hD hS => ?_)
    obtain ⟨b_8, hb1_10, rfl, rfl⟩ := hw
    have hP : va_P D vwCl [(mm, .inr (12, mo g (nI ta) (nI pa2_2) (nI pe) pd (nI pb) pp pf pg pn rt rn (nI cd) sn (nI il) tk am at_ aa 0 0 (-1) wt wy 0 (nI rm) (nI ud) (nI nu) sd (nI qn) (nI qw) qo (nI qb) (nI qp) qa (nI qi) (nI oc))), (g 0, .inl (cI, 1600, .inl (fun j => nI (tb j))))] H := hP
    have hD : va_D A [(mm, .inr (12, mo g (nI ta) (nI pa2_2) (nI pe) pd (nI pb) pp pf pg pn rt rn (nI cd) sn (nI il) tk am at_ aa 0 0 (-1) wt wy 0 (nI rm) (nI ud) (nI nu) sd (nI qn) (nI qw) qo (nI qb) (nI qp) qa (nI qi) (nI oc))), (g 0, .inl (cI, 1600, .inl (fun j => nI (tb j))))] := hD
    refine lv_if_eq (tgt := 30) hx hb dX12_number_16 (by decide) (fun c_11 => ?_) (fun c_11 => ?_)
    · have c_11 : b_8 = 0 := (neq b_8 0 (by omega) (by omega)).mp c_11
      refine lv_aload_n hx hb dX12_number_30 rfl (lv_at hl 0 rfl) ?_
      refine lv_iconst (v := 1) hx hb dX12_number_31 (by decide) ?_
      refine lv_aload_n hx hb dX12_number_32 rfl (lv_at hl 0 rfl) ?_
      refine sk_get (v := .int (nI pa2_2)) (C := RX12) (T := TX12) (N := 92) hx hb hts inlX12 hown hK hP 0 rfl rfl 2 (by decide) w_5_157 rfl dX12_number_33 ?_
      refine sk_Vv (q0 := 0) (n := 2) (rest := []) (wr := [(g 0, .inl (cI, 1600, .inl (fun j => nI (tb j))))]) ⟨hx, hb, hml, hown, hts⟩ hl.1 (c_m_fail l D cI cJ cC cZ cS mm g ta pa2_2 pe pd pb pp pf pg pn rt rn cd sn il tk am at_ aa wt wy rm ud nu sd qn qw qo qb qp qa qi oc 1 (nI pa2_2) (by omega) (by omega) (by omega)) w_6_229 w_6_231 w_0_46 w_1_14 w_6_232 (by decide +kernel) ⟨⟨(Nat.le_of_ble_eq_true rfl), (Nat.le_of_ble_eq_true rfl)⟩, (Nat.le_of_ble_eq_true rfl), (Nat.le_of_ble_eq_true rfl)⟩ hK hP hD hS hA [0] [1] rfl rfl (by decide +kernel) (by decide +kernel) (by decide +kernel) rfl rfl rfl rfl (Nat.le_of_ble_eq_true rfl) dX12_number_36 (fun u H locs hw hP hD hS => ?_)
      obtain ⟨pb2_12, pp2_13, hpb2_14, hpb3_15, rfl⟩ := hw
      have hP : va_P D vwCl [(g 0, .inl (cI, 1600, .inl (fun j => nI (tb j)))), (mm, .inr (12, mo g (nI ta) (nI pa2_2) (nI pe) pd (nI pb2_12) pp2_13 pf pg pn rt rn (nI cd) sn (nI il) tk am at_ aa 0 0 (-1) wt wy 0 (nI rm) (nI ud) (nI nu) sd (nI qn) (nI qw) qo (nI qb) (nI qp) qa (nI qi) (nI oc)))] H := hP
      have hD : va_D A [(g 0, .inl (cI, 1600, .inl (fun j => nI (tb j)))), (mm, .inr (12, mo g (nI ta) (nI pa2_2) (nI pe) pd (nI pb2_12) pp2_13 pf pg pn rt rn (nI cd) sn (nI il) tk am at_ aa 0 0 (-1) wt wy 0 (nI rm) (nI ud) (nI nu) sd (nI qn) (nI qw) qo (nI qb) (nI qp) qa (nI qi) (nI oc)))] := hD
      refine lv_iconst (v := 0) hx hb dX12_number_39 (by decide) ?_
      have hP := hP.sub (ws' := [(mm, .inr (12, mo g (nI ta) (nI pa2_2) (nI pe) pd (nI pb2_12) pp2_13 pf pg pn rt rn (nI cd) sn (nI il) tk am at_ aa 0 0 (-1) wt wy 0 (nI rm) (nI ud) (nI nu) sd (nI qn) (nI qw) qo (nI qb) (nI qp) qa (nI qi) (nI oc))), (g 0, .inl (cI, 1600, .inl (fun j => nI (tb j))))]) [1, 0] rfl
      have hD := hD.sub (ws' := [(mm, .inr (12, mo g (nI ta) (nI pa2_2) (nI pe) pd (nI pb2_12) pp2_13 pf pg pn rt rn (nI cd) sn (nI il) tk am at_ aa 0 0 (-1) wt wy 0 (nI rm) (nI ud) (nI nu) sd (nI qn) (nI qw) qo (nI qb) (nI qp) qa (nI qi) (nI oc))), (g 0, .inl (cI, 1600, .inl (fun j => nI (tb j))))]) [1, 0] (by decide +kernel) rfl
      exact sk_iret hx hb hr rfl hlocks hK hP hD hS (⟨0, pa2_2, pd, pb2_12, pp2_13, pn, by omega, by omega, by omega, by omega, by omega, rfl, rfl⟩) (Nat.le_of_ble_eq_true rfl) (Nat.le_of_ble_eq_true rfl) dX12_number_40
    · have c_11 : ¬ (b_8 = 0) := fun h => c_11 ((neq b_8 0 (by omega) (by omega)).mpr h)
      have hdg := lk_dg hlk_6 htb (hb1_10.resolve_left (by omega)).2
      refine lv_aload_n hx hb dX12_number_19 rfl (lv_at hl 0 rfl) ?_
      refine sk_get (v := .int (nI pa2_2)) (C := RX12) (T := TX12) (N := 92) hx hb hts inlX12 hown hK hP 0 rfl rfl 2 (by decide) w_5_157 rfl dX12_number_20 ?_
      refine lv_aload_n hx hb dX12_number_23 rfl (lv_at hl 0 rfl) ?_
      refine sk_get (v := .int pd) (C := RX12) (T := TX12) (N := 92) hx hb hts inlX12 hown hK hP 0 rfl rfl 4 (by decide) w_5_159 rfl dX12_number_24 ?_
      refine lv_icmp_ne (tgt := 41) hx hb dX12_number_27 (by decide) (fun c_16 => ?_) (fun c_16 => ?_)
      · skip
        refine lv_aload_n hx hb dX12_number_41 rfl (lv_at hl 0 rfl) ?_
        refine sk_get (v := .int (nI pa2_2)) (C := RX12) (T := TX12) (N := 92) hx hb hts inlX12 hown hK hP 0 rfl rfl 2 (by decide) w_5_157 rfl dX12_number_42 ?_
        refine lv_istore_n (lv' := [(3, .int (nI pa2_2)), (0, .ref mm), (1, .int (nI lo)), (2, .int (nI hi))]) hx hb dX12_number_45 rfl hl (by decide) rfl (fun ls hl => ?_)
        refine lv_iconst (v := 0) hx hb dX12_number_46 (by decide) ?_
        refine lv_istore (lv' := [(4, .int 0), (3, .int (nI pa2_2)), (0, .ref mm), (1, .int (nI lo)), (2, .int (nI hi))]) hx hb dX12_number_47 hl (by decide) rfl (fun ls hl => ?_)
        have lp_17 : ∀ (n_18 : Nat) (v : Nat) (za : Nat) (H : Heap) (locs : List Loc) (ls : Array Slot), pe - za < n_18 → (pa2_2 ≤ za) → (za ≤ pe) → ((za = pa2_2 + 0 ∧ v ≤ 0) ∨ (za = pa2_2 + 1 ∧ v ≤ 9) ∨ (za = pa2_2 + 2 ∧ v ≤ 99) ∨ (za = pa2_2 + 3 ∧ v ≤ 999) ∨ (za = pa2_2 + 4 ∧ v ≤ 9999)) → va_P D vwCl [(mm, .inr (12, mo g (nI ta) (nI za) (nI pe) pd (nI pb) pp pf pg pn rt rn (nI cd) sn (nI il) tk am at_ aa 0 0 (-1) wt wy 0 (nI rm) (nI ud) (nI nu) sd (nI qn) (nI qw) qo (nI qb) (nI qp) qa (nI qi) (nI oc))), (g 0, .inl (cI, 1600, .inl (fun j => nI (tb j))))] H → va_D A [(mm, .inr (12, mo g (nI ta) (nI za) (nI pe) pd (nI pb) pp pf pg pn rt rn (nI cd) sn (nI il) tk am at_ aa 0 0 (-1) wt wy 0 (nI rm) (nI ud) (nI nu) sd (nI qn) (nI qw) qo (nI qb) (nI qp) qa (nI qi) (nI oc))), (g 0, .inl (cI, 1600, .inl (fun j => nI (tb j))))] → va_S A s.heap H locs → lv_has ls 5 [(4, .int (nI v)), (3, .int (nI pa2_2)), (0, .ref mm), (1, .int (nI lo)), (2, .int (nI hi))] → W p l e { frames := 1, cells := 0, slots := 0, locals := 25 } s m ([.ref mm, .int (nI lo), .int (nI hi)] : List Value).toArray below meth c H locs 0 0 (MQ below (skI D (skT cI cJ cC cZ cS) (fun (r : Int32) (u : va_W) => ∃ (nv : Nat), ∃ (pa2 : Nat), ∃ (pd2 : Int32), ∃ (pb2 : Nat), ∃ (pp2 : Int32), ∃ (pn2 : Int32), pa ≤ pa2 ∧ pa2 ≤ pe ∧ pb2 ≤ 5 ∧ (¬ pb2 = 0 ∨ (pb = 0 ∧ pa + 1 ≤ pa2 ∧ lo ≤ nv ∧ nv ≤ hi)) ∧ nv ≤ 9999 ∧ r = nI nv ∧ u = [(mm, .inr (12, mo g (nI ta) (nI pa2) (nI pe) pd2 (nI pb2) pp2 pf pg pn2 rt rn (nI cd) sn (nI il) tk am at_ aa 0 0 (-1) wt wy 0 (nI rm) (nI ud) (nI nu) sd (nI qn) (nI qw) qo (nI qb) (nI qp) qa (nI qi) (nI oc))), (g 0, .inl (cI, 1600, .inl (fun j => nI (tb j))))]) A) ([.ref mm, .int (nI lo), .int (nI hi)] : List Value).toArray s 0 0 A) (F0 m 49 ls []) := by
          intro n_18
          induction n_18 with
          | zero => intro v za H locs ls hm; exact absurd hm (Nat.not_lt_zero _)
          | succ n_18 ih_lp_17 =>
            intro v za H locs ls hm hza1 hza2 hv hP hD hS hl
            refine lv_aload_n hx hb dX12_number_49 rfl (lv_at hl 2 rfl) ?_
            refine sk_get (v := .int (nI za)) (C := RX12) (T := TX12) (N := 92) hx hb hts inlX12 hown hK hP 0 rfl rfl 2 (by decide) w_5_157 rfl dX12_number_50 ?_
            refine lv_aload_n hx hb dX12_number_53 rfl (lv_at hl 2 rfl) ?_
            refine sk_get (v := .int (nI pe)) (C := RX12) (T := TX12) (N := 92) hx hb hts inlX12 hown hK hP 0 rfl rfl 3 (by decide) w_5_158 rfl dX12_number_54 ?_
            refine lv_icmp_ge (tgt := 129) hx hb dX12_number_57 (by decide) (fun c_19 => ?_) (fun c_19 => ?_)
            · have c_19 : pe ≤ za := (nle pe za (by omega) (by omega)).mp c_19
              refine lv_aload_n hx hb dX12_number_129 rfl (lv_at hl 2 rfl) ?_
              refine lv_aload_n hx hb dX12_number_130 rfl (lv_at hl 2 rfl) ?_
              refine sk_get (v := .int (nI za)) (C := RX12) (T := TX12) (N := 92) hx hb hts inlX12 hown hK hP 0 rfl rfl 2 (by decide) w_5_157 rfl dX12_number_131 ?_
              refine sk_put (ws' := [(mm, .inr (12, mo g (nI ta) (nI za) (nI pe) (nI za) (nI pb) pp pf pg pn rt rn (nI cd) sn (nI il) tk am at_ aa 0 0 (-1) wt wy 0 (nI rm) (nI ud) (nI nu) sd (nI qn) (nI qw) qo (nI qb) (nI qp) qa (nI qi) (nI oc))), (g 0, .inl (cI, 1600, .inl (fun j => nI (tb j))))]) (C := RX12) (T := TX12) (N := 92) (v := .int (nI za)) hx hb hts inlX12 tyX12 tyX12_ok nmX12 hown hK hP hD hS 0 rfl rfl 4 (by decide) w_5_159 rfl rfl rfl (Nat.le_of_ble_eq_true rfl) rfl dX12_number_134 (fun H locs hP hD hS => ?_)
              refine lv_aload_n hx hb dX12_number_137 rfl (lv_at hl 2 rfl) ?_
              refine lv_iload_n hx hb dX12_number_138 rfl (lv_at hl 1 rfl) ?_
              refine sk_put (ws' := [(mm, .inr (12, mo g (nI ta) (nI za) (nI pe) (nI za) (nI pb) pp pf pg (nI pa2_2) rt rn (nI cd) sn (nI il) tk am at_ aa 0 0 (-1) wt wy 0 (nI rm) (nI ud) (nI nu) sd (nI qn) (nI qw) qo (nI qb) (nI qp) qa (nI qi) (nI oc))), (g 0, .inl (cI, 1600, .inl (fun j => nI (tb j))))]) (C := RX12) (T := TX12) (N := 92) (v := .int (nI pa2_2)) hx hb hts inlX12 tyX12 tyX12_ok nmX12 hown hK hP hD hS 0 rfl rfl 10 (by decide) w_5_165 rfl rfl rfl (Nat.le_of_ble_eq_true rfl) rfl dX12_number_139 (fun H locs hP hD hS => ?_)
              refine lv_iload hx hb dX12_number_142 (lv_at hl 0 rfl) ?_
              refine lv_i2l hx hb dX12_number_144 rfl ?_
              refine lv_iload_n hx hb dX12_number_145 rfl (lv_at hl 3 rfl) ?_
              refine lv_i2l hx hb dX12_number_146 rfl ?_
              refine lv_iload_n hx hb dX12_number_147 rfl (lv_at hl 4 rfl) ?_
              refine lv_i2l hx hb dX12_number_148 rfl ?_
              refine sk_Si (n := 3) (rest := []) (wr := [(mm, .inr (12, mo g (nI ta) (nI za) (nI pe) (nI za) (nI pb) pp pf pg (nI pa2_2) rt rn (nI cd) sn (nI il) tk am at_ aa 0 0 (-1) wt wy 0 (nI rm) (nI ud) (nI nu) sd (nI qn) (nI qw) qo (nI qb) (nI qp) qa (nI qi) (nI oc))), (g 0, .inl (cI, 1600, .inl (fun j => nI (tb j))))]) ⟨hx, hb, hml, hown, hts⟩ hl.1 (c_m_isIn l D cI cJ cC cZ cS (Int32.toInt64 (nI v)) (Int32.toInt64 (nI lo)) (Int32.toInt64 (nI hi))) w_7_0 w_7_1 w_1_14 w_7_2 (by decide +kernel) ⟨⟨(Nat.le_of_ble_eq_true rfl), (Nat.le_of_ble_eq_true rfl)⟩, (Nat.le_of_ble_eq_true rfl), (Nat.le_of_ble_eq_true rfl)⟩ hK hP hD hS hA [] [0, 1] rfl rfl (by decide +kernel) (by decide +kernel) (by decide +kernel) rfl rfl (Nat.le_of_ble_eq_true rfl) dX12_number_149 (fun r_21 u H locs hw hP hD hS => ?_)
              obtain ⟨b_20, hb1_22, rfl, rfl⟩ := hw
              have hP : va_P D vwCl [(mm, .inr (12, mo g (nI ta) (nI za) (nI pe) (nI za) (nI pb) pp pf pg (nI pa2_2) rt rn (nI cd) sn (nI il) tk am at_ aa 0 0 (-1) wt wy 0 (nI rm) (nI ud) (nI nu) sd (nI qn) (nI qw) qo (nI qb) (nI qp) qa (nI qi) (nI oc))), (g 0, .inl (cI, 1600, .inl (fun j => nI (tb j))))] H := hP
              have hD : va_D A [(mm, .inr (12, mo g (nI ta) (nI za) (nI pe) (nI za) (nI pb) pp pf pg (nI pa2_2) rt rn (nI cd) sn (nI il) tk am at_ aa 0 0 (-1) wt wy 0 (nI rm) (nI ud) (nI nu) sd (nI qn) (nI qw) qo (nI qb) (nI qp) qa (nI qi) (nI oc))), (g 0, .inl (cI, 1600, .inl (fun j => nI (tb j))))] := hD
              refine lv_if_ne (tgt := 161) hx hb dX12_number_152 (by decide) (fun c_23 => ?_) (fun c_23 => ?_)
              · have c_23 : ¬ (b_20 = 0) := fun h => c_23 ((neq b_20 0 (by omega) (by omega)).mpr h)
                have hr_ := (hb1_22.resolve_left (by omega)).2
                have hlo := i2l_le (by omega) (by omega) hr_.1
                have hhi := i2l_le (by omega) (by omega) hr_.2
                refine lv_iload hx hb dX12_number_161 (lv_at hl 0 rfl) ?_
                exact sk_iret hx hb hr rfl hlocks hK hP hD hS (⟨v, za, nI za, pb, pp, nI pa2_2, by omega, by omega, by omega, by omega, by omega, rfl, rfl⟩) (Nat.le_of_ble_eq_true rfl) (Nat.le_of_ble_eq_true rfl) dX12_number_163
              · have c_23 : b_20 = 0 := (neq b_20 0 (by omega) (by omega)).mp c_23
                refine lv_aload_n hx hb dX12_number_155 rfl (lv_at hl 2 rfl) ?_
                refine lv_iconst (v := 2) hx hb dX12_number_156 (by decide) ?_
                refine lv_iload_n hx hb dX12_number_157 rfl (lv_at hl 1 rfl) ?_
                refine sk_Vv (q0 := 0) (n := 2) (rest := []) (wr := [(g 0, .inl (cI, 1600, .inl (fun j => nI (tb j))))]) ⟨hx, hb, hml, hown, hts⟩ hl.1 (c_m_fail l D cI cJ cC cZ cS mm g ta za pe (nI za) pb pp pf pg (nI pa2_2) rt rn cd sn il tk am at_ aa wt wy rm ud nu sd qn qw qo qb qp qa qi oc 2 (nI pa2_2) (by omega) (by omega) (by omega)) w_6_229 w_6_231 w_0_46 w_1_14 w_6_232 (by decide +kernel) ⟨⟨(Nat.le_of_ble_eq_true rfl), (Nat.le_of_ble_eq_true rfl)⟩, (Nat.le_of_ble_eq_true rfl), (Nat.le_of_ble_eq_true rfl)⟩ hK hP hD hS hA [0] [1] rfl rfl (by decide +kernel) (by decide +kernel) (by decide +kernel) rfl rfl rfl rfl (Nat.le_of_ble_eq_true rfl) dX12_number_158 (fun u H locs hw hP hD hS => ?_)
                obtain ⟨pb2_24, pp2_25, hpb2_26, hpb3_27, rfl⟩ := hw
                have hP : va_P D vwCl [(g 0, .inl (cI, 1600, .inl (fun j => nI (tb j)))), (mm, .inr (12, mo g (nI ta) (nI za) (nI pe) (nI za) (nI pb2_24) pp2_25 pf pg (nI pa2_2) rt rn (nI cd) sn (nI il) tk am at_ aa 0 0 (-1) wt wy 0 (nI rm) (nI ud) (nI nu) sd (nI qn) (nI qw) qo (nI qb) (nI qp) qa (nI qi) (nI oc)))] H := hP
                have hD : va_D A [(g 0, .inl (cI, 1600, .inl (fun j => nI (tb j)))), (mm, .inr (12, mo g (nI ta) (nI za) (nI pe) (nI za) (nI pb2_24) pp2_25 pf pg (nI pa2_2) rt rn (nI cd) sn (nI il) tk am at_ aa 0 0 (-1) wt wy 0 (nI rm) (nI ud) (nI nu) sd (nI qn) (nI qw) qo (nI qb) (nI qp) qa (nI qi) (nI oc)))] := hD
                refine lv_iload hx hb dX12_number_161 (lv_at hl 0 rfl) ?_
                have hP := hP.sub (ws' := [(mm, .inr (12, mo g (nI ta) (nI za) (nI pe) (nI za) (nI pb2_24) pp2_25 pf pg (nI pa2_2) rt rn (nI cd) sn (nI il) tk am at_ aa 0 0 (-1) wt wy 0 (nI rm) (nI ud) (nI nu) sd (nI qn) (nI qw) qo (nI qb) (nI qp) qa (nI qi) (nI oc))), (g 0, .inl (cI, 1600, .inl (fun j => nI (tb j))))]) [1, 0] rfl
                have hD := hD.sub (ws' := [(mm, .inr (12, mo g (nI ta) (nI za) (nI pe) (nI za) (nI pb2_24) pp2_25 pf pg (nI pa2_2) rt rn (nI cd) sn (nI il) tk am at_ aa 0 0 (-1) wt wy 0 (nI rm) (nI ud) (nI nu) sd (nI qn) (nI qw) qo (nI qb) (nI qp) qa (nI qi) (nI oc))), (g 0, .inl (cI, 1600, .inl (fun j => nI (tb j))))]) [1, 0] (by decide +kernel) rfl
                exact sk_iret hx hb hr rfl hlocks hK hP hD hS (⟨v, za, nI za, pb2_24, pp2_25, nI pa2_2, by omega, by omega, by omega, by omega, by omega, rfl, rfl⟩) (Nat.le_of_ble_eq_true rfl) (Nat.le_of_ble_eq_true rfl) dX12_number_163
            · have c_19 : ¬ (pe ≤ za) := fun h => c_19 ((nle pe za (by omega) (by omega)).mpr h)
              refine lv_aload_n hx hb dX12_number_60 rfl (lv_at hl 2 rfl) ?_
              refine sk_get (v := .ref (g 0)) (C := RX12) (T := TX12) (N := 92) hx hb hts inlX12 hown hK hP 0 rfl rfl 0 (by decide) w_5_155 rfl dX12_number_61 ?_
              refine lv_aload_n hx hb dX12_number_64 rfl (lv_at hl 2 rfl) ?_
              refine sk_get (v := .int (nI za)) (C := RX12) (T := TX12) (N := 92) hx hb hts inlX12 hown hK hP 0 rfl rfl 2 (by decide) w_5_157 rfl dX12_number_65 ?_
              refine va_iald hx hb hK.1 hP 1 0 rfl rfl (vin za 1600 (by omega) (by omega)) dX12_number_68 ?_
              refine sk_top (nI (tb za)) (nrd tb za (by omega)) ?_
              have hb_28 := htb za
              refine sk_Si (n := 1) (rest := []) (wr := [(mm, .inr (12, mo g (nI ta) (nI za) (nI pe) pd (nI pb) pp pf pg pn rt rn (nI cd) sn (nI il) tk am at_ aa 0 0 (-1) wt wy 0 (nI rm) (nI ud) (nI nu) sd (nI qn) (nI qw) qo (nI qb) (nI qp) qa (nI qi) (nI oc))), (g 0, .inl (cI, 1600, .inl (fun j => nI (tb j))))]) ⟨hx, hb, hml, hown, hts⟩ hl.1 (c_m_isDigitN l D cI cJ cC cZ cS (tb za) (by omega)) w_6_237 w_6_238 w_1_14 w_6_239 (by decide +kernel) ⟨⟨(Nat.le_of_ble_eq_true rfl), (Nat.le_of_ble_eq_true rfl)⟩, (Nat.le_of_ble_eq_true rfl), (Nat.le_of_ble_eq_true rfl)⟩ hK hP hD hS hA [] [0, 1] rfl rfl (by decide +kernel) (by decide +kernel) (by decide +kernel) rfl rfl (Nat.le_of_ble_eq_true rfl) dX12_number_69 (fun r_30 u H locs hw hP hD hS => ?_)
              obtain ⟨b_29, hb1_31, rfl, rfl⟩ := hw
              have hP : va_P D vwCl [(mm, .inr (12, mo g (nI ta) (nI za) (nI pe) pd (nI pb) pp pf pg pn rt rn (nI cd) sn (nI il) tk am at_ aa 0 0 (-1) wt wy 0 (nI rm) (nI ud) (nI nu) sd (nI qn) (nI qw) qo (nI qb) (nI qp) qa (nI qi) (nI oc))), (g 0, .inl (cI, 1600, .inl (fun j => nI (tb j))))] H := hP
              have hD : va_D A [(mm, .inr (12, mo g (nI ta) (nI za) (nI pe) pd (nI pb) pp pf pg pn rt rn (nI cd) sn (nI il) tk am at_ aa 0 0 (-1) wt wy 0 (nI rm) (nI ud) (nI nu) sd (nI qn) (nI qw) qo (nI qb) (nI qp) qa (nI qi) (nI oc))), (g 0, .inl (cI, 1600, .inl (fun j => nI (tb j))))] := hD
              refine lv_if_eq (tgt := 129) hx hb dX12_number_72 (by decide) (fun c_32 => ?_) (fun c_32 => ?_)
              · have c_32 : b_29 = 0 := (neq b_29 0 (by omega) (by omega)).mp c_32
                have hne : ¬ za = pa2_2 := fun q => absurd hdg (by rw [← q]; omega)
                refine lv_aload_n hx hb dX12_number_129 rfl (lv_at hl 2 rfl) ?_
                refine lv_aload_n hx hb dX12_number_130 rfl (lv_at hl 2 rfl) ?_
                refine sk_get (v := .int (nI za)) (C := RX12) (T := TX12) (N := 92) hx hb hts inlX12 hown hK hP 0 rfl rfl 2 (by decide) w_5_157 rfl dX12_number_131 ?_
                refine sk_put (ws' := [(mm, .inr (12, mo g (nI ta) (nI za) (nI pe) (nI za) (nI pb) pp pf pg pn rt rn (nI cd) sn (nI il) tk am at_ aa 0 0 (-1) wt wy 0 (nI rm) (nI ud) (nI nu) sd (nI qn) (nI qw) qo (nI qb) (nI qp) qa (nI qi) (nI oc))), (g 0, .inl (cI, 1600, .inl (fun j => nI (tb j))))]) (C := RX12) (T := TX12) (N := 92) (v := .int (nI za)) hx hb hts inlX12 tyX12 tyX12_ok nmX12 hown hK hP hD hS 0 rfl rfl 4 (by decide) w_5_159 rfl rfl rfl (Nat.le_of_ble_eq_true rfl) rfl dX12_number_134 (fun H locs hP hD hS => ?_)
                refine lv_aload_n hx hb dX12_number_137 rfl (lv_at hl 2 rfl) ?_
                refine lv_iload_n hx hb dX12_number_138 rfl (lv_at hl 1 rfl) ?_
                refine sk_put (ws' := [(mm, .inr (12, mo g (nI ta) (nI za) (nI pe) (nI za) (nI pb) pp pf pg (nI pa2_2) rt rn (nI cd) sn (nI il) tk am at_ aa 0 0 (-1) wt wy 0 (nI rm) (nI ud) (nI nu) sd (nI qn) (nI qw) qo (nI qb) (nI qp) qa (nI qi) (nI oc))), (g 0, .inl (cI, 1600, .inl (fun j => nI (tb j))))]) (C := RX12) (T := TX12) (N := 92) (v := .int (nI pa2_2)) hx hb hts inlX12 tyX12 tyX12_ok nmX12 hown hK hP hD hS 0 rfl rfl 10 (by decide) w_5_165 rfl rfl rfl (Nat.le_of_ble_eq_true rfl) rfl dX12_number_139 (fun H locs hP hD hS => ?_)
                refine lv_iload hx hb dX12_number_142 (lv_at hl 0 rfl) ?_
                refine lv_i2l hx hb dX12_number_144 rfl ?_
                refine lv_iload_n hx hb dX12_number_145 rfl (lv_at hl 3 rfl) ?_
                refine lv_i2l hx hb dX12_number_146 rfl ?_
                refine lv_iload_n hx hb dX12_number_147 rfl (lv_at hl 4 rfl) ?_
                refine lv_i2l hx hb dX12_number_148 rfl ?_
                refine sk_Si (n := 3) (rest := []) (wr := [(mm, .inr (12, mo g (nI ta) (nI za) (nI pe) (nI za) (nI pb) pp pf pg (nI pa2_2) rt rn (nI cd) sn (nI il) tk am at_ aa 0 0 (-1) wt wy 0 (nI rm) (nI ud) (nI nu) sd (nI qn) (nI qw) qo (nI qb) (nI qp) qa (nI qi) (nI oc))), (g 0, .inl (cI, 1600, .inl (fun j => nI (tb j))))]) ⟨hx, hb, hml, hown, hts⟩ hl.1 (c_m_isIn l D cI cJ cC cZ cS (Int32.toInt64 (nI v)) (Int32.toInt64 (nI lo)) (Int32.toInt64 (nI hi))) w_7_0 w_7_1 w_1_14 w_7_2 (by decide +kernel) ⟨⟨(Nat.le_of_ble_eq_true rfl), (Nat.le_of_ble_eq_true rfl)⟩, (Nat.le_of_ble_eq_true rfl), (Nat.le_of_ble_eq_true rfl)⟩ hK hP hD hS hA [] [0, 1] rfl rfl (by decide +kernel) (by decide +kernel) (by decide +kernel) rfl rfl (Nat.le_of_ble_eq_true rfl) dX12_number_149 (fun r_34 u H locs hw hP hD hS => ?_)
                obtain ⟨b_33, hb1_35, rfl, rfl⟩ := hw
                have hP : va_P D vwCl [(mm, .inr (12, mo g (nI ta) (nI za) (nI pe) (nI za) (nI pb) pp pf pg (nI pa2_2) rt rn (nI cd) sn (nI il) tk am at_ aa 0 0 (-1) wt wy 0 (nI rm) (nI ud) (nI nu) sd (nI qn) (nI qw) qo (nI qb) (nI qp) qa (nI qi) (nI oc))), (g 0, .inl (cI, 1600, .inl (fun j => nI (tb j))))] H := hP
                have hD : va_D A [(mm, .inr (12, mo g (nI ta) (nI za) (nI pe) (nI za) (nI pb) pp pf pg (nI pa2_2) rt rn (nI cd) sn (nI il) tk am at_ aa 0 0 (-1) wt wy 0 (nI rm) (nI ud) (nI nu) sd (nI qn) (nI qw) qo (nI qb) (nI qp) qa (nI qi) (nI oc))), (g 0, .inl (cI, 1600, .inl (fun j => nI (tb j))))] := hD
                refine lv_if_ne (tgt := 161) hx hb dX12_number_152 (by decide) (fun c_36 => ?_) (fun c_36 => ?_)
                · have c_36 : ¬ (b_33 = 0) := fun h => c_36 ((neq b_33 0 (by omega) (by omega)).mpr h)
                  have hr_ := (hb1_35.resolve_left (by omega)).2
                  have hlo := i2l_le (by omega) (by omega) hr_.1
                  have hhi := i2l_le (by omega) (by omega) hr_.2
                  refine lv_iload hx hb dX12_number_161 (lv_at hl 0 rfl) ?_
                  exact sk_iret hx hb hr rfl hlocks hK hP hD hS (⟨v, za, nI za, pb, pp, nI pa2_2, by omega, by omega, by omega, by omega, by omega, rfl, rfl⟩) (Nat.le_of_ble_eq_true rfl) (Nat.le_of_ble_eq_true rfl) dX12_number_163
                · have c_36 : b_33 = 0 := (neq b_33 0 (by omega) (by omega)).mp c_36
                  refine lv_aload_n hx hb dX12_number_155 rfl (lv_at hl 2 rfl) ?_
                  refine lv_iconst (v := 2) hx hb dX12_number_156 (by decide) ?_
                  refine lv_iload_n hx hb dX12_number_157 rfl (lv_at hl 1 rfl) ?_
                  refine sk_Vv (q0 := 0) (n := 2) (rest := []) (wr := [(g 0, .inl (cI, 1600, .inl (fun j => nI (tb j))))]) ⟨hx, hb, hml, hown, hts⟩ hl.1 (c_m_fail l D cI cJ cC cZ cS mm g ta za pe (nI za) pb pp pf pg (nI pa2_2) rt rn cd sn il tk am at_ aa wt wy rm ud nu sd qn qw qo qb qp qa qi oc 2 (nI pa2_2) (by omega) (by omega) (by omega)) w_6_229 w_6_231 w_0_46 w_1_14 w_6_232 (by decide +kernel) ⟨⟨(Nat.le_of_ble_eq_true rfl), (Nat.le_of_ble_eq_true rfl)⟩, (Nat.le_of_ble_eq_true rfl), (Nat.le_of_ble_eq_true rfl)⟩ hK hP hD hS hA [0] [1] rfl rfl (by decide +kernel) (by decide +kernel) (by decide +kernel) rfl rfl rfl rfl (Nat.le_of_ble_eq_true rfl) dX12_number_158 (fun u H locs hw hP hD hS => ?_)
                  obtain ⟨pb2_37, pp2_38, hpb2_39, hpb3_40, rfl⟩ := hw
                  have hP : va_P D vwCl [(g 0, .inl (cI, 1600, .inl (fun j => nI (tb j)))), (mm, .inr (12, mo g (nI ta) (nI za) (nI pe) (nI za) (nI pb2_37) pp2_38 pf pg (nI pa2_2) rt rn (nI cd) sn (nI il) tk am at_ aa 0 0 (-1) wt wy 0 (nI rm) (nI ud) (nI nu) sd (nI qn) (nI qw) qo (nI qb) (nI qp) qa (nI qi) (nI oc)))] H := hP
                  have hD : va_D A [(g 0, .inl (cI, 1600, .inl (fun j => nI (tb j)))), (mm, .inr (12, mo g (nI ta) (nI za) (nI pe) (nI za) (nI pb2_37) pp2_38 pf pg (nI pa2_2) rt rn (nI cd) sn (nI il) tk am at_ aa 0 0 (-1) wt wy 0 (nI rm) (nI ud) (nI nu) sd (nI qn) (nI qw) qo (nI qb) (nI qp) qa (nI qi) (nI oc)))] := hD
                  refine lv_iload hx hb dX12_number_161 (lv_at hl 0 rfl) ?_
                  have hP := hP.sub (ws' := [(mm, .inr (12, mo g (nI ta) (nI za) (nI pe) (nI za) (nI pb2_37) pp2_38 pf pg (nI pa2_2) rt rn (nI cd) sn (nI il) tk am at_ aa 0 0 (-1) wt wy 0 (nI rm) (nI ud) (nI nu) sd (nI qn) (nI qw) qo (nI qb) (nI qp) qa (nI qi) (nI oc))), (g 0, .inl (cI, 1600, .inl (fun j => nI (tb j))))]) [1, 0] rfl
                  have hD := hD.sub (ws' := [(mm, .inr (12, mo g (nI ta) (nI za) (nI pe) (nI za) (nI pb2_37) pp2_38 pf pg (nI pa2_2) rt rn (nI cd) sn (nI il) tk am at_ aa 0 0 (-1) wt wy 0 (nI rm) (nI ud) (nI nu) sd (nI qn) (nI qw) qo (nI qb) (nI qp) qa (nI qi) (nI oc))), (g 0, .inl (cI, 1600, .inl (fun j => nI (tb j))))]) [1, 0] (by decide +kernel) rfl
                  exact sk_iret hx hb hr rfl hlocks hK hP hD hS (⟨v, za, nI za, pb2_37, pp2_38, nI pa2_2, by omega, by omega, by omega, by omega, by omega, rfl, rfl⟩) (Nat.le_of_ble_eq_true rfl) (Nat.le_of_ble_eq_true rfl) dX12_number_163
              · have c_32 : ¬ (b_29 = 0) := fun h => c_32 ((neq b_29 0 (by omega) (by omega)).mpr h)
                refine lv_aload_n hx hb dX12_number_75 rfl (lv_at hl 2 rfl) ?_
                refine sk_get (v := .int (nI za)) (C := RX12) (T := TX12) (N := 92) hx hb hts inlX12 hown hK hP 0 rfl rfl 2 (by decide) w_5_157 rfl dX12_number_76 ?_
                refine lv_iload_n hx hb dX12_number_79 rfl (lv_at hl 1 rfl) ?_
                refine lv_isub hx hb dX12_number_80 ?_
                refine sk_top (nI (za - pa2_2)) (nsub za pa2_2 (by omega)) ?_
                refine lv_iconst (v := 4) hx hb dX12_number_81 (by decide) ?_
                refine lv_icmp_ne (tgt := 96) hx hb dX12_number_82 (by decide) (fun c_41 => ?_) (fun c_41 => ?_)
                · have c_41 : ¬ (za - pa2_2 = 4) := fun h => c_41 ((neq (za - pa2_2) 4 (by omega) (by omega)).mpr h)
                  refine lv_bipush (v := 10) hx hb dX12_number_96 (by decide) ?_
                  refine lv_iload hx hb dX12_number_98 (lv_at hl 0 rfl) ?_
                  refine lv_imul hx hb dX12_number_100 ?_
                  refine sk_top (nI (10 * v)) (nmul 10 v) ?_
                  refine lv_aload_n hx hb dX12_number_101 rfl (lv_at hl 2 rfl) ?_
                  refine sk_get (v := .ref (g 0)) (C := RX12) (T := TX12) (N := 92) hx hb hts inlX12 hown hK hP 0 rfl rfl 0 (by decide) w_5_155 rfl dX12_number_102 ?_
                  refine lv_aload_n hx hb dX12_number_105 rfl (lv_at hl 2 rfl) ?_
                  refine sk_get (v := .int (nI za)) (C := RX12) (T := TX12) (N := 92) hx hb hts inlX12 hown hK hP 0 rfl rfl 2 (by decide) w_5_157 rfl dX12_number_106 ?_
                  refine va_iald hx hb hK.1 hP 1 0 rfl rfl (vin za 1600 (by omega) (by omega)) dX12_number_109 ?_
                  refine sk_top (nI (tb za)) (nrd tb za (by omega)) ?_
                  have hb_42 := htb za
                  refine lv_iadd hx hb dX12_number_110 ?_
                  refine sk_top (nI (10 * v + (tb za))) (nI_add (10 * v) (tb za)) ?_
                  refine lv_bipush (v := 48) hx hb dX12_number_111 (by decide) ?_
                  refine lv_isub hx hb dX12_number_113 ?_
                  refine sk_top (nI (10 * v + (tb za) - 48)) (nsub (10 * v + (tb za)) 48 (by omega)) ?_
                  refine lv_istore (lv' := [(4, .int (nI (10 * v + (tb za) - 48))), (3, .int (nI pa2_2)), (0, .ref mm), (1, .int (nI lo)), (2, .int (nI hi))]) hx hb dX12_number_114 hl (by decide) rfl (fun ls hl => ?_)
                  refine lv_aload_n hx hb dX12_number_116 rfl (lv_at hl 2 rfl) ?_
                  refine lv_dup hx hb dX12_number_117 rfl ?_
                  refine sk_get (v := .int (nI za)) (C := RX12) (T := TX12) (N := 92) hx hb hts inlX12 hown hK hP 0 rfl rfl 2 (by decide) w_5_157 rfl dX12_number_118 ?_
                  refine lv_iconst (v := 1) hx hb dX12_number_121 (by decide) ?_
                  refine lv_iadd hx hb dX12_number_122 ?_
                  refine sk_top (nI (za + 1)) (nI_add za 1) ?_
                  refine sk_put (ws' := [(mm, .inr (12, mo g (nI ta) (nI (za + 1)) (nI pe) pd (nI pb) pp pf pg pn rt rn (nI cd) sn (nI il) tk am at_ aa 0 0 (-1) wt wy 0 (nI rm) (nI ud) (nI nu) sd (nI qn) (nI qw) qo (nI qb) (nI qp) qa (nI qi) (nI oc))), (g 0, .inl (cI, 1600, .inl (fun j => nI (tb j))))]) (C := RX12) (T := TX12) (N := 92) (v := .int (nI (za + 1))) hx hb hts inlX12 tyX12 tyX12_ok nmX12 hown hK hP hD hS 0 rfl rfl 2 (by decide) w_5_157 rfl rfl rfl (Nat.le_of_ble_eq_true rfl) rfl dX12_number_123 (fun H locs hP hD hS => ?_)
                  refine lv_goto (tgt := 49) hx hb dX12_number_126 (by decide) ?_
                  exact ih_lp_17 (10 * v + (tb za) - 48) (za + 1) _ _ _ (by omega) (by omega) (by omega) (by omega) hP hD hS (lv_sub hl [0, 1, 2, 3, 4] rfl)
                · have c_41 : za - pa2_2 = 4 := (neq (za - pa2_2) 4 (by omega) (by omega)).mp c_41
                  refine lv_aload_n hx hb dX12_number_85 rfl (lv_at hl 2 rfl) ?_
                  refine lv_iconst (v := 1) hx hb dX12_number_86 (by decide) ?_
                  refine lv_aload_n hx hb dX12_number_87 rfl (lv_at hl 2 rfl) ?_
                  refine sk_get (v := .int (nI za)) (C := RX12) (T := TX12) (N := 92) hx hb hts inlX12 hown hK hP 0 rfl rfl 2 (by decide) w_5_157 rfl dX12_number_88 ?_
                  refine sk_Vv (q0 := 0) (n := 2) (rest := []) (wr := [(g 0, .inl (cI, 1600, .inl (fun j => nI (tb j))))]) ⟨hx, hb, hml, hown, hts⟩ hl.1 (c_m_fail l D cI cJ cC cZ cS mm g ta za pe pd pb pp pf pg pn rt rn cd sn il tk am at_ aa wt wy rm ud nu sd qn qw qo qb qp qa qi oc 1 (nI za) (by omega) (by omega) (by omega)) w_6_229 w_6_231 w_0_46 w_1_14 w_6_232 (by decide +kernel) ⟨⟨(Nat.le_of_ble_eq_true rfl), (Nat.le_of_ble_eq_true rfl)⟩, (Nat.le_of_ble_eq_true rfl), (Nat.le_of_ble_eq_true rfl)⟩ hK hP hD hS hA [0] [1] rfl rfl (by decide +kernel) (by decide +kernel) (by decide +kernel) rfl rfl rfl rfl (Nat.le_of_ble_eq_true rfl) dX12_number_91 (fun u H locs hw hP hD hS => ?_)
                  obtain ⟨pb2_43, pp2_44, hpb2_45, hpb3_46, rfl⟩ := hw
                  have hP : va_P D vwCl [(g 0, .inl (cI, 1600, .inl (fun j => nI (tb j)))), (mm, .inr (12, mo g (nI ta) (nI za) (nI pe) pd (nI pb2_43) pp2_44 pf pg pn rt rn (nI cd) sn (nI il) tk am at_ aa 0 0 (-1) wt wy 0 (nI rm) (nI ud) (nI nu) sd (nI qn) (nI qw) qo (nI qb) (nI qp) qa (nI qi) (nI oc)))] H := hP
                  have hD : va_D A [(g 0, .inl (cI, 1600, .inl (fun j => nI (tb j)))), (mm, .inr (12, mo g (nI ta) (nI za) (nI pe) pd (nI pb2_43) pp2_44 pf pg pn rt rn (nI cd) sn (nI il) tk am at_ aa 0 0 (-1) wt wy 0 (nI rm) (nI ud) (nI nu) sd (nI qn) (nI qw) qo (nI qb) (nI qp) qa (nI qi) (nI oc)))] := hD
                  refine lv_iconst (v := 0) hx hb dX12_number_94 (by decide) ?_
                  have hP := hP.sub (ws' := [(mm, .inr (12, mo g (nI ta) (nI za) (nI pe) pd (nI pb2_43) pp2_44 pf pg pn rt rn (nI cd) sn (nI il) tk am at_ aa 0 0 (-1) wt wy 0 (nI rm) (nI ud) (nI nu) sd (nI qn) (nI qw) qo (nI qb) (nI qp) qa (nI qi) (nI oc))), (g 0, .inl (cI, 1600, .inl (fun j => nI (tb j))))]) [1, 0] rfl
                  have hD := hD.sub (ws' := [(mm, .inr (12, mo g (nI ta) (nI za) (nI pe) pd (nI pb2_43) pp2_44 pf pg pn rt rn (nI cd) sn (nI il) tk am at_ aa 0 0 (-1) wt wy 0 (nI rm) (nI ud) (nI nu) sd (nI qn) (nI qw) qo (nI qb) (nI qp) qa (nI qi) (nI oc))), (g 0, .inl (cI, 1600, .inl (fun j => nI (tb j))))]) [1, 0] (by decide +kernel) rfl
                  exact sk_iret hx hb hr rfl hlocks hK hP hD hS (⟨0, za, pd, pb2_43, pp2_44, pn, by omega, by omega, by omega, by omega, by omega, rfl, rfl⟩) (Nat.le_of_ble_eq_true rfl) (Nat.le_of_ble_eq_true rfl) dX12_number_95
        exact lp_17 (pe - pa2_2 + 1) 0 pa2_2 _ _ _ (Nat.lt_succ_self _) (by omega) (by omega) (by omega) hP hD hS (lv_sub hl [0, 1, 2, 3, 4] rfl)
      · skip
        refine lv_aload_n hx hb dX12_number_30 rfl (lv_at hl 0 rfl) ?_
        refine lv_iconst (v := 1) hx hb dX12_number_31 (by decide) ?_
        refine lv_aload_n hx hb dX12_number_32 rfl (lv_at hl 0 rfl) ?_
        refine sk_get (v := .int (nI pa2_2)) (C := RX12) (T := TX12) (N := 92) hx hb hts inlX12 hown hK hP 0 rfl rfl 2 (by decide) w_5_157 rfl dX12_number_33 ?_
        refine sk_Vv (q0 := 0) (n := 2) (rest := []) (wr := [(g 0, .inl (cI, 1600, .inl (fun j => nI (tb j))))]) ⟨hx, hb, hml, hown, hts⟩ hl.1 (c_m_fail l D cI cJ cC cZ cS mm g ta pa2_2 pe pd pb pp pf pg pn rt rn cd sn il tk am at_ aa wt wy rm ud nu sd qn qw qo qb qp qa qi oc 1 (nI pa2_2) (by omega) (by omega) (by omega)) w_6_229 w_6_231 w_0_46 w_1_14 w_6_232 (by decide +kernel) ⟨⟨(Nat.le_of_ble_eq_true rfl), (Nat.le_of_ble_eq_true rfl)⟩, (Nat.le_of_ble_eq_true rfl), (Nat.le_of_ble_eq_true rfl)⟩ hK hP hD hS hA [0] [1] rfl rfl (by decide +kernel) (by decide +kernel) (by decide +kernel) rfl rfl rfl rfl (Nat.le_of_ble_eq_true rfl) dX12_number_36 (fun u H locs hw hP hD hS => ?_)
        obtain ⟨pb2_47, pp2_48, hpb2_49, hpb3_50, rfl⟩ := hw
        have hP : va_P D vwCl [(g 0, .inl (cI, 1600, .inl (fun j => nI (tb j)))), (mm, .inr (12, mo g (nI ta) (nI pa2_2) (nI pe) pd (nI pb2_47) pp2_48 pf pg pn rt rn (nI cd) sn (nI il) tk am at_ aa 0 0 (-1) wt wy 0 (nI rm) (nI ud) (nI nu) sd (nI qn) (nI qw) qo (nI qb) (nI qp) qa (nI qi) (nI oc)))] H := hP
        have hD : va_D A [(g 0, .inl (cI, 1600, .inl (fun j => nI (tb j)))), (mm, .inr (12, mo g (nI ta) (nI pa2_2) (nI pe) pd (nI pb2_47) pp2_48 pf pg pn rt rn (nI cd) sn (nI il) tk am at_ aa 0 0 (-1) wt wy 0 (nI rm) (nI ud) (nI nu) sd (nI qn) (nI qw) qo (nI qb) (nI qp) qa (nI qi) (nI oc)))] := hD
        refine lv_iconst (v := 0) hx hb dX12_number_39 (by decide) ?_
        have hP := hP.sub (ws' := [(mm, .inr (12, mo g (nI ta) (nI pa2_2) (nI pe) pd (nI pb2_47) pp2_48 pf pg pn rt rn (nI cd) sn (nI il) tk am at_ aa 0 0 (-1) wt wy 0 (nI rm) (nI ud) (nI nu) sd (nI qn) (nI qw) qo (nI qb) (nI qp) qa (nI qi) (nI oc))), (g 0, .inl (cI, 1600, .inl (fun j => nI (tb j))))]) [1, 0] rfl
        have hD := hD.sub (ws' := [(mm, .inr (12, mo g (nI ta) (nI pa2_2) (nI pe) pd (nI pb2_47) pp2_48 pf pg pn rt rn (nI cd) sn (nI il) tk am at_ aa 0 0 (-1) wt wy 0 (nI rm) (nI ud) (nI nu) sd (nI qn) (nI qw) qo (nI qb) (nI qp) qa (nI qi) (nI oc))), (g 0, .inl (cI, 1600, .inl (fun j => nI (tb j))))]) [1, 0] (by decide +kernel) rfl
        exact sk_iret hx hb hr rfl hlocks hK hP hD hS (⟨0, pa2_2, pd, pb2_47, pp2_48, pn, by omega, by omega, by omega, by omega, by omega, rfl, rfl⟩) (Nat.le_of_ble_eq_true rfl) (Nat.le_of_ble_eq_true rfl) dX12_number_40
  · have c_1 : ¬ (pb = 0) := fun h => c_1 ((neq pb 0 (by omega) (by omega)).mpr h)
    refine lv_iconst (v := 0) hx hb dX12_number_7 (by decide) ?_
    exact sk_iret hx hb hr rfl hlocks hK hP hD hS (⟨0, pa, pd, pb, pp, pn, by omega, by omega, by omega, by omega, by omega, rfl, rfl⟩) (Nat.le_of_ble_eq_true rfl) (Nat.le_of_ble_eq_true rfl) dX12_number_8
