theorem dX12_isLeft_26 : decode cX12_isLeft 26 = .ok (.iconst 0, 1) := q_iconst0 (bat_get dg_X12_isLeft_8_79 21 rfl rfl)
theorem dX12_isLeft_27 : decode cX12_isLeft 27 = .ok (.ireturn, 1) := q_ireturn (bat_get dg_X12_isLeft_8_79 22 rfl rfl)
theorem w_5_196 : (Cond.fieldLink RX12 79 "SameKeeperModel" "wordDay" "I") ∈ wsL_law := sk_mem (ck_5 _ (List.mem_of_getElem? (i := 196) rfl)) rfl
theorem w_5_195 : (Cond.fieldLink RX12 368 "SameKeeperModel" "byHeard" "Z") ∈ wsL_law := sk_mem (ck_5 _ (List.mem_of_getElem? (i := 195) rfl)) rfl
theorem w_5_207 : (Cond.fieldLink RX12 312 "SameKeeperModel" "rowMany" "I") ∈ wsL_law := sk_mem (ck_5 _ (List.mem_of_getElem? (i := 207) rfl)) rfl
theorem w_5_208 : (Cond.fieldLink RX12 104 "SameKeeperModel" "rows" "[I") ∈ wsL_law := sk_mem (ck_5 _ (List.mem_of_getElem? (i := 208) rfl)) rfl
theorem w_5_197 : (Cond.fieldLink RX12 365 "SameKeeperModel" "wordTold" "I") ∈ wsL_law := sk_mem (ck_5 _ (List.mem_of_getElem? (i := 197) rfl)) rfl
theorem w_7_212 : (Cond.code yX12_isLeft cX12_isLeft 4 (some .boolean)) ∈ wsL_law := sk_mem (ck_7 _ (List.mem_of_getElem? (i := 212) rfl)) rfl
set_option maxHeartbeats 4000000 in
set_option maxRecDepth 100000 in
theorem c_m_isLeft (l : Launch) (D : va_G) (cI cJ cC cZ cS : ClassId) (mm : Nat) (g : Nat → Nat) (ta : Nat) (pa : Nat) (pe : Nat) (pd : Int32) (pb : Nat) (pp : Int32) (pf : Int32) (pg : Int32) (pn : Int32) (rt : Int32) (rn : Int32) (cd : Nat) (sn : Int32) (il : Nat) (tk : Int32) (am : Int32) (at_ : Int32) (aa : Int32) (mt_ : Int32) (bh : Nat) (wd : Int32) (wt : Int32) (wy : Int64) (it_ : Nat) (rm : Nat) (ud : Nat) (nu : Nat) (sd : Int64) (qn : Nat) (qw : Nat) (qo : Int32) (qb : Nat) (qp : Nat) (qa : Int64) (qi : Nat) (oc : Nat) (d : Nat) (o : Nat) (nw : Nat → Int32) (ws_ : Nat → Int32) (rw_ : Nat → Int32) (hd : d < 9) (ho : o < 10) (hrm : rm ≤ 16) (hbh : bh ≤ 1) (hnw : nowOk nw) : skM l yX12_isLeft cX12_isLeft 4 (some .boolean) 1 21 0 0 D (skT cI cJ cC cZ cS) [.ref mm, .int (nI d), .int (nI o)] [(mm, .inr (12, mo g (nI ta) (nI pa) (nI pe) pd (nI pb) pp pf pg pn rt rn (nI cd) sn (nI il) tk am at_ aa mt_ (nI bh) wd wt wy (nI it_) (nI rm) (nI ud) (nI nu) sd (nI qn) (nI qw) qo (nI qb) (nI qp) qa (nI qi) (nI oc))), (g 31, .inl (cI, 120, .inl nw)), (g 38, .inl (cI, 90, .inl ws_)), (g 53, .inl (cI, 32, .inl rw_))] (skI D (skT cI cJ cC cZ cS) (fun (r : Int32) (u : va_W) => ∃ (b : Nat), b ≤ 1 ∧ r = nI b ∧ u = [(mm, .inr (12, mo g (nI ta) (nI pa) (nI pe) pd (nI pb) pp pf pg pn rt rn (nI cd) sn (nI il) tk am at_ aa mt_ (nI bh) wd wt wy (nI it_) (nI rm) (nI ud) (nI nu) sd (nI qn) (nI qw) qo (nI qb) (nI qp) qa (nI qi) (nI oc))), (g 31, .inl (cI, 120, .inl nw)), (g 38, .inl (cI, 90, .inl ws_)), (g 53, .inl (cI, 32, .inl rw_))])) := by
  refine skM_of pf_X12_isLeft (Nat.le_of_ble_eq_true rfl) ?_
  intro p e s m below meth c A ls E hP hD hl
  refine skE_el E (fun hx hb hr hml hlocks hin hown hts hK hA => ?_)
  have hown : s.vm.findClass RX12 = some m.cls := hown
  have hS : va_S A s.heap s.heap [] := va_S.rf
  have hl : lv_has ls 4 [(0, .ref mm), (1, .int (nI d)), (2, .int (nI o))] := hl
  refine lv_aload_n hx hb dX12_isLeft_0 rfl (lv_at hl 0 rfl) ?_
  refine sk_get (v := .int wd) (C := RX12) (T := TX12) (N := 92) hx hb hts inlX12 hown hK hP 0 rfl rfl 41 (by decide) w_5_196 rfl dX12_isLeft_1 ?_
  refine lv_iload_n hx hb dX12_isLeft_4 rfl (lv_at hl 1 rfl) ?_
  refine lv_icmp_ne (tgt := 28) hx hb dX12_isLeft_5 (by decide) (fun c_1 => ?_) (fun c_1 => ?_)
  · skip
    refine lv_aload_n hx hb dX12_isLeft_28 rfl (lv_at hl 0 rfl) ?_
    refine sk_get (v := .int (nI bh)) (C := RX12) (T := TX12) (N := 92) hx hb hts inlX12 hown hK hP 0 rfl rfl 40 (by decide) w_5_195 rfl dX12_isLeft_29 ?_
    refine lv_if_ne (tgt := 37) hx hb dX12_isLeft_32 (by decide) (fun c_2 => ?_) (fun c_2 => ?_)
    · have c_2 : ¬ (bh = 0) := fun h => c_2 ((neq bh 0 (by omega) (by omega)).mpr h)
      refine lv_iconst (v := 0) hx hb dX12_isLeft_37 (by decide) ?_
      refine lv_istore_n (lv' := [(3, .int 0), (0, .ref mm), (1, .int (nI d)), (2, .int (nI o))]) hx hb dX12_isLeft_38 rfl hl (by decide) rfl (fun ls hl => ?_)
      have lp_3 : ∀ (n_4 : Nat) (i : Nat) (H : Heap) (locs : List Loc) (ls : Array Slot), 17 - i < n_4 → (i ≤ 16) → va_P D vwCl [(mm, .inr (12, mo g (nI ta) (nI pa) (nI pe) pd (nI pb) pp pf pg pn rt rn (nI cd) sn (nI il) tk am at_ aa mt_ (nI bh) wd wt wy (nI it_) (nI rm) (nI ud) (nI nu) sd (nI qn) (nI qw) qo (nI qb) (nI qp) qa (nI qi) (nI oc))), (g 31, .inl (cI, 120, .inl nw)), (g 38, .inl (cI, 90, .inl ws_)), (g 53, .inl (cI, 32, .inl rw_))] H → va_D A [(mm, .inr (12, mo g (nI ta) (nI pa) (nI pe) pd (nI pb) pp pf pg pn rt rn (nI cd) sn (nI il) tk am at_ aa mt_ (nI bh) wd wt wy (nI it_) (nI rm) (nI ud) (nI nu) sd (nI qn) (nI qw) qo (nI qb) (nI qp) qa (nI qi) (nI oc))), (g 31, .inl (cI, 120, .inl nw)), (g 38, .inl (cI, 90, .inl ws_)), (g 53, .inl (cI, 32, .inl rw_))] → va_S A s.heap H locs → lv_has ls 4 [(3, .int (nI i)), (0, .ref mm), (1, .int (nI d)), (2, .int (nI o))] → W p l e { frames := 1, cells := 0, slots := 0, locals := 21 } s m ([.ref mm, .int (nI d), .int (nI o)] : List Value).toArray below meth c H locs 0 0 (MQ below (skI D (skT cI cJ cC cZ cS) (fun (r : Int32) (u : va_W) => ∃ (b : Nat), b ≤ 1 ∧ r = nI b ∧ u = [(mm, .inr (12, mo g (nI ta) (nI pa) (nI pe) pd (nI pb) pp pf pg pn rt rn (nI cd) sn (nI il) tk am at_ aa mt_ (nI bh) wd wt wy (nI it_) (nI rm) (nI ud) (nI nu) sd (nI qn) (nI qw) qo (nI qb) (nI qp) qa (nI qi) (nI oc))), (g 31, .inl (cI, 120, .inl nw)), (g 38, .inl (cI, 90, .inl ws_)), (g 53, .inl (cI, 32, .inl rw_))]) A) ([.ref mm, .int (nI d), .int (nI o)] : List Value).toArray s 0 0 A) (F0 m 39 ls []) := by
        intro n_4
        induction n_4 with
        | zero => intro i H locs ls hm; exact absurd hm (Nat.not_lt_zero _)
        | succ n_4 ih_lp_3 =>
          intro i H locs ls hm hi hP hD hS hl
          refine lv_iload_n hx hb dX12_isLeft_39 rfl (lv_at hl 0 rfl) ?_
          refine lv_aload_n hx hb dX12_isLeft_40 rfl (lv_at hl 1 rfl) ?_
          refine sk_get (v := .int (nI rm)) (C := RX12) (T := TX12) (N := 92) hx hb hts inlX12 hown hK hP 0 rfl rfl 52 (by decide) w_5_207 rfl dX12_isLeft_41 ?_
          refine lv_icmp_ge (tgt := 99) hx hb dX12_isLeft_44 (by decide) (fun c_5 => ?_) (fun c_5 => ?_)
          · have c_5 : rm ≤ i := (nle rm i (by omega) (by omega)).mp c_5
            refine lv_iconst (v := 1) hx hb dX12_isLeft_99 (by decide) ?_
            exact sk_iret hx hb hr rfl hlocks hK hP hD hS (⟨1, by omega, rfl, rfl⟩) (Nat.le_of_ble_eq_true rfl) (Nat.le_of_ble_eq_true rfl) dX12_isLeft_100
          · have c_5 : ¬ (rm ≤ i) := fun h => c_5 ((nle rm i (by omega) (by omega)).mpr h)
            refine lv_aload_n hx hb dX12_isLeft_47 rfl (lv_at hl 1 rfl) ?_
            refine sk_get (v := .ref (g 53)) (C := RX12) (T := TX12) (N := 92) hx hb hts inlX12 hown hK hP 0 rfl rfl 53 (by decide) w_5_208 rfl dX12_isLeft_48 ?_
            refine lv_iconst (v := 2) hx hb dX12_isLeft_51 (by decide) ?_
            refine lv_iload_n hx hb dX12_isLeft_52 rfl (lv_at hl 0 rfl) ?_
            refine lv_imul hx hb dX12_isLeft_53 ?_
            refine sk_top (nI (2 * i)) (nmul 2 i) ?_
            refine va_iald hx hb hK.1 hP 3 0 rfl rfl (vin (2 * i) 32 (by omega) (by omega)) dX12_isLeft_54 ?_
            refine lv_topi (fun v_6 ev_6 => ?_)
            refine lv_iload_n hx hb dX12_isLeft_55 rfl (lv_at hl 2 rfl) ?_
            refine lv_icmp_ne (tgt := 93) hx hb dX12_isLeft_56 (by decide) (fun c_7 => ?_) (fun c_7 => ?_)
            · skip
              refine lv_iinc (v := nI (i + 1)) (lv' := [(3, .int (nI (i + 1))), (0, .ref mm), (1, .int (nI d)), (2, .int (nI o))]) hx hb dX12_isLeft_93 hl (k := 0) rfl (ninc i 1 (by decide)) (by decide) rfl (fun ls hl => ?_)
              refine lv_goto (tgt := 39) hx hb dX12_isLeft_96 (by decide) ?_
              exact ih_lp_3 (i + 1) _ _ _ (by omega) (by omega) hP hD hS (lv_sub hl [0, 1, 2, 3] rfl)
            · skip
              refine lv_aload_n hx hb dX12_isLeft_59 rfl (lv_at hl 1 rfl) ?_
              refine lv_iload_n hx hb dX12_isLeft_60 rfl (lv_at hl 2 rfl) ?_
              refine sk_Vi (q0 := 0) (n := 1) (rest := []) (wr := fmR om_4_c _) ⟨hx, hb, hml, hown, hts⟩ hl.1 (c_m_isMute l D cI cJ cC cZ cS mm g ta pa pe pd pb pp pf pg pn rt rn cd sn il tk am at_ aa mt_ bh wd wt wy it_ rm ud nu sd qn qw qo qb qp qa qi oc d nw (by omega) hnw) w_7_106 w_7_108 w_0_71 w_1_14 w_7_109 hd_X12_isMute_1 ⟨⟨(Nat.le_of_ble_eq_true rfl), (Nat.le_of_ble_eq_true rfl)⟩, (Nat.le_of_ble_eq_true rfl), (Nat.le_of_ble_eq_true rfl)⟩ hK hP hD hS hA (fmT om_4_c 0) (fmF om_4_c 0) (fm_C1 rfl rfl) (fm_R rfl rfl) (fm_nT om_4_c 0) (fm_nF om_4_c 0) (fm_di om_4_c 0) rfl rfl rfl rfl (Nat.le_of_ble_eq_true rfl) dX12_isLeft_61 (fun r_9 u H locs hw hP hD hS => ?_)
              refine exE hw (fun b_8 hw1 => anE hw1 (fun hb1_10 hw2 => anE hw2 (fun hb2_11 hw3 => anE hw3 (fun er_13 eu_12 => ?_))))
              clear hw hw1 hw2 hw3
              subst er_13
              refine o_mgE (ws' := [(mm, .inr (12, mo g (nI ta) (nI pa) (nI pe) pd (nI pb) pp pf pg pn rt rn (nI cd) sn (nI il) tk am at_ aa mt_ (nI bh) wd wt wy (nI it_) (nI rm) (nI ud) (nI nu) sd (nI qn) (nI qw) qo (nI qb) (nI qp) qa (nI qi) (nI oc))), (g 31, .inl (cI, 120, .inl nw)), (g 38, .inl (cI, 90, .inl ws_)), (g 53, .inl (cI, 32, .inl rw_))]) eu_12 hP hD rfl (fun hP hD => ?_)
              refine lv_if_ne (tgt := 91) hx hb dX12_isLeft_64 (by decide) (fun c_14 => ?_) (fun c_14 => ?_)
              · have c_14 : ¬ (b_8 = 0) := fun h => c_14 ((neq b_8 0 (by omega) (by omega)).mpr h)
                refine lv_iconst (v := 0) hx hb dX12_isLeft_91 (by decide) ?_
                exact sk_iret hx hb hr rfl hlocks hK hP hD hS (⟨0, by omega, rfl, rfl⟩) (Nat.le_of_ble_eq_true rfl) (Nat.le_of_ble_eq_true rfl) dX12_isLeft_92
              · have c_14 : b_8 = 0 := (neq b_8 0 (by omega) (by omega)).mp c_14
                refine lv_aload_n hx hb dX12_isLeft_67 rfl (lv_at hl 1 rfl) ?_
                refine sk_get (v := .ref (g 38)) (C := RX12) (T := TX12) (N := 92) hx hb hts inlX12 hown hK hP 0 rfl rfl 38 (by decide) w_5_193 rfl dX12_isLeft_68 ?_
                refine lv_bipush (v := 10) hx hb dX12_isLeft_71 (by decide) ?_
                refine lv_iload_n hx hb dX12_isLeft_73 rfl (lv_at hl 2 rfl) ?_
                refine lv_imul hx hb dX12_isLeft_74 ?_
                refine sk_top (nI (10 * d)) (nmul 10 d) ?_
                refine lv_iload_n hx hb dX12_isLeft_75 rfl (lv_at hl 3 rfl) ?_
                refine lv_iadd hx hb dX12_isLeft_76 ?_
                refine sk_top (nI (10 * d + o)) (nI_add (10 * d) o) ?_
                refine va_iald hx hb hK.1 hP 2 0 rfl rfl (vin (10 * d + o) 90 (by omega) (by omega)) dX12_isLeft_77 ?_
                refine lv_topi (fun v_15 ev_15 => ?_)
                refine lv_aload_n hx hb dX12_isLeft_78 rfl (lv_at hl 1 rfl) ?_
                refine sk_get (v := .ref (g 53)) (C := RX12) (T := TX12) (N := 92) hx hb hts inlX12 hown hK hP 0 rfl rfl 53 (by decide) w_5_208 rfl dX12_isLeft_79 ?_
                refine lv_iconst (v := 2) hx hb dX12_isLeft_82 (by decide) ?_
                refine lv_iload_n hx hb dX12_isLeft_83 rfl (lv_at hl 0 rfl) ?_
                refine lv_imul hx hb dX12_isLeft_84 ?_
                refine sk_top (nI (2 * i)) (nmul 2 i) ?_
                refine lv_iconst (v := 1) hx hb dX12_isLeft_85 (by decide) ?_
                refine lv_iadd hx hb dX12_isLeft_86 ?_
                refine sk_top (nI (2 * i + 1)) (nI_add (2 * i) 1) ?_
                refine va_iald hx hb hK.1 hP 3 0 rfl rfl (vin (2 * i + 1) 32 (by omega) (by omega)) dX12_isLeft_87 ?_
                refine lv_topi (fun v_16 ev_16 => ?_)
                refine lv_icmp_eq (tgt := 93) hx hb dX12_isLeft_88 (by decide) (fun c_17 => ?_) (fun c_17 => ?_)
                · skip
                  refine lv_iinc (v := nI (i + 1)) (lv' := [(3, .int (nI (i + 1))), (0, .ref mm), (1, .int (nI d)), (2, .int (nI o))]) hx hb dX12_isLeft_93 hl (k := 0) rfl (ninc i 1 (by decide)) (by decide) rfl (fun ls hl => ?_)
                  refine lv_goto (tgt := 39) hx hb dX12_isLeft_96 (by decide) ?_
                  exact ih_lp_3 (i + 1) _ _ _ (by omega) (by omega) hP hD hS (lv_sub hl [0, 1, 2, 3] rfl)
                · skip
                  refine lv_iconst (v := 0) hx hb dX12_isLeft_91 (by decide) ?_
                  exact sk_iret hx hb hr rfl hlocks hK hP hD hS (⟨0, by omega, rfl, rfl⟩) (Nat.le_of_ble_eq_true rfl) (Nat.le_of_ble_eq_true rfl) dX12_isLeft_92
      exact lp_3 (17 - 0 + 1) 0 _ _ _ (Nat.lt_succ_self _) (by omega) hP hD hS (lv_sub hl [0, 1, 2, 3] rfl)
    · have c_2 : bh = 0 := (neq bh 0 (by omega) (by omega)).mp c_2
      refine lv_iconst (v := 1) hx hb dX12_isLeft_35 (by decide) ?_
      exact sk_iret hx hb hr rfl hlocks hK hP hD hS (⟨1, by omega, rfl, rfl⟩) (Nat.le_of_ble_eq_true rfl) (Nat.le_of_ble_eq_true rfl) dX12_isLeft_36
  · skip
    refine lv_aload_n hx hb dX12_isLeft_8 rfl (lv_at hl 0 rfl) ?_
    refine sk_get (v := .ref (g 38)) (C := RX12) (T := TX12) (N := 92) hx hb hts inlX12 hown hK hP 0 rfl rfl 38 (by decide) w_5_193 rfl dX12_isLeft_9 ?_
    refine lv_bipush (v := 10) hx hb dX12_isLeft_12 (by decide) ?_
    refine lv_iload_n hx hb dX12_isLeft_14 rfl (lv_at hl 1 rfl) ?_
    refine lv_imul hx hb dX12_isLeft_15 ?_
    refine sk_top (nI (10 * d)) (nmul 10 d) ?_
    refine lv_iload_n hx hb dX12_isLeft_16 rfl (lv_at hl 2 rfl) ?_
    refine lv_iadd hx hb dX12_isLeft_17 ?_
    refine sk_top (nI (10 * d + o)) (nI_add (10 * d) o) ?_
    refine va_iald hx hb hK.1 hP 2 0 rfl rfl (vin (10 * d + o) 90 (by omega) (by omega)) dX12_isLeft_18 ?_
    refine lv_topi (fun v_18 ev_18 => ?_)
    refine lv_aload_n hx hb dX12_isLeft_19 rfl (lv_at hl 0 rfl) ?_
    refine sk_get (v := .int wt) (C := RX12) (T := TX12) (N := 92) hx hb hts inlX12 hown hK hP 0 rfl rfl 42 (by decide) w_5_197 rfl dX12_isLeft_20 ?_
    refine lv_icmp_eq (tgt := 28) hx hb dX12_isLeft_23 (by decide) (fun c_19 => ?_) (fun c_19 => ?_)
    · skip
      refine lv_aload_n hx hb dX12_isLeft_28 rfl (lv_at hl 0 rfl) ?_
      refine sk_get (v := .int (nI bh)) (C := RX12) (T := TX12) (N := 92) hx hb hts inlX12 hown hK hP 0 rfl rfl 40 (by decide) w_5_195 rfl dX12_isLeft_29 ?_
      refine lv_if_ne (tgt := 37) hx hb dX12_isLeft_32 (by decide) (fun c_20 => ?_) (fun c_20 => ?_)
      · have c_20 : ¬ (bh = 0) := fun h => c_20 ((neq bh 0 (by omega) (by omega)).mpr h)
        refine lv_iconst (v := 0) hx hb dX12_isLeft_37 (by decide) ?_
        refine lv_istore_n (lv' := [(3, .int 0), (0, .ref mm), (1, .int (nI d)), (2, .int (nI o))]) hx hb dX12_isLeft_38 rfl hl (by decide) rfl (fun ls hl => ?_)
        have lp_21 : ∀ (n_22 : Nat) (i : Nat) (H : Heap) (locs : List Loc) (ls : Array Slot), 17 - i < n_22 → (i ≤ 16) → va_P D vwCl [(mm, .inr (12, mo g (nI ta) (nI pa) (nI pe) pd (nI pb) pp pf pg pn rt rn (nI cd) sn (nI il) tk am at_ aa mt_ (nI bh) wd wt wy (nI it_) (nI rm) (nI ud) (nI nu) sd (nI qn) (nI qw) qo (nI qb) (nI qp) qa (nI qi) (nI oc))), (g 31, .inl (cI, 120, .inl nw)), (g 38, .inl (cI, 90, .inl ws_)), (g 53, .inl (cI, 32, .inl rw_))] H → va_D A [(mm, .inr (12, mo g (nI ta) (nI pa) (nI pe) pd (nI pb) pp pf pg pn rt rn (nI cd) sn (nI il) tk am at_ aa mt_ (nI bh) wd wt wy (nI it_) (nI rm) (nI ud) (nI nu) sd (nI qn) (nI qw) qo (nI qb) (nI qp) qa (nI qi) (nI oc))), (g 31, .inl (cI, 120, .inl nw)), (g 38, .inl (cI, 90, .inl ws_)), (g 53, .inl (cI, 32, .inl rw_))] → va_S A s.heap H locs → lv_has ls 4 [(3, .int (nI i)), (0, .ref mm), (1, .int (nI d)), (2, .int (nI o))] → W p l e { frames := 1, cells := 0, slots := 0, locals := 21 } s m ([.ref mm, .int (nI d), .int (nI o)] : List Value).toArray below meth c H locs 0 0 (MQ below (skI D (skT cI cJ cC cZ cS) (fun (r : Int32) (u : va_W) => ∃ (b : Nat), b ≤ 1 ∧ r = nI b ∧ u = [(mm, .inr (12, mo g (nI ta) (nI pa) (nI pe) pd (nI pb) pp pf pg pn rt rn (nI cd) sn (nI il) tk am at_ aa mt_ (nI bh) wd wt wy (nI it_) (nI rm) (nI ud) (nI nu) sd (nI qn) (nI qw) qo (nI qb) (nI qp) qa (nI qi) (nI oc))), (g 31, .inl (cI, 120, .inl nw)), (g 38, .inl (cI, 90, .inl ws_)), (g 53, .inl (cI, 32, .inl rw_))]) A) ([.ref mm, .int (nI d), .int (nI o)] : List Value).toArray s 0 0 A) (F0 m 39 ls []) := by
          intro n_22
          induction n_22 with
          | zero => intro i H locs ls hm; exact absurd hm (Nat.not_lt_zero _)
          | succ n_22 ih_lp_21 =>
            intro i H locs ls hm hi hP hD hS hl
            refine lv_iload_n hx hb dX12_isLeft_39 rfl (lv_at hl 0 rfl) ?_
            refine lv_aload_n hx hb dX12_isLeft_40 rfl (lv_at hl 1 rfl) ?_
            refine sk_get (v := .int (nI rm)) (C := RX12) (T := TX12) (N := 92) hx hb hts inlX12 hown hK hP 0 rfl rfl 52 (by decide) w_5_207 rfl dX12_isLeft_41 ?_
            refine lv_icmp_ge (tgt := 99) hx hb dX12_isLeft_44 (by decide) (fun c_23 => ?_) (fun c_23 => ?_)
            · have c_23 : rm ≤ i := (nle rm i (by omega) (by omega)).mp c_23
              refine lv_iconst (v := 1) hx hb dX12_isLeft_99 (by decide) ?_
              exact sk_iret hx hb hr rfl hlocks hK hP hD hS (⟨1, by omega, rfl, rfl⟩) (Nat.le_of_ble_eq_true rfl) (Nat.le_of_ble_eq_true rfl) dX12_isLeft_100
            · have c_23 : ¬ (rm ≤ i) := fun h => c_23 ((nle rm i (by omega) (by omega)).mpr h)
              refine lv_aload_n hx hb dX12_isLeft_47 rfl (lv_at hl 1 rfl) ?_
              refine sk_get (v := .ref (g 53)) (C := RX12) (T := TX12) (N := 92) hx hb hts inlX12 hown hK hP 0 rfl rfl 53 (by decide) w_5_208 rfl dX12_isLeft_48 ?_
              refine lv_iconst (v := 2) hx hb dX12_isLeft_51 (by decide) ?_
              refine lv_iload_n hx hb dX12_isLeft_52 rfl (lv_at hl 0 rfl) ?_
              refine lv_imul hx hb dX12_isLeft_53 ?_
              refine sk_top (nI (2 * i)) (nmul 2 i) ?_
              refine va_iald hx hb hK.1 hP 3 0 rfl rfl (vin (2 * i) 32 (by omega) (by omega)) dX12_isLeft_54 ?_
              refine lv_topi (fun v_24 ev_24 => ?_)
              refine lv_iload_n hx hb dX12_isLeft_55 rfl (lv_at hl 2 rfl) ?_
              refine lv_icmp_ne (tgt := 93) hx hb dX12_isLeft_56 (by decide) (fun c_25 => ?_) (fun c_25 => ?_)
              · skip
                refine lv_iinc (v := nI (i + 1)) (lv' := [(3, .int (nI (i + 1))), (0, .ref mm), (1, .int (nI d)), (2, .int (nI o))]) hx hb dX12_isLeft_93 hl (k := 0) rfl (ninc i 1 (by decide)) (by decide) rfl (fun ls hl => ?_)
                refine lv_goto (tgt := 39) hx hb dX12_isLeft_96 (by decide) ?_
                exact ih_lp_21 (i + 1) _ _ _ (by omega) (by omega) hP hD hS (lv_sub hl [0, 1, 2, 3] rfl)
              · skip
                refine lv_aload_n hx hb dX12_isLeft_59 rfl (lv_at hl 1 rfl) ?_
                refine lv_iload_n hx hb dX12_isLeft_60 rfl (lv_at hl 2 rfl) ?_
                refine sk_Vi (q0 := 0) (n := 1) (rest := []) (wr := fmR om_4_c _) ⟨hx, hb, hml, hown, hts⟩ hl.1 (c_m_isMute l D cI cJ cC cZ cS mm g ta pa pe pd pb pp pf pg pn rt rn cd sn il tk am at_ aa mt_ bh wd wt wy it_ rm ud nu sd qn qw qo qb qp qa qi oc d nw (by omega) hnw) w_7_106 w_7_108 w_0_71 w_1_14 w_7_109 hd_X12_isMute_1 ⟨⟨(Nat.le_of_ble_eq_true rfl), (Nat.le_of_ble_eq_true rfl)⟩, (Nat.le_of_ble_eq_true rfl), (Nat.le_of_ble_eq_true rfl)⟩ hK hP hD hS hA (fmT om_4_c 0) (fmF om_4_c 0) (fm_C1 rfl rfl) (fm_R rfl rfl) (fm_nT om_4_c 0) (fm_nF om_4_c 0) (fm_di om_4_c 0) rfl rfl rfl rfl (Nat.le_of_ble_eq_true rfl) dX12_isLeft_61 (fun r_27 u H locs hw hP hD hS => ?_)
                refine exE hw (fun b_26 hw1 => anE hw1 (fun hb1_28 hw2 => anE hw2 (fun hb2_29 hw3 => anE hw3 (fun er_31 eu_30 => ?_))))
                clear hw hw1 hw2 hw3
                subst er_31
                refine o_mgE (ws' := [(mm, .inr (12, mo g (nI ta) (nI pa) (nI pe) pd (nI pb) pp pf pg pn rt rn (nI cd) sn (nI il) tk am at_ aa mt_ (nI bh) wd wt wy (nI it_) (nI rm) (nI ud) (nI nu) sd (nI qn) (nI qw) qo (nI qb) (nI qp) qa (nI qi) (nI oc))), (g 31, .inl (cI, 120, .inl nw)), (g 38, .inl (cI, 90, .inl ws_)), (g 53, .inl (cI, 32, .inl rw_))]) eu_30 hP hD rfl (fun hP hD => ?_)
                refine lv_if_ne (tgt := 91) hx hb dX12_isLeft_64 (by decide) (fun c_32 => ?_) (fun c_32 => ?_)
                · have c_32 : ¬ (b_26 = 0) := fun h => c_32 ((neq b_26 0 (by omega) (by omega)).mpr h)
                  refine lv_iconst (v := 0) hx hb dX12_isLeft_91 (by decide) ?_
                  exact sk_iret hx hb hr rfl hlocks hK hP hD hS (⟨0, by omega, rfl, rfl⟩) (Nat.le_of_ble_eq_true rfl) (Nat.le_of_ble_eq_true rfl) dX12_isLeft_92
                · have c_32 : b_26 = 0 := (neq b_26 0 (by omega) (by omega)).mp c_32
                  refine lv_aload_n hx hb dX12_isLeft_67 rfl (lv_at hl 1 rfl) ?_
                  refine sk_get (v := .ref (g 38)) (C := RX12) (T := TX12) (N := 92) hx hb hts inlX12 hown hK hP 0 rfl rfl 38 (by decide) w_5_193 rfl dX12_isLeft_68 ?_
                  refine lv_bipush (v := 10) hx hb dX12_isLeft_71 (by decide) ?_
                  refine lv_iload_n hx hb dX12_isLeft_73 rfl (lv_at hl 2 rfl) ?_
                  refine lv_imul hx hb dX12_isLeft_74 ?_
                  refine sk_top (nI (10 * d)) (nmul 10 d) ?_
                  refine lv_iload_n hx hb dX12_isLeft_75 rfl (lv_at hl 3 rfl) ?_
                  refine lv_iadd hx hb dX12_isLeft_76 ?_
                  refine sk_top (nI (10 * d + o)) (nI_add (10 * d) o) ?_
                  refine va_iald hx hb hK.1 hP 2 0 rfl rfl (vin (10 * d + o) 90 (by omega) (by omega)) dX12_isLeft_77 ?_
                  refine lv_topi (fun v_33 ev_33 => ?_)
                  refine lv_aload_n hx hb dX12_isLeft_78 rfl (lv_at hl 1 rfl) ?_
                  refine sk_get (v := .ref (g 53)) (C := RX12) (T := TX12) (N := 92) hx hb hts inlX12 hown hK hP 0 rfl rfl 53 (by decide) w_5_208 rfl dX12_isLeft_79 ?_
                  refine lv_iconst (v := 2) hx hb dX12_isLeft_82 (by decide) ?_
                  refine lv_iload_n hx hb dX12_isLeft_83 rfl (lv_at hl 0 rfl) ?_
                  refine lv_imul hx hb dX12_isLeft_84 ?_
                  refine sk_top (nI (2 * i)) (nmul 2 i) ?_
                  refine lv_iconst (v := 1) hx hb dX12_isLeft_85 (by decide) ?_
                  refine lv_iadd hx hb dX12_isLeft_86 ?_
                  refine sk_top (nI (2 * i + 1)) (nI_add (2 * i) 1) ?_
                  refine va_iald hx hb hK.1 hP 3 0 rfl rfl (vin (2 * i + 1) 32 (by omega) (by omega)) dX12_isLeft_87 ?_
                  refine lv_topi (fun v_34 ev_34 => ?_)
                  refine lv_icmp_eq (tgt := 93) hx hb dX12_isLeft_88 (by decide) (fun c_35 => ?_) (fun c_35 => ?_)
                  · skip
                    refine lv_iinc (v := nI (i + 1)) (lv' := [(3, .int (nI (i + 1))), (0, .ref mm), (1, .int (nI d)), (2, .int (nI o))]) hx hb dX12_isLeft_93 hl (k := 0) rfl (ninc i 1 (by decide)) (by decide) rfl (fun ls hl => ?_)
                    refine lv_goto (tgt := 39) hx hb dX12_isLeft_96 (by decide) ?_
                    exact ih_lp_21 (i + 1) _ _ _ (by omega) (by omega) hP hD hS (lv_sub hl [0, 1, 2, 3] rfl)
                  · skip
                    refine lv_iconst (v := 0) hx hb dX12_isLeft_91 (by decide) ?_
                    exact sk_iret hx hb hr rfl hlocks hK hP hD hS (⟨0, by omega, rfl, rfl⟩) (Nat.le_of_ble_eq_true rfl) (Nat.le_of_ble_eq_true rfl) dX12_isLeft_92
        exact lp_21 (17 - 0 + 1) 0 _ _ _ (Nat.lt_succ_self _) (by omega) hP hD hS (lv_sub hl [0, 1, 2, 3] rfl)
      · have c_20 : bh = 0 := (neq bh 0 (by omega) (by omega)).mp c_20
        refine lv_iconst (v := 1) hx hb dX12_isLeft_35 (by decide) ?_
        exact sk_iret hx hb hr rfl hlocks hK hP hD hS (⟨1, by omega, rfl, rfl⟩) (Nat.le_of_ble_eq_true rfl) (Nat.le_of_ble_eq_true rfl) dX12_isLeft_36
    · skip
      refine lv_iconst (v := 0) hx hb dX12_isLeft_26 (by decide) ?_
      exact sk_iret hx hb hr rfl hlocks hK hP hD hS (⟨0, by omega, rfl, rfl⟩) (Nat.le_of_ble_eq_true rfl) (Nat.le_of_ble_eq_true rfl) dX12_isLeft_27
