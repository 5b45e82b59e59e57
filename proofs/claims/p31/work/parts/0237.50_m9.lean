theorem dX12_bestBehind_58 : decode cX12_bestBehind 58 = .ok (.iload 4, 2) := q_iload (bat_get dg_X12_bestBehind_0_0 38 rfl rfl)
theorem dX12_bestBehind_60 : decode cX12_bestBehind 60 = .ok (.iadd, 1) := q_iadd (bat_get dg_X12_bestBehind_0_0 39 rfl rfl)
theorem dg_X12_bestBehind_42_61 : bqL cX12_bestBehind 42 [(19, [47]), (20, [42]), (21, [180, 0, 92]), (24, [16, 10]), (26, [27]), (27, [104]), (28, [29]), (29, [96]), (30, [47]), (31, [148]), (32, [158, 0, 6]), (0, [167, 0, 38])] = true := by decide +kernel
theorem dX12_bestBehind_61 : decode cX12_bestBehind 61 = .ok (.laload, 1) := q_laload (bat_get dg_X12_bestBehind_42_61 0 rfl rfl)
theorem dX12_bestBehind_62 : decode cX12_bestBehind 62 = .ok (.aload_n 0, 1) := q_aload_n0 (bat_get dg_X12_bestBehind_42_61 1 rfl rfl)
theorem dX12_bestBehind_63 : decode cX12_bestBehind 63 = .ok (.getfield 92, 3) := q_getfield (bat_get dg_X12_bestBehind_42_61 2 rfl rfl) rfl
theorem dX12_bestBehind_66 : decode cX12_bestBehind 66 = .ok (.bipush 10, 2) := q_bipush (bat_get dg_X12_bestBehind_42_61 3 rfl rfl) rfl
theorem dX12_bestBehind_68 : decode cX12_bestBehind 68 = .ok (.iload_n 1, 1) := q_iload_n1 (bat_get dg_X12_bestBehind_42_61 4 rfl rfl)
theorem dX12_bestBehind_69 : decode cX12_bestBehind 69 = .ok (.imul, 1) := q_imul (bat_get dg_X12_bestBehind_42_61 5 rfl rfl)
theorem dX12_bestBehind_70 : decode cX12_bestBehind 70 = .ok (.iload_n 3, 1) := q_iload_n3 (bat_get dg_X12_bestBehind_42_61 6 rfl rfl)
theorem dX12_bestBehind_71 : decode cX12_bestBehind 71 = .ok (.iadd, 1) := q_iadd (bat_get dg_X12_bestBehind_42_61 7 rfl rfl)
theorem dX12_bestBehind_72 : decode cX12_bestBehind 72 = .ok (.laload, 1) := q_laload (bat_get dg_X12_bestBehind_42_61 8 rfl rfl)
theorem dX12_bestBehind_73 : decode cX12_bestBehind 73 = .ok (.lcmp, 1) := q_lcmp (bat_get dg_X12_bestBehind_42_61 9 rfl rfl)
theorem dX12_bestBehind_74 : decode cX12_bestBehind 74 = .ok (.ifCond .le 6, 3) := q_ifCond_le (bat_get dg_X12_bestBehind_42_61 10 rfl rfl) rfl
theorem dX12_bestBehind_42 : decode cX12_bestBehind 42 = .ok (.goto 38, 3) := q_goto (bat_get dg_X12_bestBehind_42_61 11 rfl rfl) rfl
theorem w_8_52 : (Cond.code yX12_bestBehind cX12_bestBehind 5 (some .int)) ∈ wsL_law := sk_mem (ck_8 _ (List.mem_of_getElem? (i := 52) rfl)) rfl
set_option maxHeartbeats 4000000 in
set_option maxRecDepth 100000 in
theorem c_m_bestBehind (l : Launch) (D : va_G) (cI cJ cC cZ cS : ClassId) (mm : Nat) (g : Nat → Nat) (ta : Nat) (pa : Nat) (pe : Nat) (pd : Int32) (pb : Nat) (pp : Int32) (pf : Int32) (pg : Int32) (pn : Int32) (rt : Int32) (rn : Int32) (cd : Nat) (sn : Int32) (il : Nat) (tk : Int32) (am : Int32) (at_ : Int32) (aa : Int32) (wt : Int32) (wy : Int64) (rm : Nat) (ud : Nat) (nu : Nat) (sd : Int64) (qn : Nat) (qw : Nat) (qo : Int32) (qb : Nat) (qp : Nat) (qa : Int64) (qi : Nat) (oc : Nat) (d : Nat) (aa_ : Int32) (nw : Nat → Int32) (yo : Nat → Int32) (yw : Nat → Int32) (py : Nat → Int64) (hd : d < 9) (hav : mdAt aa_ d) (hnw : nowOk nw) : skM l yX12_bestBehind cX12_bestBehind 5 (some .int) 3 66 0 0 D (skT cI cJ cC cZ cS) [.ref mm, .int (nI d), .int aa_] [(mm, .inr (12, mo g (nI ta) (nI pa) (nI pe) pd (nI pb) pp pf pg pn rt rn (nI cd) sn (nI il) tk am at_ aa 0 0 (-1) wt wy 0 (nI rm) (nI ud) (nI nu) sd (nI qn) (nI qw) qo (nI qb) (nI qp) qa (nI qi) (nI oc))), (g 31, .inl (cI, 120, .inl nw)), (g 37, .inl (cZ, 900, .inl yo)), (g 36, .inl (cZ, 900, .inl yw)), (g 48, .inl (cJ, 90, .inr (.inl py)))] (skI D (skT cI cJ cC cZ cS) (fun (r : Int32) (u : va_W) => mdOk r ∧ u = [(mm, .inr (12, mo g (nI ta) (nI pa) (nI pe) pd (nI pb) pp pf pg pn rt rn (nI cd) sn (nI il) tk am at_ aa 0 0 (-1) wt wy 0 (nI rm) (nI ud) (nI nu) sd (nI qn) (nI qw) qo (nI qb) (nI qp) qa (nI qi) (nI oc))), (g 31, .inl (cI, 120, .inl nw)), (g 37, .inl (cZ, 900, .inl yo)), (g 36, .inl (cZ, 900, .inl yw)), (g 48, .inl (cJ, 90, .inr (.inl py)))])) := by
  refine skM_of pf_X12_bestBehind (Nat.le_of_ble_eq_true rfl) ?_
  intro p e s m below meth c A ls E hP hD hl
  refine skE_el E (fun hx hb hr hml hlocks hin hown hts hK hA => ?_)
  have hown : s.vm.findClass RX12 = some m.cls := hown
  have hS : va_S A s.heap s.heap [] := va_S.rf
  have hl : lv_has ls 5 [(0, .ref mm), (1, .int (nI d)), (2, .int aa_)] := hl
  refine lv_iconst (v := (-1)) hx hb dX12_bestBehind_0 (by decide) ?_
  refine lv_istore_n (lv' := [(3, .int (-1)), (0, .ref mm), (1, .int (nI d)), (2, .int aa_)]) hx hb dX12_bestBehind_1 rfl hl (by decide) rfl (fun ls hl => ?_)
  refine lv_iconst (v := 0) hx hb dX12_bestBehind_2 (by decide) ?_
  refine lv_istore (lv' := [(4, .int 0), (3, .int (-1)), (0, .ref mm), (1, .int (nI d)), (2, .int aa_)]) hx hb dX12_bestBehind_3 hl (by decide) rfl (fun ls hl => ?_)
  have lp_1 : ∀ (n_2 : Nat) (i : Nat) (bs_ : Int32) (H : Heap) (locs : List Loc) (ls : Array Slot), 10 - i < n_2 → (i ≤ 10) → (mdOk bs_) → va_P D vwCl [(mm, .inr (12, mo g (nI ta) (nI pa) (nI pe) pd (nI pb) pp pf pg pn rt rn (nI cd) sn (nI il) tk am at_ aa 0 0 (-1) wt wy 0 (nI rm) (nI ud) (nI nu) sd (nI qn) (nI qw) qo (nI qb) (nI qp) qa (nI qi) (nI oc))), (g 31, .inl (cI, 120, .inl nw)), (g 37, .inl (cZ, 900, .inl yo)), (g 36, .inl (cZ, 900, .inl yw)), (g 48, .inl (cJ, 90, .inr (.inl py)))] H → va_D A [(mm, .inr (12, mo g (nI ta) (nI pa) (nI pe) pd (nI pb) pp pf pg pn rt rn (nI cd) sn (nI il) tk am at_ aa 0 0 (-1) wt wy 0 (nI rm) (nI ud) (nI nu) sd (nI qn) (nI qw) qo (nI qb) (nI qp) qa (nI qi) (nI oc))), (g 31, .inl (cI, 120, .inl nw)), (g 37, .inl (cZ, 900, .inl yo)), (g 36, .inl (cZ, 900, .inl yw)), (g 48, .inl (cJ, 90, .inr (.inl py)))] → va_S A s.heap H locs → lv_has ls 5 [(4, .int (nI i)), (3, .int bs_), (0, .ref mm), (1, .int (nI d)), (2, .int aa_)] → W p l e { frames := 3, cells := 0, slots := 0, locals := 66 } s m ([.ref mm, .int (nI d), .int aa_] : List Value).toArray below meth c H locs 0 0 (MQ below (skI D (skT cI cJ cC cZ cS) (fun (r : Int32) (u : va_W) => mdOk r ∧ u = [(mm, .inr (12, mo g (nI ta) (nI pa) (nI pe) pd (nI pb) pp pf pg pn rt rn (nI cd) sn (nI il) tk am at_ aa 0 0 (-1) wt wy 0 (nI rm) (nI ud) (nI nu) sd (nI qn) (nI qw) qo (nI qb) (nI qp) qa (nI qi) (nI oc))), (g 31, .inl (cI, 120, .inl nw)), (g 37, .inl (cZ, 900, .inl yo)), (g 36, .inl (cZ, 900, .inl yw)), (g 48, .inl (cJ, 90, .inr (.inl py)))]) A) ([.ref mm, .int (nI d), .int aa_] : List Value).toArray s 0 0 A) (F0 m 5 ls []) := by
    intro n_2
    induction n_2 with
    | zero => intro i bs_ H locs ls hm; exact absurd hm (Nat.not_lt_zero _)
    | succ n_2 ih_lp_1 =>
      intro i bs_ H locs ls hm hi hbs hP hD hS hl
      refine lv_iload hx hb dX12_bestBehind_5 (lv_at hl 0 rfl) ?_
      refine lv_bipush (v := 10) hx hb dX12_bestBehind_7 (by decide) ?_
      refine lv_icmp_ge (tgt := 86) hx hb dX12_bestBehind_9 (by decide) (fun c_3 => ?_) (fun c_3 => ?_)
      · have c_3 : 10 ≤ i := (nle 10 i (by omega) (by omega)).mp c_3
        refine lv_iload_n hx hb dX12_bestBehind_86 rfl (lv_at hl 1 rfl) ?_
        exact sk_iret hx hb hr rfl hlocks hK hP hD hS (⟨hbs, rfl⟩) (Nat.le_of_ble_eq_true rfl) (Nat.le_of_ble_eq_true rfl) dX12_bestBehind_87
      · have c_3 : ¬ (10 ≤ i) := fun h => c_3 ((nle 10 i (by omega) (by omega)).mpr h)
        refine lv_aload_n hx hb dX12_bestBehind_12 rfl (lv_at hl 2 rfl) ?_
        refine lv_iload_n hx hb dX12_bestBehind_13 rfl (lv_at hl 3 rfl) ?_
        refine lv_iload_n hx hb dX12_bestBehind_14 rfl (lv_at hl 4 rfl) ?_
        refine lv_iload hx hb dX12_bestBehind_15 (lv_at hl 0 rfl) ?_
        refine sk_Vi (q0 := 0) (n := 3) (rest := []) (wr := fmR om_5_1e _) ⟨hx, hb, hml, hown, hts⟩ hl.1 (c_m_canFollowI l D cI cJ cC cZ cS mm g ta pa pe pd pb pp pf pg pn rt rn cd sn il tk am at_ aa wt wy rm ud nu sd qn qw qo qb qp qa qi oc d aa_ i nw yo yw (by omega) (by omega) hav hnw) w_7_201 w_7_203 w_0_85 w_1_14 w_7_204 hd_X12_canFollow_3 ⟨⟨(Nat.le_of_ble_eq_true rfl), (Nat.le_of_ble_eq_true rfl)⟩, (Nat.le_of_ble_eq_true rfl), (Nat.le_of_ble_eq_true rfl)⟩ hK hP hD hS hA (fmT om_5_1e 0) (fmF om_5_1e 0) (fm_C1 rfl rfl) (fm_R rfl rfl) (fm_nT om_5_1e 0) (fm_nF om_5_1e 0) (fm_di om_5_1e 0) rfl rfl rfl rfl (Nat.le_of_ble_eq_true rfl) dX12_bestBehind_17 (fun r_5 u H locs hw hP hD hS => ?_)
        refine exE hw (fun b_4 hw1 => anE hw1 (fun hb1_6 hw2 => anE hw2 (fun er_8 eu_7 => ?_)))
        clear hw hw1 hw2
        subst er_8
        refine o_mgE (ws' := [(mm, .inr (12, mo g (nI ta) (nI pa) (nI pe) pd (nI pb) pp pf pg pn rt rn (nI cd) sn (nI il) tk am at_ aa 0 0 (-1) wt wy 0 (nI rm) (nI ud) (nI nu) sd (nI qn) (nI qw) qo (nI qb) (nI qp) qa (nI qi) (nI oc))), (g 31, .inl (cI, 120, .inl nw)), (g 37, .inl (cZ, 900, .inl yo)), (g 36, .inl (cZ, 900, .inl yw)), (g 48, .inl (cJ, 90, .inr (.inl py)))]) eu_7 hP hD rfl (fun hP hD => ?_)
        refine lv_if_eq (tgt := 80) hx hb dX12_bestBehind_20 (by decide) (fun c_9 => ?_) (fun c_9 => ?_)
        · have c_9 : b_4 = 0 := (neq b_4 0 (by omega) (by omega)).mp c_9
          refine lv_iinc (v := nI (i + 1)) (lv' := [(4, .int (nI (i + 1))), (3, .int bs_), (0, .ref mm), (1, .int (nI d)), (2, .int aa_)]) hx hb dX12_bestBehind_80 hl (k := 0) rfl (ninc i 1 (by decide)) (by decide) rfl (fun ls hl => ?_)
          refine lv_goto (tgt := 5) hx hb dX12_bestBehind_83 (by decide) ?_
          exact ih_lp_1 (i + 1) bs_ _ _ _ (by omega) (by omega) hbs hP hD hS (lv_sub hl [0, 1, 2, 3, 4] rfl)
        · have c_9 : ¬ (b_4 = 0) := fun h => c_9 ((neq b_4 0 (by omega) (by omega)).mpr h)
          refine lv_aload_n hx hb dX12_bestBehind_23 rfl (lv_at hl 2 rfl) ?_
          refine sk_get (v := .ref (g 48)) (C := RX12) (T := TX12) (N := 92) hx hb hts inlX12 hown hK hP 0 rfl rfl 48 (by decide) w_5_203 rfl dX12_bestBehind_24 ?_
          refine lv_bipush (v := 10) hx hb dX12_bestBehind_27 (by decide) ?_
          refine lv_iload_n hx hb dX12_bestBehind_29 rfl (lv_at hl 3 rfl) ?_
          refine lv_imul hx hb dX12_bestBehind_30 ?_
          refine sk_top (nI (10 * d)) (nmul 10 d) ?_
          refine lv_iload hx hb dX12_bestBehind_31 (lv_at hl 0 rfl) ?_
          refine lv_iadd hx hb dX12_bestBehind_33 ?_
          refine sk_top (nI (10 * d + i)) (nI_add (10 * d) i) ?_
          refine va_lald hx hb hK.1 hP 4 1 rfl rfl (vin (10 * d + i) 90 (by omega) (by omega)) dX12_bestBehind_34 ?_
          refine lv_topl (fun v_10 ev_10 => ?_)
          refine lv_ldc2 (v := (-1000000000000000)) hx hb hown (hts _ w_7_184) dX12_bestBehind_35 ?_
          refine W.lcmp hx hb dX12_bestBehind_38 ?_
          refine lv_if_ne (tgt := 45) hx hb dX12_bestBehind_39 (by decide) (fun c_11 => ?_) (fun c_11 => ?_)
          · skip
            refine lv_iload_n hx hb dX12_bestBehind_45 rfl (lv_at hl 1 rfl) ?_
            refine lv_iconst (v := (-1)) hx hb dX12_bestBehind_46 (by decide) ?_
            refine lv_icmp_eq (tgt := 77) hx hb dX12_bestBehind_47 (by decide) (fun c_12 => ?_) (fun c_12 => ?_)
            · skip
              refine lv_iload hx hb dX12_bestBehind_77 (lv_at hl 0 rfl) ?_
              refine lv_istore_n (lv' := [(3, .int (nI i)), (4, .int (nI i)), (0, .ref mm), (1, .int (nI d)), (2, .int aa_)]) hx hb dX12_bestBehind_79 rfl hl (by decide) rfl (fun ls hl => ?_)
              refine lv_iinc (v := nI (i + 1)) (lv' := [(4, .int (nI (i + 1))), (3, .int (nI i)), (0, .ref mm), (1, .int (nI d)), (2, .int aa_)]) hx hb dX12_bestBehind_80 hl (k := 1) rfl (ninc i 1 (by decide)) (by decide) rfl (fun ls hl => ?_)
              refine lv_goto (tgt := 5) hx hb dX12_bestBehind_83 (by decide) ?_
              exact ih_lp_1 (i + 1) (nI i) _ _ _ (by omega) (by omega) (mdOk_n (k := i) (by omega)) hP hD hS (lv_sub hl [0, 1, 2, 3, 4] rfl)
            · skip
              refine lv_aload_n hx hb dX12_bestBehind_50 rfl (lv_at hl 2 rfl) ?_
              refine sk_get (v := .ref (g 48)) (C := RX12) (T := TX12) (N := 92) hx hb hts inlX12 hown hK hP 0 rfl rfl 48 (by decide) w_5_203 rfl dX12_bestBehind_51 ?_
              refine lv_bipush (v := 10) hx hb dX12_bestBehind_54 (by decide) ?_
              refine lv_iload_n hx hb dX12_bestBehind_56 rfl (lv_at hl 3 rfl) ?_
              refine lv_imul hx hb dX12_bestBehind_57 ?_
              refine sk_top (nI (10 * d)) (nmul 10 d) ?_
              refine lv_iload hx hb dX12_bestBehind_58 (lv_at hl 0 rfl) ?_
              refine lv_iadd hx hb dX12_bestBehind_60 ?_
              refine sk_top (nI (10 * d + i)) (nI_add (10 * d) i) ?_
              refine va_lald hx hb hK.1 hP 4 1 rfl rfl (vin (10 * d + i) 90 (by omega) (by omega)) dX12_bestBehind_61 ?_
              refine lv_topl (fun v_13 ev_13 => ?_)
              refine lv_aload_n hx hb dX12_bestBehind_62 rfl (lv_at hl 2 rfl) ?_
              refine sk_get (v := .ref (g 48)) (C := RX12) (T := TX12) (N := 92) hx hb hts inlX12 hown hK hP 0 rfl rfl 48 (by decide) w_5_203 rfl dX12_bestBehind_63 ?_
              refine lv_bipush (v := 10) hx hb dX12_bestBehind_66 (by decide) ?_
              refine lv_iload_n hx hb dX12_bestBehind_68 rfl (lv_at hl 3 rfl) ?_
              refine lv_imul hx hb dX12_bestBehind_69 ?_
              refine sk_top (nI (10 * d)) (nmul 10 d) ?_
              refine lv_iload_n hx hb dX12_bestBehind_70 rfl (lv_at hl 1 rfl) ?_
              refine lv_iadd hx hb dX12_bestBehind_71 ?_
              obtain ⟨kb, hkb, ekb⟩ := mdOk_k hbs c_12
              refine sk_top (nI (10 * d + kb)) (add_k ekb) ?_
              refine va_lald hx hb hK.1 hP 4 1 rfl rfl (vin (10 * d + kb) 90 (by omega) (by omega)) dX12_bestBehind_72 ?_
              refine lv_topl (fun v_14 ev_14 => ?_)
              refine W.lcmp hx hb dX12_bestBehind_73 ?_
              refine lv_if_le (tgt := 80) hx hb dX12_bestBehind_74 (by decide) (fun c_15 => ?_) (fun c_15 => ?_)
              · skip
                refine lv_iinc (v := nI (i + 1)) (lv' := [(4, .int (nI (i + 1))), (3, .int bs_), (0, .ref mm), (1, .int (nI d)), (2, .int aa_)]) hx hb dX12_bestBehind_80 hl (k := 0) rfl (ninc i 1 (by decide)) (by decide) rfl (fun ls hl => ?_)
                refine lv_goto (tgt := 5) hx hb dX12_bestBehind_83 (by decide) ?_
                exact ih_lp_1 (i + 1) bs_ _ _ _ (by omega) (by omega) hbs hP hD hS (lv_sub hl [0, 1, 2, 3, 4] rfl)
              · skip
                refine lv_iload hx hb dX12_bestBehind_77 (lv_at hl 0 rfl) ?_
                refine lv_istore_n (lv' := [(3, .int (nI i)), (4, .int (nI i)), (0, .ref mm), (1, .int (nI d)), (2, .int aa_)]) hx hb dX12_bestBehind_79 rfl hl (by decide) rfl (fun ls hl => ?_)
                refine lv_iinc (v := nI (i + 1)) (lv' := [(4, .int (nI (i + 1))), (3, .int (nI i)), (0, .ref mm), (1, .int (nI d)), (2, .int aa_)]) hx hb dX12_bestBehind_80 hl (k := 1) rfl (ninc i 1 (by decide)) (by decide) rfl (fun ls hl => ?_)
                refine lv_goto (tgt := 5) hx hb dX12_bestBehind_83 (by decide) ?_
                exact ih_lp_1 (i + 1) (nI i) _ _ _ (by omega) (by omega) (mdOk_n (k := i) (by omega)) hP hD hS (lv_sub hl [0, 1, 2, 3, 4] rfl)
          · skip
            refine lv_goto (tgt := 80) hx hb dX12_bestBehind_42 (by decide) ?_
            refine lv_iinc (v := nI (i + 1)) (lv' := [(4, .int (nI (i + 1))), (3, .int bs_), (0, .ref mm), (1, .int (nI d)), (2, .int aa_)]) hx hb dX12_bestBehind_80 hl (k := 0) rfl (ninc i 1 (by decide)) (by decide) rfl (fun ls hl => ?_)
            refine lv_goto (tgt := 5) hx hb dX12_bestBehind_83 (by decide) ?_
            exact ih_lp_1 (i + 1) bs_ _ _ _ (by omega) (by omega) hbs hP hD hS (lv_sub hl [0, 1, 2, 3, 4] rfl)
  exact lp_1 (10 - 0 + 1) 0 (-1) _ _ _ (Nat.lt_succ_self _) (by omega) (Or.inr rfl) hP hD hS (lv_sub hl [0, 1, 2, 3, 4] rfl)
theorem dg_X12_pay_0_0 : bqL cX12_pay 0 [(0, [42]), (1, [180, 1, 46]), (4, [154, 0, 7]), (11, [42]), (12, [182, 1, 186]), (15, [42]), (16, [3]), (17, [42]), (18, [180, 0, 63]), (21, [4]), (22, [46]), (23, [182, 1, 189]), (26, [60]), (27, [27]), (28, [2]), (29, [160, 0, 9]), (38, [42]), (39, [180, 0, 92]), (42, [27]), (43, [47]), (44, [173]), (32, [20, 1, 165]), (35, [167, 0, 9]), (7, [20, 1, 165]), (10, [173])] = true := by decide +kernel
theorem dX12_pay_0 : decode cX12_pay 0 = .ok (.aload_n 0, 1) := q_aload_n0 (bat_get dg_X12_pay_0_0 0 rfl rfl)
theorem dX12_pay_1 : decode cX12_pay 1 = .ok (.getfield 302, 3) := q_getfield (bat_get dg_X12_pay_0_0 1 rfl rfl) rfl
theorem dX12_pay_4 : decode cX12_pay 4 = .ok (.ifCond .ne 7, 3) := q_ifCond_ne (bat_get dg_X12_pay_0_0 2 rfl rfl) rfl
