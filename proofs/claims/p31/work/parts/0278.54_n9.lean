theorem dX12_feed_79 : decode cX12_feed 79 = .ok (.iload 5, 2) := q_iload (bat_get dg_X12_feed_0_0 26 rfl rfl)
theorem dX12_feed_81 : decode cX12_feed 81 = .ok (.istore 7, 2) := q_istore (bat_get dg_X12_feed_0_0 27 rfl rfl)
theorem dX12_feed_83 : decode cX12_feed 83 = .ok (.aload_n 0, 1) := q_aload_n0 (bat_get dg_X12_feed_0_0 28 rfl rfl)
theorem dX12_feed_84 : decode cX12_feed 84 = .ok (.getfield 7, 3) := q_getfield (bat_get dg_X12_feed_0_0 29 rfl rfl) rfl
theorem dX12_feed_87 : decode cX12_feed 87 = .ok (.aload_n 0, 1) := q_aload_n0 (bat_get dg_X12_feed_0_0 30 rfl rfl)
theorem dX12_feed_88 : decode cX12_feed 88 = .ok (.getfield 192, 3) := q_getfield (bat_get dg_X12_feed_0_0 31 rfl rfl) rfl
theorem dX12_feed_91 : decode cX12_feed 91 = .ok (.iload 7, 2) := q_iload (bat_get dg_X12_feed_0_0 32 rfl rfl)
theorem dX12_feed_93 : decode cX12_feed 93 = .ok (.bipush 8, 2) := q_bipush (bat_get dg_X12_feed_0_0 33 rfl rfl) rfl
theorem dX12_feed_95 : decode cX12_feed 95 = .ok (.iconst 3, 1) := q_iconst3 (bat_get dg_X12_feed_0_0 34 rfl rfl)
theorem dX12_feed_96 : decode cX12_feed 96 = .ok (.iload 6, 2) := q_iload (bat_get dg_X12_feed_0_0 35 rfl rfl)
theorem dX12_feed_98 : decode cX12_feed 98 = .ok (.iconst 4, 1) := q_iconst4 (bat_get dg_X12_feed_0_0 36 rfl rfl)
theorem dX12_feed_99 : decode cX12_feed 99 = .ok (.irem, 1) := q_irem (bat_get dg_X12_feed_0_0 37 rfl rfl)
theorem dX12_feed_100 : decode cX12_feed 100 = .ok (.isub, 1) := q_isub (bat_get dg_X12_feed_0_0 38 rfl rfl)
theorem dX12_feed_101 : decode cX12_feed 101 = .ok (.imul, 1) := q_imul (bat_get dg_X12_feed_0_0 39 rfl rfl)
theorem dg_X12_feed_13_102 : bqL cX12_feed 13 [(89, [122]), (90, [17, 0, 255]), (93, [126]), (94, [79]), (95, [42]), (96, [89]), (97, [180, 0, 192]), (100, [4]), (101, [96]), (102, [181, 0, 192]), (105, [132, 6, 1]), (108, [167, 255, 163]), (61, [21, 4]), (63, [167, 0, 5]), (50, [29]), (51, [167, 0, 17]), (39, [28]), (40, [167, 0, 28]), (28, [27]), (29, [167, 0, 39]), (0, [42]), (1, [180, 0, 17]), (4, [3]), (5, [92]), (6, [46]), (7, [4]), (8, [96]), (9, [79]), (10, [2]), (11, [172])] = true := by decide +kernel
theorem dX12_feed_102 : decode cX12_feed 102 = .ok (.ishr, 1) := q_ishr (bat_get dg_X12_feed_13_102 0 rfl rfl)
theorem dX12_feed_103 : decode cX12_feed 103 = .ok (.sipush 255, 3) := q_sipush (bat_get dg_X12_feed_13_102 1 rfl rfl) rfl
theorem dX12_feed_106 : decode cX12_feed 106 = .ok (.iand, 1) := q_iand (bat_get dg_X12_feed_13_102 2 rfl rfl)
theorem dX12_feed_107 : decode cX12_feed 107 = .ok (.iastore, 1) := q_iastore (bat_get dg_X12_feed_13_102 3 rfl rfl)
theorem dX12_feed_108 : decode cX12_feed 108 = .ok (.aload_n 0, 1) := q_aload_n0 (bat_get dg_X12_feed_13_102 4 rfl rfl)
theorem dX12_feed_109 : decode cX12_feed 109 = .ok (.dup, 1) := q_dup (bat_get dg_X12_feed_13_102 5 rfl rfl)
theorem dX12_feed_110 : decode cX12_feed 110 = .ok (.getfield 192, 3) := q_getfield (bat_get dg_X12_feed_13_102 6 rfl rfl) rfl
theorem dX12_feed_113 : decode cX12_feed 113 = .ok (.iconst 1, 1) := q_iconst1 (bat_get dg_X12_feed_13_102 7 rfl rfl)
theorem dX12_feed_114 : decode cX12_feed 114 = .ok (.iadd, 1) := q_iadd (bat_get dg_X12_feed_13_102 8 rfl rfl)
theorem dX12_feed_115 : decode cX12_feed 115 = .ok (.putfield 192, 3) := q_putfield (bat_get dg_X12_feed_13_102 9 rfl rfl) rfl
theorem dX12_feed_118 : decode cX12_feed 118 = .ok (.iinc 6 1, 3) := q_iinc (bat_get dg_X12_feed_13_102 10 rfl rfl) rfl
theorem dX12_feed_121 : decode cX12_feed 121 = .ok (.goto (-93), 3) := q_goto (bat_get dg_X12_feed_13_102 11 rfl rfl) rfl
theorem dX12_feed_74 : decode cX12_feed 74 = .ok (.iload 4, 2) := q_iload (bat_get dg_X12_feed_13_102 12 rfl rfl)
theorem dX12_feed_76 : decode cX12_feed 76 = .ok (.goto 5, 3) := q_goto (bat_get dg_X12_feed_13_102 13 rfl rfl) rfl
theorem dX12_feed_63 : decode cX12_feed 63 = .ok (.iload_n 3, 1) := q_iload_n3 (bat_get dg_X12_feed_13_102 14 rfl rfl)
theorem dX12_feed_64 : decode cX12_feed 64 = .ok (.goto 17, 3) := q_goto (bat_get dg_X12_feed_13_102 15 rfl rfl) rfl
theorem dX12_feed_52 : decode cX12_feed 52 = .ok (.iload_n 2, 1) := q_iload_n2 (bat_get dg_X12_feed_13_102 16 rfl rfl)
theorem dX12_feed_53 : decode cX12_feed 53 = .ok (.goto 28, 3) := q_goto (bat_get dg_X12_feed_13_102 17 rfl rfl) rfl
theorem dX12_feed_41 : decode cX12_feed 41 = .ok (.iload_n 1, 1) := q_iload_n1 (bat_get dg_X12_feed_13_102 18 rfl rfl)
theorem dX12_feed_42 : decode cX12_feed 42 = .ok (.goto 39, 3) := q_goto (bat_get dg_X12_feed_13_102 19 rfl rfl) rfl
theorem dX12_feed_13 : decode cX12_feed 13 = .ok (.aload_n 0, 1) := q_aload_n0 (bat_get dg_X12_feed_13_102 20 rfl rfl)
theorem dX12_feed_14 : decode cX12_feed 14 = .ok (.getfield 17, 3) := q_getfield (bat_get dg_X12_feed_13_102 21 rfl rfl) rfl
theorem dX12_feed_17 : decode cX12_feed 17 = .ok (.iconst 0, 1) := q_iconst0 (bat_get dg_X12_feed_13_102 22 rfl rfl)
theorem dX12_feed_18 : decode cX12_feed 18 = .ok (.dup2, 1) := q_dup2 (bat_get dg_X12_feed_13_102 23 rfl rfl)
theorem dX12_feed_19 : decode cX12_feed 19 = .ok (.iaload, 1) := q_iaload (bat_get dg_X12_feed_13_102 24 rfl rfl)
theorem dX12_feed_20 : decode cX12_feed 20 = .ok (.iconst 1, 1) := q_iconst1 (bat_get dg_X12_feed_13_102 25 rfl rfl)
theorem dX12_feed_21 : decode cX12_feed 21 = .ok (.iadd, 1) := q_iadd (bat_get dg_X12_feed_13_102 26 rfl rfl)
theorem dX12_feed_22 : decode cX12_feed 22 = .ok (.iastore, 1) := q_iastore (bat_get dg_X12_feed_13_102 27 rfl rfl)
theorem dX12_feed_23 : decode cX12_feed 23 = .ok (.iconst (-1), 1) := q_iconstm1 (bat_get dg_X12_feed_13_102 28 rfl rfl)
theorem dX12_feed_24 : decode cX12_feed 24 = .ok (.ireturn, 1) := q_ireturn (bat_get dg_X12_feed_13_102 29 rfl rfl)
theorem w_5_156 : (Cond.fieldLink RX12 192 "SameKeeperModel" "taped" "I") ∈ wsL_law := sk_mem (ck_5 _ (List.mem_of_getElem? (i := 156) rfl)) rfl
theorem w_6_197 : (Cond.code yX12_feed cX12_feed 8 (some .int)) ∈ wsL_law := sk_mem (ck_6 _ (List.mem_of_getElem? (i := 197) rfl)) rfl
set_option maxHeartbeats 4000000 in
set_option maxRecDepth 100000 in
theorem c_nm_feed (l : Launch) (D : va_G) (cI cJ cC cZ cS : ClassId) (mm : Nat) (g : Nat → Nat) (ta : Nat) (pa : Nat) (pe : Nat) (pd : Int32) (pb : Nat) (pp : Int32) (pf : Int32) (pg : Int32) (pn : Int32) (rt : Int32) (rn : Int32) (cd : Nat) (sn : Int32) (il : Nat) (tk : Int32) (am : Int32) (at_ : Int32) (aa : Int32) (wt : Int32) (wy : Int64) (rm : Nat) (ud : Nat) (nu : Nat) (sd : Int64) (qn : Nat) (qw : Nat) (qo : Int32) (qb : Nat) (qp : Nat) (qa : Int64) (qi : Nat) (oc : Nat) (a1 : Int32) (a2 : Int32) (a3 : Int32) (a4 : Int32) (a5 : Int32) (tb : Nat → Nat) (rf : Nat → Int32) (hta : ta ≤ 1600) (htb : ∀ j, tb j ≤ 255) : skM l yX12_feed cX12_feed 8 (some .int) 0 0 0 0 D (skT cI cJ cC cZ cS) [.ref mm, .int a1, .int a2, .int a3, .int a4, .int a5] [(mm, .inr (12, mo g (nI ta) (nI pa) (nI pe) pd (nI pb) pp pf pg pn rt rn (nI cd) sn (nI il) tk am at_ aa 0 0 (-1) wt wy 0 (nI rm) (nI ud) (nI nu) sd (nI qn) (nI qw) qo (nI qb) (nI qp) qa (nI qi) (nI oc))), (g 0, .inl (cI, 1600, .inl (fun j => nI (tb j)))), (g 9, .inl (cI, 6, .inl rf))] (skI D (skT cI cJ cC cZ cS) (fun (r : Int32) (u : va_W) => ∃ (ta2 : Nat), ∃ (tb2 : Nat → Nat), ∃ (rf2 : Nat → Int32), ((ta ≤ 1580 ∧ ta2 = ta + 20 ∧ r = nI ta2 ∧ tb2 = feedT tb ta a1 a2 a3 a4 a5) ∨ (1580 < ta ∧ ta2 = ta ∧ r = -1 ∧ tb2 = tb)) ∧ ((ta ≤ 1580 ∧ rf2 = rf) ∨ (1580 < ta ∧ rf2 = upd rf 0 (rf 0 + 1))) ∧ (∀ j, tb2 j ≤ 255) ∧ u = [(mm, .inr (12, mo g (nI ta2) (nI pa) (nI pe) pd (nI pb) pp pf pg pn rt rn (nI cd) sn (nI il) tk am at_ aa 0 0 (-1) wt wy 0 (nI rm) (nI ud) (nI nu) sd (nI qn) (nI qw) qo (nI qb) (nI qp) qa (nI qi) (nI oc))), (g 0, .inl (cI, 1600, .inl (fun j => nI (tb2 j)))), (g 9, .inl (cI, 6, .inl rf2))])) := by
  refine skM_of pf_X12_feed (Nat.le_of_ble_eq_true rfl) ?_
  intro p e s m below meth c A ls E hP hD hl
  refine skE_el E (fun hx hb hr hml hlocks hin hown hts hK hA => ?_)
  have hown : s.vm.findClass RX12 = some m.cls := hown
  have hS : va_S A s.heap s.heap [] := va_S.rf
  have hl : lv_has ls 8 [(0, .ref mm), (1, .int a1), (2, .int a2), (3, .int a3), (4, .int a4), (5, .int a5)] := hl
  refine lv_aload_n hx hb dX12_feed_0 rfl (lv_at hl 0 rfl) ?_
  refine sk_get (v := .int (nI ta)) (C := RX12) (T := TX12) (N := 92) hx hb hts inlX12 hown hK hP 0 rfl rfl 1 (by decide) w_5_156 rfl dX12_feed_1 ?_
  refine lv_bipush (v := 20) hx hb dX12_feed_4 (by decide) ?_
  refine lv_iadd hx hb dX12_feed_6 ?_
  refine sk_top (nI (ta + 20)) (nI_add ta 20) ?_
  refine lv_sipush (v := 1600) hx hb dX12_feed_7 (by decide) ?_
  refine lv_icmp_le (tgt := 25) hx hb dX12_feed_10 (by decide) (fun c_1 => ?_) (fun c_1 => ?_)
  · have c_1 : ta + 20 ≤ 1600 := (nle (ta + 20) 1600 (by omega) (by omega)).mp c_1
    refine lv_iconst (v := 0) hx hb dX12_feed_25 (by decide) ?_
    refine lv_istore (lv' := [(6, .int 0), (0, .ref mm), (1, .int a1), (2, .int a2), (3, .int a3), (4, .int a4), (5, .int a5)]) hx hb dX12_feed_26 hl (by decide) rfl (fun ls hl => ?_)
    have lp_2 : ∀ (n_3 : Nat) (i : Nat) (zt : Nat) (zb : Nat → Nat) (H : Heap) (locs : List Loc) (ls : Array Slot), 20 - i < n_3 → (∀ j, zb j ≤ 255) → (i ≤ 20) → (zt = ta + i) → (zb = feedN tb ta (wByte a1 a2 a3 a4 a5) i) → va_P D vwCl [(mm, .inr (12, mo g (nI zt) (nI pa) (nI pe) pd (nI pb) pp pf pg pn rt rn (nI cd) sn (nI il) tk am at_ aa 0 0 (-1) wt wy 0 (nI rm) (nI ud) (nI nu) sd (nI qn) (nI qw) qo (nI qb) (nI qp) qa (nI qi) (nI oc))), (g 0, .inl (cI, 1600, .inl (fun j => nI (zb j)))), (g 9, .inl (cI, 6, .inl rf))] H → va_D A [(mm, .inr (12, mo g (nI zt) (nI pa) (nI pe) pd (nI pb) pp pf pg pn rt rn (nI cd) sn (nI il) tk am at_ aa 0 0 (-1) wt wy 0 (nI rm) (nI ud) (nI nu) sd (nI qn) (nI qw) qo (nI qb) (nI qp) qa (nI qi) (nI oc))), (g 0, .inl (cI, 1600, .inl (fun j => nI (zb j)))), (g 9, .inl (cI, 6, .inl rf))] → va_S A s.heap H locs → lv_has ls 8 [(6, .int (nI i)), (0, .ref mm), (1, .int a1), (2, .int a2), (3, .int a3), (4, .int a4), (5, .int a5)] → W p l e { frames := 0, cells := 0, slots := 0, locals := 0 } s m ([.ref mm, .int a1, .int a2, .int a3, .int a4, .int a5] : List Value).toArray below meth c H locs 0 0 (MQ below (skI D (skT cI cJ cC cZ cS) (fun (r : Int32) (u : va_W) => ∃ (ta2 : Nat), ∃ (tb2 : Nat → Nat), ∃ (rf2 : Nat → Int32), ((ta ≤ 1580 ∧ ta2 = ta + 20 ∧ r = nI ta2 ∧ tb2 = feedT tb ta a1 a2 a3 a4 a5) ∨ (1580 < ta ∧ ta2 = ta ∧ r = -1 ∧ tb2 = tb)) ∧ ((ta ≤ 1580 ∧ rf2 = rf) ∨ (1580 < ta ∧ rf2 = upd rf 0 (rf 0 + 1))) ∧ (∀ j, tb2 j ≤ 255) ∧ u = [(mm, .inr (12, mo g (nI ta2) (nI pa) (nI pe) pd (nI pb) pp pf pg pn rt rn (nI cd) sn (nI il) tk am at_ aa 0 0 (-1) wt wy 0 (nI rm) (nI ud) (nI nu) sd (nI qn) (nI qw) qo (nI qb) (nI qp) qa (nI qi) (nI oc))), (g 0, .inl (cI, 1600, .inl (fun j => nI (tb2 j)))), (g 9, .inl (cI, 6, .inl rf2))]) A) ([.ref mm, .int a1, .int a2, .int a3, .int a4, .int a5] : List Value).toArray s 0 0 A) (F0 m 28 ls []) := by
      intro n_3
      induction n_3 with
      | zero => intro i zt zb H locs ls hm; exact absurd hm (Nat.not_lt_zero _)
      | succ n_3 ih_lp_2 =>
        intro i zt zb H locs ls hm hzb hi hzt hzf hP hD hS hl
        refine lv_iload hx hb dX12_feed_28 (lv_at hl 0 rfl) ?_
        refine lv_bipush (v := 20) hx hb dX12_feed_30 (by decide) ?_
        refine lv_icmp_ge (tgt := 124) hx hb dX12_feed_32 (by decide) (fun c_4 => ?_) (fun c_4 => ?_)
        · have c_4 : 20 ≤ i := (nle 20 i (by omega) (by omega)).mp c_4
          refine lv_aload_n hx hb dX12_feed_124 rfl (lv_at hl 1 rfl) ?_
          refine sk_get (v := .int (nI zt)) (C := RX12) (T := TX12) (N := 92) hx hb hts inlX12 hown hK hP 0 rfl rfl 1 (by decide) w_5_156 rfl dX12_feed_125 ?_
          exact sk_iret hx hb hr rfl hlocks hK hP hD hS (⟨zt, zb, rf, Or.inl ⟨by omega, by omega, rfl, fd_20 hzf (by omega)⟩, Or.inl ⟨by omega, rfl⟩, hzb, rfl⟩) (Nat.le_of_ble_eq_true rfl) (Nat.le_of_ble_eq_true rfl) dX12_feed_128
        · have c_4 : ¬ (20 ≤ i) := fun h => c_4 ((nle 20 i (by omega) (by omega)).mpr h)
          refine lv_iload hx hb dX12_feed_35 (lv_at hl 0 rfl) ?_
          refine lv_iconst (v := 4) hx hb dX12_feed_37 (by decide) ?_
          refine lv_icmp_ge (tgt := 45) hx hb dX12_feed_38 (by decide) (fun c_5 => ?_) (fun c_5 => ?_)
          · have c_5 : 4 ≤ i := (nle 4 i (by omega) (by omega)).mp c_5
            refine lv_iload hx hb dX12_feed_45 (lv_at hl 0 rfl) ?_
            refine lv_bipush (v := 8) hx hb dX12_feed_47 (by decide) ?_
            refine lv_icmp_ge (tgt := 56) hx hb dX12_feed_49 (by decide) (fun c_6 => ?_) (fun c_6 => ?_)
            · have c_6 : 8 ≤ i := (nle 8 i (by omega) (by omega)).mp c_6
              refine lv_iload hx hb dX12_feed_56 (lv_at hl 0 rfl) ?_
              refine lv_bipush (v := 12) hx hb dX12_feed_58 (by decide) ?_
              refine lv_icmp_ge (tgt := 67) hx hb dX12_feed_60 (by decide) (fun c_7 => ?_) (fun c_7 => ?_)
              · have c_7 : 12 ≤ i := (nle 12 i (by omega) (by omega)).mp c_7
                refine lv_iload hx hb dX12_feed_67 (lv_at hl 0 rfl) ?_
                refine lv_bipush (v := 16) hx hb dX12_feed_69 (by decide) ?_
                refine lv_icmp_ge (tgt := 79) hx hb dX12_feed_71 (by decide) (fun c_8 => ?_) (fun c_8 => ?_)
                · have c_8 : 16 ≤ i := (nle 16 i (by omega) (by omega)).mp c_8
                  refine lv_iload hx hb dX12_feed_79 (lv_at hl 6 rfl) ?_
                  refine lv_istore (lv' := [(7, .int a5), (6, .int (nI i)), (0, .ref mm), (1, .int a1), (2, .int a2), (3, .int a3), (4, .int a4), (5, .int a5)]) hx hb dX12_feed_81 hl (by decide) rfl (fun ls hl => ?_)
                  refine lv_aload_n hx hb dX12_feed_83 rfl (lv_at hl 2 rfl) ?_
                  refine sk_get (v := .ref (g 0)) (C := RX12) (T := TX12) (N := 92) hx hb hts inlX12 hown hK hP 0 rfl rfl 0 (by decide) w_5_155 rfl dX12_feed_84 ?_
                  refine lv_aload_n hx hb dX12_feed_87 rfl (lv_at hl 2 rfl) ?_
                  refine sk_get (v := .int (nI zt)) (C := RX12) (T := TX12) (N := 92) hx hb hts inlX12 hown hK hP 0 rfl rfl 1 (by decide) w_5_156 rfl dX12_feed_88 ?_
                  refine lv_iload hx hb dX12_feed_91 (lv_at hl 0 rfl) ?_
                  refine lv_bipush (v := 8) hx hb dX12_feed_93 (by decide) ?_
                  refine lv_iconst (v := 3) hx hb dX12_feed_95 (by decide) ?_
                  refine lv_iload hx hb dX12_feed_96 (lv_at hl 1 rfl) ?_
                  refine lv_iconst (v := 4) hx hb dX12_feed_98 (by decide) ?_
                  refine lv_irem hx hb dX12_feed_99 (by decide) ?_
                  refine sk_top (nI (i % 4)) (nrem i 4 (by omega) (by omega) (by omega)) ?_
                  refine lv_isub hx hb dX12_feed_100 ?_
                  refine sk_top (nI (3 - (i % 4))) (nsub 3 (i % 4) (by omega)) ?_
                  refine lv_imul hx hb dX12_feed_101 ?_
                  refine sk_top (nI (8 * (3 - (i % 4)))) (nmul 8 (3 - (i % 4))) ?_
                  refine lv_ishr hx hb dX12_feed_102 ?_
                  refine lv_topi (fun v_9 ev_9 => ?_)
                  refine lv_sipush (v := 255) hx hb dX12_feed_103 (by decide) ?_
                  refine lv_iand hx hb dX12_feed_106 ?_
                  have hlo_10 := lo8_le v_9
                  refine sk_top (nI (lo8 v_9)) (lo8_eq v_9) ?_
                  refine sk_iastX (k := zt) (v := (lo8 v_9)) (B := 255) (ws' := fun f_11 => [(mm, .inr (12, mo g (nI zt) (nI pa) (nI pe) pd (nI pb) pp pf pg pn rt rn (nI cd) sn (nI il) tk am at_ aa 0 0 (-1) wt wy 0 (nI rm) (nI ud) (nI nu) sd (nI qn) (nI qw) qo (nI qb) (nI qp) qa (nI qi) (nI oc))), (g 0, .inl (cI, 1600, .inl (fun j => nI (f_11 j)))), (g 9, .inl (cI, 6, .inl rf))]) hx hb hK hP hD hS 1 0 rfl rfl (by omega) (by omega) hzb (by omega) (fun _ => rfl) dX12_feed_107 (fun f_11 H locs hf_12 ef_13 hP hD hS => ?_)
                  refine lv_aload_n hx hb dX12_feed_108 rfl (lv_at hl 2 rfl) ?_
                  refine lv_dup hx hb dX12_feed_109 rfl ?_
                  refine sk_get (v := .int (nI zt)) (C := RX12) (T := TX12) (N := 92) hx hb hts inlX12 hown hK hP 0 rfl rfl 1 (by decide) w_5_156 rfl dX12_feed_110 ?_
                  refine lv_iconst (v := 1) hx hb dX12_feed_113 (by decide) ?_
                  refine lv_iadd hx hb dX12_feed_114 ?_
                  refine sk_top (nI (zt + 1)) (nI_add zt 1) ?_
                  refine sk_put (ws' := [(mm, .inr (12, mo g (nI (zt + 1)) (nI pa) (nI pe) pd (nI pb) pp pf pg pn rt rn (nI cd) sn (nI il) tk am at_ aa 0 0 (-1) wt wy 0 (nI rm) (nI ud) (nI nu) sd (nI qn) (nI qw) qo (nI qb) (nI qp) qa (nI qi) (nI oc))), (g 0, .inl (cI, 1600, .inl (fun j => nI (f_11 j)))), (g 9, .inl (cI, 6, .inl rf))]) (C := RX12) (T := TX12) (N := 92) (v := .int (nI (zt + 1))) hx hb hts inlX12 tyX12 tyX12_ok nmX12 hown hK hP hD hS 0 rfl rfl 1 (by decide) w_5_156 rfl rfl rfl (Nat.le_of_ble_eq_true rfl) rfl dX12_feed_115 (fun H locs hP hD hS => ?_)
                  refine lv_iinc (v := nI (i + 1)) (lv' := [(6, .int (nI (i + 1))), (7, .int a5), (0, .ref mm), (1, .int a1), (2, .int a2), (3, .int a3), (4, .int a4), (5, .int a5)]) hx hb dX12_feed_118 hl (k := 1) rfl (ninc i 1 (by decide)) (by decide) rfl (fun ls hl => ?_)
                  refine lv_goto (tgt := 28) hx hb dX12_feed_121 (by decide) ?_
                  exact ih_lp_2 (i + 1) (zt + 1) f_11 _ _ _ (by omega) hf_12 (by omega) (by omega) (fd_s hzf hzt ef_13 ev_9 ((if_neg (by omega)).trans ((if_neg (by omega)).trans ((if_neg (by omega)).trans ((if_neg (by omega)).trans rfl))))) hP hD hS (lv_sub hl [0, 2, 3, 4, 5, 6, 7] rfl)
                · have c_8 : ¬ (16 ≤ i) := fun h => c_8 ((nle 16 i (by omega) (by omega)).mpr h)
                  refine lv_iload hx hb dX12_feed_74 (lv_at hl 5 rfl) ?_
                  refine lv_goto (tgt := 81) hx hb dX12_feed_76 (by decide) ?_
                  refine lv_istore (lv' := [(7, .int a4), (6, .int (nI i)), (0, .ref mm), (1, .int a1), (2, .int a2), (3, .int a3), (4, .int a4), (5, .int a5)]) hx hb dX12_feed_81 hl (by decide) rfl (fun ls hl => ?_)
                  refine lv_aload_n hx hb dX12_feed_83 rfl (lv_at hl 2 rfl) ?_
                  refine sk_get (v := .ref (g 0)) (C := RX12) (T := TX12) (N := 92) hx hb hts inlX12 hown hK hP 0 rfl rfl 0 (by decide) w_5_155 rfl dX12_feed_84 ?_
                  refine lv_aload_n hx hb dX12_feed_87 rfl (lv_at hl 2 rfl) ?_
                  refine sk_get (v := .int (nI zt)) (C := RX12) (T := TX12) (N := 92) hx hb hts inlX12 hown hK hP 0 rfl rfl 1 (by decide) w_5_156 rfl dX12_feed_88 ?_
                  refine lv_iload hx hb dX12_feed_91 (lv_at hl 0 rfl) ?_
                  refine lv_bipush (v := 8) hx hb dX12_feed_93 (by decide) ?_
                  refine lv_iconst (v := 3) hx hb dX12_feed_95 (by decide) ?_
                  refine lv_iload hx hb dX12_feed_96 (lv_at hl 1 rfl) ?_
                  refine lv_iconst (v := 4) hx hb dX12_feed_98 (by decide) ?_
                  refine lv_irem hx hb dX12_feed_99 (by decide) ?_
                  refine sk_top (nI (i % 4)) (nrem i 4 (by omega) (by omega) (by omega)) ?_
                  refine lv_isub hx hb dX12_feed_100 ?_
                  refine sk_top (nI (3 - (i % 4))) (nsub 3 (i % 4) (by omega)) ?_
                  refine lv_imul hx hb dX12_feed_101 ?_
                  refine sk_top (nI (8 * (3 - (i % 4)))) (nmul 8 (3 - (i % 4))) ?_
                  refine lv_ishr hx hb dX12_feed_102 ?_
                  refine lv_topi (fun v_14 ev_14 => ?_)
                  refine lv_sipush (v := 255) hx hb dX12_feed_103 (by decide) ?_
                  refine lv_iand hx hb dX12_feed_106 ?_
                  have hlo_15 := lo8_le v_14
                  refine sk_top (nI (lo8 v_14)) (lo8_eq v_14) ?_
                  refine sk_iastX (k := zt) (v := (lo8 v_14)) (B := 255) (ws' := fun f_16 => [(mm, .inr (12, mo g (nI zt) (nI pa) (nI pe) pd (nI pb) pp pf pg pn rt rn (nI cd) sn (nI il) tk am at_ aa 0 0 (-1) wt wy 0 (nI rm) (nI ud) (nI nu) sd (nI qn) (nI qw) qo (nI qb) (nI qp) qa (nI qi) (nI oc))), (g 0, .inl (cI, 1600, .inl (fun j => nI (f_16 j)))), (g 9, .inl (cI, 6, .inl rf))]) hx hb hK hP hD hS 1 0 rfl rfl (by omega) (by omega) hzb (by omega) (fun _ => rfl) dX12_feed_107 (fun f_16 H locs hf_17 ef_18 hP hD hS => ?_)
                  refine lv_aload_n hx hb dX12_feed_108 rfl (lv_at hl 2 rfl) ?_
                  refine lv_dup hx hb dX12_feed_109 rfl ?_
                  refine sk_get (v := .int (nI zt)) (C := RX12) (T := TX12) (N := 92) hx hb hts inlX12 hown hK hP 0 rfl rfl 1 (by decide) w_5_156 rfl dX12_feed_110 ?_
                  refine lv_iconst (v := 1) hx hb dX12_feed_113 (by decide) ?_
                  refine lv_iadd hx hb dX12_feed_114 ?_
                  refine sk_top (nI (zt + 1)) (nI_add zt 1) ?_
                  refine sk_put (ws' := [(mm, .inr (12, mo g (nI (zt + 1)) (nI pa) (nI pe) pd (nI pb) pp pf pg pn rt rn (nI cd) sn (nI il) tk am at_ aa 0 0 (-1) wt wy 0 (nI rm) (nI ud) (nI nu) sd (nI qn) (nI qw) qo (nI qb) (nI qp) qa (nI qi) (nI oc))), (g 0, .inl (cI, 1600, .inl (fun j => nI (f_16 j)))), (g 9, .inl (cI, 6, .inl rf))]) (C := RX12) (T := TX12) (N := 92) (v := .int (nI (zt + 1))) hx hb hts inlX12 tyX12 tyX12_ok nmX12 hown hK hP hD hS 0 rfl rfl 1 (by decide) w_5_156 rfl rfl rfl (Nat.le_of_ble_eq_true rfl) rfl dX12_feed_115 (fun H locs hP hD hS => ?_)
                  refine lv_iinc (v := nI (i + 1)) (lv' := [(6, .int (nI (i + 1))), (7, .int a4), (0, .ref mm), (1, .int a1), (2, .int a2), (3, .int a3), (4, .int a4), (5, .int a5)]) hx hb dX12_feed_118 hl (k := 1) rfl (ninc i 1 (by decide)) (by decide) rfl (fun ls hl => ?_)
                  refine lv_goto (tgt := 28) hx hb dX12_feed_121 (by decide) ?_
                  exact ih_lp_2 (i + 1) (zt + 1) f_16 _ _ _ (by omega) hf_17 (by omega) (by omega) (fd_s hzf hzt ef_18 ev_14 ((if_neg (by omega)).trans ((if_neg (by omega)).trans ((if_neg (by omega)).trans (if_pos (by omega)))))) hP hD hS (lv_sub hl [0, 2, 3, 4, 5, 6, 7] rfl)
              · have c_7 : ¬ (12 ≤ i) := fun h => c_7 ((nle 12 i (by omega) (by omega)).mpr h)
                refine lv_iload_n hx hb dX12_feed_63 rfl (lv_at hl 4 rfl) ?_
                refine lv_goto (tgt := 81) hx hb dX12_feed_64 (by decide) ?_
                refine lv_istore (lv' := [(7, .int a3), (6, .int (nI i)), (0, .ref mm), (1, .int a1), (2, .int a2), (3, .int a3), (4, .int a4), (5, .int a5)]) hx hb dX12_feed_81 hl (by decide) rfl (fun ls hl => ?_)
                refine lv_aload_n hx hb dX12_feed_83 rfl (lv_at hl 2 rfl) ?_
                refine sk_get (v := .ref (g 0)) (C := RX12) (T := TX12) (N := 92) hx hb hts inlX12 hown hK hP 0 rfl rfl 0 (by decide) w_5_155 rfl dX12_feed_84 ?_
                refine lv_aload_n hx hb dX12_feed_87 rfl (lv_at hl 2 rfl) ?_
                refine sk_get (v := .int (nI zt)) (C := RX12) (T := TX12) (N := 92) hx hb hts inlX12 hown hK hP 0 rfl rfl 1 (by decide) w_5_156 rfl dX12_feed_88 ?_
                refine lv_iload hx hb dX12_feed_91 (lv_at hl 0 rfl) ?_
                refine lv_bipush (v := 8) hx hb dX12_feed_93 (by decide) ?_
                refine lv_iconst (v := 3) hx hb dX12_feed_95 (by decide) ?_
                refine lv_iload hx hb dX12_feed_96 (lv_at hl 1 rfl) ?_
                refine lv_iconst (v := 4) hx hb dX12_feed_98 (by decide) ?_
                refine lv_irem hx hb dX12_feed_99 (by decide) ?_
                refine sk_top (nI (i % 4)) (nrem i 4 (by omega) (by omega) (by omega)) ?_
                refine lv_isub hx hb dX12_feed_100 ?_
                refine sk_top (nI (3 - (i % 4))) (nsub 3 (i % 4) (by omega)) ?_
                refine lv_imul hx hb dX12_feed_101 ?_
                refine sk_top (nI (8 * (3 - (i % 4)))) (nmul 8 (3 - (i % 4))) ?_
                refine lv_ishr hx hb dX12_feed_102 ?_
                refine lv_topi (fun v_19 ev_19 => ?_)
                refine lv_sipush (v := 255) hx hb dX12_feed_103 (by decide) ?_
                refine lv_iand hx hb dX12_feed_106 ?_
                have hlo_20 := lo8_le v_19
                refine sk_top (nI (lo8 v_19)) (lo8_eq v_19) ?_
                refine sk_iastX (k := zt) (v := (lo8 v_19)) (B := 255) (ws' := fun f_21 => [(mm, .inr (12, mo g (nI zt) (nI pa) (nI pe) pd (nI pb) pp pf pg pn rt rn (nI cd) sn (nI il) tk am at_ aa 0 0 (-1) wt wy 0 (nI rm) (nI ud) (nI nu) sd (nI qn) (nI qw) qo (nI qb) (nI qp) qa (nI qi) (nI oc))), (g 0, .inl (cI, 1600, .inl (fun j => nI (f_21 j)))), (g 9, .inl (cI, 6, .inl rf))]) hx hb hK hP hD hS 1 0 rfl rfl (by omega) (by omega) hzb (by omega) (fun _ => rfl) dX12_feed_107 (fun f_21 H locs hf_22 ef_23 hP hD hS => ?_)
                refine lv_aload_n hx hb dX12_feed_108 rfl (lv_at hl 2 rfl) ?_
                refine lv_dup hx hb dX12_feed_109 rfl ?_
                refine sk_get (v := .int (nI zt)) (C := RX12) (T := TX12) (N := 92) hx hb hts inlX12 hown hK hP 0 rfl rfl 1 (by decide) w_5_156 rfl dX12_feed_110 ?_
                refine lv_iconst (v := 1) hx hb dX12_feed_113 (by decide) ?_
                refine lv_iadd hx hb dX12_feed_114 ?_
                refine sk_top (nI (zt + 1)) (nI_add zt 1) ?_
                refine sk_put (ws' := [(mm, .inr (12, mo g (nI (zt + 1)) (nI pa) (nI pe) pd (nI pb) pp pf pg pn rt rn (nI cd) sn (nI il) tk am at_ aa 0 0 (-1) wt wy 0 (nI rm) (nI ud) (nI nu) sd (nI qn) (nI qw) qo (nI qb) (nI qp) qa (nI qi) (nI oc))), (g 0, .inl (cI, 1600, .inl (fun j => nI (f_21 j)))), (g 9, .inl (cI, 6, .inl rf))]) (C := RX12) (T := TX12) (N := 92) (v := .int (nI (zt + 1))) hx hb hts inlX12 tyX12 tyX12_ok nmX12 hown hK hP hD hS 0 rfl rfl 1 (by decide) w_5_156 rfl rfl rfl (Nat.le_of_ble_eq_true rfl) rfl dX12_feed_115 (fun H locs hP hD hS => ?_)
                refine lv_iinc (v := nI (i + 1)) (lv' := [(6, .int (nI (i + 1))), (7, .int a3), (0, .ref mm), (1, .int a1), (2, .int a2), (3, .int a3), (4, .int a4), (5, .int a5)]) hx hb dX12_feed_118 hl (k := 1) rfl (ninc i 1 (by decide)) (by decide) rfl (fun ls hl => ?_)
                refine lv_goto (tgt := 28) hx hb dX12_feed_121 (by decide) ?_
                exact ih_lp_2 (i + 1) (zt + 1) f_21 _ _ _ (by omega) hf_22 (by omega) (by omega) (fd_s hzf hzt ef_23 ev_19 ((if_neg (by omega)).trans ((if_neg (by omega)).trans (if_pos (by omega))))) hP hD hS (lv_sub hl [0, 2, 3, 4, 5, 6, 7] rfl)
            · have c_6 : ¬ (8 ≤ i) := fun h => c_6 ((nle 8 i (by omega) (by omega)).mpr h)
              refine lv_iload_n hx hb dX12_feed_52 rfl (lv_at hl 3 rfl) ?_
              refine lv_goto (tgt := 81) hx hb dX12_feed_53 (by decide) ?_
              refine lv_istore (lv' := [(7, .int a2), (6, .int (nI i)), (0, .ref mm), (1, .int a1), (2, .int a2), (3, .int a3), (4, .int a4), (5, .int a5)]) hx hb dX12_feed_81 hl (by decide) rfl (fun ls hl => ?_)
              refine lv_aload_n hx hb dX12_feed_83 rfl (lv_at hl 2 rfl) ?_
              refine sk_get (v := .ref (g 0)) (C := RX12) (T := TX12) (N := 92) hx hb hts inlX12 hown hK hP 0 rfl rfl 0 (by decide) w_5_155 rfl dX12_feed_84 ?_
              refine lv_aload_n hx hb dX12_feed_87 rfl (lv_at hl 2 rfl) ?_
              refine sk_get (v := .int (nI zt)) (C := RX12) (T := TX12) (N := 92) hx hb hts inlX12 hown hK hP 0 rfl rfl 1 (by decide) w_5_156 rfl dX12_feed_88 ?_
              refine lv_iload hx hb dX12_feed_91 (lv_at hl 0 rfl) ?_
              refine lv_bipush (v := 8) hx hb dX12_feed_93 (by decide) ?_
              refine lv_iconst (v := 3) hx hb dX12_feed_95 (by decide) ?_
              refine lv_iload hx hb dX12_feed_96 (lv_at hl 1 rfl) ?_
              refine lv_iconst (v := 4) hx hb dX12_feed_98 (by decide) ?_
              refine lv_irem hx hb dX12_feed_99 (by decide) ?_
              refine sk_top (nI (i % 4)) (nrem i 4 (by omega) (by omega) (by omega)) ?_
              refine lv_isub hx hb dX12_feed_100 ?_
              refine sk_top (nI (3 - (i % 4))) (nsub 3 (i % 4) (by omega)) ?_
              refine lv_imul hx hb dX12_feed_101 ?_
              refine sk_top (nI (8 * (3 - (i % 4)))) (nmul 8 (3 - (i % 4))) ?_
              refine lv_ishr hx hb dX12_feed_102 ?_
              refine lv_topi (fun v_24 ev_24 => ?_)
              refine lv_sipush (v := 255) hx hb dX12_feed_103 (by decide) ?_
              refine lv_iand hx hb dX12_feed_106 ?_
              have hlo_25 := lo8_le v_24
              refine sk_top (nI (lo8 v_24)) (lo8_eq v_24) ?_
              refine sk_iastX (k := zt) (v := (lo8 v_24)) (B := 255) (ws' := fun f_26 => [(mm, .inr (12, mo g (nI zt) (nI pa) (nI pe) pd (nI pb) pp pf pg pn rt rn (nI cd) sn (nI il) tk am at_ aa 0 0 (-1) wt wy 0 (nI rm) (nI ud) (nI nu) sd (nI qn) (nI qw) qo (nI qb) (nI qp) qa (nI qi) (nI oc))), (g 0, .inl (cI, 1600, .inl (fun j => nI (f_26 j)))), (g 9, .inl (cI, 6, .inl rf))]) hx hb hK hP hD hS 1 0 rfl rfl (by omega) (by omega) hzb (by omega) (fun _ => rfl) dX12_feed_107 (fun f_26 H locs hf_27 ef_28 hP hD hS => ?_)
              refine lv_aload_n hx hb dX12_feed_108 rfl (lv_at hl 2 rfl) ?_
              refine lv_dup hx hb dX12_feed_109 rfl ?_
              refine sk_get (v := .int (nI zt)) (C := RX12) (T := TX12) (N := 92) hx hb hts inlX12 hown hK hP 0 rfl rfl 1 (by decide) w_5_156 rfl dX12_feed_110 ?_
              refine lv_iconst (v := 1) hx hb dX12_feed_113 (by decide) ?_
              refine lv_iadd hx hb dX12_feed_114 ?_
              refine sk_top (nI (zt + 1)) (nI_add zt 1) ?_
              refine sk_put (ws' := [(mm, .inr (12, mo g (nI (zt + 1)) (nI pa) (nI pe) pd (nI pb) pp pf pg pn rt rn (nI cd) sn (nI il) tk am at_ aa 0 0 (-1) wt wy 0 (nI rm) (nI ud) (nI nu) sd (nI qn) (nI qw) qo (nI qb) (nI qp) qa (nI qi) (nI oc))), (g 0, .inl (cI, 1600, .inl (fun j => nI (f_26 j)))), (g 9, .inl (cI, 6, .inl rf))]) (C := RX12) (T := TX12) (N := 92) (v := .int (nI (zt + 1))) hx hb hts inlX12 tyX12 tyX12_ok nmX12 hown hK hP hD hS 0 rfl rfl 1 (by decide) w_5_156 rfl rfl rfl (Nat.le_of_ble_eq_true rfl) rfl dX12_feed_115 (fun H locs hP hD hS => ?_)
              refine lv_iinc (v := nI (i + 1)) (lv' := [(6, .int (nI (i + 1))), (7, .int a2), (0, .ref mm), (1, .int a1), (2, .int a2), (3, .int a3), (4, .int a4), (5, .int a5)]) hx hb dX12_feed_118 hl (k := 1) rfl (ninc i 1 (by decide)) (by decide) rfl (fun ls hl => ?_)
              refine lv_goto (tgt := 28) hx hb dX12_feed_121 (by decide) ?_
              exact ih_lp_2 (i + 1) (zt + 1) f_26 _ _ _ (by omega) hf_27 (by omega) (by omega) (fd_s hzf hzt ef_28 ev_24 ((if_neg (by omega)).trans (if_pos (by omega)))) hP hD hS (lv_sub hl [0, 2, 3, 4, 5, 6, 7] rfl)
          · have c_5 : ¬ (4 ≤ i) := fun h => c_5 ((nle 4 i (by omega) (by omega)).mpr h)
            refine lv_iload_n hx hb dX12_feed_41 rfl (lv_at hl 2 rfl) ?_
            refine lv_goto (tgt := 81) hx hb dX12_feed_42 (by decide) ?_
            refine lv_istore (lv' := [(7, .int a1), (6, .int (nI i)), (0, .ref mm), (1, .int a1), (2, .int a2), (3, .int a3), (4, .int a4), (5, .int a5)]) hx hb dX12_feed_81 hl (by decide) rfl (fun ls hl => ?_)
            refine lv_aload_n hx hb dX12_feed_83 rfl (lv_at hl 2 rfl) ?_
            refine sk_get (v := .ref (g 0)) (C := RX12) (T := TX12) (N := 92) hx hb hts inlX12 hown hK hP 0 rfl rfl 0 (by decide) w_5_155 rfl dX12_feed_84 ?_
            refine lv_aload_n hx hb dX12_feed_87 rfl (lv_at hl 2 rfl) ?_
            refine sk_get (v := .int (nI zt)) (C := RX12) (T := TX12) (N := 92) hx hb hts inlX12 hown hK hP 0 rfl rfl 1 (by decide) w_5_156 rfl dX12_feed_88 ?_
            refine lv_iload hx hb dX12_feed_91 (lv_at hl 0 rfl) ?_
            refine lv_bipush (v := 8) hx hb dX12_feed_93 (by decide) ?_
            refine lv_iconst (v := 3) hx hb dX12_feed_95 (by decide) ?_
            refine lv_iload hx hb dX12_feed_96 (lv_at hl 1 rfl) ?_
            refine lv_iconst (v := 4) hx hb dX12_feed_98 (by decide) ?_
            refine lv_irem hx hb dX12_feed_99 (by decide) ?_
            refine sk_top (nI (i % 4)) (nrem i 4 (by omega) (by omega) (by omega)) ?_
            refine lv_isub hx hb dX12_feed_100 ?_
            refine sk_top (nI (3 - (i % 4))) (nsub 3 (i % 4) (by omega)) ?_
            refine lv_imul hx hb dX12_feed_101 ?_
            refine sk_top (nI (8 * (3 - (i % 4)))) (nmul 8 (3 - (i % 4))) ?_
            refine lv_ishr hx hb dX12_feed_102 ?_
            refine lv_topi (fun v_29 ev_29 => ?_)
            refine lv_sipush (v := 255) hx hb dX12_feed_103 (by decide) ?_
            refine lv_iand hx hb dX12_feed_106 ?_
            have hlo_30 := lo8_le v_29
            refine sk_top (nI (lo8 v_29)) (lo8_eq v_29) ?_
            refine sk_iastX (k := zt) (v := (lo8 v_29)) (B := 255) (ws' := fun f_31 => [(mm, .inr (12, mo g (nI zt) (nI pa) (nI pe) pd (nI pb) pp pf pg pn rt rn (nI cd) sn (nI il) tk am at_ aa 0 0 (-1) wt wy 0 (nI rm) (nI ud) (nI nu) sd (nI qn) (nI qw) qo (nI qb) (nI qp) qa (nI qi) (nI oc))), (g 0, .inl (cI, 1600, .inl (fun j => nI (f_31 j)))), (g 9, .inl (cI, 6, .inl rf))]) hx hb hK hP hD hS 1 0 rfl rfl (by omega) (by omega) hzb (by omega) (fun _ => rfl) dX12_feed_107 (fun f_31 H locs hf_32 ef_33 hP hD hS => ?_)
            refine lv_aload_n hx hb dX12_feed_108 rfl (lv_at hl 2 rfl) ?_
            refine lv_dup hx hb dX12_feed_109 rfl ?_
            refine sk_get (v := .int (nI zt)) (C := RX12) (T := TX12) (N := 92) hx hb hts inlX12 hown hK hP 0 rfl rfl 1 (by decide) w_5_156 rfl dX12_feed_110 ?_
            refine lv_iconst (v := 1) hx hb dX12_feed_113 (by decide) ?_
            refine lv_iadd hx hb dX12_feed_114 ?_
            refine sk_top (nI (zt + 1)) (nI_add zt 1) ?_
            refine sk_put (ws' := [(mm, .inr (12, mo g (nI (zt + 1)) (nI pa) (nI pe) pd (nI pb) pp pf pg pn rt rn (nI cd) sn (nI il) tk am at_ aa 0 0 (-1) wt wy 0 (nI rm) (nI ud) (nI nu) sd (nI qn) (nI qw) qo (nI qb) (nI qp) qa (nI qi) (nI oc))), (g 0, .inl (cI, 1600, .inl (fun j => nI (f_31 j)))), (g 9, .inl (cI, 6, .inl rf))]) (C := RX12) (T := TX12) (N := 92) (v := .int (nI (zt + 1))) hx hb hts inlX12 tyX12 tyX12_ok nmX12 hown hK hP hD hS 0 rfl rfl 1 (by decide) w_5_156 rfl rfl rfl (Nat.le_of_ble_eq_true rfl) rfl dX12_feed_115 (fun H locs hP hD hS => ?_)
            refine lv_iinc (v := nI (i + 1)) (lv' := [(6, .int (nI (i + 1))), (7, .int a1), (0, .ref mm), (1, .int a1), (2, .int a2), (3, .int a3), (4, .int a4), (5, .int a5)]) hx hb dX12_feed_118 hl (k := 1) rfl (ninc i 1 (by decide)) (by decide) rfl (fun ls hl => ?_)
            refine lv_goto (tgt := 28) hx hb dX12_feed_121 (by decide) ?_
            exact ih_lp_2 (i + 1) (zt + 1) f_31 _ _ _ (by omega) hf_32 (by omega) (by omega) (fd_s hzf hzt ef_33 ev_29 (if_pos (by omega))) hP hD hS (lv_sub hl [0, 2, 3, 4, 5, 6, 7] rfl)
    exact lp_2 (20 - 0 + 1) 0 ta tb _ _ _ (Nat.lt_succ_self _) htb (by omega) (by omega) rfl hP hD hS (lv_sub hl [0, 1, 2, 3, 4, 5, 6] rfl)
  · have c_1 : ¬ (ta + 20 ≤ 1600) := fun h => c_1 ((nle (ta + 20) 1600 (by omega) (by omega)).mpr h)
    refine lv_aload_n hx hb dX12_feed_13 rfl (lv_at hl 0 rfl) ?_
    refine sk_get (v := .ref (g 9)) (C := RX12) (T := TX12) (N := 92) hx hb hts inlX12 hown hK hP 0 rfl rfl 9 (by decide) w_5_164 rfl dX12_feed_14 ?_
    refine lv_iconst (v := 0) hx hb dX12_feed_17 (by decide) ?_
    refine lv_dup2_11 hx hb dX12_feed_18 rfl rfl ?_
    refine va_iald hx hb hK.1 hP 2 0 rfl rfl (by unfold vp_in; decide) dX12_feed_19 ?_
    refine sk_top (rf 0) (rfl) ?_
    refine lv_iconst (v := 1) hx hb dX12_feed_20 (by decide) ?_
    refine lv_iadd hx hb dX12_feed_21 ?_
    refine sk_iastE (k := 0) (ws' := fun f_34 => [(mm, .inr (12, mo g (nI ta) (nI pa) (nI pe) pd (nI pb) pp pf pg pn rt rn (nI cd) sn (nI il) tk am at_ aa 0 0 (-1) wt wy 0 (nI rm) (nI ud) (nI nu) sd (nI qn) (nI qw) qo (nI qb) (nI qp) qa (nI qi) (nI oc))), (g 0, .inl (cI, 1600, .inl (fun j => nI (tb j)))), (g 9, .inl (cI, 6, .inl f_34))]) hx hb hK hP hD hS 2 0 rfl rfl (by omega) (by omega) (fun _ => rfl) dX12_feed_22 (fun f_34 H locs ef_35 hP hD hS => ?_)
    refine lv_iconst (v := (-1)) hx hb dX12_feed_23 (by decide) ?_
    exact sk_iret hx hb hr rfl hlocks hK hP hD hS (⟨ta, tb, f_34, Or.inr ⟨by omega, rfl, rfl, rfl⟩, Or.inr ⟨by omega, ef_35⟩, htb, rfl⟩) (Nat.le_of_ble_eq_true rfl) (Nat.le_of_ble_eq_true rfl) dX12_feed_24
