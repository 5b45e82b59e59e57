theorem dg_X12_undo_0_0 : bqL cX12_undo 0 [(0, [42]), (1, [180, 1, 53]), (4, [154, 0, 15]), (19, [3]), (20, [60]), (21, [27]), (22, [16, 120]), (24, [162, 0, 29]), (53, [42]), (54, [42]), (55, [180, 1, 215]), (58, [16, 20]), (60, [96]), (61, [4]), (62, [100]), (63, [16, 20]), (65, [112]), (66, [181, 1, 215]), (69, [42]), (70, [89]), (71, [180, 1, 53]), (74, [4]), (75, [100]), (76, [181, 1, 53]), (79, [4]), (80, [172]), (27, [42]), (28, [180, 0, 63]), (31, [27]), (32, [42]), (33, [180, 0, 107]), (36, [16, 120]), (38, [42]), (39, [180, 1, 215]), (42, [104]), (43, [27]), (44, [96]), (45, [46]), (46, [79]), (47, [132, 1, 1])] = true := by decide +kernel
theorem dX12_undo_0 : decode cX12_undo 0 = .ok (.aload_n 0, 1) := q_aload_n0 (bat_get dg_X12_undo_0_0 0 rfl rfl)
theorem dX12_undo_1 : decode cX12_undo 1 = .ok (.getfield 309, 3) := q_getfield (bat_get dg_X12_undo_0_0 1 rfl rfl) rfl
theorem dX12_undo_4 : decode cX12_undo 4 = .ok (.ifCond .ne 15, 3) := q_ifCond_ne (bat_get dg_X12_undo_0_0 2 rfl rfl) rfl
theorem dX12_undo_19 : decode cX12_undo 19 = .ok (.iconst 0, 1) := q_iconst0 (bat_get dg_X12_undo_0_0 3 rfl rfl)
theorem dX12_undo_20 : decode cX12_undo 20 = .ok (.istore_n 1, 1) := q_istore_n1 (bat_get dg_X12_undo_0_0 4 rfl rfl)
theorem dX12_undo_21 : decode cX12_undo 21 = .ok (.iload_n 1, 1) := q_iload_n1 (bat_get dg_X12_undo_0_0 5 rfl rfl)
theorem dX12_undo_22 : decode cX12_undo 22 = .ok (.bipush 120, 2) := q_bipush (bat_get dg_X12_undo_0_0 6 rfl rfl) rfl
theorem dX12_undo_24 : decode cX12_undo 24 = .ok (.if_icmp .ge 29, 3) := q_if_icmp_ge (bat_get dg_X12_undo_0_0 7 rfl rfl) rfl
theorem dX12_undo_53 : decode cX12_undo 53 = .ok (.aload_n 0, 1) := q_aload_n0 (bat_get dg_X12_undo_0_0 8 rfl rfl)
theorem dX12_undo_54 : decode cX12_undo 54 = .ok (.aload_n 0, 1) := q_aload_n0 (bat_get dg_X12_undo_0_0 9 rfl rfl)
theorem dX12_undo_55 : decode cX12_undo 55 = .ok (.getfield 471, 3) := q_getfield (bat_get dg_X12_undo_0_0 10 rfl rfl) rfl
theorem dX12_undo_58 : decode cX12_undo 58 = .ok (.bipush 20, 2) := q_bipush (bat_get dg_X12_undo_0_0 11 rfl rfl) rfl
theorem dX12_undo_60 : decode cX12_undo 60 = .ok (.iadd, 1) := q_iadd (bat_get dg_X12_undo_0_0 12 rfl rfl)
theorem dX12_undo_61 : decode cX12_undo 61 = .ok (.iconst 1, 1) := q_iconst1 (bat_get dg_X12_undo_0_0 13 rfl rfl)
theorem dX12_undo_62 : decode cX12_undo 62 = .ok (.isub, 1) := q_isub (bat_get dg_X12_undo_0_0 14 rfl rfl)
theorem dX12_undo_63 : decode cX12_undo 63 = .ok (.bipush 20, 2) := q_bipush (bat_get dg_X12_undo_0_0 15 rfl rfl) rfl
theorem dX12_undo_65 : decode cX12_undo 65 = .ok (.irem, 1) := q_irem (bat_get dg_X12_undo_0_0 16 rfl rfl)
theorem dX12_undo_66 : decode cX12_undo 66 = .ok (.putfield 471, 3) := q_putfield (bat_get dg_X12_undo_0_0 17 rfl rfl) rfl
theorem dX12_undo_69 : decode cX12_undo 69 = .ok (.aload_n 0, 1) := q_aload_n0 (bat_get dg_X12_undo_0_0 18 rfl rfl)
theorem dX12_undo_70 : decode cX12_undo 70 = .ok (.dup, 1) := q_dup (bat_get dg_X12_undo_0_0 19 rfl rfl)
theorem dX12_undo_71 : decode cX12_undo 71 = .ok (.getfield 309, 3) := q_getfield (bat_get dg_X12_undo_0_0 20 rfl rfl) rfl
theorem dX12_undo_74 : decode cX12_undo 74 = .ok (.iconst 1, 1) := q_iconst1 (bat_get dg_X12_undo_0_0 21 rfl rfl)
theorem dX12_undo_75 : decode cX12_undo 75 = .ok (.isub, 1) := q_isub (bat_get dg_X12_undo_0_0 22 rfl rfl)
theorem dX12_undo_76 : decode cX12_undo 76 = .ok (.putfield 309, 3) := q_putfield (bat_get dg_X12_undo_0_0 23 rfl rfl) rfl
theorem dX12_undo_79 : decode cX12_undo 79 = .ok (.iconst 1, 1) := q_iconst1 (bat_get dg_X12_undo_0_0 24 rfl rfl)
theorem dX12_undo_80 : decode cX12_undo 80 = .ok (.ireturn, 1) := q_ireturn (bat_get dg_X12_undo_0_0 25 rfl rfl)
theorem dX12_undo_27 : decode cX12_undo 27 = .ok (.aload_n 0, 1) := q_aload_n0 (bat_get dg_X12_undo_0_0 26 rfl rfl)
theorem dX12_undo_28 : decode cX12_undo 28 = .ok (.getfield 63, 3) := q_getfield (bat_get dg_X12_undo_0_0 27 rfl rfl) rfl
theorem dX12_undo_31 : decode cX12_undo 31 = .ok (.iload_n 1, 1) := q_iload_n1 (bat_get dg_X12_undo_0_0 28 rfl rfl)
theorem dX12_undo_32 : decode cX12_undo 32 = .ok (.aload_n 0, 1) := q_aload_n0 (bat_get dg_X12_undo_0_0 29 rfl rfl)
theorem dX12_undo_33 : decode cX12_undo 33 = .ok (.getfield 107, 3) := q_getfield (bat_get dg_X12_undo_0_0 30 rfl rfl) rfl
theorem dX12_undo_36 : decode cX12_undo 36 = .ok (.bipush 120, 2) := q_bipush (bat_get dg_X12_undo_0_0 31 rfl rfl) rfl
theorem dX12_undo_38 : decode cX12_undo 38 = .ok (.aload_n 0, 1) := q_aload_n0 (bat_get dg_X12_undo_0_0 32 rfl rfl)
theorem dX12_undo_39 : decode cX12_undo 39 = .ok (.getfield 471, 3) := q_getfield (bat_get dg_X12_undo_0_0 33 rfl rfl) rfl
theorem dX12_undo_42 : decode cX12_undo 42 = .ok (.imul, 1) := q_imul (bat_get dg_X12_undo_0_0 34 rfl rfl)
theorem dX12_undo_43 : decode cX12_undo 43 = .ok (.iload_n 1, 1) := q_iload_n1 (bat_get dg_X12_undo_0_0 35 rfl rfl)
theorem dX12_undo_44 : decode cX12_undo 44 = .ok (.iadd, 1) := q_iadd (bat_get dg_X12_undo_0_0 36 rfl rfl)
theorem dX12_undo_45 : decode cX12_undo 45 = .ok (.iaload, 1) := q_iaload (bat_get dg_X12_undo_0_0 37 rfl rfl)
theorem dX12_undo_46 : decode cX12_undo 46 = .ok (.iastore, 1) := q_iastore (bat_get dg_X12_undo_0_0 38 rfl rfl)
theorem dX12_undo_47 : decode cX12_undo 47 = .ok (.iinc 1 1, 3) := q_iinc (bat_get dg_X12_undo_0_0 39 rfl rfl) rfl
theorem dg_X12_undo_7_50 : bqL cX12_undo 7 [(43, [167, 255, 227]), (0, [42]), (1, [180, 0, 17]), (4, [7]), (5, [92]), (6, [46]), (7, [4]), (8, [96]), (9, [79]), (10, [3]), (11, [172])] = true := by decide +kernel
theorem dX12_undo_50 : decode cX12_undo 50 = .ok (.goto (-29), 3) := q_goto (bat_get dg_X12_undo_7_50 0 rfl rfl) rfl
theorem dX12_undo_7 : decode cX12_undo 7 = .ok (.aload_n 0, 1) := q_aload_n0 (bat_get dg_X12_undo_7_50 1 rfl rfl)
theorem dX12_undo_8 : decode cX12_undo 8 = .ok (.getfield 17, 3) := q_getfield (bat_get dg_X12_undo_7_50 2 rfl rfl) rfl
theorem dX12_undo_11 : decode cX12_undo 11 = .ok (.iconst 4, 1) := q_iconst4 (bat_get dg_X12_undo_7_50 3 rfl rfl)
theorem dX12_undo_12 : decode cX12_undo 12 = .ok (.dup2, 1) := q_dup2 (bat_get dg_X12_undo_7_50 4 rfl rfl)
theorem dX12_undo_13 : decode cX12_undo 13 = .ok (.iaload, 1) := q_iaload (bat_get dg_X12_undo_7_50 5 rfl rfl)
theorem dX12_undo_14 : decode cX12_undo 14 = .ok (.iconst 1, 1) := q_iconst1 (bat_get dg_X12_undo_7_50 6 rfl rfl)
theorem dX12_undo_15 : decode cX12_undo 15 = .ok (.iadd, 1) := q_iadd (bat_get dg_X12_undo_7_50 7 rfl rfl)
theorem dX12_undo_16 : decode cX12_undo 16 = .ok (.iastore, 1) := q_iastore (bat_get dg_X12_undo_7_50 8 rfl rfl)
theorem dX12_undo_17 : decode cX12_undo 17 = .ok (.iconst 0, 1) := q_iconst0 (bat_get dg_X12_undo_7_50 9 rfl rfl)
theorem dX12_undo_18 : decode cX12_undo 18 = .ok (.ireturn, 1) := q_ireturn (bat_get dg_X12_undo_7_50 10 rfl rfl)
theorem w_8_121 : (Cond.code yX12_undo cX12_undo 2 (some .boolean)) ∈ wsL_law := sk_mem (ck_8 _ (List.mem_of_getElem? (i := 121) rfl)) rfl
set_option maxHeartbeats 4000000 in
set_option maxRecDepth 100000 in
theorem c_nm_undo (l : Launch) (D : va_G) (cI cJ cC cZ cS : ClassId) (mm : Nat) (g : Nat → Nat) (ta : Nat) (pa : Nat) (pe : Nat) (pd : Int32) (pb : Nat) (pp : Int32) (pf : Int32) (pg : Int32) (pn : Int32) (rt : Int32) (rn : Int32) (cd : Nat) (sn : Int32) (il : Nat) (tk : Int32) (am : Int32) (at_ : Int32) (aa : Int32) (wt : Int32) (wy : Int64) (rm : Nat) (ud : Nat) (nu : Nat) (sd : Int64) (qn : Nat) (qw : Nat) (qo : Int32) (qb : Nat) (qp : Nat) (qa : Int64) (qi : Nat) (oc : Nat) (nw : Nat → Int32) (kp : Nat → Int32) (rf : Nat → Int32) (wn : Nat) (mN : Nat) (Ba : Nat → Nat) (We : Nat → Nat) (U : Nat → Bool) (ke : Nat) (lg : KLg) (su : Nat → KN) (hnu : nu < 20) (hud : ud ≤ 20) (hnw : nwX wn mN Ba We U ke lg nw) (hkp : kpX ud nu su lg kp) : skM l yX12_undo cX12_undo 2 (some .boolean) 0 0 0 0 D (skT cI cJ cC cZ cS) [.ref mm] [(mm, .inr (12, mo g (nI ta) (nI pa) (nI pe) pd (nI pb) pp pf pg pn rt rn (nI cd) sn (nI il) tk am at_ aa 0 0 (-1) wt wy 0 (nI rm) (nI ud) (nI nu) sd (nI qn) (nI qw) qo (nI qb) (nI qp) qa (nI qi) (nI oc))), (g 31, .inl (cI, 120, .inl nw)), (g 54, .inl (cI, 2400, .inl kp)), (g 9, .inl (cI, 6, .inl rf))] (skI D (skT cI cJ cC cZ cS) (fun (r : Int32) (u : va_W) => ∃ (n2 : KN), ∃ (nw2 : Nat → Int32), ∃ (kp2 : Nat → Int32), ∃ (b : Nat), ∃ (nu2 : Nat), ∃ (ud2 : Nat), ∃ (rf2 : Nat → Int32), nwN n2 lg nw2 ∧ kpX ud2 nu2 su lg kp2 ∧ nu2 < 20 ∧ ud2 ≤ 20 ∧ undoR (wn, mN, Ba, We, U, ke) ud su rf (nI b) n2 ud2 rf2 ∧ r = nI b ∧ u = [(mm, .inr (12, mo g (nI ta) (nI pa) (nI pe) pd (nI pb) pp pf pg pn rt rn (nI cd) sn (nI il) tk am at_ aa 0 0 (-1) wt wy 0 (nI rm) (nI ud2) (nI nu2) sd (nI qn) (nI qw) qo (nI qb) (nI qp) qa (nI qi) (nI oc))), (g 31, .inl (cI, 120, .inl nw2)), (g 54, .inl (cI, 2400, .inl kp2)), (g 9, .inl (cI, 6, .inl rf2))])) := by
  refine skM_of pf_X12_undo (Nat.le_of_ble_eq_true rfl) ?_
  intro p e s m below meth c A ls E hP hD hl
  refine skE_el E (fun hx hb hr hml hlocks hin hown hts hK hA => ?_)
  have hown : s.vm.findClass RX12 = some m.cls := hown
  have hS : va_S A s.heap s.heap [] := va_S.rf
  have hl : lv_has ls 2 [(0, .ref mm)] := hl
  refine lv_aload_n hx hb dX12_undo_0 rfl (lv_at hl 0 rfl) ?_
  refine sk_get (v := .int (nI ud)) (C := RX12) (T := TX12) (N := 92) hx hb hts inlX12 hown hK hP 0 rfl rfl 55 (by decide) w_5_210 rfl dX12_undo_1 ?_
  refine lv_if_ne (tgt := 19) hx hb dX12_undo_4 (by decide) (fun c_1 => ?_) (fun c_1 => ?_)
  · have c_1 : ¬ (ud = 0) := fun h => c_1 ((neq ud 0 (by omega) (by omega)).mpr h)
    refine lv_iconst (v := 0) hx hb dX12_undo_19 (by decide) ?_
    refine lv_istore_n (lv' := [(1, .int 0), (0, .ref mm)]) hx hb dX12_undo_20 rfl hl (by decide) rfl (fun ls hl => ?_)
    have lp_2 : ∀ (n_3 : Nat) (i : Nat) (zn : Nat → Int32) (H : Heap) (locs : List Loc) (ls : Array Slot), 120 - i < n_3 → (i ≤ 120) → (kc0 i (fun k => kp (120 * nu + k)) zn) → va_P D vwCl [(mm, .inr (12, mo g (nI ta) (nI pa) (nI pe) pd (nI pb) pp pf pg pn rt rn (nI cd) sn (nI il) tk am at_ aa 0 0 (-1) wt wy 0 (nI rm) (nI ud) (nI nu) sd (nI qn) (nI qw) qo (nI qb) (nI qp) qa (nI qi) (nI oc))), (g 31, .inl (cI, 120, .inl zn)), (g 54, .inl (cI, 2400, .inl kp)), (g 9, .inl (cI, 6, .inl rf))] H → va_D A [(mm, .inr (12, mo g (nI ta) (nI pa) (nI pe) pd (nI pb) pp pf pg pn rt rn (nI cd) sn (nI il) tk am at_ aa 0 0 (-1) wt wy 0 (nI rm) (nI ud) (nI nu) sd (nI qn) (nI qw) qo (nI qb) (nI qp) qa (nI qi) (nI oc))), (g 31, .inl (cI, 120, .inl zn)), (g 54, .inl (cI, 2400, .inl kp)), (g 9, .inl (cI, 6, .inl rf))] → va_S A s.heap H locs → lv_has ls 2 [(1, .int (nI i)), (0, .ref mm)] → W p l e { frames := 0, cells := 0, slots := 0, locals := 0 } s m ([.ref mm] : List Value).toArray below meth c H locs 0 0 (MQ below (skI D (skT cI cJ cC cZ cS) (fun (r : Int32) (u : va_W) => ∃ (n2 : KN), ∃ (nw2 : Nat → Int32), ∃ (kp2 : Nat → Int32), ∃ (b : Nat), ∃ (nu2 : Nat), ∃ (ud2 : Nat), ∃ (rf2 : Nat → Int32), nwN n2 lg nw2 ∧ kpX ud2 nu2 su lg kp2 ∧ nu2 < 20 ∧ ud2 ≤ 20 ∧ undoR (wn, mN, Ba, We, U, ke) ud su rf (nI b) n2 ud2 rf2 ∧ r = nI b ∧ u = [(mm, .inr (12, mo g (nI ta) (nI pa) (nI pe) pd (nI pb) pp pf pg pn rt rn (nI cd) sn (nI il) tk am at_ aa 0 0 (-1) wt wy 0 (nI rm) (nI ud2) (nI nu2) sd (nI qn) (nI qw) qo (nI qb) (nI qp) qa (nI qi) (nI oc))), (g 31, .inl (cI, 120, .inl nw2)), (g 54, .inl (cI, 2400, .inl kp2)), (g 9, .inl (cI, 6, .inl rf2))]) A) ([.ref mm] : List Value).toArray s 0 0 A) (F0 m 21 ls []) := by
      intro n_3
      induction n_3 with
      | zero => intro i zn H locs ls hm; exact absurd hm (Nat.not_lt_zero _)
      | succ n_3 ih_lp_2 =>
        intro i zn H locs ls hm hi hc0 hP hD hS hl
        refine lv_iload_n hx hb dX12_undo_21 rfl (lv_at hl 0 rfl) ?_
        refine lv_bipush (v := 120) hx hb dX12_undo_22 (by decide) ?_
        refine lv_icmp_ge (tgt := 53) hx hb dX12_undo_24 (by decide) (fun c_4 => ?_) (fun c_4 => ?_)
        · have c_4 : 120 ≤ i := (nle 120 i (by omega) (by omega)).mp c_4
          have hc9 : kc0 120 (fun k => kp (120 * nu + k)) zn := (by have e9 : i = 120 := (by omega); have h9 := hc0; rw [e9] at h9; exact h9)
          have hnN : nwN (su (ud - 1)) lg zn := nwX_cg (kpX_top hkp (by omega) (by omega)) hc9
          refine lv_aload_n hx hb dX12_undo_53 rfl (lv_at hl 1 rfl) ?_
          refine lv_aload_n hx hb dX12_undo_54 rfl (lv_at hl 1 rfl) ?_
          refine sk_get (v := .int (nI nu)) (C := RX12) (T := TX12) (N := 92) hx hb hts inlX12 hown hK hP 0 rfl rfl 56 (by decide) w_5_211 rfl dX12_undo_55 ?_
          refine lv_bipush (v := 20) hx hb dX12_undo_58 (by decide) ?_
          refine lv_iadd hx hb dX12_undo_60 ?_
          refine sk_top (nI (nu + 20)) (nI_add nu 20) ?_
          refine lv_iconst (v := 1) hx hb dX12_undo_61 (by decide) ?_
          refine lv_isub hx hb dX12_undo_62 ?_
          refine sk_top (nI (nu + 20 - 1)) (nsub (nu + 20) 1 (by omega)) ?_
          refine lv_bipush (v := 20) hx hb dX12_undo_63 (by decide) ?_
          refine lv_irem hx hb dX12_undo_65 (by decide) ?_
          refine sk_top (nI ((nu + 20 - 1) % 20)) (nrem (nu + 20 - 1) 20 (by omega) (by omega) (by omega)) ?_
          refine sk_put (ws' := [(mm, .inr (12, mo g (nI ta) (nI pa) (nI pe) pd (nI pb) pp pf pg pn rt rn (nI cd) sn (nI il) tk am at_ aa 0 0 (-1) wt wy 0 (nI rm) (nI ud) (nI ((nu + 20 - 1) % 20)) sd (nI qn) (nI qw) qo (nI qb) (nI qp) qa (nI qi) (nI oc))), (g 31, .inl (cI, 120, .inl zn)), (g 54, .inl (cI, 2400, .inl kp)), (g 9, .inl (cI, 6, .inl rf))]) (C := RX12) (T := TX12) (N := 92) (v := .int (nI ((nu + 20 - 1) % 20))) hx hb hts inlX12 tyX12 tyX12_ok nmX12 hown hK hP hD hS 0 rfl rfl 56 (by decide) w_5_211 rfl rfl rfl (Nat.le_of_ble_eq_true rfl) rfl dX12_undo_66 (fun H locs hP hD hS => ?_)
          refine lv_aload_n hx hb dX12_undo_69 rfl (lv_at hl 1 rfl) ?_
          refine lv_dup hx hb dX12_undo_70 rfl ?_
          refine sk_get (v := .int (nI ud)) (C := RX12) (T := TX12) (N := 92) hx hb hts inlX12 hown hK hP 0 rfl rfl 55 (by decide) w_5_210 rfl dX12_undo_71 ?_
          refine lv_iconst (v := 1) hx hb dX12_undo_74 (by decide) ?_
          refine lv_isub hx hb dX12_undo_75 ?_
          refine sk_top (nI (ud - 1)) (nsub ud 1 (by omega)) ?_
          refine sk_put (ws' := [(mm, .inr (12, mo g (nI ta) (nI pa) (nI pe) pd (nI pb) pp pf pg pn rt rn (nI cd) sn (nI il) tk am at_ aa 0 0 (-1) wt wy 0 (nI rm) (nI (ud - 1)) (nI ((nu + 20 - 1) % 20)) sd (nI qn) (nI qw) qo (nI qb) (nI qp) qa (nI qi) (nI oc))), (g 31, .inl (cI, 120, .inl zn)), (g 54, .inl (cI, 2400, .inl kp)), (g 9, .inl (cI, 6, .inl rf))]) (C := RX12) (T := TX12) (N := 92) (v := .int (nI (ud - 1))) hx hb hts inlX12 tyX12 tyX12_ok nmX12 hown hK hP hD hS 0 rfl rfl 55 (by decide) w_5_210 rfl rfl rfl (Nat.le_of_ble_eq_true rfl) rfl dX12_undo_76 (fun H locs hP hD hS => ?_)
          have hkN := kpX_pop hkp hud
          refine lv_iconst (v := 1) hx hb dX12_undo_79 (by decide) ?_
          exact sk_iret hx hb hr rfl hlocks hK hP hD hS (⟨(su (ud - 1)), zn, kp, 1, (nu + 20 - 1) % 20, ud - 1, rf, hnN, hkN, by omega, by omega, kB_1 (by omega) ⟨rfl, rfl, rfl, rfl⟩, rfl, rfl⟩) (Nat.le_of_ble_eq_true rfl) (Nat.le_of_ble_eq_true rfl) dX12_undo_80
        · have c_4 : ¬ (120 ≤ i) := fun h => c_4 ((nle 120 i (by omega) (by omega)).mpr h)
          refine lv_aload_n hx hb dX12_undo_27 rfl (lv_at hl 1 rfl) ?_
          refine sk_get (v := .ref (g 31)) (C := RX12) (T := TX12) (N := 92) hx hb hts inlX12 hown hK hP 0 rfl rfl 31 (by decide) w_5_186 rfl dX12_undo_28 ?_
          refine lv_iload_n hx hb dX12_undo_31 rfl (lv_at hl 0 rfl) ?_
          refine lv_aload_n hx hb dX12_undo_32 rfl (lv_at hl 1 rfl) ?_
          refine sk_get (v := .ref (g 54)) (C := RX12) (T := TX12) (N := 92) hx hb hts inlX12 hown hK hP 0 rfl rfl 54 (by decide) w_5_209 rfl dX12_undo_33 ?_
          refine lv_bipush (v := 120) hx hb dX12_undo_36 (by decide) ?_
          refine lv_aload_n hx hb dX12_undo_38 rfl (lv_at hl 1 rfl) ?_
          refine sk_get (v := .int (nI nu)) (C := RX12) (T := TX12) (N := 92) hx hb hts inlX12 hown hK hP 0 rfl rfl 56 (by decide) w_5_211 rfl dX12_undo_39 ?_
          refine lv_imul hx hb dX12_undo_42 ?_
          refine sk_top (nI (120 * nu)) (nmul 120 nu) ?_
          refine lv_iload_n hx hb dX12_undo_43 rfl (lv_at hl 0 rfl) ?_
          refine lv_iadd hx hb dX12_undo_44 ?_
          refine sk_top (nI (120 * nu + i)) (nI_add (120 * nu) i) ?_
          refine va_iald hx hb hK.1 hP 2 0 rfl rfl (vin (120 * nu + i) 2400 (by omega) (by omega)) dX12_undo_45 ?_
          refine sk_top (kp (120 * nu + i)) (by rw [nI_clamp (by omega)]) ?_
          refine sk_iastE (k := i) (x := (kp (120 * nu + i))) (ws' := fun f_5 => [(mm, .inr (12, mo g (nI ta) (nI pa) (nI pe) pd (nI pb) pp pf pg pn rt rn (nI cd) sn (nI il) tk am at_ aa 0 0 (-1) wt wy 0 (nI rm) (nI ud) (nI nu) sd (nI qn) (nI qw) qo (nI qb) (nI qp) qa (nI qi) (nI oc))), (g 31, .inl (cI, 120, .inl f_5)), (g 54, .inl (cI, 2400, .inl kp)), (g 9, .inl (cI, 6, .inl rf))]) hx hb hK hP hD hS 1 0 rfl rfl (by omega) (by omega) (fun _ => rfl) dX12_undo_46 (fun f_5 H locs ef_6 hP hD hS => ?_)
          refine lv_iinc (v := nI (i + 1)) (lv' := [(1, .int (nI (i + 1))), (0, .ref mm)]) hx hb dX12_undo_47 hl (k := 0) rfl (ninc i 1 (by decide)) (by decide) rfl (fun ls hl => ?_)
          refine lv_goto (tgt := 21) hx hb dX12_undo_50 (by decide) ?_
          exact ih_lp_2 (i + 1) f_5 _ _ _ (by omega) (by omega) (kc0_s hc0 ef_6 rfl) hP hD hS (lv_sub hl [0, 1] rfl)
    exact lp_2 (120 - 0 + 1) 0 nw _ _ _ (Nat.lt_succ_self _) (by omega) (kc0_0 _ _) hP hD hS (lv_sub hl [0, 1] rfl)
  · have c_1 : ud = 0 := (neq ud 0 (by omega) (by omega)).mp c_1
    refine lv_aload_n hx hb dX12_undo_7 rfl (lv_at hl 0 rfl) ?_
    refine sk_get (v := .ref (g 9)) (C := RX12) (T := TX12) (N := 92) hx hb hts inlX12 hown hK hP 0 rfl rfl 9 (by decide) w_5_164 rfl dX12_undo_8 ?_
    refine lv_iconst (v := 4) hx hb dX12_undo_11 (by decide) ?_
    refine lv_dup2_11 hx hb dX12_undo_12 rfl rfl ?_
    refine va_iald hx hb hK.1 hP 3 0 rfl rfl (by unfold vp_in; decide) dX12_undo_13 ?_
    refine sk_top (rf 4) (rfl) ?_
    refine lv_iconst (v := 1) hx hb dX12_undo_14 (by decide) ?_
    refine lv_iadd hx hb dX12_undo_15 ?_
    refine sk_iastE (k := 4) (ws' := fun f_7 => [(mm, .inr (12, mo g (nI ta) (nI pa) (nI pe) pd (nI pb) pp pf pg pn rt rn (nI cd) sn (nI il) tk am at_ aa 0 0 (-1) wt wy 0 (nI rm) (nI ud) (nI nu) sd (nI qn) (nI qw) qo (nI qb) (nI qp) qa (nI qi) (nI oc))), (g 31, .inl (cI, 120, .inl nw)), (g 54, .inl (cI, 2400, .inl kp)), (g 9, .inl (cI, 6, .inl f_7))]) hx hb hK hP hD hS 3 0 rfl rfl (by omega) (by omega) (fun _ => rfl) dX12_undo_16 (fun f_7 H locs ef_8 hP hD hS => ?_)
    refine lv_iconst (v := 0) hx hb dX12_undo_17 (by decide) ?_
    exact sk_iret hx hb hr rfl hlocks hK hP hD hS (⟨(wn, mN, Ba, We, U, ke), nw, kp, 0, nu, ud, f_7, hnw, hkp, by omega, by omega, kB_0 (by omega) ⟨rfl, rfl, rfl, ef_8⟩, rfl, rfl⟩) (Nat.le_of_ble_eq_true rfl) (Nat.le_of_ble_eq_true rfl) dX12_undo_18

