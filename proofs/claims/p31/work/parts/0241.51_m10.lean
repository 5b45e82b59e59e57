theorem dg_X12_isRest_0_0 : bqL cX12_isRest 0 [(0, [42]), (1, [180, 0, 98]), (4, [27]), (5, [51]), (6, [154, 0, 5]), (11, [3]), (12, [61]), (13, [28]), (14, [42]), (15, [182, 1, 59]), (18, [162, 0, 60]), (78, [4]), (79, [172]), (21, [27]), (22, [4]), (23, [28]), (24, [120]), (25, [130]), (26, [62]), (27, [42]), (28, [28]), (29, [182, 1, 103]), (32, [154, 0, 40]), (72, [132, 2, 1]), (75, [167, 255, 194]), (35, [42]), (36, [180, 0, 98]), (39, [29]), (40, [51]), (41, [153, 0, 31]), (44, [42]), (45, [180, 0, 95]), (48, [16, 9]), (50, [29]), (51, [104]), (52, [28]), (53, [96]), (54, [47]), (55, [42]), (56, [180, 0, 95])] = true := by decide +kernel
theorem dX12_isRest_0 : decode cX12_isRest 0 = .ok (.aload_n 0, 1) := q_aload_n0 (bat_get dg_X12_isRest_0_0 0 rfl rfl)
theorem dX12_isRest_1 : decode cX12_isRest 1 = .ok (.getfield 98, 3) := q_getfield (bat_get dg_X12_isRest_0_0 1 rfl rfl) rfl
theorem dX12_isRest_4 : decode cX12_isRest 4 = .ok (.iload_n 1, 1) := q_iload_n1 (bat_get dg_X12_isRest_0_0 2 rfl rfl)
theorem dX12_isRest_5 : decode cX12_isRest 5 = .ok (.baload, 1) := q_baload (bat_get dg_X12_isRest_0_0 3 rfl rfl)
theorem dX12_isRest_6 : decode cX12_isRest 6 = .ok (.ifCond .ne 5, 3) := q_ifCond_ne (bat_get dg_X12_isRest_0_0 4 rfl rfl) rfl
theorem dX12_isRest_11 : decode cX12_isRest 11 = .ok (.iconst 0, 1) := q_iconst0 (bat_get dg_X12_isRest_0_0 5 rfl rfl)
theorem dX12_isRest_12 : decode cX12_isRest 12 = .ok (.istore_n 2, 1) := q_istore_n2 (bat_get dg_X12_isRest_0_0 6 rfl rfl)
theorem dX12_isRest_13 : decode cX12_isRest 13 = .ok (.iload_n 2, 1) := q_iload_n2 (bat_get dg_X12_isRest_0_0 7 rfl rfl)
theorem dX12_isRest_14 : decode cX12_isRest 14 = .ok (.aload_n 0, 1) := q_aload_n0 (bat_get dg_X12_isRest_0_0 8 rfl rfl)
theorem dX12_isRest_15 : decode cX12_isRest 15 = .ok (.invokevirtual 315, 3) := q_invokevirtual (bat_get dg_X12_isRest_0_0 9 rfl rfl) rfl
theorem dX12_isRest_18 : decode cX12_isRest 18 = .ok (.if_icmp .ge 60, 3) := q_if_icmp_ge (bat_get dg_X12_isRest_0_0 10 rfl rfl) rfl
theorem dX12_isRest_78 : decode cX12_isRest 78 = .ok (.iconst 1, 1) := q_iconst1 (bat_get dg_X12_isRest_0_0 11 rfl rfl)
theorem dX12_isRest_79 : decode cX12_isRest 79 = .ok (.ireturn, 1) := q_ireturn (bat_get dg_X12_isRest_0_0 12 rfl rfl)
theorem dX12_isRest_21 : decode cX12_isRest 21 = .ok (.iload_n 1, 1) := q_iload_n1 (bat_get dg_X12_isRest_0_0 13 rfl rfl)
theorem dX12_isRest_22 : decode cX12_isRest 22 = .ok (.iconst 1, 1) := q_iconst1 (bat_get dg_X12_isRest_0_0 14 rfl rfl)
theorem dX12_isRest_23 : decode cX12_isRest 23 = .ok (.iload_n 2, 1) := q_iload_n2 (bat_get dg_X12_isRest_0_0 15 rfl rfl)
theorem dX12_isRest_24 : decode cX12_isRest 24 = .ok (.ishl, 1) := q_ishl (bat_get dg_X12_isRest_0_0 16 rfl rfl)
theorem dX12_isRest_25 : decode cX12_isRest 25 = .ok (.ixor, 1) := q_ixor (bat_get dg_X12_isRest_0_0 17 rfl rfl)
theorem dX12_isRest_26 : decode cX12_isRest 26 = .ok (.istore_n 3, 1) := q_istore_n3 (bat_get dg_X12_isRest_0_0 18 rfl rfl)
theorem dX12_isRest_27 : decode cX12_isRest 27 = .ok (.aload_n 0, 1) := q_aload_n0 (bat_get dg_X12_isRest_0_0 19 rfl rfl)
theorem dX12_isRest_28 : decode cX12_isRest 28 = .ok (.iload_n 2, 1) := q_iload_n2 (bat_get dg_X12_isRest_0_0 20 rfl rfl)
theorem dX12_isRest_29 : decode cX12_isRest 29 = .ok (.invokevirtual 359, 3) := q_invokevirtual (bat_get dg_X12_isRest_0_0 21 rfl rfl) rfl
theorem dX12_isRest_32 : decode cX12_isRest 32 = .ok (.ifCond .ne 40, 3) := q_ifCond_ne (bat_get dg_X12_isRest_0_0 22 rfl rfl) rfl
theorem dX12_isRest_72 : decode cX12_isRest 72 = .ok (.iinc 2 1, 3) := q_iinc (bat_get dg_X12_isRest_0_0 23 rfl rfl) rfl
theorem dX12_isRest_75 : decode cX12_isRest 75 = .ok (.goto (-62), 3) := q_goto (bat_get dg_X12_isRest_0_0 24 rfl rfl) rfl
theorem dX12_isRest_35 : decode cX12_isRest 35 = .ok (.aload_n 0, 1) := q_aload_n0 (bat_get dg_X12_isRest_0_0 25 rfl rfl)
theorem dX12_isRest_36 : decode cX12_isRest 36 = .ok (.getfield 98, 3) := q_getfield (bat_get dg_X12_isRest_0_0 26 rfl rfl) rfl
theorem dX12_isRest_39 : decode cX12_isRest 39 = .ok (.iload_n 3, 1) := q_iload_n3 (bat_get dg_X12_isRest_0_0 27 rfl rfl)
theorem dX12_isRest_40 : decode cX12_isRest 40 = .ok (.baload, 1) := q_baload (bat_get dg_X12_isRest_0_0 28 rfl rfl)
theorem dX12_isRest_41 : decode cX12_isRest 41 = .ok (.ifCond .eq 31, 3) := q_ifCond_eq (bat_get dg_X12_isRest_0_0 29 rfl rfl) rfl
theorem dX12_isRest_44 : decode cX12_isRest 44 = .ok (.aload_n 0, 1) := q_aload_n0 (bat_get dg_X12_isRest_0_0 30 rfl rfl)
theorem dX12_isRest_45 : decode cX12_isRest 45 = .ok (.getfield 95, 3) := q_getfield (bat_get dg_X12_isRest_0_0 31 rfl rfl) rfl
theorem dX12_isRest_48 : decode cX12_isRest 48 = .ok (.bipush 9, 2) := q_bipush (bat_get dg_X12_isRest_0_0 32 rfl rfl) rfl
theorem dX12_isRest_50 : decode cX12_isRest 50 = .ok (.iload_n 3, 1) := q_iload_n3 (bat_get dg_X12_isRest_0_0 33 rfl rfl)
theorem dX12_isRest_51 : decode cX12_isRest 51 = .ok (.imul, 1) := q_imul (bat_get dg_X12_isRest_0_0 34 rfl rfl)
theorem dX12_isRest_52 : decode cX12_isRest 52 = .ok (.iload_n 2, 1) := q_iload_n2 (bat_get dg_X12_isRest_0_0 35 rfl rfl)
theorem dX12_isRest_53 : decode cX12_isRest 53 = .ok (.iadd, 1) := q_iadd (bat_get dg_X12_isRest_0_0 36 rfl rfl)
theorem dX12_isRest_54 : decode cX12_isRest 54 = .ok (.laload, 1) := q_laload (bat_get dg_X12_isRest_0_0 37 rfl rfl)
theorem dX12_isRest_55 : decode cX12_isRest 55 = .ok (.aload_n 0, 1) := q_aload_n0 (bat_get dg_X12_isRest_0_0 38 rfl rfl)
theorem dX12_isRest_56 : decode cX12_isRest 56 = .ok (.getfield 95, 3) := q_getfield (bat_get dg_X12_isRest_0_0 39 rfl rfl) rfl
theorem dg_X12_isRest_9_59 : bqL cX12_isRest 9 [(50, [16, 9]), (52, [27]), (53, [104]), (54, [28]), (55, [96]), (56, [47]), (57, [148]), (58, [158, 0, 5]), (61, [3]), (62, [172]), (0, [3]), (1, [172])] = true := by decide +kernel
theorem dX12_isRest_59 : decode cX12_isRest 59 = .ok (.bipush 9, 2) := q_bipush (bat_get dg_X12_isRest_9_59 0 rfl rfl) rfl
theorem dX12_isRest_61 : decode cX12_isRest 61 = .ok (.iload_n 1, 1) := q_iload_n1 (bat_get dg_X12_isRest_9_59 1 rfl rfl)
theorem dX12_isRest_62 : decode cX12_isRest 62 = .ok (.imul, 1) := q_imul (bat_get dg_X12_isRest_9_59 2 rfl rfl)
theorem dX12_isRest_63 : decode cX12_isRest 63 = .ok (.iload_n 2, 1) := q_iload_n2 (bat_get dg_X12_isRest_9_59 3 rfl rfl)
theorem dX12_isRest_64 : decode cX12_isRest 64 = .ok (.iadd, 1) := q_iadd (bat_get dg_X12_isRest_9_59 4 rfl rfl)
theorem dX12_isRest_65 : decode cX12_isRest 65 = .ok (.laload, 1) := q_laload (bat_get dg_X12_isRest_9_59 5 rfl rfl)
theorem dX12_isRest_66 : decode cX12_isRest 66 = .ok (.lcmp, 1) := q_lcmp (bat_get dg_X12_isRest_9_59 6 rfl rfl)
theorem dX12_isRest_67 : decode cX12_isRest 67 = .ok (.ifCond .le 5, 3) := q_ifCond_le (bat_get dg_X12_isRest_9_59 7 rfl rfl) rfl
theorem dX12_isRest_70 : decode cX12_isRest 70 = .ok (.iconst 0, 1) := q_iconst0 (bat_get dg_X12_isRest_9_59 8 rfl rfl)
theorem dX12_isRest_71 : decode cX12_isRest 71 = .ok (.ireturn, 1) := q_ireturn (bat_get dg_X12_isRest_9_59 9 rfl rfl)
theorem dX12_isRest_9 : decode cX12_isRest 9 = .ok (.iconst 0, 1) := q_iconst0 (bat_get dg_X12_isRest_9_59 10 rfl rfl)
theorem dX12_isRest_10 : decode cX12_isRest 10 = .ok (.ireturn, 1) := q_ireturn (bat_get dg_X12_isRest_9_59 11 rfl rfl)
theorem w_8_68 : (Cond.code yX12_isRest cX12_isRest 4 (some .boolean)) ∈ wsL_law := sk_mem (ck_8 _ (List.mem_of_getElem? (i := 68) rfl)) rfl
def om_5_14 : List Bool := true :: false :: true :: false :: false :: []
set_option maxHeartbeats 4000000 in
set_option maxRecDepth 100000 in
theorem c_m_isRest (l : Launch) (D : va_G) (cI cJ cC cZ cS : ClassId) (mm : Nat) (g : Nat → Nat) (ta : Nat) (pa : Nat) (pe : Nat) (pd : Int32) (pb : Nat) (pp : Int32) (pf : Int32) (pg : Int32) (pn : Int32) (rt : Int32) (rn : Int32) (cd : Nat) (sn : Int32) (il : Nat) (tk : Int32) (am : Int32) (at_ : Int32) (aa : Int32) (wt : Int32) (wy : Int64) (rm : Nat) (ud : Nat) (nu : Nat) (sd : Int64) (qn : Nat) (qw : Nat) (qo : Int32) (qb : Nat) (qp : Nat) (qa : Int64) (qi : Nat) (oc : Nat) (o : Nat) (l0 : Nat) (l1 : Nat) (dm : Nat) (l3 : Nat) (nw : Nat → Int32) (ag : Nat → Int32) (wg : Nat → Int64) (hdm : dm ≤ 9) (ho : o < 512) (hnw : nowOk nw) : skM l yX12_isRest cX12_isRest 4 (some .boolean) 1 21 0 0 D (skT cI cJ cC cZ cS) [.ref mm, .int (nI o)] [(mm, .inr (12, mo g (nI ta) (nI pa) (nI pe) pd (nI pb) pp pf pg pn rt rn (nI cd) sn (nI il) tk am at_ aa 0 0 (-1) wt wy 0 (nI rm) (nI ud) (nI nu) sd (nI qn) (nI qw) qo (nI qb) (nI qp) qa (nI qi) (nI oc))), (g 20, .inl (cI, 4, .inl (l4 (nI l0) (nI l1) (nI dm) (nI l3)))), (g 31, .inl (cI, 120, .inl nw)), (g 50, .inl (cZ, 512, .inl ag)), (g 49, .inl (cJ, 4608, .inr (.inl wg)))] (skI D (skT cI cJ cC cZ cS) (fun (r : Int32) (u : va_W) => ∃ (b : Nat), b ≤ 1 ∧ r = nI b ∧ u = [(mm, .inr (12, mo g (nI ta) (nI pa) (nI pe) pd (nI pb) pp pf pg pn rt rn (nI cd) sn (nI il) tk am at_ aa 0 0 (-1) wt wy 0 (nI rm) (nI ud) (nI nu) sd (nI qn) (nI qw) qo (nI qb) (nI qp) qa (nI qi) (nI oc))), (g 20, .inl (cI, 4, .inl (l4 (nI l0) (nI l1) (nI dm) (nI l3)))), (g 31, .inl (cI, 120, .inl nw)), (g 50, .inl (cZ, 512, .inl ag)), (g 49, .inl (cJ, 4608, .inr (.inl wg)))])) := by
  refine skM_of pf_X12_isRest (Nat.le_of_ble_eq_true rfl) ?_
  intro p e s m below meth c A ls E hP hD hl
  refine skE_el E (fun hx hb hr hml hlocks hin hown hts hK hA => ?_)
  have hown : s.vm.findClass RX12 = some m.cls := hown
  have hS : va_S A s.heap s.heap [] := va_S.rf
  have hl : lv_has ls 4 [(0, .ref mm), (1, .int (nI o))] := hl
  refine lv_aload_n hx hb dX12_isRest_0 rfl (lv_at hl 0 rfl) ?_
  refine sk_get (v := .ref (g 50)) (C := RX12) (T := TX12) (N := 92) hx hb hts inlX12 hown hK hP 0 rfl rfl 50 (by decide) w_5_205 rfl dX12_isRest_1 ?_
  refine lv_iload_n hx hb dX12_isRest_4 rfl (lv_at hl 1 rfl) ?_
  refine va_zald hx hb hK.1 hP 3 3 rfl rfl (vin o 512 (by omega) (by omega)) dX12_isRest_5 ?_
  refine lv_topi (fun v_1 ev_1 => ?_)
  refine lv_if_ne (tgt := 11) hx hb dX12_isRest_6 (by decide) (fun c_2 => ?_) (fun c_2 => ?_)
  · skip
    refine lv_iconst (v := 0) hx hb dX12_isRest_11 (by decide) ?_
    refine lv_istore_n (lv' := [(2, .int 0), (0, .ref mm), (1, .int (nI o))]) hx hb dX12_isRest_12 rfl hl (by decide) rfl (fun ls hl => ?_)
    have lp_3 : ∀ (n_4 : Nat) (i : Nat) (H : Heap) (locs : List Loc) (ls : Array Slot), dm - i < n_4 → (i ≤ dm) → va_P D vwCl [(mm, .inr (12, mo g (nI ta) (nI pa) (nI pe) pd (nI pb) pp pf pg pn rt rn (nI cd) sn (nI il) tk am at_ aa 0 0 (-1) wt wy 0 (nI rm) (nI ud) (nI nu) sd (nI qn) (nI qw) qo (nI qb) (nI qp) qa (nI qi) (nI oc))), (g 20, .inl (cI, 4, .inl (l4 (nI l0) (nI l1) (nI dm) (nI l3)))), (g 31, .inl (cI, 120, .inl nw)), (g 50, .inl (cZ, 512, .inl ag)), (g 49, .inl (cJ, 4608, .inr (.inl wg)))] H → va_D A [(mm, .inr (12, mo g (nI ta) (nI pa) (nI pe) pd (nI pb) pp pf pg pn rt rn (nI cd) sn (nI il) tk am at_ aa 0 0 (-1) wt wy 0 (nI rm) (nI ud) (nI nu) sd (nI qn) (nI qw) qo (nI qb) (nI qp) qa (nI qi) (nI oc))), (g 20, .inl (cI, 4, .inl (l4 (nI l0) (nI l1) (nI dm) (nI l3)))), (g 31, .inl (cI, 120, .inl nw)), (g 50, .inl (cZ, 512, .inl ag)), (g 49, .inl (cJ, 4608, .inr (.inl wg)))] → va_S A s.heap H locs → lv_has ls 4 [(2, .int (nI i)), (0, .ref mm), (1, .int (nI o))] → W p l e { frames := 1, cells := 0, slots := 0, locals := 21 } s m ([.ref mm, .int (nI o)] : List Value).toArray below meth c H locs 0 0 (MQ below (skI D (skT cI cJ cC cZ cS) (fun (r : Int32) (u : va_W) => ∃ (b : Nat), b ≤ 1 ∧ r = nI b ∧ u = [(mm, .inr (12, mo g (nI ta) (nI pa) (nI pe) pd (nI pb) pp pf pg pn rt rn (nI cd) sn (nI il) tk am at_ aa 0 0 (-1) wt wy 0 (nI rm) (nI ud) (nI nu) sd (nI qn) (nI qw) qo (nI qb) (nI qp) qa (nI qi) (nI oc))), (g 20, .inl (cI, 4, .inl (l4 (nI l0) (nI l1) (nI dm) (nI l3)))), (g 31, .inl (cI, 120, .inl nw)), (g 50, .inl (cZ, 512, .inl ag)), (g 49, .inl (cJ, 4608, .inr (.inl wg)))]) A) ([.ref mm, .int (nI o)] : List Value).toArray s 0 0 A) (F0 m 13 ls []) := by
      intro n_4
      induction n_4 with
      | zero => intro i H locs ls hm; exact absurd hm (Nat.not_lt_zero _)
      | succ n_4 ih_lp_3 =>
        intro i H locs ls hm hi hP hD hS hl
        refine lv_iload_n hx hb dX12_isRest_13 rfl (lv_at hl 0 rfl) ?_
        refine lv_aload_n hx hb dX12_isRest_14 rfl (lv_at hl 1 rfl) ?_
        refine sk_Vi (q0 := 0) (n := 0) (rest := [.int (nI i)]) (wr := fmR om_5_18 _) ⟨hx, hb, hml, hown, hts⟩ hl.1 (c_m_dayMany l D cI cJ cC cZ cS mm g ta pa pe pd pb pp pf pg pn rt rn cd sn il tk am at_ aa 0 0 (-1) wt wy 0 rm ud nu sd qn qw qo qb qp qa qi oc l0 l1 dm l3) w_7_98 w_7_100 w_0_69 w_1_14 w_7_101 hd_X12_dayMany_0 ⟨⟨(Nat.le_of_ble_eq_true rfl), (Nat.le_of_ble_eq_true rfl)⟩, (Nat.le_of_ble_eq_true rfl), (Nat.le_of_ble_eq_true rfl)⟩ hK hP hD hS hA (fmT om_5_18 0) (fmF om_5_18 0) (fm_C1 rfl rfl) (fm_R rfl rfl) (fm_nT om_5_18 0) (fm_nF om_5_18 0) (fm_di om_5_18 0) rfl rfl rfl rfl (Nat.le_of_ble_eq_true rfl) dX12_isRest_15 (fun r_5 u H locs hw hP hD hS => ?_)
        refine anE hw (fun er_7 eu_6 => ?_)
        clear hw
        subst er_7
        refine o_mgE (ws' := [(mm, .inr (12, mo g (nI ta) (nI pa) (nI pe) pd (nI pb) pp pf pg pn rt rn (nI cd) sn (nI il) tk am at_ aa 0 0 (-1) wt wy 0 (nI rm) (nI ud) (nI nu) sd (nI qn) (nI qw) qo (nI qb) (nI qp) qa (nI qi) (nI oc))), (g 20, .inl (cI, 4, .inl (l4 (nI l0) (nI l1) (nI dm) (nI l3)))), (g 31, .inl (cI, 120, .inl nw)), (g 50, .inl (cZ, 512, .inl ag)), (g 49, .inl (cJ, 4608, .inr (.inl wg)))]) eu_6 hP hD rfl (fun hP hD => ?_)
        refine lv_icmp_ge (tgt := 78) hx hb dX12_isRest_18 (by decide) (fun c_8 => ?_) (fun c_8 => ?_)
        · have c_8 : dm ≤ i := (nle dm i (by omega) (by omega)).mp c_8
          refine lv_iconst (v := 1) hx hb dX12_isRest_78 (by decide) ?_
          exact sk_iret hx hb hr rfl hlocks hK hP hD hS (⟨1, by omega, rfl, rfl⟩) (Nat.le_of_ble_eq_true rfl) (Nat.le_of_ble_eq_true rfl) dX12_isRest_79
        · have c_8 : ¬ (dm ≤ i) := fun h => c_8 ((nle dm i (by omega) (by omega)).mpr h)
          refine lv_iload_n hx hb dX12_isRest_21 rfl (lv_at hl 2 rfl) ?_
          refine lv_iconst (v := 1) hx hb dX12_isRest_22 (by decide) ?_
          refine lv_iload_n hx hb dX12_isRest_23 rfl (lv_at hl 0 rfl) ?_
          refine lv_ishl hx hb dX12_isRest_24 ?_
          obtain ⟨k_9, hk_9, ek_9⟩ := nshl1' i (by omega)
          refine sk_top (nI k_9) ek_9 ?_
          refine lv_ixor hx hb dX12_isRest_25 ?_
          obtain ⟨k_10, hk_10, ek_10⟩ := nxor512 o k_9 (by omega) (by omega)
          refine sk_top (nI k_10) ek_10 ?_
          refine lv_istore_n (lv' := [(3, .int (nI k_10)), (2, .int (nI i)), (0, .ref mm), (1, .int (nI o))]) hx hb dX12_isRest_26 rfl hl (by decide) rfl (fun ls hl => ?_)
          refine lv_aload_n hx hb dX12_isRest_27 rfl (lv_at hl 2 rfl) ?_
          refine lv_iload_n hx hb dX12_isRest_28 rfl (lv_at hl 1 rfl) ?_
          refine sk_Vi (q0 := 0) (n := 1) (rest := []) (wr := fmR om_5_14 _) ⟨hx, hb, hml, hown, hts⟩ hl.1 (c_m_isMute l D cI cJ cC cZ cS mm g ta pa pe pd pb pp pf pg pn rt rn cd sn il tk am at_ aa 0 0 (-1) wt wy 0 rm ud nu sd qn qw qo qb qp qa qi oc i nw (by omega) hnw) w_7_106 w_7_108 w_0_71 w_1_14 w_7_109 hd_X12_isMute_1 ⟨⟨(Nat.le_of_ble_eq_true rfl), (Nat.le_of_ble_eq_true rfl)⟩, (Nat.le_of_ble_eq_true rfl), (Nat.le_of_ble_eq_true rfl)⟩ hK hP hD hS hA (fmT om_5_14 0) (fmF om_5_14 0) (fm_C1 rfl rfl) (fm_R rfl rfl) (fm_nT om_5_14 0) (fm_nF om_5_14 0) (fm_di om_5_14 0) rfl rfl rfl rfl (Nat.le_of_ble_eq_true rfl) dX12_isRest_29 (fun r_12 u H locs hw hP hD hS => ?_)
          refine exE hw (fun b_11 hw1 => anE hw1 (fun hb1_13 hw2 => anE hw2 (fun hb2_14 hw3 => anE hw3 (fun er_16 eu_15 => ?_))))
          clear hw hw1 hw2 hw3
          subst er_16
          refine o_mgE (ws' := [(mm, .inr (12, mo g (nI ta) (nI pa) (nI pe) pd (nI pb) pp pf pg pn rt rn (nI cd) sn (nI il) tk am at_ aa 0 0 (-1) wt wy 0 (nI rm) (nI ud) (nI nu) sd (nI qn) (nI qw) qo (nI qb) (nI qp) qa (nI qi) (nI oc))), (g 20, .inl (cI, 4, .inl (l4 (nI l0) (nI l1) (nI dm) (nI l3)))), (g 31, .inl (cI, 120, .inl nw)), (g 50, .inl (cZ, 512, .inl ag)), (g 49, .inl (cJ, 4608, .inr (.inl wg)))]) eu_15 hP hD rfl (fun hP hD => ?_)
          refine lv_if_ne (tgt := 72) hx hb dX12_isRest_32 (by decide) (fun c_17 => ?_) (fun c_17 => ?_)
          · have c_17 : ¬ (b_11 = 0) := fun h => c_17 ((neq b_11 0 (by omega) (by omega)).mpr h)
            refine lv_iinc (v := nI (i + 1)) (lv' := [(2, .int (nI (i + 1))), (3, .int (nI k_10)), (0, .ref mm), (1, .int (nI o))]) hx hb dX12_isRest_72 hl (k := 1) rfl (ninc i 1 (by decide)) (by decide) rfl (fun ls hl => ?_)
            refine lv_goto (tgt := 13) hx hb dX12_isRest_75 (by decide) ?_
            exact ih_lp_3 (i + 1) _ _ _ (by omega) (by omega) hP hD hS (lv_sub hl [0, 2, 3] rfl)
          · have c_17 : b_11 = 0 := (neq b_11 0 (by omega) (by omega)).mp c_17
            refine lv_aload_n hx hb dX12_isRest_35 rfl (lv_at hl 2 rfl) ?_
            refine sk_get (v := .ref (g 50)) (C := RX12) (T := TX12) (N := 92) hx hb hts inlX12 hown hK hP 0 rfl rfl 50 (by decide) w_5_205 rfl dX12_isRest_36 ?_
            refine lv_iload_n hx hb dX12_isRest_39 rfl (lv_at hl 0 rfl) ?_
            refine va_zald hx hb hK.1 hP 3 3 rfl rfl (vin k_10 512 (by omega) (by omega)) dX12_isRest_40 ?_
            refine lv_topi (fun v_18 ev_18 => ?_)
            refine lv_if_eq (tgt := 72) hx hb dX12_isRest_41 (by decide) (fun c_19 => ?_) (fun c_19 => ?_)
            · skip
              refine lv_iinc (v := nI (i + 1)) (lv' := [(2, .int (nI (i + 1))), (3, .int (nI k_10)), (0, .ref mm), (1, .int (nI o))]) hx hb dX12_isRest_72 hl (k := 1) rfl (ninc i 1 (by decide)) (by decide) rfl (fun ls hl => ?_)
              refine lv_goto (tgt := 13) hx hb dX12_isRest_75 (by decide) ?_
              exact ih_lp_3 (i + 1) _ _ _ (by omega) (by omega) hP hD hS (lv_sub hl [0, 2, 3] rfl)
            · skip
              refine lv_aload_n hx hb dX12_isRest_44 rfl (lv_at hl 2 rfl) ?_
              refine sk_get (v := .ref (g 49)) (C := RX12) (T := TX12) (N := 92) hx hb hts inlX12 hown hK hP 0 rfl rfl 49 (by decide) w_5_204 rfl dX12_isRest_45 ?_
              refine lv_bipush (v := 9) hx hb dX12_isRest_48 (by decide) ?_
              refine lv_iload_n hx hb dX12_isRest_50 rfl (lv_at hl 0 rfl) ?_
              refine lv_imul hx hb dX12_isRest_51 ?_
              refine sk_top (nI (9 * k_10)) (nmul 9 k_10) ?_
              refine lv_iload_n hx hb dX12_isRest_52 rfl (lv_at hl 1 rfl) ?_
              refine lv_iadd hx hb dX12_isRest_53 ?_
              refine sk_top (nI (9 * k_10 + i)) (nI_add (9 * k_10) i) ?_
              refine va_lald hx hb hK.1 hP 4 1 rfl rfl (vin (9 * k_10 + i) 4608 (by omega) (by omega)) dX12_isRest_54 ?_
              refine lv_topl (fun v_20 ev_20 => ?_)
              refine lv_aload_n hx hb dX12_isRest_55 rfl (lv_at hl 2 rfl) ?_
              refine sk_get (v := .ref (g 49)) (C := RX12) (T := TX12) (N := 92) hx hb hts inlX12 hown hK hP 0 rfl rfl 49 (by decide) w_5_204 rfl dX12_isRest_56 ?_
              refine lv_bipush (v := 9) hx hb dX12_isRest_59 (by decide) ?_
              refine lv_iload_n hx hb dX12_isRest_61 rfl (lv_at hl 3 rfl) ?_
              refine lv_imul hx hb dX12_isRest_62 ?_
              refine sk_top (nI (9 * o)) (nmul 9 o) ?_
              refine lv_iload_n hx hb dX12_isRest_63 rfl (lv_at hl 1 rfl) ?_
              refine lv_iadd hx hb dX12_isRest_64 ?_
              refine sk_top (nI (9 * o + i)) (nI_add (9 * o) i) ?_
              refine va_lald hx hb hK.1 hP 4 1 rfl rfl (vin (9 * o + i) 4608 (by omega) (by omega)) dX12_isRest_65 ?_
              refine lv_topl (fun v_21 ev_21 => ?_)
              refine W.lcmp hx hb dX12_isRest_66 ?_
              refine lv_if_le (tgt := 72) hx hb dX12_isRest_67 (by decide) (fun c_22 => ?_) (fun c_22 => ?_)
              · skip
                refine lv_iinc (v := nI (i + 1)) (lv' := [(2, .int (nI (i + 1))), (3, .int (nI k_10)), (0, .ref mm), (1, .int (nI o))]) hx hb dX12_isRest_72 hl (k := 1) rfl (ninc i 1 (by decide)) (by decide) rfl (fun ls hl => ?_)
                refine lv_goto (tgt := 13) hx hb dX12_isRest_75 (by decide) ?_
                exact ih_lp_3 (i + 1) _ _ _ (by omega) (by omega) hP hD hS (lv_sub hl [0, 2, 3] rfl)
              · skip
                refine lv_iconst (v := 0) hx hb dX12_isRest_70 (by decide) ?_
                exact sk_iret hx hb hr rfl hlocks hK hP hD hS (⟨0, by omega, rfl, rfl⟩) (Nat.le_of_ble_eq_true rfl) (Nat.le_of_ble_eq_true rfl) dX12_isRest_71
    exact lp_3 (dm - 0 + 1) 0 _ _ _ (Nat.lt_succ_self _) (by omega) hP hD hS (lv_sub hl [0, 1, 2] rfl)
  · skip
    refine lv_iconst (v := 0) hx hb dX12_isRest_9 (by decide) ?_
    exact sk_iret hx hb hr rfl hlocks hK hP hD hS (⟨0, by omega, rfl, rfl⟩) (Nat.le_of_ble_eq_true rfl) (Nat.le_of_ble_eq_true rfl) dX12_isRest_10
