theorem dg_X12_lies_0_0 : bqL cX12_lies 0 [(0, [42]), (1, [180, 1, 46]), (4, [154, 0, 5]), (9, [3]), (10, [60]), (11, [3]), (12, [61]), (13, [28]), (14, [16, 10]), (16, [162, 0, 28]), (44, [27]), (45, [172]), (19, [42]), (20, [28]), (21, [182, 1, 129]), (24, [42]), (25, [3]), (26, [182, 1, 167]), (29, [153, 0, 9]), (38, [132, 2, 1]), (41, [167, 255, 228]), (32, [27]), (33, [4]), (34, [28]), (35, [120]), (36, [128]), (37, [60]), (7, [2]), (8, [172])] = true := by decide +kernel
theorem dX12_lies_0 : decode cX12_lies 0 = .ok (.aload_n 0, 1) := q_aload_n0 (bat_get dg_X12_lies_0_0 0 rfl rfl)
theorem dX12_lies_1 : decode cX12_lies 1 = .ok (.getfield 302, 3) := q_getfield (bat_get dg_X12_lies_0_0 1 rfl rfl) rfl
theorem dX12_lies_4 : decode cX12_lies 4 = .ok (.ifCond .ne 5, 3) := q_ifCond_ne (bat_get dg_X12_lies_0_0 2 rfl rfl) rfl
theorem dX12_lies_9 : decode cX12_lies 9 = .ok (.iconst 0, 1) := q_iconst0 (bat_get dg_X12_lies_0_0 3 rfl rfl)
theorem dX12_lies_10 : decode cX12_lies 10 = .ok (.istore_n 1, 1) := q_istore_n1 (bat_get dg_X12_lies_0_0 4 rfl rfl)
theorem dX12_lies_11 : decode cX12_lies 11 = .ok (.iconst 0, 1) := q_iconst0 (bat_get dg_X12_lies_0_0 5 rfl rfl)
theorem dX12_lies_12 : decode cX12_lies 12 = .ok (.istore_n 2, 1) := q_istore_n2 (bat_get dg_X12_lies_0_0 6 rfl rfl)
theorem dX12_lies_13 : decode cX12_lies 13 = .ok (.iload_n 2, 1) := q_iload_n2 (bat_get dg_X12_lies_0_0 7 rfl rfl)
theorem dX12_lies_14 : decode cX12_lies 14 = .ok (.bipush 10, 2) := q_bipush (bat_get dg_X12_lies_0_0 8 rfl rfl) rfl
theorem dX12_lies_16 : decode cX12_lies 16 = .ok (.if_icmp .ge 28, 3) := q_if_icmp_ge (bat_get dg_X12_lies_0_0 9 rfl rfl) rfl
theorem dX12_lies_44 : decode cX12_lies 44 = .ok (.iload_n 1, 1) := q_iload_n1 (bat_get dg_X12_lies_0_0 10 rfl rfl)
theorem dX12_lies_45 : decode cX12_lies 45 = .ok (.ireturn, 1) := q_ireturn (bat_get dg_X12_lies_0_0 11 rfl rfl)
theorem dX12_lies_19 : decode cX12_lies 19 = .ok (.aload_n 0, 1) := q_aload_n0 (bat_get dg_X12_lies_0_0 12 rfl rfl)
theorem dX12_lies_20 : decode cX12_lies 20 = .ok (.iload_n 2, 1) := q_iload_n2 (bat_get dg_X12_lies_0_0 13 rfl rfl)
theorem dX12_lies_21 : decode cX12_lies 21 = .ok (.invokevirtual 385, 3) := q_invokevirtual (bat_get dg_X12_lies_0_0 14 rfl rfl) rfl
theorem dX12_lies_24 : decode cX12_lies 24 = .ok (.aload_n 0, 1) := q_aload_n0 (bat_get dg_X12_lies_0_0 15 rfl rfl)
theorem dX12_lies_25 : decode cX12_lies 25 = .ok (.iconst 0, 1) := q_iconst0 (bat_get dg_X12_lies_0_0 16 rfl rfl)
theorem dX12_lies_26 : decode cX12_lies 26 = .ok (.invokevirtual 423, 3) := q_invokevirtual (bat_get dg_X12_lies_0_0 17 rfl rfl) rfl
theorem dX12_lies_29 : decode cX12_lies 29 = .ok (.ifCond .eq 9, 3) := q_ifCond_eq (bat_get dg_X12_lies_0_0 18 rfl rfl) rfl
theorem dX12_lies_38 : decode cX12_lies 38 = .ok (.iinc 2 1, 3) := q_iinc (bat_get dg_X12_lies_0_0 19 rfl rfl) rfl
theorem dX12_lies_41 : decode cX12_lies 41 = .ok (.goto (-28), 3) := q_goto (bat_get dg_X12_lies_0_0 20 rfl rfl) rfl
theorem dX12_lies_32 : decode cX12_lies 32 = .ok (.iload_n 1, 1) := q_iload_n1 (bat_get dg_X12_lies_0_0 21 rfl rfl)
theorem dX12_lies_33 : decode cX12_lies 33 = .ok (.iconst 1, 1) := q_iconst1 (bat_get dg_X12_lies_0_0 22 rfl rfl)
theorem dX12_lies_34 : decode cX12_lies 34 = .ok (.iload_n 2, 1) := q_iload_n2 (bat_get dg_X12_lies_0_0 23 rfl rfl)
theorem dX12_lies_35 : decode cX12_lies 35 = .ok (.ishl, 1) := q_ishl (bat_get dg_X12_lies_0_0 24 rfl rfl)
theorem dX12_lies_36 : decode cX12_lies 36 = .ok (.ior, 1) := q_ior (bat_get dg_X12_lies_0_0 25 rfl rfl)
theorem dX12_lies_37 : decode cX12_lies 37 = .ok (.istore_n 1, 1) := q_istore_n1 (bat_get dg_X12_lies_0_0 26 rfl rfl)
theorem dX12_lies_7 : decode cX12_lies 7 = .ok (.iconst (-1), 1) := q_iconstm1 (bat_get dg_X12_lies_0_0 27 rfl rfl)
theorem dX12_lies_8 : decode cX12_lies 8 = .ok (.ireturn, 1) := q_ireturn (bat_get dg_X12_lies_0_0 28 rfl rfl)
theorem w_8_0 : (Cond.code yX12_lies cX12_lies 3 (some .int)) ∈ wsL_law := sk_mem (ck_8 _ (List.mem_of_getElem? (i := 0) rfl)) rfl
set_option maxHeartbeats 4000000 in
set_option maxRecDepth 100000 in
theorem c_m_lies (l : Launch) (D : va_G) (cI cJ cC cZ cS : ClassId) (mm : Nat) (g : Nat → Nat) (ta : Nat) (pa : Nat) (pe : Nat) (pd : Int32) (pb : Nat) (pp : Int32) (pf : Int32) (pg : Int32) (pn : Int32) (rt : Int32) (rn : Int32) (cd : Nat) (sn : Int32) (il : Nat) (tk : Int32) (am : Int32) (at_ : Int32) (aa : Int32) (wt : Int32) (wy : Int64) (rm : Nat) (ud : Nat) (nu : Nat) (sd : Int64) (qn : Nat) (qw : Nat) (qo : Int32) (qb : Nat) (qp : Nat) (qa : Int64) (qi : Nat) (oc : Nat) (u0 : Int32) (u1 : Int32) (u2 : Int32) (u3 : Int32) (u4 : Int32) (u5 : Int32) (v0 : Int32) (v1 : Int32) (v2 : Int32) (v3 : Int32) (v4 : Int32) (v5 : Int32) (cs : Nat → Nat) (nw : Nat → Int32) (pt : Nat → Nat) (ql : Nat → Int64) (l0 : Nat) (l1 : Nat) (dm : Nat) (l3 : Nat) (ws_ : Nat → Int32) (yw : Nat → Int32) (yo : Nat → Int32) (be : Nat → Int64) (bf : Nat → Int64) (hil : il ≤ 1) (hild : il = 1 → 1 ≤ dm) (hdm : dm ≤ 9) (hp0 : progOk cs u3 v3) (hp1 : progOk cs u4 v4) (hp2 : progOk cs u5 v5) (hcs : ∀ j, cs j ≤ 20000) (hnw : nowOk nw) (hpt : ∀ j, pt j ≤ 9) : skM l yX12_lies cX12_lies 3 (some .int) 5 122 0 0 D (skT cI cJ cC cZ cS) [.ref mm] [(mm, .inr (12, mo g (nI ta) (nI pa) (nI pe) pd (nI pb) pp pf pg pn rt rn (nI cd) sn (nI il) tk am at_ aa 0 0 (-1) wt wy 0 (nI rm) (nI ud) (nI nu) sd (nI qn) (nI qw) qo (nI qb) (nI qp) qa (nI qi) (nI oc))), (g 24, .inl (cI, 6, .inl (l6 u0 u1 u2 u3 u4 u5))), (g 25, .inl (cI, 6, .inl (l6 v0 v1 v2 v3 v4 v5))), (g 26, .inl (cI, 3200, .inl (fun j => nI (cs j)))), (g 31, .inl (cI, 120, .inl nw)), (g 46, .inl (cI, 9, .inl (fun j => nI (pt j)))), (g 86, .inl (cJ, 1700, .inr (.inl ql))), (g 20, .inl (cI, 4, .inl (l4 (nI l0) (nI l1) (nI dm) (nI l3)))), (g 38, .inl (cI, 90, .inl ws_)), (g 36, .inl (cZ, 900, .inl yw)), (g 37, .inl (cZ, 900, .inl yo)), (g 43, .inl (cJ, 90, .inr (.inl be))), (g 44, .inl (cJ, 90, .inr (.inl bf)))] (skI D (skT cI cJ cC cZ cS) (fun (r : Int32) (u : va_W) => ∃ (tk2 : Int32), ∃ (qp2 : Nat), ∃ (am2 : Int32), ∃ (at_2 : Int32), ∃ (aa2 : Int32), ∃ (wy2 : Int64), ∃ (ql2 : Nat → Int64), ∃ (ws_2 : Nat → Int32), ∃ (yw2 : Nat → Int32), ∃ (yo2 : Nat → Int32), ∃ (be2 : Nat → Int64), ∃ (bf2 : Nat → Int64), u = [(mm, .inr (12, mo g (nI ta) (nI pa) (nI pe) pd (nI pb) pp pf pg pn rt rn (nI cd) sn (nI il) tk2 am2 at_2 aa2 0 0 (-1) wt wy2 0 (nI rm) (nI ud) (nI nu) sd (nI qn) (nI qw) qo (nI qb) (nI qp2) qa (nI qi) (nI oc))), (g 24, .inl (cI, 6, .inl (l6 u0 u1 u2 u3 u4 u5))), (g 25, .inl (cI, 6, .inl (l6 v0 v1 v2 v3 v4 v5))), (g 26, .inl (cI, 3200, .inl (fun j => nI (cs j)))), (g 31, .inl (cI, 120, .inl nw)), (g 46, .inl (cI, 9, .inl (fun j => nI (pt j)))), (g 86, .inl (cJ, 1700, .inr (.inl ql2))), (g 20, .inl (cI, 4, .inl (l4 (nI l0) (nI l1) (nI dm) (nI l3)))), (g 38, .inl (cI, 90, .inl ws_2)), (g 36, .inl (cZ, 900, .inl yw2)), (g 37, .inl (cZ, 900, .inl yo2)), (g 43, .inl (cJ, 90, .inr (.inl be2))), (g 44, .inl (cJ, 90, .inr (.inl bf2)))])) := by
  refine skM_of pf_X12_lies (Nat.le_of_ble_eq_true rfl) ?_
  intro p e s m below meth c A ls E hP hD hl
  refine skE_el E (fun hx hb hr hml hlocks hin hown hts hK hA => ?_)
  have hown : s.vm.findClass RX12 = some m.cls := hown
  have hS : va_S A s.heap s.heap [] := va_S.rf
  have hl : lv_has ls 3 [(0, .ref mm)] := hl
  refine lv_aload_n hx hb dX12_lies_0 rfl (lv_at hl 0 rfl) ?_
  refine sk_get (v := .int (nI il)) (C := RX12) (T := TX12) (N := 92) hx hb hts inlX12 hown hK hP 0 rfl rfl 29 (by decide) w_5_184 rfl dX12_lies_1 ?_
  refine lv_if_ne (tgt := 9) hx hb dX12_lies_4 (by decide) (fun c_1 => ?_) (fun c_1 => ?_)
  · have c_1 : ¬ (il = 0) := fun h => c_1 ((neq il 0 (by omega) (by omega)).mpr h)
    refine lv_iconst (v := 0) hx hb dX12_lies_9 (by decide) ?_
    refine lv_istore_n (lv' := [(1, .int 0), (0, .ref mm)]) hx hb dX12_lies_10 rfl hl (by decide) rfl (fun ls hl => ?_)
    refine lv_iconst (v := 0) hx hb dX12_lies_11 (by decide) ?_
    refine lv_istore_n (lv' := [(2, .int 0), (1, .int 0), (0, .ref mm)]) hx hb dX12_lies_12 rfl hl (by decide) rfl (fun ls hl => ?_)
    have lp_2 : ∀ (n_3 : Nat) (i : Nat) (se : Int32) (zaml : Int32) (zat_l : Int32) (zaal : Int32) (ztkl : Int32) (zqpl : Nat) (zwyl : Int64) (y86l : Nat → Int64) (y38l : Nat → Int32) (y36l : Nat → Int32) (y37l : Nat → Int32) (y43l : Nat → Int64) (y44l : Nat → Int64) (H : Heap) (locs : List Loc) (ls : Array Slot), 10 - i < n_3 → (i ≤ 10) → va_P D vwCl [(mm, .inr (12, mo g (nI ta) (nI pa) (nI pe) pd (nI pb) pp pf pg pn rt rn (nI cd) sn (nI il) ztkl zaml zat_l zaal 0 0 (-1) wt zwyl 0 (nI rm) (nI ud) (nI nu) sd (nI qn) (nI qw) qo (nI qb) (nI zqpl) qa (nI qi) (nI oc))), (g 24, .inl (cI, 6, .inl (l6 u0 u1 u2 u3 u4 u5))), (g 25, .inl (cI, 6, .inl (l6 v0 v1 v2 v3 v4 v5))), (g 26, .inl (cI, 3200, .inl (fun j => nI (cs j)))), (g 31, .inl (cI, 120, .inl nw)), (g 46, .inl (cI, 9, .inl (fun j => nI (pt j)))), (g 86, .inl (cJ, 1700, .inr (.inl y86l))), (g 20, .inl (cI, 4, .inl (l4 (nI l0) (nI l1) (nI dm) (nI l3)))), (g 38, .inl (cI, 90, .inl y38l)), (g 36, .inl (cZ, 900, .inl y36l)), (g 37, .inl (cZ, 900, .inl y37l)), (g 43, .inl (cJ, 90, .inr (.inl y43l))), (g 44, .inl (cJ, 90, .inr (.inl y44l)))] H → va_D A [(mm, .inr (12, mo g (nI ta) (nI pa) (nI pe) pd (nI pb) pp pf pg pn rt rn (nI cd) sn (nI il) ztkl zaml zat_l zaal 0 0 (-1) wt zwyl 0 (nI rm) (nI ud) (nI nu) sd (nI qn) (nI qw) qo (nI qb) (nI zqpl) qa (nI qi) (nI oc))), (g 24, .inl (cI, 6, .inl (l6 u0 u1 u2 u3 u4 u5))), (g 25, .inl (cI, 6, .inl (l6 v0 v1 v2 v3 v4 v5))), (g 26, .inl (cI, 3200, .inl (fun j => nI (cs j)))), (g 31, .inl (cI, 120, .inl nw)), (g 46, .inl (cI, 9, .inl (fun j => nI (pt j)))), (g 86, .inl (cJ, 1700, .inr (.inl y86l))), (g 20, .inl (cI, 4, .inl (l4 (nI l0) (nI l1) (nI dm) (nI l3)))), (g 38, .inl (cI, 90, .inl y38l)), (g 36, .inl (cZ, 900, .inl y36l)), (g 37, .inl (cZ, 900, .inl y37l)), (g 43, .inl (cJ, 90, .inr (.inl y43l))), (g 44, .inl (cJ, 90, .inr (.inl y44l)))] → va_S A s.heap H locs → lv_has ls 3 [(2, .int (nI i)), (1, .int se), (0, .ref mm)] → W p l e { frames := 5, cells := 0, slots := 0, locals := 122 } s m ([.ref mm] : List Value).toArray below meth c H locs 0 0 (MQ below (skI D (skT cI cJ cC cZ cS) (fun (r : Int32) (u : va_W) => ∃ (tk2 : Int32), ∃ (qp2 : Nat), ∃ (am2 : Int32), ∃ (at_2 : Int32), ∃ (aa2 : Int32), ∃ (wy2 : Int64), ∃ (ql2 : Nat → Int64), ∃ (ws_2 : Nat → Int32), ∃ (yw2 : Nat → Int32), ∃ (yo2 : Nat → Int32), ∃ (be2 : Nat → Int64), ∃ (bf2 : Nat → Int64), u = [(mm, .inr (12, mo g (nI ta) (nI pa) (nI pe) pd (nI pb) pp pf pg pn rt rn (nI cd) sn (nI il) tk2 am2 at_2 aa2 0 0 (-1) wt wy2 0 (nI rm) (nI ud) (nI nu) sd (nI qn) (nI qw) qo (nI qb) (nI qp2) qa (nI qi) (nI oc))), (g 24, .inl (cI, 6, .inl (l6 u0 u1 u2 u3 u4 u5))), (g 25, .inl (cI, 6, .inl (l6 v0 v1 v2 v3 v4 v5))), (g 26, .inl (cI, 3200, .inl (fun j => nI (cs j)))), (g 31, .inl (cI, 120, .inl nw)), (g 46, .inl (cI, 9, .inl (fun j => nI (pt j)))), (g 86, .inl (cJ, 1700, .inr (.inl ql2))), (g 20, .inl (cI, 4, .inl (l4 (nI l0) (nI l1) (nI dm) (nI l3)))), (g 38, .inl (cI, 90, .inl ws_2)), (g 36, .inl (cZ, 900, .inl yw2)), (g 37, .inl (cZ, 900, .inl yo2)), (g 43, .inl (cJ, 90, .inr (.inl be2))), (g 44, .inl (cJ, 90, .inr (.inl bf2)))]) A) ([.ref mm] : List Value).toArray s 0 0 A) (F0 m 13 ls []) := by
      intro n_3
      induction n_3 with
      | zero => intro i se zaml zat_l zaal ztkl zqpl zwyl y86l y38l y36l y37l y43l y44l H locs ls hm; exact absurd hm (Nat.not_lt_zero _)
      | succ n_3 ih_lp_2 =>
        intro i se zaml zat_l zaal ztkl zqpl zwyl y86l y38l y36l y37l y43l y44l H locs ls hm hi hP hD hS hl
        refine lv_iload_n hx hb dX12_lies_13 rfl (lv_at hl 0 rfl) ?_
        refine lv_bipush (v := 10) hx hb dX12_lies_14 (by decide) ?_
        refine lv_icmp_ge (tgt := 44) hx hb dX12_lies_16 (by decide) (fun c_4 => ?_) (fun c_4 => ?_)
        · have c_4 : 10 ≤ i := (nle 10 i (by omega) (by omega)).mp c_4
          refine lv_iload_n hx hb dX12_lies_44 rfl (lv_at hl 1 rfl) ?_
          exact sk_iret hx hb hr rfl hlocks hK hP hD hS (⟨ztkl, zqpl, zaml, zat_l, zaal, zwyl, y86l, y38l, y36l, y37l, y43l, y44l, rfl⟩) (Nat.le_of_ble_eq_true rfl) (Nat.le_of_ble_eq_true rfl) dX12_lies_45
        · have c_4 : ¬ (10 ≤ i) := fun h => c_4 ((nle 10 i (by omega) (by omega)).mpr h)
          refine lv_aload_n hx hb dX12_lies_19 rfl (lv_at hl 2 rfl) ?_
          refine lv_iload_n hx hb dX12_lies_20 rfl (lv_at hl 0 rfl) ?_
          refine sk_Vv (q0 := 0) (n := 1) (rest := []) (wr := fmR om_13_1ffc _) ⟨hx, hb, hml, hown, hts⟩ hl.1 (c_m_laysDays l D cI cJ cC cZ cS mm g ta pa pe pd pb pp pf pg pn rt rn cd sn il ztkl zaml zat_l zaal 0 0 (-1) wt zwyl 0 rm ud nu sd qn qw qo qb zqpl qa qi oc (nI i) u0 u1 u2 u3 u4 u5 v0 v1 v2 v3 v4 v5 cs nw pt y86l l0 l1 dm l3 y38l y36l y37l (by omega) hp0 hp1 hp2 hcs hnw hpt) w_7_193 w_7_195 w_0_83 w_1_14 w_7_196 hd_X12_laysDays_1 ⟨⟨(Nat.le_of_ble_eq_true rfl), (Nat.le_of_ble_eq_true rfl)⟩, (Nat.le_of_ble_eq_true rfl), (Nat.le_of_ble_eq_true rfl)⟩ hK hP hD hS hA (fmT om_13_1ffc 0) (fmF om_13_1ffc 0) (fm_C1 rfl rfl) (fm_R rfl rfl) (fm_nT om_13_1ffc 0) (fm_nF om_13_1ffc 0) (fm_di om_13_1ffc 0) rfl rfl rfl rfl (Nat.le_of_ble_eq_true rfl) dX12_lies_21 (fun u H locs hw hP hD hS => ?_)
          refine exE hw (fun tk2_5 hw1 => exE hw1 (fun qp2_6 hw2 => exE hw2 (fun am2_7 hw3 => exE hw3 (fun at_2_8 hw4 => exE hw4 (fun aa2_9 hw5 => exE hw5 (fun ql2_10 hw6 => exE hw6 (fun ws_2_11 hw7 => exE hw7 (fun yw2_12 hw8 => exE hw8 (fun yo2_13 eu_14 => ?_)))))))))
          clear hw hw1 hw2 hw3 hw4 hw5 hw6 hw7 hw8
          refine o_mgE (ws' := [(mm, .inr (12, mo g (nI ta) (nI pa) (nI pe) pd (nI pb) pp pf pg pn rt rn (nI cd) sn (nI il) tk2_5 am2_7 at_2_8 aa2_9 0 0 (-1) wt zwyl 0 (nI rm) (nI ud) (nI nu) sd (nI qn) (nI qw) qo (nI qb) (nI qp2_6) qa (nI qi) (nI oc))), (g 24, .inl (cI, 6, .inl (l6 u0 u1 u2 u3 u4 u5))), (g 25, .inl (cI, 6, .inl (l6 v0 v1 v2 v3 v4 v5))), (g 26, .inl (cI, 3200, .inl (fun j => nI (cs j)))), (g 31, .inl (cI, 120, .inl nw)), (g 46, .inl (cI, 9, .inl (fun j => nI (pt j)))), (g 86, .inl (cJ, 1700, .inr (.inl ql2_10))), (g 20, .inl (cI, 4, .inl (l4 (nI l0) (nI l1) (nI dm) (nI l3)))), (g 38, .inl (cI, 90, .inl ws_2_11)), (g 36, .inl (cZ, 900, .inl yw2_12)), (g 37, .inl (cZ, 900, .inl yo2_13)), (g 43, .inl (cJ, 90, .inr (.inl y43l))), (g 44, .inl (cJ, 90, .inr (.inl y44l)))]) eu_14 hP hD rfl (fun hP hD => ?_)
          refine lv_aload_n hx hb dX12_lies_24 rfl (lv_at hl 2 rfl) ?_
          refine lv_iconst (v := 0) hx hb dX12_lies_25 (by decide) ?_
          refine sk_Vi (q0 := 0) (n := 1) (rest := []) (wr := fmR om_13_112f _) ⟨hx, hb, hml, hown, hts⟩ hl.1 (c_m_doesAgree l D cI cJ cC cZ cS mm g ta pa pe pd pb pp pf pg pn rt rn cd sn il tk2_5 am2_7 at_2_8 aa2_9 0 wt zwyl 0 rm ud nu sd qn qw qo qb qp2_6 qa qi oc 0 l0 l1 dm l3 nw yo2_13 yw2_12 y43l y44l (by omega) (by omega) hnw) w_7_229 w_7_231 w_0_89 w_1_14 w_7_232 hd_X12_doesAgree_1 ⟨⟨(Nat.le_of_ble_eq_true rfl), (Nat.le_of_ble_eq_true rfl)⟩, (Nat.le_of_ble_eq_true rfl), (Nat.le_of_ble_eq_true rfl)⟩ hK hP hD hS hA [0, 7, 4, 10, 9, 11, 12] (fmF om_13_112f 0) rfl (fm_R rfl rfl) (by decide +kernel) (fm_nF om_13_112f 0) (by decide +kernel) rfl rfl rfl rfl (Nat.le_of_ble_eq_true rfl) dX12_lies_26 (fun r_19 u H locs hw hP hD hS => ?_)
          refine exE hw (fun b_15 hw1 => exE hw1 (fun wy2_16 hw2 => exE hw2 (fun be2_17 hw3 => exE hw3 (fun bf2_18 hw4 => anE hw4 (fun hbe_20 hw5 => anE hw5 (fun hwy_21 hw6 => anE hw6 (fun hb1_22 hw7 => anE hw7 (fun er_24 eu_23 => ?_))))))))
          clear hw hw1 hw2 hw3 hw4 hw5 hw6 hw7
          subst er_24
          refine o_mgqE (ux := [(mm, .inr (12, mo g (nI ta) (nI pa) (nI pe) pd (nI pb) pp pf pg pn rt rn (nI cd) sn (nI il) tk2_5 am2_7 at_2_8 aa2_9 0 0 (-1) wt wy2_16 0 (nI rm) (nI ud) (nI nu) sd (nI qn) (nI qw) qo (nI qb) (nI qp2_6) qa (nI qi) (nI oc))), (g 31, .inl (cI, 120, .inl nw)), (g 20, .inl (cI, 4, .inl (l4 (nI l0) (nI l1) (nI dm) (nI l3)))), (g 36, .inl (cZ, 900, .inl yw2_12)), (g 37, .inl (cZ, 900, .inl yo2_13)), (g 43, .inl (cJ, 90, .inr (.inl be2_17))), (g 44, .inl (cJ, 90, .inr (.inl bf2_18)))]) (ws' := [(mm, .inr (12, mo g (nI ta) (nI pa) (nI pe) pd (nI pb) pp pf pg pn rt rn (nI cd) sn (nI il) tk2_5 am2_7 at_2_8 aa2_9 0 0 (-1) wt wy2_16 0 (nI rm) (nI ud) (nI nu) sd (nI qn) (nI qw) qo (nI qb) (nI qp2_6) qa (nI qi) (nI oc))), (g 24, .inl (cI, 6, .inl (l6 u0 u1 u2 u3 u4 u5))), (g 25, .inl (cI, 6, .inl (l6 v0 v1 v2 v3 v4 v5))), (g 26, .inl (cI, 3200, .inl (fun j => nI (cs j)))), (g 31, .inl (cI, 120, .inl nw)), (g 46, .inl (cI, 9, .inl (fun j => nI (pt j)))), (g 86, .inl (cJ, 1700, .inr (.inl ql2_10))), (g 20, .inl (cI, 4, .inl (l4 (nI l0) (nI l1) (nI dm) (nI l3)))), (g 38, .inl (cI, 90, .inl ws_2_11)), (g 36, .inl (cZ, 900, .inl yw2_12)), (g 37, .inl (cZ, 900, .inl yo2_13)), (g 43, .inl (cJ, 90, .inr (.inl be2_17))), (g 44, .inl (cJ, 90, .inr (.inl bf2_18)))]) eu_23 [0, 2, 1, 4, 3, 5, 6] (by decide +kernel) rfl hP hD rfl (fun hP hD => ?_)
          refine lv_if_eq (tgt := 38) hx hb dX12_lies_29 (by decide) (fun c_25 => ?_) (fun c_25 => ?_)
          · have c_25 : b_15 = 0 := (neq b_15 0 (by omega) (by omega)).mp c_25
            refine lv_iinc (v := nI (i + 1)) (lv' := [(2, .int (nI (i + 1))), (1, .int se), (0, .ref mm)]) hx hb dX12_lies_38 hl (k := 0) rfl (ninc i 1 (by decide)) (by decide) rfl (fun ls hl => ?_)
            refine lv_goto (tgt := 13) hx hb dX12_lies_41 (by decide) ?_
            exact ih_lp_2 (i + 1) se am2_7 at_2_8 aa2_9 tk2_5 qp2_6 wy2_16 ql2_10 ws_2_11 yw2_12 yo2_13 be2_17 bf2_18 _ _ _ (by omega) (by omega) hP hD hS (lv_sub hl [0, 1, 2] rfl)
          · have c_25 : ¬ (b_15 = 0) := fun h => c_25 ((neq b_15 0 (by omega) (by omega)).mpr h)
            refine lv_iload_n hx hb dX12_lies_32 rfl (lv_at hl 1 rfl) ?_
            refine lv_iconst (v := 1) hx hb dX12_lies_33 (by decide) ?_
            refine lv_iload_n hx hb dX12_lies_34 rfl (lv_at hl 0 rfl) ?_
            refine lv_ishl hx hb dX12_lies_35 ?_
            refine lv_topi (fun v_26 ev_26 => ?_)
            refine lv_ior hx hb dX12_lies_36 ?_
            refine lv_topi (fun v_27 ev_27 => ?_)
            refine lv_istore_n (lv' := [(1, .int v_27), (2, .int (nI i)), (0, .ref mm)]) hx hb dX12_lies_37 rfl hl (by decide) rfl (fun ls hl => ?_)
            refine lv_iinc (v := nI (i + 1)) (lv' := [(2, .int (nI (i + 1))), (1, .int v_27), (0, .ref mm)]) hx hb dX12_lies_38 hl (k := 1) rfl (ninc i 1 (by decide)) (by decide) rfl (fun ls hl => ?_)
            refine lv_goto (tgt := 13) hx hb dX12_lies_41 (by decide) ?_
            exact ih_lp_2 (i + 1) v_27 am2_7 at_2_8 aa2_9 tk2_5 qp2_6 wy2_16 ql2_10 ws_2_11 yw2_12 yo2_13 be2_17 bf2_18 _ _ _ (by omega) (by omega) hP hD hS (lv_sub hl [0, 1, 2] rfl)
    exact lp_2 (10 - 0 + 1) 0 0 am at_ aa tk qp wy ql ws_ yw yo be bf _ _ _ (Nat.lt_succ_self _) (by omega) hP hD hS (lv_sub hl [0, 1, 2] rfl)
  · have c_1 : il = 0 := (neq il 0 (by omega) (by omega)).mp c_1
    refine lv_iconst (v := (-1)) hx hb dX12_lies_7 (by decide) ?_
    exact sk_iret hx hb hr rfl hlocks hK hP hD hS (⟨tk, qp, am, at_, aa, wy, ql, ws_, yw, yo, be, bf, rfl⟩) (Nat.le_of_ble_eq_true rfl) (Nat.le_of_ble_eq_true rfl) dX12_lies_8

