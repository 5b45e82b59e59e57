set_option maxHeartbeats 4000000 in
set_option maxRecDepth 100000 in
theorem c_nm_canBeToldN (l : Launch) (D : va_G) (cI cJ cC cZ cS : ClassId) (mm : Nat) (g : Nat → Nat) (ta : Nat) (pa : Nat) (pe : Nat) (pd : Int32) (pb : Nat) (pp : Int32) (pf : Int32) (pg : Int32) (pn : Int32) (rt : Int32) (rn : Int32) (cd : Nat) (sn : Int32) (il : Nat) (tk : Int32) (am : Int32) (at_ : Int32) (aa : Int32) (wt : Int32) (wy : Int64) (rm : Nat) (ud : Nat) (nu : Nat) (sd : Int64) (qn : Nat) (qw : Nat) (qo : Int32) (qb : Nat) (qp : Nat) (qa : Int64) (qi : Nat) (oc : Nat) (aw : Nat) (cw : Nat) (l0 : Nat) (l1 : Nat) (dm : Nat) (l3 : Nat) (nw : Nat → Int32) (wn : Nat) (mN : Nat) (Ba : Nat → Nat) (We : Nat → Nat) (U : Nat → Bool) (ke : Nat) (lg : KLg) (hdm : dm ≤ 9) (ha9 : aw ≤ 255) (hc9 : cw ≤ 255) (hnw : nwX wn mN Ba We U ke lg nw) : skM l yX12_canBeTold cX12_canBeTold 3 (some .boolean) 2 46 0 0 D (skT cI cJ cC cZ cS) [.ref mm, .int (nI aw), .int (nI cw)] [(mm, .inr (12, mo g (nI ta) (nI pa) (nI pe) pd (nI pb) pp pf pg pn rt rn (nI cd) sn (nI il) tk am at_ aa 0 0 (-1) wt wy 0 (nI rm) (nI ud) (nI nu) sd (nI qn) (nI qw) qo (nI qb) (nI qp) qa (nI qi) (nI oc))), (g 20, .inl (cI, 4, .inl (l4 (nI l0) (nI l1) (nI dm) (nI l3)))), (g 31, .inl (cI, 120, .inl nw))] (skI D (skT cI cJ cC cZ cS) (fun (r : Int32) (u : va_W) => ∃ (b : Nat), ((b = 0 ∧ ¬ (aw < dm ∧ ¬ U aw = true ∧ cw < 10)) ∨ (b = 1 ∧ aw < dm ∧ ¬ U aw = true ∧ cw < 10)) ∧ r = nI b ∧ u = [(mm, .inr (12, mo g (nI ta) (nI pa) (nI pe) pd (nI pb) pp pf pg pn rt rn (nI cd) sn (nI il) tk am at_ aa 0 0 (-1) wt wy 0 (nI rm) (nI ud) (nI nu) sd (nI qn) (nI qw) qo (nI qb) (nI qp) qa (nI qi) (nI oc))), (g 20, .inl (cI, 4, .inl (l4 (nI l0) (nI l1) (nI dm) (nI l3)))), (g 31, .inl (cI, 120, .inl nw))])) := by
  refine skM_of pf_X12_canBeTold (Nat.le_of_ble_eq_true rfl) ?_
  intro p e s m below meth c A ls E hP hD hl
  refine skE_el E (fun hx hb hr hml hlocks hin hown hts hK hA => ?_)
  have hown : s.vm.findClass RX12 = some m.cls := hown
  have hS : va_S A s.heap s.heap [] := va_S.rf
  have hl : lv_has ls 3 [(0, .ref mm), (1, .int (nI aw)), (2, .int (nI cw))] := hl
  refine lv_aload_n hx hb dX12_canBeTold_0 rfl (lv_at hl 0 rfl) ?_
  refine lv_iload_n hx hb dX12_canBeTold_1 rfl (lv_at hl 1 rfl) ?_
  refine sk_Vi (q0 := 0) (n := 1) (rest := []) (wr := fmR om_3_6 _) ⟨hx, hb, hml, hown, hts⟩ hl.1 (c_nm_isDay l D cI cJ cC cZ cS mm g ta pa pe pd pb pp pf pg pn rt rn cd sn il tk am at_ aa wt wy rm ud nu sd qn qw qo qb qp qa qi oc (nI aw) l0 l1 dm l3 (by omega)) w_7_117 w_7_119 w_0_72 w_1_14 w_7_120 hd_X12_isDay_1 ⟨⟨(Nat.le_of_ble_eq_true rfl), (Nat.le_of_ble_eq_true rfl)⟩, (Nat.le_of_ble_eq_true rfl), (Nat.le_of_ble_eq_true rfl)⟩ hK hP hD hS hA (fmT om_3_6 0) (fmF om_3_6 0) (fm_C1 rfl rfl) (fm_R rfl rfl) (fm_nT om_3_6 0) (fm_nF om_3_6 0) (fm_di om_3_6 0) rfl rfl rfl rfl (Nat.le_of_ble_eq_true rfl) dX12_canBeTold_2 (fun r_2 u H locs hw hP hD hS => ?_)
  refine exE hw (fun b_1 hw1 => anE hw1 (fun hb1_3 hw2 => anE hw2 (fun er_5 eu_4 => ?_)))
  clear hw hw1 hw2
  subst er_5
  refine o_mgE (ws' := [(mm, .inr (12, mo g (nI ta) (nI pa) (nI pe) pd (nI pb) pp pf pg pn rt rn (nI cd) sn (nI il) tk am at_ aa 0 0 (-1) wt wy 0 (nI rm) (nI ud) (nI nu) sd (nI qn) (nI qw) qo (nI qb) (nI qp) qa (nI qi) (nI oc))), (g 20, .inl (cI, 4, .inl (l4 (nI l0) (nI l1) (nI dm) (nI l3)))), (g 31, .inl (cI, 120, .inl nw))]) eu_4 hP hD rfl (fun hP hD => ?_)
  refine lv_if_eq (tgt := 28) hx hb dX12_canBeTold_5 (by decide) (fun c_6 => ?_) (fun c_6 => ?_)
  · have c_6 : b_1 = 0 := (neq b_1 0 (by omega) (by omega)).mp c_6
    refine lv_iconst (v := 0) hx hb dX12_canBeTold_28 (by decide) ?_
    exact sk_iret hx hb hr rfl hlocks hK hP hD hS (⟨0, Or.inl ⟨rfl, fun hq => (rr_0 hb1_3 (by omega)) ⟨aw, hq.1, rfl⟩⟩, rfl, rfl⟩) (Nat.le_of_ble_eq_true rfl) (Nat.le_of_ble_eq_true rfl) dX12_canBeTold_29
  · have c_6 : ¬ (b_1 = 0) := fun h => c_6 ((neq b_1 0 (by omega) (by omega)).mpr h)
    obtain ⟨kd_7, hkd_7, ekd_7⟩ := rr_1 hb1_3 (by omega)
    have ekd_7 := (neq aw kd_7 (by omega) (by omega)).mp ekd_7
    refine lv_aload_n hx hb dX12_canBeTold_8 rfl (lv_at hl 0 rfl) ?_
    refine lv_iload_n hx hb dX12_canBeTold_9 rfl (lv_at hl 1 rfl) ?_
    refine sk_Vi (q0 := 0) (n := 1) (rest := []) (wr := fmR om_3_5 _) ⟨hx, hb, hml, hown, hts⟩ hl.1 (c_nm_isMute l D cI cJ cC cZ cS mm g ta pa pe pd pb pp pf pg pn rt rn cd sn il tk am at_ aa wt wy rm ud nu sd qn qw qo qb qp qa qi oc aw nw wn mN Ba We U ke lg (by omega) hnw) w_7_106 w_7_108 w_0_71 w_1_14 w_7_109 hd_X12_isMute_1 ⟨⟨(Nat.le_of_ble_eq_true rfl), (Nat.le_of_ble_eq_true rfl)⟩, (Nat.le_of_ble_eq_true rfl), (Nat.le_of_ble_eq_true rfl)⟩ hK hP hD hS hA (fmT om_3_5 0) (fmF om_3_5 0) (fm_C1 rfl rfl) (fm_R rfl rfl) (fm_nT om_3_5 0) (fm_nF om_3_5 0) (fm_di om_3_5 0) rfl rfl rfl rfl (Nat.le_of_ble_eq_true rfl) dX12_canBeTold_10 (fun r_9 u H locs hw hP hD hS => ?_)
    refine exE hw (fun b_8 hw1 => anE hw1 (fun hb1_10 hw2 => anE hw2 (fun er_12 eu_11 => ?_)))
    clear hw hw1 hw2
    subst er_12
    refine o_mgE (ws' := [(mm, .inr (12, mo g (nI ta) (nI pa) (nI pe) pd (nI pb) pp pf pg pn rt rn (nI cd) sn (nI il) tk am at_ aa 0 0 (-1) wt wy 0 (nI rm) (nI ud) (nI nu) sd (nI qn) (nI qw) qo (nI qb) (nI qp) qa (nI qi) (nI oc))), (g 20, .inl (cI, 4, .inl (l4 (nI l0) (nI l1) (nI dm) (nI l3)))), (g 31, .inl (cI, 120, .inl nw))]) eu_11 hP hD rfl (fun hP hD => ?_)
    refine lv_if_ne (tgt := 28) hx hb dX12_canBeTold_13 (by decide) (fun c_13 => ?_) (fun c_13 => ?_)
    · have c_13 : ¬ (b_8 = 0) := fun h => c_13 ((neq b_8 0 (by omega) (by omega)).mpr h)
      refine lv_iconst (v := 0) hx hb dX12_canBeTold_28 (by decide) ?_
      exact sk_iret hx hb hr rfl hlocks hK hP hD hS (⟨0, Or.inl ⟨rfl, fun hq => hq.2.1 (km_1 hb1_10 (by omega))⟩, rfl, rfl⟩) (Nat.le_of_ble_eq_true rfl) (Nat.le_of_ble_eq_true rfl) dX12_canBeTold_29
    · have c_13 : b_8 = 0 := (neq b_8 0 (by omega) (by omega)).mp c_13
      refine lv_aload_n hx hb dX12_canBeTold_16 rfl (lv_at hl 0 rfl) ?_
      refine lv_iload_n hx hb dX12_canBeTold_17 rfl (lv_at hl 2 rfl) ?_
      refine sk_Vi (q0 := 0) (n := 1) (rest := []) (wr := fmR om_3_4 _) ⟨hx, hb, hml, hown, hts⟩ hl.1 (c_nm_isMood l D cI cJ cC cZ cS mm g ta pa pe pd pb pp pf pg pn rt rn cd sn il tk am at_ aa wt wy rm ud nu sd qn qw qo qb qp qa qi oc (nI cw)) w_7_126 w_7_128 w_0_73 w_1_14 w_7_129 hd_X12_isMood_1 ⟨⟨(Nat.le_of_ble_eq_true rfl), (Nat.le_of_ble_eq_true rfl)⟩, (Nat.le_of_ble_eq_true rfl), (Nat.le_of_ble_eq_true rfl)⟩ hK hP hD hS hA (fmT om_3_4 0) (fmF om_3_4 0) (fm_C1 rfl rfl) (fm_R rfl rfl) (fm_nT om_3_4 0) (fm_nF om_3_4 0) (fm_di om_3_4 0) rfl rfl rfl rfl (Nat.le_of_ble_eq_true rfl) dX12_canBeTold_18 (fun r_15 u H locs hw hP hD hS => ?_)
      refine exE hw (fun b_14 hw1 => anE hw1 (fun hb1_16 hw2 => anE hw2 (fun er_18 eu_17 => ?_)))
      clear hw hw1 hw2
      subst er_18
      refine o_mgE (ws' := [(mm, .inr (12, mo g (nI ta) (nI pa) (nI pe) pd (nI pb) pp pf pg pn rt rn (nI cd) sn (nI il) tk am at_ aa 0 0 (-1) wt wy 0 (nI rm) (nI ud) (nI nu) sd (nI qn) (nI qw) qo (nI qb) (nI qp) qa (nI qi) (nI oc))), (g 20, .inl (cI, 4, .inl (l4 (nI l0) (nI l1) (nI dm) (nI l3)))), (g 31, .inl (cI, 120, .inl nw))]) eu_17 hP hD rfl (fun hP hD => ?_)
      refine lv_if_eq (tgt := 28) hx hb dX12_canBeTold_21 (by decide) (fun c_19 => ?_) (fun c_19 => ?_)
      · have c_19 : b_14 = 0 := (neq b_14 0 (by omega) (by omega)).mp c_19
        refine lv_iconst (v := 0) hx hb dX12_canBeTold_28 (by decide) ?_
        exact sk_iret hx hb hr rfl hlocks hK hP hD hS (⟨0, Or.inl ⟨rfl, fun hq => (rr_0 hb1_16 (by omega)) ⟨cw, hq.2.2, rfl⟩⟩, rfl, rfl⟩) (Nat.le_of_ble_eq_true rfl) (Nat.le_of_ble_eq_true rfl) dX12_canBeTold_29
      · have c_19 : ¬ (b_14 = 0) := fun h => c_19 ((neq b_14 0 (by omega) (by omega)).mpr h)
        obtain ⟨kd_20, hkd_20, ekd_20⟩ := rr_1 hb1_16 (by omega)
        have ekd_20 := (neq cw kd_20 (by omega) (by omega)).mp ekd_20
        refine lv_iconst (v := 1) hx hb dX12_canBeTold_24 (by decide) ?_
        refine lv_goto (tgt := 29) hx hb dX12_canBeTold_25 (by decide) ?_
        exact sk_iret hx hb hr rfl hlocks hK hP hD hS (⟨1, Or.inr ⟨rfl, by omega, km_0 hb1_10 (by omega), by omega⟩, rfl, rfl⟩) (Nat.le_of_ble_eq_true rfl) (Nat.le_of_ble_eq_true rfl) dX12_canBeTold_29
theorem hr_rows {dm ta : Nat} {U : Nat → Bool} {tb : Nat → Nat} {f : Nat → Int32} (h : ∀ k, k < ta → f k = nI (tb k)) (hc : hearC dm U tb ta) : ∀ j, j < ta / 2 → f (2 * j) = nI (hrR tb j / 10) ∧ f (2 * j + 1) = nI (hrR tb j % 10) := fun j hj => by
  have h1 := hc.2.2.2.2 j (by omega)
  rw [h _ (by omega), h _ (by omega)]
  unfold hrR
  rw [show (tb (2 * j) * 10 + tb (2 * j + 1)) / 10 = tb (2 * j) by omega, show (tb (2 * j) * 10 + tb (2 * j + 1)) % 10 = tb (2 * j + 1) by omega]
  exact ⟨rfl, rfl⟩
theorem kc_n {tb : Nat → Nat} {i : Nat} {f g : Nat → Int32} (h : ∀ k, k < i → f k = nI (tb k)) (e : g = upd f i (nI (tb i))) : ∀ k, k < i + 1 → g k = nI (tb k) := fun k hk => by
  by_cases q : k = i
  · subst q; rw [kui_s e]
  · rw [kui_n e q]; exact h k (by omega)
theorem dg_X12_hear_0_0 : bqL cX12_hear 0 [(0, [42]), (1, [180, 0, 192]), (4, [60]), (5, [42]), (6, [3]), (7, [181, 0, 192]), (40, [61]), (41, [3]), (42, [62]), (43, [29]), (44, [27]), (45, [162, 0, 32]), (77, [28]), (78, [154, 0, 9]), (87, [3]), (88, [62]), (89, [29]), (90, [27]), (91, [162, 0, 21]), (112, [42]), (113, [27]), (114, [5]), (115, [108]), (116, [181, 1, 56]), (119, [42]), (120, [180, 1, 56]), (123, [172]), (94, [42]), (95, [180, 0, 104]), (98, [29]), (99, [42]), (100, [180, 0, 7]), (103, [29]), (104, [46]), (105, [79]), (106, [132, 3, 1]), (109, [167, 255, 236]), (81, [42]), (82, [4]), (83, [182, 1, 207])] = true := by decide +kernel
theorem dX12_hear_0 : decode cX12_hear 0 = .ok (.aload_n 0, 1) := q_aload_n0 (bat_get dg_X12_hear_0_0 0 rfl rfl)
theorem dX12_hear_1 : decode cX12_hear 1 = .ok (.getfield 192, 3) := q_getfield (bat_get dg_X12_hear_0_0 1 rfl rfl) rfl
theorem dX12_hear_4 : decode cX12_hear 4 = .ok (.istore_n 1, 1) := q_istore_n1 (bat_get dg_X12_hear_0_0 2 rfl rfl)
theorem dX12_hear_5 : decode cX12_hear 5 = .ok (.aload_n 0, 1) := q_aload_n0 (bat_get dg_X12_hear_0_0 3 rfl rfl)
theorem dX12_hear_6 : decode cX12_hear 6 = .ok (.iconst 0, 1) := q_iconst0 (bat_get dg_X12_hear_0_0 4 rfl rfl)
theorem dX12_hear_7 : decode cX12_hear 7 = .ok (.putfield 192, 3) := q_putfield (bat_get dg_X12_hear_0_0 5 rfl rfl) rfl
theorem dX12_hear_40 : decode cX12_hear 40 = .ok (.istore_n 2, 1) := q_istore_n2 (bat_get dg_X12_hear_0_0 6 rfl rfl)
theorem dX12_hear_41 : decode cX12_hear 41 = .ok (.iconst 0, 1) := q_iconst0 (bat_get dg_X12_hear_0_0 7 rfl rfl)
theorem dX12_hear_42 : decode cX12_hear 42 = .ok (.istore_n 3, 1) := q_istore_n3 (bat_get dg_X12_hear_0_0 8 rfl rfl)
theorem dX12_hear_43 : decode cX12_hear 43 = .ok (.iload_n 3, 1) := q_iload_n3 (bat_get dg_X12_hear_0_0 9 rfl rfl)
theorem dX12_hear_44 : decode cX12_hear 44 = .ok (.iload_n 1, 1) := q_iload_n1 (bat_get dg_X12_hear_0_0 10 rfl rfl)
theorem dX12_hear_45 : decode cX12_hear 45 = .ok (.if_icmp .ge 32, 3) := q_if_icmp_ge (bat_get dg_X12_hear_0_0 11 rfl rfl) rfl
theorem dX12_hear_77 : decode cX12_hear 77 = .ok (.iload_n 2, 1) := q_iload_n2 (bat_get dg_X12_hear_0_0 12 rfl rfl)
theorem dX12_hear_78 : decode cX12_hear 78 = .ok (.ifCond .ne 9, 3) := q_ifCond_ne (bat_get dg_X12_hear_0_0 13 rfl rfl) rfl
theorem dX12_hear_87 : decode cX12_hear 87 = .ok (.iconst 0, 1) := q_iconst0 (bat_get dg_X12_hear_0_0 14 rfl rfl)
theorem dX12_hear_88 : decode cX12_hear 88 = .ok (.istore_n 3, 1) := q_istore_n3 (bat_get dg_X12_hear_0_0 15 rfl rfl)
theorem dX12_hear_89 : decode cX12_hear 89 = .ok (.iload_n 3, 1) := q_iload_n3 (bat_get dg_X12_hear_0_0 16 rfl rfl)
theorem dX12_hear_90 : decode cX12_hear 90 = .ok (.iload_n 1, 1) := q_iload_n1 (bat_get dg_X12_hear_0_0 17 rfl rfl)
theorem dX12_hear_91 : decode cX12_hear 91 = .ok (.if_icmp .ge 21, 3) := q_if_icmp_ge (bat_get dg_X12_hear_0_0 18 rfl rfl) rfl
theorem dX12_hear_112 : decode cX12_hear 112 = .ok (.aload_n 0, 1) := q_aload_n0 (bat_get dg_X12_hear_0_0 19 rfl rfl)
theorem dX12_hear_113 : decode cX12_hear 113 = .ok (.iload_n 1, 1) := q_iload_n1 (bat_get dg_X12_hear_0_0 20 rfl rfl)
theorem dX12_hear_114 : decode cX12_hear 114 = .ok (.iconst 2, 1) := q_iconst2 (bat_get dg_X12_hear_0_0 21 rfl rfl)
theorem dX12_hear_115 : decode cX12_hear 115 = .ok (.idiv, 1) := q_idiv (bat_get dg_X12_hear_0_0 22 rfl rfl)
theorem dX12_hear_116 : decode cX12_hear 116 = .ok (.putfield 312, 3) := q_putfield (bat_get dg_X12_hear_0_0 23 rfl rfl) rfl
theorem dX12_hear_119 : decode cX12_hear 119 = .ok (.aload_n 0, 1) := q_aload_n0 (bat_get dg_X12_hear_0_0 24 rfl rfl)
theorem dX12_hear_120 : decode cX12_hear 120 = .ok (.getfield 312, 3) := q_getfield (bat_get dg_X12_hear_0_0 25 rfl rfl) rfl
theorem dX12_hear_123 : decode cX12_hear 123 = .ok (.ireturn, 1) := q_ireturn (bat_get dg_X12_hear_0_0 26 rfl rfl)
theorem dX12_hear_94 : decode cX12_hear 94 = .ok (.aload_n 0, 1) := q_aload_n0 (bat_get dg_X12_hear_0_0 27 rfl rfl)
theorem dX12_hear_95 : decode cX12_hear 95 = .ok (.getfield 104, 3) := q_getfield (bat_get dg_X12_hear_0_0 28 rfl rfl) rfl
theorem dX12_hear_98 : decode cX12_hear 98 = .ok (.iload_n 3, 1) := q_iload_n3 (bat_get dg_X12_hear_0_0 29 rfl rfl)
theorem dX12_hear_99 : decode cX12_hear 99 = .ok (.aload_n 0, 1) := q_aload_n0 (bat_get dg_X12_hear_0_0 30 rfl rfl)
theorem dX12_hear_100 : decode cX12_hear 100 = .ok (.getfield 7, 3) := q_getfield (bat_get dg_X12_hear_0_0 31 rfl rfl) rfl
theorem dX12_hear_103 : decode cX12_hear 103 = .ok (.iload_n 3, 1) := q_iload_n3 (bat_get dg_X12_hear_0_0 32 rfl rfl)
theorem dX12_hear_104 : decode cX12_hear 104 = .ok (.iaload, 1) := q_iaload (bat_get dg_X12_hear_0_0 33 rfl rfl)
theorem dX12_hear_105 : decode cX12_hear 105 = .ok (.iastore, 1) := q_iastore (bat_get dg_X12_hear_0_0 34 rfl rfl)
theorem dX12_hear_106 : decode cX12_hear 106 = .ok (.iinc 3 1, 3) := q_iinc (bat_get dg_X12_hear_0_0 35 rfl rfl) rfl
theorem dX12_hear_109 : decode cX12_hear 109 = .ok (.goto (-20), 3) := q_goto (bat_get dg_X12_hear_0_0 36 rfl rfl) rfl
theorem dX12_hear_81 : decode cX12_hear 81 = .ok (.aload_n 0, 1) := q_aload_n0 (bat_get dg_X12_hear_0_0 37 rfl rfl)
theorem dX12_hear_82 : decode cX12_hear 82 = .ok (.iconst 1, 1) := q_iconst1 (bat_get dg_X12_hear_0_0 38 rfl rfl)
theorem dX12_hear_83 : decode cX12_hear 83 = .ok (.invokevirtual 463, 3) := q_invokevirtual (bat_get dg_X12_hear_0_0 39 rfl rfl) rfl
theorem dg_X12_hear_10_86 : bqL cX12_hear 10 [(76, [172]), (38, [28]), (39, [153, 0, 28]), (42, [42]), (43, [42]), (44, [180, 0, 7]), (47, [29]), (48, [46]), (49, [42]), (50, [180, 0, 7]), (53, [29]), (54, [4]), (55, [96]), (56, [46]), (57, [182, 1, 198]), (60, [61]), (61, [132, 3, 2]), (64, [167, 255, 225]), (0, [42]), (1, [180, 1, 46]), (4, [153, 0, 25]), (29, [3]), (7, [27]), (8, [158, 0, 21]), (11, [27]), (12, [5]), (13, [112]), (14, [154, 0, 15]), (17, [27]), (18, [5]), (19, [108]), (20, [16, 16]), (22, [163, 0, 7]), (25, [4]), (26, [167, 0, 4])] = true := by decide +kernel
theorem dX12_hear_86 : decode cX12_hear 86 = .ok (.ireturn, 1) := q_ireturn (bat_get dg_X12_hear_10_86 0 rfl rfl)
theorem dX12_hear_48 : decode cX12_hear 48 = .ok (.iload_n 2, 1) := q_iload_n2 (bat_get dg_X12_hear_10_86 1 rfl rfl)
theorem dX12_hear_49 : decode cX12_hear 49 = .ok (.ifCond .eq 28, 3) := q_ifCond_eq (bat_get dg_X12_hear_10_86 2 rfl rfl) rfl
theorem dX12_hear_52 : decode cX12_hear 52 = .ok (.aload_n 0, 1) := q_aload_n0 (bat_get dg_X12_hear_10_86 3 rfl rfl)
theorem dX12_hear_53 : decode cX12_hear 53 = .ok (.aload_n 0, 1) := q_aload_n0 (bat_get dg_X12_hear_10_86 4 rfl rfl)
theorem dX12_hear_54 : decode cX12_hear 54 = .ok (.getfield 7, 3) := q_getfield (bat_get dg_X12_hear_10_86 5 rfl rfl) rfl
theorem dX12_hear_57 : decode cX12_hear 57 = .ok (.iload_n 3, 1) := q_iload_n3 (bat_get dg_X12_hear_10_86 6 rfl rfl)
theorem dX12_hear_58 : decode cX12_hear 58 = .ok (.iaload, 1) := q_iaload (bat_get dg_X12_hear_10_86 7 rfl rfl)
theorem dX12_hear_59 : decode cX12_hear 59 = .ok (.aload_n 0, 1) := q_aload_n0 (bat_get dg_X12_hear_10_86 8 rfl rfl)
theorem dX12_hear_60 : decode cX12_hear 60 = .ok (.getfield 7, 3) := q_getfield (bat_get dg_X12_hear_10_86 9 rfl rfl) rfl
