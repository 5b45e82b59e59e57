theorem dX12_isImage_78 : decode cX12_isImage 78 = .ok (.iload_n 2, 1) := q_iload_n2 (bat_get dg_X12_isImage_66_66 10 rfl rfl)
theorem dX12_isImage_79 : decode cX12_isImage 79 = .ok (.iaload, 1) := q_iaload (bat_get dg_X12_isImage_66_66 11 rfl rfl)
theorem dX12_isImage_80 : decode cX12_isImage 80 = .ok (.iload_n 2, 1) := q_iload_n2 (bat_get dg_X12_isImage_66_66 12 rfl rfl)
theorem dX12_isImage_81 : decode cX12_isImage 81 = .ok (.iconst 2, 1) := q_iconst2 (bat_get dg_X12_isImage_66_66 13 rfl rfl)
theorem dX12_isImage_82 : decode cX12_isImage 82 = .ok (.if_icmp .le 14, 3) := q_if_icmp_le (bat_get dg_X12_isImage_66_66 14 rfl rfl) rfl
theorem dX12_isImage_96 : decode cX12_isImage 96 = .ok (.bipush 9, 2) := q_bipush (bat_get dg_X12_isImage_66_66 15 rfl rfl) rfl
theorem dX12_isImage_98 : decode cX12_isImage 98 = .ok (.if_icmp .le 5, 3) := q_if_icmp_le (bat_get dg_X12_isImage_66_66 16 rfl rfl) rfl
theorem dX12_isImage_103 : decode cX12_isImage 103 = .ok (.iinc 2 1, 3) := q_iinc (bat_get dg_X12_isImage_66_66 17 rfl rfl) rfl
theorem dX12_isImage_106 : decode cX12_isImage 106 = .ok (.goto (-39), 3) := q_goto (bat_get dg_X12_isImage_66_66 18 rfl rfl) rfl
theorem dX12_isImage_101 : decode cX12_isImage 101 = .ok (.iconst 0, 1) := q_iconst0 (bat_get dg_X12_isImage_66_66 19 rfl rfl)
theorem dX12_isImage_102 : decode cX12_isImage 102 = .ok (.ireturn, 1) := q_ireturn (bat_get dg_X12_isImage_66_66 20 rfl rfl)
theorem dX12_isImage_85 : decode cX12_isImage 85 = .ok (.iload_n 2, 1) := q_iload_n2 (bat_get dg_X12_isImage_66_66 21 rfl rfl)
theorem dX12_isImage_86 : decode cX12_isImage 86 = .ok (.iconst 3, 1) := q_iconst3 (bat_get dg_X12_isImage_66_66 22 rfl rfl)
theorem dX12_isImage_87 : decode cX12_isImage 87 = .ok (.irem, 1) := q_irem (bat_get dg_X12_isImage_66_66 23 rfl rfl)
theorem dX12_isImage_88 : decode cX12_isImage 88 = .ok (.iconst 2, 1) := q_iconst2 (bat_get dg_X12_isImage_66_66 24 rfl rfl)
theorem dX12_isImage_89 : decode cX12_isImage 89 = .ok (.if_icmp .ne 7, 3) := q_if_icmp_ne (bat_get dg_X12_isImage_66_66 25 rfl rfl) rfl
theorem dX12_isImage_92 : decode cX12_isImage 92 = .ok (.iconst 1, 1) := q_iconst1 (bat_get dg_X12_isImage_66_66 26 rfl rfl)
theorem dX12_isImage_93 : decode cX12_isImage 93 = .ok (.goto 5, 3) := q_goto (bat_get dg_X12_isImage_66_66 27 rfl rfl) rfl
theorem w_5_155 : (Cond.fieldLink RX12 7 "SameKeeperModel" "tape" "[I") ∈ wsL_law := sk_mem (ck_5 _ (List.mem_of_getElem? (i := 155) rfl)) rfl
theorem w_8_211 : (Cond.methodLink RX12 601 yX12_checked) ∈ wsL_law := sk_mem (ck_8 _ (List.mem_of_getElem? (i := 211) rfl)) rfl
theorem w_8_212 : (Cond.static yX12_checked) ∈ wsL_law := sk_mem (ck_8 _ (List.mem_of_getElem? (i := 212) rfl)) rfl
theorem w_8_225 : (Cond.code yX12_isImage cX12_isImage 3 (some .boolean)) ∈ wsL_law := sk_mem (ck_8 _ (List.mem_of_getElem? (i := 225) rfl)) rfl
theorem hd_X12_checked_2 : skD yX12_checked 2 := by decide +kernel
set_option maxHeartbeats 4000000 in
set_option maxRecDepth 100000 in
theorem c_m_isImage (l : Launch) (D : va_G) (cI cJ cC cZ cS : ClassId) (mm : Nat) (g : Nat → Nat) (ta : Nat) (pa : Nat) (pe : Nat) (pd : Int32) (pb : Nat) (pp : Int32) (pf : Int32) (pg : Int32) (pn : Int32) (rt : Int32) (rn : Int32) (cd : Nat) (sn : Int32) (il : Nat) (tk : Int32) (am : Int32) (at_ : Int32) (aa : Int32) (wt : Int32) (wy : Int64) (rm : Nat) (ud : Nat) (nu : Nat) (sd : Int64) (qn : Nat) (qw : Nat) (qo : Int32) (qb : Nat) (qp : Nat) (qa : Int64) (qi : Nat) (oc : Nat) (n : Nat) (l0 : Nat) (l1 : Nat) (dm : Nat) (l3 : Nat) (tb : Nat → Nat) (hil : il ≤ 1) (hild : il = 1 → 1 ≤ dm) (hdm : dm ≤ 9) (hn : n ≤ 1600) (htb : ∀ j, tb j ≤ 255) : skM l yX12_isImage cX12_isImage 3 (some .boolean) 1 23 0 0 D (skT cI cJ cC cZ cS) [.ref mm, .int (nI n)] [(mm, .inr (12, mo g (nI ta) (nI pa) (nI pe) pd (nI pb) pp pf pg pn rt rn (nI cd) sn (nI il) tk am at_ aa 0 0 (-1) wt wy 0 (nI rm) (nI ud) (nI nu) sd (nI qn) (nI qw) qo (nI qb) (nI qp) qa (nI qi) (nI oc))), (g 20, .inl (cI, 4, .inl (l4 (nI l0) (nI l1) (nI dm) (nI l3)))), (g 0, .inl (cI, 1600, .inl (fun j => nI (tb j))))] (skI D (skT cI cJ cC cZ cS) (fun (r : Int32) (u : va_W) => ∃ (b : Nat), (b = 0 ∨ (b = 1 ∧ tb 2 ≤ 9)) ∧ ((b = 0 ∧ ¬ (1 ≤ il ∧ imgO tb n dm)) ∨ (b = 1 ∧ 1 ≤ il ∧ imgO tb n dm)) ∧ r = nI b ∧ u = [(mm, .inr (12, mo g (nI ta) (nI pa) (nI pe) pd (nI pb) pp pf pg pn rt rn (nI cd) sn (nI il) tk am at_ aa 0 0 (-1) wt wy 0 (nI rm) (nI ud) (nI nu) sd (nI qn) (nI qw) qo (nI qb) (nI qp) qa (nI qi) (nI oc))), (g 20, .inl (cI, 4, .inl (l4 (nI l0) (nI l1) (nI dm) (nI l3)))), (g 0, .inl (cI, 1600, .inl (fun j => nI (tb j))))])) := by
  refine skM_of pf_X12_isImage (Nat.le_of_ble_eq_true rfl) ?_
  intro p e s m below meth c A ls E hP hD hl
  refine skE_el E (fun hx hb hr hml hlocks hin hown hts hK hA => ?_)
  have hown : s.vm.findClass RX12 = some m.cls := hown
  have hS : va_S A s.heap s.heap [] := va_S.rf
  have hl : lv_has ls 3 [(0, .ref mm), (1, .int (nI n))] := hl
  refine lv_aload_n hx hb dX12_isImage_0 rfl (lv_at hl 0 rfl) ?_
  refine sk_get (v := .int (nI il)) (C := RX12) (T := TX12) (N := 92) hx hb hts inlX12 hown hK hP 0 rfl rfl 29 (by decide) w_5_184 rfl dX12_isImage_1 ?_
  refine lv_if_eq (tgt := 63) hx hb dX12_isImage_4 (by decide) (fun c_1 => ?_) (fun c_1 => ?_)
  · have c_1 : il = 0 := (neq il 0 (by omega) (by omega)).mp c_1
    refine lv_iconst (v := 0) hx hb dX12_isImage_63 (by decide) ?_
    exact sk_iret hx hb hr rfl hlocks hK hP hD hS (⟨0, (Or.inl rfl), (Or.inl ⟨rfl, fun hq => absurd hq.1 (by omega)⟩), rfl, rfl⟩) (Nat.le_of_ble_eq_true rfl) (Nat.le_of_ble_eq_true rfl) dX12_isImage_64
  · have c_1 : ¬ (il = 0) := fun h => c_1 ((neq il 0 (by omega) (by omega)).mpr h)
    refine lv_iload_n hx hb dX12_isImage_7 rfl (lv_at hl 1 rfl) ?_
    refine lv_iconst (v := 4) hx hb dX12_isImage_8 (by decide) ?_
    refine lv_iconst (v := 3) hx hb dX12_isImage_9 (by decide) ?_
    refine lv_aload_n hx hb dX12_isImage_10 rfl (lv_at hl 0 rfl) ?_
    refine sk_Vi (q0 := 0) (n := 0) (rest := [.int 3, .int 4, .int (nI n)]) (wr := fmR om_3_6 _) ⟨hx, hb, hml, hown, hts⟩ hl.1 (c_m_dayMany l D cI cJ cC cZ cS mm g ta pa pe pd pb pp pf pg pn rt rn cd sn il tk am at_ aa 0 0 (-1) wt wy 0 rm ud nu sd qn qw qo qb qp qa qi oc l0 l1 dm l3) w_7_98 w_7_100 w_0_69 w_1_14 w_7_101 hd_X12_dayMany_0 ⟨⟨(Nat.le_of_ble_eq_true rfl), (Nat.le_of_ble_eq_true rfl)⟩, (Nat.le_of_ble_eq_true rfl), (Nat.le_of_ble_eq_true rfl)⟩ hK hP hD hS hA (fmT om_3_6 0) (fmF om_3_6 0) (fm_C1 rfl rfl) (fm_R rfl rfl) (fm_nT om_3_6 0) (fm_nF om_3_6 0) (fm_di om_3_6 0) rfl rfl rfl rfl (Nat.le_of_ble_eq_true rfl) dX12_isImage_11 (fun r_2 u H locs hw hP hD hS => ?_)
    refine anE hw (fun er_4 eu_3 => ?_)
    clear hw
    subst er_4
    refine o_mgE (ws' := [(mm, .inr (12, mo g (nI ta) (nI pa) (nI pe) pd (nI pb) pp pf pg pn rt rn (nI cd) sn (nI il) tk am at_ aa 0 0 (-1) wt wy 0 (nI rm) (nI ud) (nI nu) sd (nI qn) (nI qw) qo (nI qb) (nI qp) qa (nI qi) (nI oc))), (g 20, .inl (cI, 4, .inl (l4 (nI l0) (nI l1) (nI dm) (nI l3)))), (g 0, .inl (cI, 1600, .inl (fun j => nI (tb j))))]) eu_3 hP hD rfl (fun hP hD => ?_)
    refine lv_imul hx hb dX12_isImage_14 ?_
    refine sk_top (nI (3 * dm)) (nmul 3 dm) ?_
    refine lv_iadd hx hb dX12_isImage_15 ?_
    refine sk_top (nI (4 + (3 * dm))) (nI_add 4 (3 * dm)) ?_
    refine lv_icmp_ne (tgt := 63) hx hb dX12_isImage_16 (by decide) (fun c_5 => ?_) (fun c_5 => ?_)
    · have c_5 : ¬ (n = 4 + (3 * dm)) := fun h => c_5 ((neq n (4 + (3 * dm)) (by omega) (by omega)).mpr h)
      refine lv_iconst (v := 0) hx hb dX12_isImage_63 (by decide) ?_
      exact sk_iret hx hb hr rfl hlocks hK hP hD hS (⟨0, (Or.inl rfl), (Or.inl ⟨rfl, fun hq => absurd hq.2.1 (by omega)⟩), rfl, rfl⟩) (Nat.le_of_ble_eq_true rfl) (Nat.le_of_ble_eq_true rfl) dX12_isImage_64
    · have c_5 : n = 4 + (3 * dm) := (neq n (4 + (3 * dm)) (by omega) (by omega)).mp c_5
      refine lv_aload_n hx hb dX12_isImage_19 rfl (lv_at hl 0 rfl) ?_
      refine sk_get (v := .ref (g 0)) (C := RX12) (T := TX12) (N := 92) hx hb hts inlX12 hown hK hP 0 rfl rfl 0 (by decide) w_5_155 rfl dX12_isImage_20 ?_
      refine lv_iload_n hx hb dX12_isImage_23 rfl (lv_at hl 1 rfl) ?_
      refine lv_iconst (v := 1) hx hb dX12_isImage_24 (by decide) ?_
      refine lv_isub hx hb dX12_isImage_25 ?_
      refine sk_top (nI (n - 1)) (nsub n 1 (by omega)) ?_
      refine va_iald hx hb hK.1 hP 2 0 rfl rfl (vin (n - 1) 1600 (by omega) (by omega)) dX12_isImage_26 ?_
      refine sk_top (nI (tb (n - 1))) (nrd tb (n - 1) (by omega)) ?_
      have hb_6 := htb (n - 1)
      refine lv_aload_n hx hb dX12_isImage_27 rfl (lv_at hl 0 rfl) ?_
      refine sk_get (v := .ref (g 0)) (C := RX12) (T := TX12) (N := 92) hx hb hts inlX12 hown hK hP 0 rfl rfl 0 (by decide) w_5_155 rfl dX12_isImage_28 ?_
      refine lv_iload_n hx hb dX12_isImage_31 rfl (lv_at hl 1 rfl) ?_
      refine lv_iconst (v := 1) hx hb dX12_isImage_32 (by decide) ?_
      refine lv_isub hx hb dX12_isImage_33 ?_
      refine sk_top (nI (n - 1)) (nsub n 1 (by omega)) ?_
      refine sk_Si (n := 2) (rest := [.int (nI (tb (n - 1)))]) (wr := fmR om_3_1 _) ⟨hx, hb, hml, hown, hts⟩ hl.1 (c_m_checkedX l D cI cJ cC cZ cS (g 0) tb (n - 1) (by omega) htb) w_8_211 w_8_212 w_1_14 w_8_213 hd_X12_checked_2 ⟨⟨(Nat.le_of_ble_eq_true rfl), (Nat.le_of_ble_eq_true rfl)⟩, (Nat.le_of_ble_eq_true rfl), (Nat.le_of_ble_eq_true rfl)⟩ hK hP hD hS hA (fmT om_3_1 0) (fmF om_3_1 0) (fm_C1 rfl rfl) (fm_R rfl rfl) (fm_nT om_3_1 0) (fm_nF om_3_1 0) (fm_di om_3_1 0) rfl rfl (Nat.le_of_ble_eq_true rfl) dX12_isImage_34 (fun r_8 u H locs hw hP hD hS => ?_)
      refine exE hw (fun ck2_7 hw1 => anE hw1 (fun hck_9 hw2 => anE hw2 (fun hck9_10 hw3 => anE hw3 (fun er_12 eu_11 => ?_))))
      clear hw hw1 hw2 hw3
      subst er_12
      refine o_mgE (ws' := [(mm, .inr (12, mo g (nI ta) (nI pa) (nI pe) pd (nI pb) pp pf pg pn rt rn (nI cd) sn (nI il) tk am at_ aa 0 0 (-1) wt wy 0 (nI rm) (nI ud) (nI nu) sd (nI qn) (nI qw) qo (nI qb) (nI qp) qa (nI qi) (nI oc))), (g 20, .inl (cI, 4, .inl (l4 (nI l0) (nI l1) (nI dm) (nI l3)))), (g 0, .inl (cI, 1600, .inl (fun j => nI (tb j))))]) eu_11 hP hD rfl (fun hP hD => ?_)
      have hn1 : n - 1 = 3 * dm + 3 := by omega
      refine lv_icmp_ne (tgt := 63) hx hb dX12_isImage_37 (by decide) (fun c_13 => ?_) (fun c_13 => ?_)
      · have c_13 : ¬ (tb (n - 1) = ck2_7) := fun h => c_13 ((neq (tb (n - 1)) ck2_7 (by omega) (by omega)).mpr h)
        refine lv_iconst (v := 0) hx hb dX12_isImage_63 (by decide) ?_
        exact sk_iret hx hb hr rfl hlocks hK hP hD hS (⟨0, (Or.inl rfl), (Or.inl ⟨rfl, fun hq => c_13 ((img_at hn1 hck_9).mpr hq.2.2.1)⟩), rfl, rfl⟩) (Nat.le_of_ble_eq_true rfl) (Nat.le_of_ble_eq_true rfl) dX12_isImage_64
      · have c_13 : tb (n - 1) = ck2_7 := (neq (tb (n - 1)) ck2_7 (by omega) (by omega)).mp c_13
        refine lv_sipush (v := 256) hx hb dX12_isImage_40 (by decide) ?_
        refine lv_aload_n hx hb dX12_isImage_43 rfl (lv_at hl 0 rfl) ?_
        refine sk_get (v := .ref (g 0)) (C := RX12) (T := TX12) (N := 92) hx hb hts inlX12 hown hK hP 0 rfl rfl 0 (by decide) w_5_155 rfl dX12_isImage_44 ?_
        refine lv_iconst (v := 0) hx hb dX12_isImage_47 (by decide) ?_
        refine va_iald hx hb hK.1 hP 2 0 rfl rfl (by unfold vp_in; decide) dX12_isImage_48 ?_
        refine sk_top (nI (tb 0)) (nrd tb 0 (by omega)) ?_
        have hb_14 := htb 0
        refine lv_imul hx hb dX12_isImage_49 ?_
        refine sk_top (nI (256 * (tb 0))) (nmul 256 (tb 0)) ?_
        refine lv_aload_n hx hb dX12_isImage_50 rfl (lv_at hl 0 rfl) ?_
        refine sk_get (v := .ref (g 0)) (C := RX12) (T := TX12) (N := 92) hx hb hts inlX12 hown hK hP 0 rfl rfl 0 (by decide) w_5_155 rfl dX12_isImage_51 ?_
        refine lv_iconst (v := 1) hx hb dX12_isImage_54 (by decide) ?_
        refine va_iald hx hb hK.1 hP 2 0 rfl rfl (by unfold vp_in; decide) dX12_isImage_55 ?_
        refine sk_top (nI (tb 1)) (nrd tb 1 (by omega)) ?_
        have hb_15 := htb 1
        refine lv_iadd hx hb dX12_isImage_56 ?_
        refine sk_top (nI (256 * (tb 0) + (tb 1))) (nI_add (256 * (tb 0)) (tb 1)) ?_
        refine lv_sipush (v := 999) hx hb dX12_isImage_57 (by decide) ?_
        refine lv_icmp_le (tgt := 65) hx hb dX12_isImage_60 (by decide) (fun c_16 => ?_) (fun c_16 => ?_)
        · have c_16 : 256 * (tb 0) + (tb 1) ≤ 999 := (nle (256 * (tb 0) + (tb 1)) 999 (by omega) (by omega)).mp c_16
          refine lv_iconst (v := 2) hx hb dX12_isImage_65 (by decide) ?_
          refine lv_istore_n (lv' := [(2, .int 2), (0, .ref mm), (1, .int (nI n))]) hx hb dX12_isImage_66 rfl hl (by decide) rfl (fun ls hl => ?_)
          have lp_17 : ∀ (n_18 : Nat) (i : Nat) (H : Heap) (locs : List Loc) (ls : Array Slot), n - i < n_18 → (i ≤ n) → (2 ≤ i) → (imgK tb i) → va_P D vwCl [(mm, .inr (12, mo g (nI ta) (nI pa) (nI pe) pd (nI pb) pp pf pg pn rt rn (nI cd) sn (nI il) tk am at_ aa 0 0 (-1) wt wy 0 (nI rm) (nI ud) (nI nu) sd (nI qn) (nI qw) qo (nI qb) (nI qp) qa (nI qi) (nI oc))), (g 20, .inl (cI, 4, .inl (l4 (nI l0) (nI l1) (nI dm) (nI l3)))), (g 0, .inl (cI, 1600, .inl (fun j => nI (tb j))))] H → va_D A [(mm, .inr (12, mo g (nI ta) (nI pa) (nI pe) pd (nI pb) pp pf pg pn rt rn (nI cd) sn (nI il) tk am at_ aa 0 0 (-1) wt wy 0 (nI rm) (nI ud) (nI nu) sd (nI qn) (nI qw) qo (nI qb) (nI qp) qa (nI qi) (nI oc))), (g 20, .inl (cI, 4, .inl (l4 (nI l0) (nI l1) (nI dm) (nI l3)))), (g 0, .inl (cI, 1600, .inl (fun j => nI (tb j))))] → va_S A s.heap H locs → lv_has ls 3 [(2, .int (nI i)), (0, .ref mm), (1, .int (nI n))] → W p l e { frames := 1, cells := 0, slots := 0, locals := 23 } s m ([.ref mm, .int (nI n)] : List Value).toArray below meth c H locs 0 0 (MQ below (skI D (skT cI cJ cC cZ cS) (fun (r : Int32) (u : va_W) => ∃ (b : Nat), (b = 0 ∨ (b = 1 ∧ tb 2 ≤ 9)) ∧ ((b = 0 ∧ ¬ (1 ≤ il ∧ imgO tb n dm)) ∨ (b = 1 ∧ 1 ≤ il ∧ imgO tb n dm)) ∧ r = nI b ∧ u = [(mm, .inr (12, mo g (nI ta) (nI pa) (nI pe) pd (nI pb) pp pf pg pn rt rn (nI cd) sn (nI il) tk am at_ aa 0 0 (-1) wt wy 0 (nI rm) (nI ud) (nI nu) sd (nI qn) (nI qw) qo (nI qb) (nI qp) qa (nI qi) (nI oc))), (g 20, .inl (cI, 4, .inl (l4 (nI l0) (nI l1) (nI dm) (nI l3)))), (g 0, .inl (cI, 1600, .inl (fun j => nI (tb j))))]) A) ([.ref mm, .int (nI n)] : List Value).toArray s 0 0 A) (F0 m 67 ls []) := by
            intro n_18
            induction n_18 with
            | zero => intro i H locs ls hm; exact absurd hm (Nat.not_lt_zero _)
            | succ n_18 ih_lp_17 =>
              intro i H locs ls hm hi hi2 hal hP hD hS hl
              refine lv_iload_n hx hb dX12_isImage_67 rfl (lv_at hl 0 rfl) ?_
              refine lv_iload_n hx hb dX12_isImage_68 rfl (lv_at hl 2 rfl) ?_
              refine lv_iconst (v := 1) hx hb dX12_isImage_69 (by decide) ?_
              refine lv_isub hx hb dX12_isImage_70 ?_
              refine sk_top (nI (n - 1)) (nsub n 1 (by omega)) ?_
              refine lv_icmp_ge (tgt := 109) hx hb dX12_isImage_71 (by decide) (fun c_19 => ?_) (fun c_19 => ?_)
              · have c_19 : n - 1 ≤ i := (nle (n - 1) i (by omega) (by omega)).mp c_19
                refine lv_iconst (v := 1) hx hb dX12_isImage_109 (by decide) ?_
                exact sk_iret hx hb hr rfl hlocks hK hP hD hS (⟨1, (Or.inr ⟨rfl, (hal 2 (by omega) (by omega)).1⟩), (Or.inr ⟨rfl, by omega, by omega, (img_at hn1 hck_9).mp c_13, by omega, fun k h1 h2 => hal k h1 (by omega)⟩), rfl, rfl⟩) (Nat.le_of_ble_eq_true rfl) (Nat.le_of_ble_eq_true rfl) dX12_isImage_110
              · have c_19 : ¬ (n - 1 ≤ i) := fun h => c_19 ((nle (n - 1) i (by omega) (by omega)).mpr h)
                refine lv_aload_n hx hb dX12_isImage_74 rfl (lv_at hl 1 rfl) ?_
                refine sk_get (v := .ref (g 0)) (C := RX12) (T := TX12) (N := 92) hx hb hts inlX12 hown hK hP 0 rfl rfl 0 (by decide) w_5_155 rfl dX12_isImage_75 ?_
                refine lv_iload_n hx hb dX12_isImage_78 rfl (lv_at hl 0 rfl) ?_
                refine va_iald hx hb hK.1 hP 2 0 rfl rfl (vin i 1600 (by omega) (by omega)) dX12_isImage_79 ?_
                refine sk_top (nI (tb i)) (nrd tb i (by omega)) ?_
                have hb_20 := htb i
                refine lv_iload_n hx hb dX12_isImage_80 rfl (lv_at hl 0 rfl) ?_
                refine lv_iconst (v := 2) hx hb dX12_isImage_81 (by decide) ?_
                refine lv_icmp_le (tgt := 96) hx hb dX12_isImage_82 (by decide) (fun c_21 => ?_) (fun c_21 => ?_)
                · have c_21 : i ≤ 2 := (nle i 2 (by omega) (by omega)).mp c_21
                  refine lv_bipush (v := 9) hx hb dX12_isImage_96 (by decide) ?_
                  refine lv_icmp_le (tgt := 103) hx hb dX12_isImage_98 (by decide) (fun c_22 => ?_) (fun c_22 => ?_)
                  · have c_22 : tb i ≤ 9 := (nle (tb i) 9 (by omega) (by omega)).mp c_22
                    refine lv_iinc (v := nI (i + 1)) (lv' := [(2, .int (nI (i + 1))), (0, .ref mm), (1, .int (nI n))]) hx hb dX12_isImage_103 hl (k := 0) rfl (ninc i 1 (by decide)) (by decide) rfl (fun ls hl => ?_)
                    refine lv_goto (tgt := 67) hx hb dX12_isImage_106 (by decide) ?_
                    exact ih_lp_17 (i + 1) _ _ _ (by omega) (by omega) (by omega) (imgK_1 hal (by omega) (fun _ _ => by omega)) hP hD hS (lv_sub hl [0, 1, 2] rfl)
                  · have c_22 : ¬ (tb i ≤ 9) := fun h => c_22 ((nle (tb i) 9 (by omega) (by omega)).mpr h)
                    refine lv_iconst (v := 0) hx hb dX12_isImage_101 (by decide) ?_
                    exact sk_iret hx hb hr rfl hlocks hK hP hD hS (⟨0, (Or.inl rfl), (Or.inl ⟨rfl, fun hq => by have h9 := hq.2.2.2.2 i (by omega) (by omega); first | (have h8 := h9.1; omega) | (have h8 := h9.2 (by omega) (by omega); omega)⟩), rfl, rfl⟩) (Nat.le_of_ble_eq_true rfl) (Nat.le_of_ble_eq_true rfl) dX12_isImage_102
                · have c_21 : ¬ (i ≤ 2) := fun h => c_21 ((nle i 2 (by omega) (by omega)).mpr h)
                  refine lv_iload_n hx hb dX12_isImage_85 rfl (lv_at hl 0 rfl) ?_
                  refine lv_iconst (v := 3) hx hb dX12_isImage_86 (by decide) ?_
                  refine lv_irem hx hb dX12_isImage_87 (by decide) ?_
                  refine sk_top (nI (i % 3)) (nrem i 3 (by omega) (by omega) (by omega)) ?_
                  refine lv_iconst (v := 2) hx hb dX12_isImage_88 (by decide) ?_
                  refine lv_icmp_ne (tgt := 96) hx hb dX12_isImage_89 (by decide) (fun c_23 => ?_) (fun c_23 => ?_)
                  · have c_23 : ¬ (i % 3 = 2) := fun h => c_23 ((neq (i % 3) 2 (by omega) (by omega)).mpr h)
                    refine lv_bipush (v := 9) hx hb dX12_isImage_96 (by decide) ?_
                    refine lv_icmp_le (tgt := 103) hx hb dX12_isImage_98 (by decide) (fun c_24 => ?_) (fun c_24 => ?_)
                    · have c_24 : tb i ≤ 9 := (nle (tb i) 9 (by omega) (by omega)).mp c_24
                      refine lv_iinc (v := nI (i + 1)) (lv' := [(2, .int (nI (i + 1))), (0, .ref mm), (1, .int (nI n))]) hx hb dX12_isImage_103 hl (k := 0) rfl (ninc i 1 (by decide)) (by decide) rfl (fun ls hl => ?_)
                      refine lv_goto (tgt := 67) hx hb dX12_isImage_106 (by decide) ?_
                      exact ih_lp_17 (i + 1) _ _ _ (by omega) (by omega) (by omega) (imgK_1 hal (by omega) (fun _ _ => by omega)) hP hD hS (lv_sub hl [0, 1, 2] rfl)
                    · have c_24 : ¬ (tb i ≤ 9) := fun h => c_24 ((nle (tb i) 9 (by omega) (by omega)).mpr h)
                      refine lv_iconst (v := 0) hx hb dX12_isImage_101 (by decide) ?_
                      exact sk_iret hx hb hr rfl hlocks hK hP hD hS (⟨0, (Or.inl rfl), (Or.inl ⟨rfl, fun hq => by have h9 := hq.2.2.2.2 i (by omega) (by omega); first | (have h8 := h9.1; omega) | (have h8 := h9.2 (by omega) (by omega); omega)⟩), rfl, rfl⟩) (Nat.le_of_ble_eq_true rfl) (Nat.le_of_ble_eq_true rfl) dX12_isImage_102
                  · have c_23 : i % 3 = 2 := (neq (i % 3) 2 (by omega) (by omega)).mp c_23
                    refine lv_iconst (v := 1) hx hb dX12_isImage_92 (by decide) ?_
                    refine lv_goto (tgt := 98) hx hb dX12_isImage_93 (by decide) ?_
                    refine lv_icmp_le (tgt := 103) hx hb dX12_isImage_98 (by decide) (fun c_25 => ?_) (fun c_25 => ?_)
                    · have c_25 : tb i ≤ 1 := (nle (tb i) 1 (by omega) (by omega)).mp c_25
                      refine lv_iinc (v := nI (i + 1)) (lv' := [(2, .int (nI (i + 1))), (0, .ref mm), (1, .int (nI n))]) hx hb dX12_isImage_103 hl (k := 0) rfl (ninc i 1 (by decide)) (by decide) rfl (fun ls hl => ?_)
                      refine lv_goto (tgt := 67) hx hb dX12_isImage_106 (by decide) ?_
                      exact ih_lp_17 (i + 1) _ _ _ (by omega) (by omega) (by omega) (imgK_1 hal (by omega) (fun _ _ => by omega)) hP hD hS (lv_sub hl [0, 1, 2] rfl)
                    · have c_25 : ¬ (tb i ≤ 1) := fun h => c_25 ((nle (tb i) 1 (by omega) (by omega)).mpr h)
                      refine lv_iconst (v := 0) hx hb dX12_isImage_101 (by decide) ?_
                      exact sk_iret hx hb hr rfl hlocks hK hP hD hS (⟨0, (Or.inl rfl), (Or.inl ⟨rfl, fun hq => by have h9 := hq.2.2.2.2 i (by omega) (by omega); first | (have h8 := h9.1; omega) | (have h8 := h9.2 (by omega) (by omega); omega)⟩), rfl, rfl⟩) (Nat.le_of_ble_eq_true rfl) (Nat.le_of_ble_eq_true rfl) dX12_isImage_102
          exact lp_17 (n - 2 + 1) 2 _ _ _ (Nat.lt_succ_self _) (by omega) (by omega) (fun k h1 h2 => absurd h1 (by omega)) hP hD hS (lv_sub hl [0, 1, 2] rfl)
        · have c_16 : ¬ (256 * (tb 0) + (tb 1) ≤ 999) := fun h => c_16 ((nle (256 * (tb 0) + (tb 1)) 999 (by omega) (by omega)).mpr h)
          refine lv_iconst (v := 0) hx hb dX12_isImage_63 (by decide) ?_
          exact sk_iret hx hb hr rfl hlocks hK hP hD hS (⟨0, (Or.inl rfl), (Or.inl ⟨rfl, fun hq => absurd hq.2.2.2.1 (by omega)⟩), rfl, rfl⟩) (Nat.le_of_ble_eq_true rfl) (Nat.le_of_ble_eq_true rfl) dX12_isImage_64
