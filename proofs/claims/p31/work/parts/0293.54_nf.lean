theorem dX12_hear_63 : decode cX12_hear 63 = .ok (.iload_n 3, 1) := q_iload_n3 (bat_get dg_X12_hear_10_86 10 rfl rfl)
theorem dX12_hear_64 : decode cX12_hear 64 = .ok (.iconst 1, 1) := q_iconst1 (bat_get dg_X12_hear_10_86 11 rfl rfl)
theorem dX12_hear_65 : decode cX12_hear 65 = .ok (.iadd, 1) := q_iadd (bat_get dg_X12_hear_10_86 12 rfl rfl)
theorem dX12_hear_66 : decode cX12_hear 66 = .ok (.iaload, 1) := q_iaload (bat_get dg_X12_hear_10_86 13 rfl rfl)
theorem dX12_hear_67 : decode cX12_hear 67 = .ok (.invokevirtual 454, 3) := q_invokevirtual (bat_get dg_X12_hear_10_86 14 rfl rfl) rfl
theorem dX12_hear_70 : decode cX12_hear 70 = .ok (.istore_n 2, 1) := q_istore_n2 (bat_get dg_X12_hear_10_86 15 rfl rfl)
theorem dX12_hear_71 : decode cX12_hear 71 = .ok (.iinc 3 2, 3) := q_iinc (bat_get dg_X12_hear_10_86 16 rfl rfl) rfl
theorem dX12_hear_74 : decode cX12_hear 74 = .ok (.goto (-31), 3) := q_goto (bat_get dg_X12_hear_10_86 17 rfl rfl) rfl
theorem dX12_hear_10 : decode cX12_hear 10 = .ok (.aload_n 0, 1) := q_aload_n0 (bat_get dg_X12_hear_10_86 18 rfl rfl)
theorem dX12_hear_11 : decode cX12_hear 11 = .ok (.getfield 302, 3) := q_getfield (bat_get dg_X12_hear_10_86 19 rfl rfl) rfl
theorem dX12_hear_14 : decode cX12_hear 14 = .ok (.ifCond .eq 25, 3) := q_ifCond_eq (bat_get dg_X12_hear_10_86 20 rfl rfl) rfl
theorem dX12_hear_39 : decode cX12_hear 39 = .ok (.iconst 0, 1) := q_iconst0 (bat_get dg_X12_hear_10_86 21 rfl rfl)
theorem dX12_hear_17 : decode cX12_hear 17 = .ok (.iload_n 1, 1) := q_iload_n1 (bat_get dg_X12_hear_10_86 22 rfl rfl)
theorem dX12_hear_18 : decode cX12_hear 18 = .ok (.ifCond .le 21, 3) := q_ifCond_le (bat_get dg_X12_hear_10_86 23 rfl rfl) rfl
theorem dX12_hear_21 : decode cX12_hear 21 = .ok (.iload_n 1, 1) := q_iload_n1 (bat_get dg_X12_hear_10_86 24 rfl rfl)
theorem dX12_hear_22 : decode cX12_hear 22 = .ok (.iconst 2, 1) := q_iconst2 (bat_get dg_X12_hear_10_86 25 rfl rfl)
theorem dX12_hear_23 : decode cX12_hear 23 = .ok (.irem, 1) := q_irem (bat_get dg_X12_hear_10_86 26 rfl rfl)
theorem dX12_hear_24 : decode cX12_hear 24 = .ok (.ifCond .ne 15, 3) := q_ifCond_ne (bat_get dg_X12_hear_10_86 27 rfl rfl) rfl
theorem dX12_hear_27 : decode cX12_hear 27 = .ok (.iload_n 1, 1) := q_iload_n1 (bat_get dg_X12_hear_10_86 28 rfl rfl)
theorem dX12_hear_28 : decode cX12_hear 28 = .ok (.iconst 2, 1) := q_iconst2 (bat_get dg_X12_hear_10_86 29 rfl rfl)
theorem dX12_hear_29 : decode cX12_hear 29 = .ok (.idiv, 1) := q_idiv (bat_get dg_X12_hear_10_86 30 rfl rfl)
theorem dX12_hear_30 : decode cX12_hear 30 = .ok (.bipush 16, 2) := q_bipush (bat_get dg_X12_hear_10_86 31 rfl rfl) rfl
theorem dX12_hear_32 : decode cX12_hear 32 = .ok (.if_icmp .gt 7, 3) := q_if_icmp_gt (bat_get dg_X12_hear_10_86 32 rfl rfl) rfl
theorem dX12_hear_35 : decode cX12_hear 35 = .ok (.iconst 1, 1) := q_iconst1 (bat_get dg_X12_hear_10_86 33 rfl rfl)
theorem dX12_hear_36 : decode cX12_hear 36 = .ok (.goto 4, 3) := q_goto (bat_get dg_X12_hear_10_86 34 rfl rfl) rfl
theorem w_8_96 : (Cond.code yX12_hear cX12_hear 4 (some .int)) ∈ wsL_law := sk_mem (ck_8 _ (List.mem_of_getElem? (i := 96) rfl)) rfl
def om_6_38 : List Bool := true :: true :: true :: false :: false :: false :: []
set_option maxHeartbeats 4000000 in
set_option maxRecDepth 100000 in
theorem c_nm_hear (l : Launch) (D : va_G) (cI cJ cC cZ cS : ClassId) (mm : Nat) (g : Nat → Nat) (ta : Nat) (pa : Nat) (pe : Nat) (pd : Int32) (pb : Nat) (pp : Int32) (pf : Int32) (pg : Int32) (pn : Int32) (rt : Int32) (rn : Int32) (cd : Nat) (sn : Int32) (il : Nat) (tk : Int32) (am : Int32) (at_ : Int32) (aa : Int32) (wt : Int32) (wy : Int64) (rm : Nat) (ud : Nat) (nu : Nat) (sd : Int64) (qn : Nat) (qw : Nat) (qo : Int32) (qb : Nat) (qp : Nat) (qa : Int64) (qi : Nat) (oc : Nat) (l0 : Nat) (l1 : Nat) (dm : Nat) (l3 : Nat) (nw : Nat → Int32) (tb : Nat → Nat) (rw_ : Nat → Int32) (rf : Nat → Int32) (wn : Nat) (mN : Nat) (Ba : Nat → Nat) (We : Nat → Nat) (U : Nat → Bool) (ke : Nat) (lg : KLg) (hR : Nat → Nat) (hil : il ≤ 1) (hild : il = 1 → 1 ≤ dm) (hilb : 1 ≤ dm → il = 1) (hdm : dm ≤ 9) (hta : ta ≤ 1600) (hrm : rm ≤ 16) (hhr : ∀ j, j < rm → rw_ (2 * j) = nI (hR j / 10) ∧ rw_ (2 * j + 1) = nI (hR j % 10)) (hnw : nwX wn mN Ba We U ke lg nw) (htb : ∀ j, tb j ≤ 255) : skM l yX12_hear cX12_hear 4 (some .int) 3 68 0 0 D (skT cI cJ cC cZ cS) [.ref mm] [(mm, .inr (12, mo g (nI ta) (nI pa) (nI pe) pd (nI pb) pp pf pg pn rt rn (nI cd) sn (nI il) tk am at_ aa 0 0 (-1) wt wy 0 (nI rm) (nI ud) (nI nu) sd (nI qn) (nI qw) qo (nI qb) (nI qp) qa (nI qi) (nI oc))), (g 20, .inl (cI, 4, .inl (l4 (nI l0) (nI l1) (nI dm) (nI l3)))), (g 31, .inl (cI, 120, .inl nw)), (g 0, .inl (cI, 1600, .inl (fun j => nI (tb j)))), (g 53, .inl (cI, 32, .inl rw_)), (g 9, .inl (cI, 6, .inl rf))] (skI D (skT cI cJ cC cZ cS) (fun (r : Int32) (u : va_W) => ∃ (hR2 : Nat → Nat), ∃ (rm2 : Nat), ∃ (rw_2 : Nat → Int32), ∃ (rf2 : Nat → Int32), rm2 ≤ 16 ∧ (∀ j, j < rm2 → rw_2 (2 * j) = nI (hR2 j / 10) ∧ rw_2 (2 * j + 1) = nI (hR2 j % 10)) ∧ hearR dm U tb ta rm hR rf r rm2 hR2 rf2 ∧ u = [(mm, .inr (12, mo g 0 (nI pa) (nI pe) pd (nI pb) pp pf pg pn rt rn (nI cd) sn (nI il) tk am at_ aa 0 0 (-1) wt wy 0 (nI rm2) (nI ud) (nI nu) sd (nI qn) (nI qw) qo (nI qb) (nI qp) qa (nI qi) (nI oc))), (g 20, .inl (cI, 4, .inl (l4 (nI l0) (nI l1) (nI dm) (nI l3)))), (g 31, .inl (cI, 120, .inl nw)), (g 0, .inl (cI, 1600, .inl (fun j => nI (tb j)))), (g 53, .inl (cI, 32, .inl rw_2)), (g 9, .inl (cI, 6, .inl rf2))])) := by
  refine skM_of pf_X12_hear (Nat.le_of_ble_eq_true rfl) ?_
  intro p e s m below meth c A ls E hP hD hl
  refine skE_el E (fun hx hb hr hml hlocks hin hown hts hK hA => ?_)
  have hown : s.vm.findClass RX12 = some m.cls := hown
  have hS : va_S A s.heap s.heap [] := va_S.rf
  have hl : lv_has ls 4 [(0, .ref mm)] := hl
  refine lv_aload_n hx hb dX12_hear_0 rfl (lv_at hl 0 rfl) ?_
  refine sk_get (v := .int (nI ta)) (C := RX12) (T := TX12) (N := 92) hx hb hts inlX12 hown hK hP 0 rfl rfl 1 (by decide) w_5_156 rfl dX12_hear_1 ?_
  refine lv_istore_n (lv' := [(1, .int (nI ta)), (0, .ref mm)]) hx hb dX12_hear_4 rfl hl (by decide) rfl (fun ls hl => ?_)
  refine lv_aload_n hx hb dX12_hear_5 rfl (lv_at hl 1 rfl) ?_
  refine lv_iconst (v := 0) hx hb dX12_hear_6 (by decide) ?_
  refine sk_put (ws' := [(mm, .inr (12, mo g 0 (nI pa) (nI pe) pd (nI pb) pp pf pg pn rt rn (nI cd) sn (nI il) tk am at_ aa 0 0 (-1) wt wy 0 (nI rm) (nI ud) (nI nu) sd (nI qn) (nI qw) qo (nI qb) (nI qp) qa (nI qi) (nI oc))), (g 20, .inl (cI, 4, .inl (l4 (nI l0) (nI l1) (nI dm) (nI l3)))), (g 31, .inl (cI, 120, .inl nw)), (g 0, .inl (cI, 1600, .inl (fun j => nI (tb j)))), (g 53, .inl (cI, 32, .inl rw_)), (g 9, .inl (cI, 6, .inl rf))]) (C := RX12) (T := TX12) (N := 92) (v := .int 0) hx hb hts inlX12 tyX12 tyX12_ok nmX12 hown hK hP hD hS 0 rfl rfl 1 (by decide) w_5_156 rfl rfl rfl (Nat.le_of_ble_eq_true rfl) rfl dX12_hear_7 (fun H locs hP hD hS => ?_)
  have jn_1 : ∀ (bq : Nat) (H : Heap) (locs : List Loc) (ls : Array Slot), (bq ≤ 1) → ((bq = 0 ∧ ¬ hearC dm U tb ta) ∨ (bq = 1 ∧ 1 ≤ dm ∧ 2 ≤ ta ∧ ta ≤ 32 ∧ ta % 2 = 0)) → va_P D vwCl [(mm, .inr (12, mo g 0 (nI pa) (nI pe) pd (nI pb) pp pf pg pn rt rn (nI cd) sn (nI il) tk am at_ aa 0 0 (-1) wt wy 0 (nI rm) (nI ud) (nI nu) sd (nI qn) (nI qw) qo (nI qb) (nI qp) qa (nI qi) (nI oc))), (g 20, .inl (cI, 4, .inl (l4 (nI l0) (nI l1) (nI dm) (nI l3)))), (g 31, .inl (cI, 120, .inl nw)), (g 0, .inl (cI, 1600, .inl (fun j => nI (tb j)))), (g 53, .inl (cI, 32, .inl rw_)), (g 9, .inl (cI, 6, .inl rf))] H → va_D A [(mm, .inr (12, mo g 0 (nI pa) (nI pe) pd (nI pb) pp pf pg pn rt rn (nI cd) sn (nI il) tk am at_ aa 0 0 (-1) wt wy 0 (nI rm) (nI ud) (nI nu) sd (nI qn) (nI qw) qo (nI qb) (nI qp) qa (nI qi) (nI oc))), (g 20, .inl (cI, 4, .inl (l4 (nI l0) (nI l1) (nI dm) (nI l3)))), (g 31, .inl (cI, 120, .inl nw)), (g 0, .inl (cI, 1600, .inl (fun j => nI (tb j)))), (g 53, .inl (cI, 32, .inl rw_)), (g 9, .inl (cI, 6, .inl rf))] → va_S A s.heap H locs → lv_has ls 4 [(1, .int (nI ta)), (0, .ref mm)] → W p l e { frames := 3, cells := 0, slots := 0, locals := 68 } s m ([.ref mm] : List Value).toArray below meth c H locs 0 0 (MQ below (skI D (skT cI cJ cC cZ cS) (fun (r : Int32) (u : va_W) => ∃ (hR2 : Nat → Nat), ∃ (rm2 : Nat), ∃ (rw_2 : Nat → Int32), ∃ (rf2 : Nat → Int32), rm2 ≤ 16 ∧ (∀ j, j < rm2 → rw_2 (2 * j) = nI (hR2 j / 10) ∧ rw_2 (2 * j + 1) = nI (hR2 j % 10)) ∧ hearR dm U tb ta rm hR rf r rm2 hR2 rf2 ∧ u = [(mm, .inr (12, mo g 0 (nI pa) (nI pe) pd (nI pb) pp pf pg pn rt rn (nI cd) sn (nI il) tk am at_ aa 0 0 (-1) wt wy 0 (nI rm2) (nI ud) (nI nu) sd (nI qn) (nI qw) qo (nI qb) (nI qp) qa (nI qi) (nI oc))), (g 20, .inl (cI, 4, .inl (l4 (nI l0) (nI l1) (nI dm) (nI l3)))), (g 31, .inl (cI, 120, .inl nw)), (g 0, .inl (cI, 1600, .inl (fun j => nI (tb j)))), (g 53, .inl (cI, 32, .inl rw_2)), (g 9, .inl (cI, 6, .inl rf2))]) A) ([.ref mm] : List Value).toArray s 0 0 A) (F0 m 40 ls [.int (nI bq)]) := by
    intro bq H locs ls hbq1 hbq hP hD hS hl
    refine lv_istore_n (lv' := [(2, .int (nI bq)), (1, .int (nI ta)), (0, .ref mm)]) hx hb dX12_hear_40 rfl hl (by decide) rfl (fun ls hl => ?_)
    refine lv_iconst (v := 0) hx hb dX12_hear_41 (by decide) ?_
    refine lv_istore_n (lv' := [(3, .int 0), (2, .int (nI bq)), (1, .int (nI ta)), (0, .ref mm)]) hx hb dX12_hear_42 rfl hl (by decide) rfl (fun ls hl => ?_)
    have lp_2 : ∀ (n_3 : Nat) (i : Nat) (gb : Nat) (H : Heap) (locs : List Loc) (ls : Array Slot), ta + 2 - i < n_3 → (i ≤ ta + 1) → (gb = 0 ∨ (i % 2 = 0 ∧ ta % 2 = 0 ∧ i ≤ ta)) → (gb ≤ 1) → ((gb = 0 ∧ ¬ hearC dm U tb ta) ∨ (gb = 1 ∧ 1 ≤ dm ∧ 2 ≤ ta ∧ ta ≤ 32 ∧ ta % 2 = 0 ∧ hrC dm U tb i)) → va_P D vwCl [(mm, .inr (12, mo g 0 (nI pa) (nI pe) pd (nI pb) pp pf pg pn rt rn (nI cd) sn (nI il) tk am at_ aa 0 0 (-1) wt wy 0 (nI rm) (nI ud) (nI nu) sd (nI qn) (nI qw) qo (nI qb) (nI qp) qa (nI qi) (nI oc))), (g 20, .inl (cI, 4, .inl (l4 (nI l0) (nI l1) (nI dm) (nI l3)))), (g 31, .inl (cI, 120, .inl nw)), (g 0, .inl (cI, 1600, .inl (fun j => nI (tb j)))), (g 53, .inl (cI, 32, .inl rw_)), (g 9, .inl (cI, 6, .inl rf))] H → va_D A [(mm, .inr (12, mo g 0 (nI pa) (nI pe) pd (nI pb) pp pf pg pn rt rn (nI cd) sn (nI il) tk am at_ aa 0 0 (-1) wt wy 0 (nI rm) (nI ud) (nI nu) sd (nI qn) (nI qw) qo (nI qb) (nI qp) qa (nI qi) (nI oc))), (g 20, .inl (cI, 4, .inl (l4 (nI l0) (nI l1) (nI dm) (nI l3)))), (g 31, .inl (cI, 120, .inl nw)), (g 0, .inl (cI, 1600, .inl (fun j => nI (tb j)))), (g 53, .inl (cI, 32, .inl rw_)), (g 9, .inl (cI, 6, .inl rf))] → va_S A s.heap H locs → lv_has ls 4 [(3, .int (nI i)), (2, .int (nI gb)), (1, .int (nI ta)), (0, .ref mm)] → W p l e { frames := 3, cells := 0, slots := 0, locals := 68 } s m ([.ref mm] : List Value).toArray below meth c H locs 0 0 (MQ below (skI D (skT cI cJ cC cZ cS) (fun (r : Int32) (u : va_W) => ∃ (hR2 : Nat → Nat), ∃ (rm2 : Nat), ∃ (rw_2 : Nat → Int32), ∃ (rf2 : Nat → Int32), rm2 ≤ 16 ∧ (∀ j, j < rm2 → rw_2 (2 * j) = nI (hR2 j / 10) ∧ rw_2 (2 * j + 1) = nI (hR2 j % 10)) ∧ hearR dm U tb ta rm hR rf r rm2 hR2 rf2 ∧ u = [(mm, .inr (12, mo g 0 (nI pa) (nI pe) pd (nI pb) pp pf pg pn rt rn (nI cd) sn (nI il) tk am at_ aa 0 0 (-1) wt wy 0 (nI rm2) (nI ud) (nI nu) sd (nI qn) (nI qw) qo (nI qb) (nI qp) qa (nI qi) (nI oc))), (g 20, .inl (cI, 4, .inl (l4 (nI l0) (nI l1) (nI dm) (nI l3)))), (g 31, .inl (cI, 120, .inl nw)), (g 0, .inl (cI, 1600, .inl (fun j => nI (tb j)))), (g 53, .inl (cI, 32, .inl rw_2)), (g 9, .inl (cI, 6, .inl rf2))]) A) ([.ref mm] : List Value).toArray s 0 0 A) (F0 m 43 ls []) := by
      intro n_3
      induction n_3 with
      | zero => intro i gb H locs ls hm; exact absurd hm (Nat.not_lt_zero _)
      | succ n_3 ih_lp_2 =>
        intro i gb H locs ls hm hi hi2 hgb1 hgb hP hD hS hl
        refine lv_iload_n hx hb dX12_hear_43 rfl (lv_at hl 0 rfl) ?_
        refine lv_iload_n hx hb dX12_hear_44 rfl (lv_at hl 2 rfl) ?_
        refine lv_icmp_ge (tgt := 77) hx hb dX12_hear_45 (by decide) (fun c_4 => ?_) (fun c_4 => ?_)
        · have c_4 : ta ≤ i := (nle ta i (by omega) (by omega)).mp c_4
          refine lv_iload_n hx hb dX12_hear_77 rfl (lv_at hl 1 rfl) ?_
          refine lv_if_ne (tgt := 87) hx hb dX12_hear_78 (by decide) (fun c_5 => ?_) (fun c_5 => ?_)
          · have c_5 : ¬ (gb = 0) := fun h => c_5 ((neq gb 0 (by omega) (by omega)).mpr h)
            have hcc : hearC dm U tb ta := (by obtain ⟨h1, h2, h3, h4, h5, h6⟩ := hgb.resolve_left (fun q => absurd q.1 (by omega)); exact ⟨h2, h3, h4, h5, hrC_e h6 (by omega)⟩)
            have hl32 := hcc.2.2.1
            refine lv_iconst (v := 0) hx hb dX12_hear_87 (by decide) ?_
            refine lv_istore_n (lv' := [(3, .int 0), (2, .int (nI gb)), (1, .int (nI ta)), (0, .ref mm)]) hx hb dX12_hear_88 rfl hl (by decide) rfl (fun ls hl => ?_)
            have lp_6 : ∀ (n_7 : Nat) (i : Nat) (zr : Nat → Int32) (H : Heap) (locs : List Loc) (ls : Array Slot), ta - i < n_7 → (i ≤ ta) → (∀ k, k < i → zr k = nI (tb k)) → va_P D vwCl [(mm, .inr (12, mo g 0 (nI pa) (nI pe) pd (nI pb) pp pf pg pn rt rn (nI cd) sn (nI il) tk am at_ aa 0 0 (-1) wt wy 0 (nI rm) (nI ud) (nI nu) sd (nI qn) (nI qw) qo (nI qb) (nI qp) qa (nI qi) (nI oc))), (g 20, .inl (cI, 4, .inl (l4 (nI l0) (nI l1) (nI dm) (nI l3)))), (g 31, .inl (cI, 120, .inl nw)), (g 0, .inl (cI, 1600, .inl (fun j => nI (tb j)))), (g 53, .inl (cI, 32, .inl zr)), (g 9, .inl (cI, 6, .inl rf))] H → va_D A [(mm, .inr (12, mo g 0 (nI pa) (nI pe) pd (nI pb) pp pf pg pn rt rn (nI cd) sn (nI il) tk am at_ aa 0 0 (-1) wt wy 0 (nI rm) (nI ud) (nI nu) sd (nI qn) (nI qw) qo (nI qb) (nI qp) qa (nI qi) (nI oc))), (g 20, .inl (cI, 4, .inl (l4 (nI l0) (nI l1) (nI dm) (nI l3)))), (g 31, .inl (cI, 120, .inl nw)), (g 0, .inl (cI, 1600, .inl (fun j => nI (tb j)))), (g 53, .inl (cI, 32, .inl zr)), (g 9, .inl (cI, 6, .inl rf))] → va_S A s.heap H locs → lv_has ls 4 [(3, .int (nI i)), (2, .int (nI gb)), (1, .int (nI ta)), (0, .ref mm)] → W p l e { frames := 3, cells := 0, slots := 0, locals := 68 } s m ([.ref mm] : List Value).toArray below meth c H locs 0 0 (MQ below (skI D (skT cI cJ cC cZ cS) (fun (r : Int32) (u : va_W) => ∃ (hR2 : Nat → Nat), ∃ (rm2 : Nat), ∃ (rw_2 : Nat → Int32), ∃ (rf2 : Nat → Int32), rm2 ≤ 16 ∧ (∀ j, j < rm2 → rw_2 (2 * j) = nI (hR2 j / 10) ∧ rw_2 (2 * j + 1) = nI (hR2 j % 10)) ∧ hearR dm U tb ta rm hR rf r rm2 hR2 rf2 ∧ u = [(mm, .inr (12, mo g 0 (nI pa) (nI pe) pd (nI pb) pp pf pg pn rt rn (nI cd) sn (nI il) tk am at_ aa 0 0 (-1) wt wy 0 (nI rm2) (nI ud) (nI nu) sd (nI qn) (nI qw) qo (nI qb) (nI qp) qa (nI qi) (nI oc))), (g 20, .inl (cI, 4, .inl (l4 (nI l0) (nI l1) (nI dm) (nI l3)))), (g 31, .inl (cI, 120, .inl nw)), (g 0, .inl (cI, 1600, .inl (fun j => nI (tb j)))), (g 53, .inl (cI, 32, .inl rw_2)), (g 9, .inl (cI, 6, .inl rf2))]) A) ([.ref mm] : List Value).toArray s 0 0 A) (F0 m 89 ls []) := by
              intro n_7
              induction n_7 with
              | zero => intro i zr H locs ls hm; exact absurd hm (Nat.not_lt_zero _)
              | succ n_7 ih_lp_6 =>
                intro i zr H locs ls hm hi hrw hP hD hS hl
                refine lv_iload_n hx hb dX12_hear_89 rfl (lv_at hl 0 rfl) ?_
                refine lv_iload_n hx hb dX12_hear_90 rfl (lv_at hl 2 rfl) ?_
                refine lv_icmp_ge (tgt := 112) hx hb dX12_hear_91 (by decide) (fun c_8 => ?_) (fun c_8 => ?_)
                · have c_8 : ta ≤ i := (nle ta i (by omega) (by omega)).mp c_8
                  refine lv_aload_n hx hb dX12_hear_112 rfl (lv_at hl 3 rfl) ?_
                  refine lv_iload_n hx hb dX12_hear_113 rfl (lv_at hl 2 rfl) ?_
                  refine lv_iconst (v := 2) hx hb dX12_hear_114 (by decide) ?_
                  refine lv_idiv hx hb dX12_hear_115 (by decide) ?_
                  refine sk_top (nI (ta / 2)) (ndiv ta 2 (by omega) (by omega) (by omega)) ?_
                  refine sk_put (ws' := [(mm, .inr (12, mo g 0 (nI pa) (nI pe) pd (nI pb) pp pf pg pn rt rn (nI cd) sn (nI il) tk am at_ aa 0 0 (-1) wt wy 0 (nI (ta / 2)) (nI ud) (nI nu) sd (nI qn) (nI qw) qo (nI qb) (nI qp) qa (nI qi) (nI oc))), (g 20, .inl (cI, 4, .inl (l4 (nI l0) (nI l1) (nI dm) (nI l3)))), (g 31, .inl (cI, 120, .inl nw)), (g 0, .inl (cI, 1600, .inl (fun j => nI (tb j)))), (g 53, .inl (cI, 32, .inl zr)), (g 9, .inl (cI, 6, .inl rf))]) (C := RX12) (T := TX12) (N := 92) (v := .int (nI (ta / 2))) hx hb hts inlX12 tyX12 tyX12_ok nmX12 hown hK hP hD hS 0 rfl rfl 52 (by decide) w_5_207 rfl rfl rfl (Nat.le_of_ble_eq_true rfl) rfl dX12_hear_116 (fun H locs hP hD hS => ?_)
                  refine lv_aload_n hx hb dX12_hear_119 rfl (lv_at hl 3 rfl) ?_
                  refine sk_get (v := .int (nI (ta / 2))) (C := RX12) (T := TX12) (N := 92) hx hb hts inlX12 hown hK hP 0 rfl rfl 52 (by decide) w_5_207 rfl dX12_hear_120 ?_
                  exact sk_iret hx hb hr rfl hlocks hK hP hD hS (⟨(hrR tb), ta / 2, zr, rf, by omega, (hr_rows (fun k hk => hrw k (by omega)) hcc), kB_1 hcc ⟨rfl, rfl, rfl, rfl⟩, rfl⟩) (Nat.le_of_ble_eq_true rfl) (Nat.le_of_ble_eq_true rfl) dX12_hear_123
                · have c_8 : ¬ (ta ≤ i) := fun h => c_8 ((nle ta i (by omega) (by omega)).mpr h)
                  refine lv_aload_n hx hb dX12_hear_94 rfl (lv_at hl 3 rfl) ?_
                  refine sk_get (v := .ref (g 53)) (C := RX12) (T := TX12) (N := 92) hx hb hts inlX12 hown hK hP 0 rfl rfl 53 (by decide) w_5_208 rfl dX12_hear_95 ?_
                  refine lv_iload_n hx hb dX12_hear_98 rfl (lv_at hl 0 rfl) ?_
                  refine lv_aload_n hx hb dX12_hear_99 rfl (lv_at hl 3 rfl) ?_
                  refine sk_get (v := .ref (g 0)) (C := RX12) (T := TX12) (N := 92) hx hb hts inlX12 hown hK hP 0 rfl rfl 0 (by decide) w_5_155 rfl dX12_hear_100 ?_
                  refine lv_iload_n hx hb dX12_hear_103 rfl (lv_at hl 0 rfl) ?_
                  refine va_iald hx hb hK.1 hP 3 0 rfl rfl (vin i 1600 (by omega) (by omega)) dX12_hear_104 ?_
                  refine sk_top (nI (tb i)) (nrd tb i (by omega)) ?_
                  have hb_9 := htb i
                  refine sk_iastE (k := i) (ws' := fun f_10 => [(mm, .inr (12, mo g 0 (nI pa) (nI pe) pd (nI pb) pp pf pg pn rt rn (nI cd) sn (nI il) tk am at_ aa 0 0 (-1) wt wy 0 (nI rm) (nI ud) (nI nu) sd (nI qn) (nI qw) qo (nI qb) (nI qp) qa (nI qi) (nI oc))), (g 20, .inl (cI, 4, .inl (l4 (nI l0) (nI l1) (nI dm) (nI l3)))), (g 31, .inl (cI, 120, .inl nw)), (g 0, .inl (cI, 1600, .inl (fun j => nI (tb j)))), (g 53, .inl (cI, 32, .inl f_10)), (g 9, .inl (cI, 6, .inl rf))]) hx hb hK hP hD hS 4 0 rfl rfl (by omega) (by omega) (fun _ => rfl) dX12_hear_105 (fun f_10 H locs ef_11 hP hD hS => ?_)
                  refine lv_iinc (v := nI (i + 1)) (lv' := [(3, .int (nI (i + 1))), (2, .int (nI gb)), (1, .int (nI ta)), (0, .ref mm)]) hx hb dX12_hear_106 hl (k := 0) rfl (ninc i 1 (by decide)) (by decide) rfl (fun ls hl => ?_)
                  refine lv_goto (tgt := 89) hx hb dX12_hear_109 (by decide) ?_
                  exact ih_lp_6 (i + 1) f_10 _ _ _ (by omega) (by omega) (kc_n hrw ef_11) hP hD hS (lv_sub hl [0, 1, 2, 3] rfl)
            exact lp_6 (ta - 0 + 1) 0 rw_ _ _ _ (Nat.lt_succ_self _) (by omega) (fun k hk => absurd hk (Nat.not_lt_zero k)) hP hD hS (lv_sub hl [0, 1, 2, 3] rfl)
          · have c_5 : gb = 0 := (neq gb 0 (by omega) (by omega)).mp c_5
            refine lv_aload_n hx hb dX12_hear_81 rfl (lv_at hl 3 rfl) ?_
            refine lv_iconst (v := 1) hx hb dX12_hear_82 (by decide) ?_
            refine sk_Vi (q0 := 0) (n := 1) (rest := []) (wr := fmR om_6_21 _) ⟨hx, hb, hml, hown, hts⟩ hl.1 (c_nm_refuses l D cI cJ cC cZ cS mm g 0 pa pe pd pb pp pf pg pn rt rn cd sn il tk am at_ aa wt wy rm ud nu sd qn qw qo qb qp qa qi oc 1 rf (by omega)) w_8_97 w_8_99 w_0_104 w_1_14 w_8_100 hd_X12_refuses_1 ⟨⟨(Nat.le_of_ble_eq_true rfl), (Nat.le_of_ble_eq_true rfl)⟩, (Nat.le_of_ble_eq_true rfl), (Nat.le_of_ble_eq_true rfl)⟩ hK hP hD hS hA (fmT om_6_21 0) (fmF om_6_21 0) (fm_C1 rfl rfl) (fm_R rfl rfl) (fm_nT om_6_21 0) (fm_nF om_6_21 0) (fm_di om_6_21 0) rfl rfl rfl rfl (Nat.le_of_ble_eq_true rfl) dX12_hear_83 (fun r_13 u H locs hw hP hD hS => ?_)
            refine exE hw (fun rf2_12 hw1 => anE hw1 (fun hrf_14 hw2 => anE hw2 (fun er_16 eu_15 => ?_)))
            clear hw hw1 hw2
            subst er_16
            refine o_mgE (ws' := [(mm, .inr (12, mo g 0 (nI pa) (nI pe) pd (nI pb) pp pf pg pn rt rn (nI cd) sn (nI il) tk am at_ aa 0 0 (-1) wt wy 0 (nI rm) (nI ud) (nI nu) sd (nI qn) (nI qw) qo (nI qb) (nI qp) qa (nI qi) (nI oc))), (g 20, .inl (cI, 4, .inl (l4 (nI l0) (nI l1) (nI dm) (nI l3)))), (g 31, .inl (cI, 120, .inl nw)), (g 0, .inl (cI, 1600, .inl (fun j => nI (tb j)))), (g 53, .inl (cI, 32, .inl rw_)), (g 9, .inl (cI, 6, .inl rf2_12))]) eu_15 hP hD rfl (fun hP hD => ?_)
            exact sk_iret hx hb hr rfl hlocks hK hP hD hS (⟨hR, rm, rw_, rf2_12, by omega, hhr, kB_0 (by obtain ⟨h1, h2⟩ := hgb.resolve_right (fun q => absurd q.1 (by omega)); exact h2) ⟨rfl, rfl, rfl, hrf_14⟩, rfl⟩) (Nat.le_of_ble_eq_true rfl) (Nat.le_of_ble_eq_true rfl) dX12_hear_86
        · have c_4 : ¬ (ta ≤ i) := fun h => c_4 ((nle ta i (by omega) (by omega)).mpr h)
          refine lv_iload_n hx hb dX12_hear_48 rfl (lv_at hl 1 rfl) ?_
          refine lv_if_eq (tgt := 77) hx hb dX12_hear_49 (by decide) (fun c_17 => ?_) (fun c_17 => ?_)
          · have c_17 : gb = 0 := (neq gb 0 (by omega) (by omega)).mp c_17
            refine lv_iload_n hx hb dX12_hear_77 rfl (lv_at hl 1 rfl) ?_
            refine lv_if_ne (tgt := 87) hx hb dX12_hear_78 (by decide) (fun c_18 => ?_) (fun c_18 => ?_)
            · have c_18 : ¬ (gb = 0) := fun h => c_18 ((neq gb 0 (by omega) (by omega)).mpr h)
              have hcc : hearC dm U tb ta := (by obtain ⟨h1, h2, h3, h4, h5, h6⟩ := hgb.resolve_left (fun q => absurd q.1 (by omega)); exact ⟨h2, h3, h4, h5, hrC_e h6 (by omega)⟩)
              have hl32 := hcc.2.2.1
              refine lv_iconst (v := 0) hx hb dX12_hear_87 (by decide) ?_
              refine lv_istore_n (lv' := [(3, .int 0), (2, .int (nI gb)), (1, .int (nI ta)), (0, .ref mm)]) hx hb dX12_hear_88 rfl hl (by decide) rfl (fun ls hl => ?_)
              have lp_19 : ∀ (n_20 : Nat) (i : Nat) (zr : Nat → Int32) (H : Heap) (locs : List Loc) (ls : Array Slot), ta - i < n_20 → (i ≤ ta) → (∀ k, k < i → zr k = nI (tb k)) → va_P D vwCl [(mm, .inr (12, mo g 0 (nI pa) (nI pe) pd (nI pb) pp pf pg pn rt rn (nI cd) sn (nI il) tk am at_ aa 0 0 (-1) wt wy 0 (nI rm) (nI ud) (nI nu) sd (nI qn) (nI qw) qo (nI qb) (nI qp) qa (nI qi) (nI oc))), (g 20, .inl (cI, 4, .inl (l4 (nI l0) (nI l1) (nI dm) (nI l3)))), (g 31, .inl (cI, 120, .inl nw)), (g 0, .inl (cI, 1600, .inl (fun j => nI (tb j)))), (g 53, .inl (cI, 32, .inl zr)), (g 9, .inl (cI, 6, .inl rf))] H → va_D A [(mm, .inr (12, mo g 0 (nI pa) (nI pe) pd (nI pb) pp pf pg pn rt rn (nI cd) sn (nI il) tk am at_ aa 0 0 (-1) wt wy 0 (nI rm) (nI ud) (nI nu) sd (nI qn) (nI qw) qo (nI qb) (nI qp) qa (nI qi) (nI oc))), (g 20, .inl (cI, 4, .inl (l4 (nI l0) (nI l1) (nI dm) (nI l3)))), (g 31, .inl (cI, 120, .inl nw)), (g 0, .inl (cI, 1600, .inl (fun j => nI (tb j)))), (g 53, .inl (cI, 32, .inl zr)), (g 9, .inl (cI, 6, .inl rf))] → va_S A s.heap H locs → lv_has ls 4 [(3, .int (nI i)), (2, .int (nI gb)), (1, .int (nI ta)), (0, .ref mm)] → W p l e { frames := 3, cells := 0, slots := 0, locals := 68 } s m ([.ref mm] : List Value).toArray below meth c H locs 0 0 (MQ below (skI D (skT cI cJ cC cZ cS) (fun (r : Int32) (u : va_W) => ∃ (hR2 : Nat → Nat), ∃ (rm2 : Nat), ∃ (rw_2 : Nat → Int32), ∃ (rf2 : Nat → Int32), rm2 ≤ 16 ∧ (∀ j, j < rm2 → rw_2 (2 * j) = nI (hR2 j / 10) ∧ rw_2 (2 * j + 1) = nI (hR2 j % 10)) ∧ hearR dm U tb ta rm hR rf r rm2 hR2 rf2 ∧ u = [(mm, .inr (12, mo g 0 (nI pa) (nI pe) pd (nI pb) pp pf pg pn rt rn (nI cd) sn (nI il) tk am at_ aa 0 0 (-1) wt wy 0 (nI rm2) (nI ud) (nI nu) sd (nI qn) (nI qw) qo (nI qb) (nI qp) qa (nI qi) (nI oc))), (g 20, .inl (cI, 4, .inl (l4 (nI l0) (nI l1) (nI dm) (nI l3)))), (g 31, .inl (cI, 120, .inl nw)), (g 0, .inl (cI, 1600, .inl (fun j => nI (tb j)))), (g 53, .inl (cI, 32, .inl rw_2)), (g 9, .inl (cI, 6, .inl rf2))]) A) ([.ref mm] : List Value).toArray s 0 0 A) (F0 m 89 ls []) := by
                intro n_20
                induction n_20 with
                | zero => intro i zr H locs ls hm; exact absurd hm (Nat.not_lt_zero _)
                | succ n_20 ih_lp_19 =>
                  intro i zr H locs ls hm hi hrw hP hD hS hl
                  refine lv_iload_n hx hb dX12_hear_89 rfl (lv_at hl 0 rfl) ?_
                  refine lv_iload_n hx hb dX12_hear_90 rfl (lv_at hl 2 rfl) ?_
                  refine lv_icmp_ge (tgt := 112) hx hb dX12_hear_91 (by decide) (fun c_21 => ?_) (fun c_21 => ?_)
                  · have c_21 : ta ≤ i := (nle ta i (by omega) (by omega)).mp c_21
                    refine lv_aload_n hx hb dX12_hear_112 rfl (lv_at hl 3 rfl) ?_
                    refine lv_iload_n hx hb dX12_hear_113 rfl (lv_at hl 2 rfl) ?_
                    refine lv_iconst (v := 2) hx hb dX12_hear_114 (by decide) ?_
                    refine lv_idiv hx hb dX12_hear_115 (by decide) ?_
                    refine sk_top (nI (ta / 2)) (ndiv ta 2 (by omega) (by omega) (by omega)) ?_
                    refine sk_put (ws' := [(mm, .inr (12, mo g 0 (nI pa) (nI pe) pd (nI pb) pp pf pg pn rt rn (nI cd) sn (nI il) tk am at_ aa 0 0 (-1) wt wy 0 (nI (ta / 2)) (nI ud) (nI nu) sd (nI qn) (nI qw) qo (nI qb) (nI qp) qa (nI qi) (nI oc))), (g 20, .inl (cI, 4, .inl (l4 (nI l0) (nI l1) (nI dm) (nI l3)))), (g 31, .inl (cI, 120, .inl nw)), (g 0, .inl (cI, 1600, .inl (fun j => nI (tb j)))), (g 53, .inl (cI, 32, .inl zr)), (g 9, .inl (cI, 6, .inl rf))]) (C := RX12) (T := TX12) (N := 92) (v := .int (nI (ta / 2))) hx hb hts inlX12 tyX12 tyX12_ok nmX12 hown hK hP hD hS 0 rfl rfl 52 (by decide) w_5_207 rfl rfl rfl (Nat.le_of_ble_eq_true rfl) rfl dX12_hear_116 (fun H locs hP hD hS => ?_)
                    refine lv_aload_n hx hb dX12_hear_119 rfl (lv_at hl 3 rfl) ?_
                    refine sk_get (v := .int (nI (ta / 2))) (C := RX12) (T := TX12) (N := 92) hx hb hts inlX12 hown hK hP 0 rfl rfl 52 (by decide) w_5_207 rfl dX12_hear_120 ?_
                    exact sk_iret hx hb hr rfl hlocks hK hP hD hS (⟨(hrR tb), ta / 2, zr, rf, by omega, (hr_rows (fun k hk => hrw k (by omega)) hcc), kB_1 hcc ⟨rfl, rfl, rfl, rfl⟩, rfl⟩) (Nat.le_of_ble_eq_true rfl) (Nat.le_of_ble_eq_true rfl) dX12_hear_123
                  · have c_21 : ¬ (ta ≤ i) := fun h => c_21 ((nle ta i (by omega) (by omega)).mpr h)
                    refine lv_aload_n hx hb dX12_hear_94 rfl (lv_at hl 3 rfl) ?_
                    refine sk_get (v := .ref (g 53)) (C := RX12) (T := TX12) (N := 92) hx hb hts inlX12 hown hK hP 0 rfl rfl 53 (by decide) w_5_208 rfl dX12_hear_95 ?_
                    refine lv_iload_n hx hb dX12_hear_98 rfl (lv_at hl 0 rfl) ?_
                    refine lv_aload_n hx hb dX12_hear_99 rfl (lv_at hl 3 rfl) ?_
                    refine sk_get (v := .ref (g 0)) (C := RX12) (T := TX12) (N := 92) hx hb hts inlX12 hown hK hP 0 rfl rfl 0 (by decide) w_5_155 rfl dX12_hear_100 ?_
                    refine lv_iload_n hx hb dX12_hear_103 rfl (lv_at hl 0 rfl) ?_
                    refine va_iald hx hb hK.1 hP 3 0 rfl rfl (vin i 1600 (by omega) (by omega)) dX12_hear_104 ?_
                    refine sk_top (nI (tb i)) (nrd tb i (by omega)) ?_
                    have hb_22 := htb i
                    refine sk_iastE (k := i) (ws' := fun f_23 => [(mm, .inr (12, mo g 0 (nI pa) (nI pe) pd (nI pb) pp pf pg pn rt rn (nI cd) sn (nI il) tk am at_ aa 0 0 (-1) wt wy 0 (nI rm) (nI ud) (nI nu) sd (nI qn) (nI qw) qo (nI qb) (nI qp) qa (nI qi) (nI oc))), (g 20, .inl (cI, 4, .inl (l4 (nI l0) (nI l1) (nI dm) (nI l3)))), (g 31, .inl (cI, 120, .inl nw)), (g 0, .inl (cI, 1600, .inl (fun j => nI (tb j)))), (g 53, .inl (cI, 32, .inl f_23)), (g 9, .inl (cI, 6, .inl rf))]) hx hb hK hP hD hS 4 0 rfl rfl (by omega) (by omega) (fun _ => rfl) dX12_hear_105 (fun f_23 H locs ef_24 hP hD hS => ?_)
                    refine lv_iinc (v := nI (i + 1)) (lv' := [(3, .int (nI (i + 1))), (2, .int (nI gb)), (1, .int (nI ta)), (0, .ref mm)]) hx hb dX12_hear_106 hl (k := 0) rfl (ninc i 1 (by decide)) (by decide) rfl (fun ls hl => ?_)
                    refine lv_goto (tgt := 89) hx hb dX12_hear_109 (by decide) ?_
                    exact ih_lp_19 (i + 1) f_23 _ _ _ (by omega) (by omega) (kc_n hrw ef_24) hP hD hS (lv_sub hl [0, 1, 2, 3] rfl)
              exact lp_19 (ta - 0 + 1) 0 rw_ _ _ _ (Nat.lt_succ_self _) (by omega) (fun k hk => absurd hk (Nat.not_lt_zero k)) hP hD hS (lv_sub hl [0, 1, 2, 3] rfl)
            · have c_18 : gb = 0 := (neq gb 0 (by omega) (by omega)).mp c_18
              refine lv_aload_n hx hb dX12_hear_81 rfl (lv_at hl 3 rfl) ?_
              refine lv_iconst (v := 1) hx hb dX12_hear_82 (by decide) ?_
              refine sk_Vi (q0 := 0) (n := 1) (rest := []) (wr := fmR om_6_21 _) ⟨hx, hb, hml, hown, hts⟩ hl.1 (c_nm_refuses l D cI cJ cC cZ cS mm g 0 pa pe pd pb pp pf pg pn rt rn cd sn il tk am at_ aa wt wy rm ud nu sd qn qw qo qb qp qa qi oc 1 rf (by omega)) w_8_97 w_8_99 w_0_104 w_1_14 w_8_100 hd_X12_refuses_1 ⟨⟨(Nat.le_of_ble_eq_true rfl), (Nat.le_of_ble_eq_true rfl)⟩, (Nat.le_of_ble_eq_true rfl), (Nat.le_of_ble_eq_true rfl)⟩ hK hP hD hS hA (fmT om_6_21 0) (fmF om_6_21 0) (fm_C1 rfl rfl) (fm_R rfl rfl) (fm_nT om_6_21 0) (fm_nF om_6_21 0) (fm_di om_6_21 0) rfl rfl rfl rfl (Nat.le_of_ble_eq_true rfl) dX12_hear_83 (fun r_26 u H locs hw hP hD hS => ?_)
              refine exE hw (fun rf2_25 hw1 => anE hw1 (fun hrf_27 hw2 => anE hw2 (fun er_29 eu_28 => ?_)))
              clear hw hw1 hw2
              subst er_29
              refine o_mgE (ws' := [(mm, .inr (12, mo g 0 (nI pa) (nI pe) pd (nI pb) pp pf pg pn rt rn (nI cd) sn (nI il) tk am at_ aa 0 0 (-1) wt wy 0 (nI rm) (nI ud) (nI nu) sd (nI qn) (nI qw) qo (nI qb) (nI qp) qa (nI qi) (nI oc))), (g 20, .inl (cI, 4, .inl (l4 (nI l0) (nI l1) (nI dm) (nI l3)))), (g 31, .inl (cI, 120, .inl nw)), (g 0, .inl (cI, 1600, .inl (fun j => nI (tb j)))), (g 53, .inl (cI, 32, .inl rw_)), (g 9, .inl (cI, 6, .inl rf2_25))]) eu_28 hP hD rfl (fun hP hD => ?_)
              exact sk_iret hx hb hr rfl hlocks hK hP hD hS (⟨hR, rm, rw_, rf2_25, by omega, hhr, kB_0 (by obtain ⟨h1, h2⟩ := hgb.resolve_right (fun q => absurd q.1 (by omega)); exact h2) ⟨rfl, rfl, rfl, hrf_27⟩, rfl⟩) (Nat.le_of_ble_eq_true rfl) (Nat.le_of_ble_eq_true rfl) dX12_hear_86
          · have c_17 : ¬ (gb = 0) := fun h => c_17 ((neq gb 0 (by omega) (by omega)).mpr h)
            refine lv_aload_n hx hb dX12_hear_52 rfl (lv_at hl 3 rfl) ?_
            refine lv_aload_n hx hb dX12_hear_53 rfl (lv_at hl 3 rfl) ?_
            refine sk_get (v := .ref (g 0)) (C := RX12) (T := TX12) (N := 92) hx hb hts inlX12 hown hK hP 0 rfl rfl 0 (by decide) w_5_155 rfl dX12_hear_54 ?_
            refine lv_iload_n hx hb dX12_hear_57 rfl (lv_at hl 0 rfl) ?_
            refine va_iald hx hb hK.1 hP 3 0 rfl rfl (vin i 1600 (by omega) (by omega)) dX12_hear_58 ?_
            refine sk_top (nI (tb i)) (nrd tb i (by omega)) ?_
            have hb_30 := htb i
            refine lv_aload_n hx hb dX12_hear_59 rfl (lv_at hl 3 rfl) ?_
            refine sk_get (v := .ref (g 0)) (C := RX12) (T := TX12) (N := 92) hx hb hts inlX12 hown hK hP 0 rfl rfl 0 (by decide) w_5_155 rfl dX12_hear_60 ?_
            refine lv_iload_n hx hb dX12_hear_63 rfl (lv_at hl 0 rfl) ?_
            refine lv_iconst (v := 1) hx hb dX12_hear_64 (by decide) ?_
            refine lv_iadd hx hb dX12_hear_65 ?_
            refine sk_top (nI (i + 1)) (nI_add i 1) ?_
            refine va_iald hx hb hK.1 hP 3 0 rfl rfl (vin (i + 1) 1600 (by omega) (by omega)) dX12_hear_66 ?_
            refine sk_top (nI (tb (i + 1))) (nrd tb (i + 1) (by omega)) ?_
            have hb_31 := htb (i + 1)
            refine sk_Vi (q0 := 0) (n := 2) (rest := []) (wr := fmR om_6_38 _) ⟨hx, hb, hml, hown, hts⟩ hl.1 (c_nm_canBeToldN l D cI cJ cC cZ cS mm g 0 pa pe pd pb pp pf pg pn rt rn cd sn il tk am at_ aa wt wy rm ud nu sd qn qw qo qb qp qa qi oc (tb i) (tb (i + 1)) l0 l1 dm l3 nw wn mN Ba We U ke lg (by omega) (by omega) (by omega) hnw) w_8_77 w_8_79 w_0_101 w_1_14 w_8_80 hd_X12_canBeTold_2 ⟨⟨(Nat.le_of_ble_eq_true rfl), (Nat.le_of_ble_eq_true rfl)⟩, (Nat.le_of_ble_eq_true rfl), (Nat.le_of_ble_eq_true rfl)⟩ hK hP hD hS hA (fmT om_6_38 0) (fmF om_6_38 0) (fm_C1 rfl rfl) (fm_R rfl rfl) (fm_nT om_6_38 0) (fm_nF om_6_38 0) (fm_di om_6_38 0) rfl rfl rfl rfl (Nat.le_of_ble_eq_true rfl) dX12_hear_67 (fun r_33 u H locs hw hP hD hS => ?_)
            refine exE hw (fun b_32 hw1 => anE hw1 (fun hcb_34 hw2 => anE hw2 (fun er_36 eu_35 => ?_)))
            clear hw hw1 hw2
            subst er_36
            refine o_mgE (ws' := [(mm, .inr (12, mo g 0 (nI pa) (nI pe) pd (nI pb) pp pf pg pn rt rn (nI cd) sn (nI il) tk am at_ aa 0 0 (-1) wt wy 0 (nI rm) (nI ud) (nI nu) sd (nI qn) (nI qw) qo (nI qb) (nI qp) qa (nI qi) (nI oc))), (g 20, .inl (cI, 4, .inl (l4 (nI l0) (nI l1) (nI dm) (nI l3)))), (g 31, .inl (cI, 120, .inl nw)), (g 0, .inl (cI, 1600, .inl (fun j => nI (tb j)))), (g 53, .inl (cI, 32, .inl rw_)), (g 9, .inl (cI, 6, .inl rf))]) eu_35 hP hD rfl (fun hP hD => ?_)
            refine lv_istore_n (lv' := [(2, .int (nI b_32)), (3, .int (nI i)), (1, .int (nI ta)), (0, .ref mm)]) hx hb dX12_hear_70 rfl hl (by decide) rfl (fun ls hl => ?_)
            refine lv_iinc (v := nI (i + 2)) (lv' := [(3, .int (nI (i + 2))), (2, .int (nI b_32)), (1, .int (nI ta)), (0, .ref mm)]) hx hb dX12_hear_71 hl (k := 1) rfl (ninc i 2 (by decide)) (by decide) rfl (fun ls hl => ?_)
            refine lv_goto (tgt := 43) hx hb dX12_hear_74 (by decide) ?_
            exact ih_lp_2 (i + 2) b_32 _ _ _ (by omega) (by omega) (by omega) (by omega) (by obtain ⟨h1, h2, h3, h4, h5, h6⟩ := hgb.resolve_left (fun q => absurd q.1 (by omega)); rcases hcb_34 with ⟨q1, q2⟩ | ⟨q1, q2⟩; exact Or.inl ⟨q1, fun hq => hrC_n (by omega) (by omega) q2 hq.2.2.2.2⟩; exact Or.inr ⟨q1, h2, h3, h4, h5, hrC_s h6 (by omega) q2⟩) hP hD hS (lv_sub hl [0, 1, 2, 3] rfl)
    exact lp_2 (ta + 2 - 0 + 1) 0 bq _ _ _ (Nat.lt_succ_self _) (by omega) (by omega) (by omega) (by rcases hbq with ⟨h1, h2⟩ | ⟨h1, h2, h3, h4, h5⟩; exact Or.inl ⟨h1, h2⟩; exact Or.inr ⟨h1, h2, h3, h4, h5, hrC_0 _ _ _⟩) hP hD hS (lv_sub hl [0, 1, 2, 3] rfl)
  refine lv_aload_n hx hb dX12_hear_10 rfl (lv_at hl 1 rfl) ?_
  refine sk_get (v := .int (nI il)) (C := RX12) (T := TX12) (N := 92) hx hb hts inlX12 hown hK hP 0 rfl rfl 29 (by decide) w_5_184 rfl dX12_hear_11 ?_
  refine lv_if_eq (tgt := 39) hx hb dX12_hear_14 (by decide) (fun c_37 => ?_) (fun c_37 => ?_)
  · have c_37 : il = 0 := (neq il 0 (by omega) (by omega)).mp c_37
    refine lv_iconst (v := 0) hx hb dX12_hear_39 (by decide) ?_
    exact jn_1 0 _ _ _ (by omega) (Or.inl ⟨rfl, fun hq => by obtain ⟨h1, h2, h3, h4, h5⟩ := hq; have h6 := hilb h1; omega⟩) hP hD hS (lv_sub hl [0, 1] rfl)
  · have c_37 : ¬ (il = 0) := fun h => c_37 ((neq il 0 (by omega) (by omega)).mpr h)
    refine lv_iload_n hx hb dX12_hear_17 rfl (lv_at hl 0 rfl) ?_
    refine lv_if_le (tgt := 39) hx hb dX12_hear_18 (by decide) (fun c_38 => ?_) (fun c_38 => ?_)
    · have c_38 : ta ≤ 0 := (nle ta 0 (by omega) (by omega)).mp c_38
      refine lv_iconst (v := 0) hx hb dX12_hear_39 (by decide) ?_
      exact jn_1 0 _ _ _ (by omega) (Or.inl ⟨rfl, fun hq => by obtain ⟨h1, h2, h3, h4, h5⟩ := hq; have h6 := hilb h1; omega⟩) hP hD hS (lv_sub hl [0, 1] rfl)
    · have c_38 : ¬ (ta ≤ 0) := fun h => c_38 ((nle ta 0 (by omega) (by omega)).mpr h)
      refine lv_iload_n hx hb dX12_hear_21 rfl (lv_at hl 0 rfl) ?_
      refine lv_iconst (v := 2) hx hb dX12_hear_22 (by decide) ?_
      refine lv_irem hx hb dX12_hear_23 (by decide) ?_
      refine sk_top (nI (ta % 2)) (nrem ta 2 (by omega) (by omega) (by omega)) ?_
      refine lv_if_ne (tgt := 39) hx hb dX12_hear_24 (by decide) (fun c_39 => ?_) (fun c_39 => ?_)
      · have c_39 : ¬ (ta % 2 = 0) := fun h => c_39 ((neq (ta % 2) 0 (by omega) (by omega)).mpr h)
        refine lv_iconst (v := 0) hx hb dX12_hear_39 (by decide) ?_
        exact jn_1 0 _ _ _ (by omega) (Or.inl ⟨rfl, fun hq => by obtain ⟨h1, h2, h3, h4, h5⟩ := hq; have h6 := hilb h1; omega⟩) hP hD hS (lv_sub hl [0, 1] rfl)
      · have c_39 : ta % 2 = 0 := (neq (ta % 2) 0 (by omega) (by omega)).mp c_39
        refine lv_iload_n hx hb dX12_hear_27 rfl (lv_at hl 0 rfl) ?_
        refine lv_iconst (v := 2) hx hb dX12_hear_28 (by decide) ?_
        refine lv_idiv hx hb dX12_hear_29 (by decide) ?_
        refine sk_top (nI (ta / 2)) (ndiv ta 2 (by omega) (by omega) (by omega)) ?_
        refine lv_bipush (v := 16) hx hb dX12_hear_30 (by decide) ?_
        refine lv_icmp_gt (tgt := 39) hx hb dX12_hear_32 (by decide) (fun c_40 => ?_) (fun c_40 => ?_)
        · have c_40 : 16 < ta / 2 := (nlt 16 (ta / 2) (by omega) (by omega)).mp c_40
          refine lv_iconst (v := 0) hx hb dX12_hear_39 (by decide) ?_
          exact jn_1 0 _ _ _ (by omega) (Or.inl ⟨rfl, fun hq => by obtain ⟨h1, h2, h3, h4, h5⟩ := hq; have h6 := hilb h1; omega⟩) hP hD hS (lv_sub hl [0, 1] rfl)
        · have c_40 : ¬ (16 < ta / 2) := fun h => c_40 ((nlt 16 (ta / 2) (by omega) (by omega)).mpr h)
          refine lv_iconst (v := 1) hx hb dX12_hear_35 (by decide) ?_
          refine lv_goto (tgt := 40) hx hb dX12_hear_36 (by decide) ?_
          exact jn_1 1 _ _ _ (by omega) (Or.inr ⟨rfl, by omega, by omega, by omega, by omega⟩) hP hD hS (lv_sub hl [0, 1] rfl)

