theorem dX12_qTold_140 : decode cX12_qTold 140 = .ok (.lconst 1, 1) := q_lconst1 (bat_get dg_X12_qTold_48_131 5 rfl rfl)
theorem dX12_qTold_141 : decode cX12_qTold 141 = .ok (.aload_n 0, 1) := q_aload_n0 (bat_get dg_X12_qTold_48_131 6 rfl rfl)
theorem dX12_qTold_142 : decode cX12_qTold 142 = .ok (.getfield 186, 3) := q_getfield (bat_get dg_X12_qTold_48_131 7 rfl rfl) rfl
theorem dX12_qTold_145 : decode cX12_qTold 145 = .ok (.aload_n 0, 1) := q_aload_n0 (bat_get dg_X12_qTold_48_131 8 rfl rfl)
theorem dX12_qTold_146 : decode cX12_qTold 146 = .ok (.getfield 320, 3) := q_getfield (bat_get dg_X12_qTold_48_131 9 rfl rfl) rfl
theorem dX12_qTold_149 : decode cX12_qTold 149 = .ok (.iconst 1, 1) := q_iconst1 (bat_get dg_X12_qTold_48_131 10 rfl rfl)
theorem dX12_qTold_150 : decode cX12_qTold 150 = .ok (.isub, 1) := q_isub (bat_get dg_X12_qTold_48_131 11 rfl rfl)
theorem dX12_qTold_151 : decode cX12_qTold 151 = .ok (.laload, 1) := q_laload (bat_get dg_X12_qTold_48_131 12 rfl rfl)
theorem dX12_qTold_152 : decode cX12_qTold 152 = .ok (.lsub, 1) := q_lsub (bat_get dg_X12_qTold_48_131 13 rfl rfl)
theorem dX12_qTold_153 : decode cX12_qTold 153 = .ok (.lastore, 1) := q_lastore (bat_get dg_X12_qTold_48_131 14 rfl rfl)
theorem dX12_qTold_154 : decode cX12_qTold 154 = .ok (.goto 8, 3) := q_goto (bat_get dg_X12_qTold_48_131 15 rfl rfl) rfl
theorem dX12_qTold_116 : decode cX12_qTold 116 = .ok (.aload_n 0, 1) := q_aload_n0 (bat_get dg_X12_qTold_48_131 16 rfl rfl)
theorem dX12_qTold_117 : decode cX12_qTold 117 = .ok (.lconst 1, 1) := q_lconst1 (bat_get dg_X12_qTold_48_131 17 rfl rfl)
theorem dX12_qTold_118 : decode cX12_qTold 118 = .ok (.invokevirtual 323, 3) := q_invokevirtual (bat_get dg_X12_qTold_48_131 18 rfl rfl) rfl
theorem dX12_qTold_121 : decode cX12_qTold 121 = .ok (.goto 41, 3) := q_goto (bat_get dg_X12_qTold_48_131 19 rfl rfl) rfl
theorem dX12_qTold_91 : decode cX12_qTold 91 = .ok (.aload_n 0, 1) := q_aload_n0 (bat_get dg_X12_qTold_48_131 20 rfl rfl)
theorem dX12_qTold_92 : decode cX12_qTold 92 = .ok (.aload_n 0, 1) := q_aload_n0 (bat_get dg_X12_qTold_48_131 21 rfl rfl)
theorem dX12_qTold_93 : decode cX12_qTold 93 = .ok (.iload_n 3, 1) := q_iload_n3 (bat_get dg_X12_qTold_48_131 22 rfl rfl)
theorem dX12_qTold_94 : decode cX12_qTold 94 = .ok (.bipush 40, 2) := q_bipush (bat_get dg_X12_qTold_48_131 23 rfl rfl) rfl
theorem dX12_qTold_96 : decode cX12_qTold 96 = .ok (.isub, 1) := q_isub (bat_get dg_X12_qTold_48_131 24 rfl rfl)
theorem dX12_qTold_97 : decode cX12_qTold 97 = .ok (.iload_n 1, 1) := q_iload_n1 (bat_get dg_X12_qTold_48_131 25 rfl rfl)
theorem dX12_qTold_98 : decode cX12_qTold 98 = .ok (.invokevirtual 327, 3) := q_invokevirtual (bat_get dg_X12_qTold_48_131 26 rfl rfl) rfl
theorem dX12_qTold_101 : decode cX12_qTold 101 = .ok (.invokestatic 556, 3) := q_invokestatic (bat_get dg_X12_qTold_48_131 27 rfl rfl) rfl
theorem dX12_qTold_104 : decode cX12_qTold 104 = .ok (.invokevirtual 323, 3) := q_invokevirtual (bat_get dg_X12_qTold_48_131 28 rfl rfl) rfl
theorem dX12_qTold_107 : decode cX12_qTold 107 = .ok (.goto 55, 3) := q_goto (bat_get dg_X12_qTold_48_131 29 rfl rfl) rfl
theorem dX12_qTold_48 : decode cX12_qTold 48 = .ok (.aload_n 0, 1) := q_aload_n0 (bat_get dg_X12_qTold_48_131 30 rfl rfl)
theorem dX12_qTold_49 : decode cX12_qTold 49 = .ok (.getfield 186, 3) := q_getfield (bat_get dg_X12_qTold_48_131 31 rfl rfl) rfl
theorem dX12_qTold_52 : decode cX12_qTold 52 = .ok (.aload_n 0, 1) := q_aload_n0 (bat_get dg_X12_qTold_48_131 32 rfl rfl)
theorem dX12_qTold_53 : decode cX12_qTold 53 = .ok (.getfield 320, 3) := q_getfield (bat_get dg_X12_qTold_48_131 33 rfl rfl) rfl
theorem dX12_qTold_56 : decode cX12_qTold 56 = .ok (.iconst 1, 1) := q_iconst1 (bat_get dg_X12_qTold_48_131 34 rfl rfl)
theorem dX12_qTold_57 : decode cX12_qTold 57 = .ok (.isub, 1) := q_isub (bat_get dg_X12_qTold_48_131 35 rfl rfl)
theorem dX12_qTold_58 : decode cX12_qTold 58 = .ok (.aload_n 0, 1) := q_aload_n0 (bat_get dg_X12_qTold_48_131 36 rfl rfl)
theorem dX12_qTold_59 : decode cX12_qTold 59 = .ok (.iload_n 3, 1) := q_iload_n3 (bat_get dg_X12_qTold_48_131 37 rfl rfl)
theorem dX12_qTold_60 : decode cX12_qTold 60 = .ok (.bipush 60, 2) := q_bipush (bat_get dg_X12_qTold_48_131 38 rfl rfl) rfl
theorem dX12_qTold_62 : decode cX12_qTold 62 = .ok (.isub, 1) := q_isub (bat_get dg_X12_qTold_48_131 39 rfl rfl)
theorem dg_X12_qTold_29_63 : bqL cX12_qTold 29 [(34, [42]), (35, [180, 0, 186]), (38, [42]), (39, [180, 1, 64]), (42, [4]), (43, [100]), (44, [47]), (45, [27]), (46, [182, 2, 59]), (49, [184, 2, 44]), (52, [80]), (53, [167, 0, 80]), (0, [42]), (1, [29]), (2, [17, 3, 232]), (5, [100]), (6, [133]), (7, [182, 1, 67]), (10, [167, 0, 123])] = true := by decide +kernel
theorem dX12_qTold_63 : decode cX12_qTold 63 = .ok (.aload_n 0, 1) := q_aload_n0 (bat_get dg_X12_qTold_29_63 0 rfl rfl)
theorem dX12_qTold_64 : decode cX12_qTold 64 = .ok (.getfield 186, 3) := q_getfield (bat_get dg_X12_qTold_29_63 1 rfl rfl) rfl
theorem dX12_qTold_67 : decode cX12_qTold 67 = .ok (.aload_n 0, 1) := q_aload_n0 (bat_get dg_X12_qTold_29_63 2 rfl rfl)
theorem dX12_qTold_68 : decode cX12_qTold 68 = .ok (.getfield 320, 3) := q_getfield (bat_get dg_X12_qTold_29_63 3 rfl rfl) rfl
theorem dX12_qTold_71 : decode cX12_qTold 71 = .ok (.iconst 1, 1) := q_iconst1 (bat_get dg_X12_qTold_29_63 4 rfl rfl)
theorem dX12_qTold_72 : decode cX12_qTold 72 = .ok (.isub, 1) := q_isub (bat_get dg_X12_qTold_29_63 5 rfl rfl)
theorem dX12_qTold_73 : decode cX12_qTold 73 = .ok (.laload, 1) := q_laload (bat_get dg_X12_qTold_29_63 6 rfl rfl)
theorem dX12_qTold_74 : decode cX12_qTold 74 = .ok (.iload_n 1, 1) := q_iload_n1 (bat_get dg_X12_qTold_29_63 7 rfl rfl)
theorem dX12_qTold_75 : decode cX12_qTold 75 = .ok (.invokevirtual 571, 3) := q_invokevirtual (bat_get dg_X12_qTold_29_63 8 rfl rfl) rfl
theorem dX12_qTold_78 : decode cX12_qTold 78 = .ok (.invokestatic 556, 3) := q_invokestatic (bat_get dg_X12_qTold_29_63 9 rfl rfl) rfl
theorem dX12_qTold_81 : decode cX12_qTold 81 = .ok (.lastore, 1) := q_lastore (bat_get dg_X12_qTold_29_63 10 rfl rfl)
theorem dX12_qTold_82 : decode cX12_qTold 82 = .ok (.goto 80, 3) := q_goto (bat_get dg_X12_qTold_29_63 11 rfl rfl) rfl
theorem dX12_qTold_29 : decode cX12_qTold 29 = .ok (.aload_n 0, 1) := q_aload_n0 (bat_get dg_X12_qTold_29_63 12 rfl rfl)
theorem dX12_qTold_30 : decode cX12_qTold 30 = .ok (.iload_n 3, 1) := q_iload_n3 (bat_get dg_X12_qTold_29_63 13 rfl rfl)
theorem dX12_qTold_31 : decode cX12_qTold 31 = .ok (.sipush 1000, 3) := q_sipush (bat_get dg_X12_qTold_29_63 14 rfl rfl) rfl
theorem dX12_qTold_34 : decode cX12_qTold 34 = .ok (.isub, 1) := q_isub (bat_get dg_X12_qTold_29_63 15 rfl rfl)
theorem dX12_qTold_35 : decode cX12_qTold 35 = .ok (.i2l, 1) := q_i2l (bat_get dg_X12_qTold_29_63 16 rfl rfl)
theorem dX12_qTold_36 : decode cX12_qTold 36 = .ok (.invokevirtual 323, 3) := q_invokevirtual (bat_get dg_X12_qTold_29_63 17 rfl rfl) rfl
theorem dX12_qTold_39 : decode cX12_qTold 39 = .ok (.goto 123, 3) := q_goto (bat_get dg_X12_qTold_29_63 18 rfl rfl) rfl
theorem w_8_195 : (Cond.methodLink RX12 571 yX12_qOf) ∈ wsL_law := sk_mem (ck_8 _ (List.mem_of_getElem? (i := 195) rfl)) rfl
theorem w_8_197 : (Cond.instanceMethod yX12_qOf) ∈ wsL_law := sk_mem (ck_8 _ (List.mem_of_getElem? (i := 197) rfl)) rfl
theorem w_0_117 : (Cond.selects RX12 yX12_qOf yX12_qOf) ∈ wsL_law := sk_mem (ck_0 _ (List.mem_of_getElem? (i := 117) rfl)) rfl
theorem w_8_194 : (Cond.code yX12_qTold cX12_qTold 4 (some .long)) ∈ wsL_law := sk_mem (ck_8 _ (List.mem_of_getElem? (i := 194) rfl)) rfl
def om_7_50 : List Bool := true :: false :: true :: false :: false :: false :: false :: []
def om_7_4c : List Bool := true :: false :: false :: true :: true :: false :: false :: []
def om_7_43 : List Bool := true :: false :: false :: false :: false :: true :: true :: []
theorem hd_X12_qOf_3 : skD yX12_qOf 3 := by decide +kernel
set_option maxHeartbeats 4000000 in
set_option maxRecDepth 100000 in
theorem c_m_qTold (l : Launch) (D : va_G) (cI cJ cC cZ cS : ClassId) (mm : Nat) (g : Nat → Nat) (ta : Nat) (pa : Nat) (pe : Nat) (pd : Int32) (pb : Nat) (pp : Int32) (pf : Int32) (pg : Int32) (pn : Int32) (rt : Int32) (rn : Int32) (cd : Nat) (sn : Int32) (il : Nat) (tk : Int32) (am : Int32) (at_ : Int32) (aa : Int32) (wt : Int32) (wy : Int64) (rm : Nat) (ud : Nat) (nu : Nat) (sd : Int64) (qn : Nat) (qw : Nat) (qo : Int32) (qb : Nat) (qp : Nat) (qa : Int64) (qi : Nat) (oc : Nat) (d : Nat) (qs : Nat → Nat) (ql : Nat → Int64) (nw : Nat → Int32) (pt : Nat → Nat) (bf : Nat → Int64) (be : Nat → Int64) (hd : d < 9) (hqn : qn ≤ 1700) (hwf : wf qs qn) (hqs : ∀ j, qs j ≤ 20000) (hnw : nowOk nw) (hpt : ∀ j, pt j ≤ 9) : skM l yX12_qTold cX12_qTold 4 (some .long) 2 50 0 0 D (skT cI cJ cC cZ cS) [.ref mm, .int (nI d)] [(mm, .inr (12, mo g (nI ta) (nI pa) (nI pe) pd (nI pb) pp pf pg pn rt rn (nI cd) sn (nI il) tk am at_ aa 0 0 (-1) wt wy 0 (nI rm) (nI ud) (nI nu) sd (nI qn) (nI qw) qo (nI qb) (nI qp) qa (nI qi) (nI oc))), (g 80, .inl (cI, 1700, .inl (fun j => nI (qs j)))), (g 86, .inl (cJ, 1700, .inr (.inl ql))), (g 31, .inl (cI, 120, .inl nw)), (g 46, .inl (cI, 9, .inl (fun j => nI (pt j)))), (g 44, .inl (cJ, 90, .inr (.inl bf))), (g 43, .inl (cJ, 90, .inr (.inl be)))] (skL D (skT cI cJ cC cZ cS) (fun (r : Int64) (u : va_W) => ∃ (qp2 : Nat), ∃ (ql2 : Nat → Int64), u = [(mm, .inr (12, mo g (nI ta) (nI pa) (nI pe) pd (nI pb) pp pf pg pn rt rn (nI cd) sn (nI il) tk am at_ aa 0 0 (-1) wt wy 0 (nI rm) (nI ud) (nI nu) sd (nI qn) (nI qw) qo (nI qb) (nI qp2) qa (nI qi) (nI oc))), (g 80, .inl (cI, 1700, .inl (fun j => nI (qs j)))), (g 86, .inl (cJ, 1700, .inr (.inl ql2))), (g 31, .inl (cI, 120, .inl nw)), (g 46, .inl (cI, 9, .inl (fun j => nI (pt j)))), (g 44, .inl (cJ, 90, .inr (.inl bf))), (g 43, .inl (cJ, 90, .inr (.inl be)))])) := by
  refine skM_of pf_X12_qTold (Nat.le_of_ble_eq_true rfl) ?_
  intro p e s m below meth c A ls E hP hD hl
  refine skE_el E (fun hx hb hr hml hlocks hin hown hts hK hA => ?_)
  have hown : s.vm.findClass RX12 = some m.cls := hown
  have hS : va_S A s.heap s.heap [] := va_S.rf
  have hl : lv_has ls 4 [(0, .ref mm), (1, .int (nI d))] := hl
  refine lv_aload_n hx hb dX12_qTold_0 rfl (lv_at hl 0 rfl) ?_
  refine lv_iconst (v := 0) hx hb dX12_qTold_1 (by decide) ?_
  refine sk_put (ws' := [(mm, .inr (12, mo g (nI ta) (nI pa) (nI pe) pd (nI pb) pp pf pg pn rt rn (nI cd) sn (nI il) tk am at_ aa 0 0 (-1) wt wy 0 (nI rm) (nI ud) (nI nu) sd (nI qn) (nI qw) qo (nI qb) 0 qa (nI qi) (nI oc))), (g 80, .inl (cI, 1700, .inl (fun j => nI (qs j)))), (g 86, .inl (cJ, 1700, .inr (.inl ql))), (g 31, .inl (cI, 120, .inl nw)), (g 46, .inl (cI, 9, .inl (fun j => nI (pt j)))), (g 44, .inl (cJ, 90, .inr (.inl bf))), (g 43, .inl (cJ, 90, .inr (.inl be)))]) (C := RX12) (T := TX12) (N := 92) (v := .int 0) hx hb hts inlX12 tyX12 tyX12_ok nmX12 hown hK hP hD hS 0 rfl rfl 87 (by decide) w_6_2 rfl rfl rfl (Nat.le_of_ble_eq_true rfl) rfl dX12_qTold_2 (fun H locs hP hD hS => ?_)
  refine lv_iconst (v := 0) hx hb dX12_qTold_5 (by decide) ?_
  refine lv_istore_n (lv' := [(2, .int 0), (0, .ref mm), (1, .int (nI d))]) hx hb dX12_qTold_6 rfl hl (by decide) rfl (fun ls hl => ?_)
  have lp_1 : ∀ (n_2 : Nat) (i : Nat) (zq : Nat) (zl : Nat → Int64) (H : Heap) (locs : List Loc) (ls : Array Slot), qn - i < n_2 → (i ≤ qn) → (zq ≤ i) → (zq = de qs i) → va_P D vwCl [(mm, .inr (12, mo g (nI ta) (nI pa) (nI pe) pd (nI pb) pp pf pg pn rt rn (nI cd) sn (nI il) tk am at_ aa 0 0 (-1) wt wy 0 (nI rm) (nI ud) (nI nu) sd (nI qn) (nI qw) qo (nI qb) (nI zq) qa (nI qi) (nI oc))), (g 80, .inl (cI, 1700, .inl (fun j => nI (qs j)))), (g 86, .inl (cJ, 1700, .inr (.inl zl))), (g 31, .inl (cI, 120, .inl nw)), (g 46, .inl (cI, 9, .inl (fun j => nI (pt j)))), (g 44, .inl (cJ, 90, .inr (.inl bf))), (g 43, .inl (cJ, 90, .inr (.inl be)))] H → va_D A [(mm, .inr (12, mo g (nI ta) (nI pa) (nI pe) pd (nI pb) pp pf pg pn rt rn (nI cd) sn (nI il) tk am at_ aa 0 0 (-1) wt wy 0 (nI rm) (nI ud) (nI nu) sd (nI qn) (nI qw) qo (nI qb) (nI zq) qa (nI qi) (nI oc))), (g 80, .inl (cI, 1700, .inl (fun j => nI (qs j)))), (g 86, .inl (cJ, 1700, .inr (.inl zl))), (g 31, .inl (cI, 120, .inl nw)), (g 46, .inl (cI, 9, .inl (fun j => nI (pt j)))), (g 44, .inl (cJ, 90, .inr (.inl bf))), (g 43, .inl (cJ, 90, .inr (.inl be)))] → va_S A s.heap H locs → lv_has ls 4 [(2, .int (nI i)), (0, .ref mm), (1, .int (nI d))] → W p l e { frames := 2, cells := 0, slots := 0, locals := 50 } s m ([.ref mm, .int (nI d)] : List Value).toArray below meth c H locs 0 0 (MQ below (skL D (skT cI cJ cC cZ cS) (fun (r : Int64) (u : va_W) => ∃ (qp2 : Nat), ∃ (ql2 : Nat → Int64), u = [(mm, .inr (12, mo g (nI ta) (nI pa) (nI pe) pd (nI pb) pp pf pg pn rt rn (nI cd) sn (nI il) tk am at_ aa 0 0 (-1) wt wy 0 (nI rm) (nI ud) (nI nu) sd (nI qn) (nI qw) qo (nI qb) (nI qp2) qa (nI qi) (nI oc))), (g 80, .inl (cI, 1700, .inl (fun j => nI (qs j)))), (g 86, .inl (cJ, 1700, .inr (.inl ql2))), (g 31, .inl (cI, 120, .inl nw)), (g 46, .inl (cI, 9, .inl (fun j => nI (pt j)))), (g 44, .inl (cJ, 90, .inr (.inl bf))), (g 43, .inl (cJ, 90, .inr (.inl be)))]) A) ([.ref mm, .int (nI d)] : List Value).toArray s 0 0 A) (F0 m 7 ls []) := by
    intro n_2
    induction n_2 with
    | zero => intro i zq zl H locs ls hm; exact absurd hm (Nat.not_lt_zero _)
    | succ n_2 ih_lp_1 =>
      intro i zq zl H locs ls hm hi hzq1 hzq hP hD hS hl
      refine lv_iload_n hx hb dX12_qTold_7 rfl (lv_at hl 0 rfl) ?_
      refine lv_aload_n hx hb dX12_qTold_8 rfl (lv_at hl 1 rfl) ?_
      refine sk_get (v := .int (nI qn)) (C := RX12) (T := TX12) (N := 92) hx hb hts inlX12 hown hK hP 0 rfl rfl 81 (by decide) w_5_236 rfl dX12_qTold_9 ?_
      refine lv_icmp_ge (tgt := 168) hx hb dX12_qTold_12 (by decide) (fun c_3 => ?_) (fun c_3 => ?_)
      · have c_3 : qn ≤ i := (nle qn i (by omega) (by omega)).mp c_3
        refine lv_aload_n hx hb dX12_qTold_168 rfl (lv_at hl 1 rfl) ?_
        refine sk_get (v := .ref (g 86)) (C := RX12) (T := TX12) (N := 92) hx hb hts inlX12 hown hK hP 0 rfl rfl 86 (by decide) w_6_1 rfl dX12_qTold_169 ?_
        refine lv_iconst (v := 0) hx hb dX12_qTold_172 (by decide) ?_
        refine va_lald hx hb hK.1 hP 2 1 rfl rfl (by unfold vp_in; decide) dX12_qTold_173 ?_
        refine lv_topl (fun v_4 ev_4 => ?_)
        exact sk_lret hx hb hr hlocks hK hP hD hS (⟨zq, zl, rfl⟩) (Nat.le_of_ble_eq_true rfl) (Nat.le_of_ble_eq_true rfl) dX12_qTold_174
      · have c_3 : ¬ (qn ≤ i) := fun h => c_3 ((nle qn i (by omega) (by omega)).mpr h)
        have hwi := hwf i (by omega)
        refine lv_aload_n hx hb dX12_qTold_15 rfl (lv_at hl 1 rfl) ?_
        refine sk_get (v := .ref (g 80)) (C := RX12) (T := TX12) (N := 92) hx hb hts inlX12 hown hK hP 0 rfl rfl 80 (by decide) w_5_235 rfl dX12_qTold_16 ?_
        refine lv_iload_n hx hb dX12_qTold_19 rfl (lv_at hl 0 rfl) ?_
        refine va_iald hx hb hK.1 hP 1 0 rfl rfl (vin i 1700 (by omega) (by omega)) dX12_qTold_20 ?_
        refine sk_top (nI (qs i)) (nrd qs i (by omega)) ?_
        have hb_5 := hqs i
        refine lv_istore_n (lv' := [(3, .int (nI (qs i))), (2, .int (nI i)), (0, .ref mm), (1, .int (nI d))]) hx hb dX12_qTold_21 rfl hl (by decide) rfl (fun ls hl => ?_)
        refine lv_iload_n hx hb dX12_qTold_22 rfl (lv_at hl 0 rfl) ?_
        refine lv_sipush (v := 1000) hx hb dX12_qTold_23 (by decide) ?_
        refine lv_icmp_lt (tgt := 42) hx hb dX12_qTold_26 (by decide) (fun c_6 => ?_) (fun c_6 => ?_)
        · have c_6 : qs i < 1000 := (nlt (qs i) 1000 (by omega) (by omega)).mp c_6
          refine lv_iload_n hx hb dX12_qTold_42 rfl (lv_at hl 0 rfl) ?_
          refine lv_bipush (v := 60) hx hb dX12_qTold_43 (by decide) ?_
          refine lv_icmp_lt (tgt := 85) hx hb dX12_qTold_45 (by decide) (fun c_7 => ?_) (fun c_7 => ?_)
          · have c_7 : qs i < 60 := (nlt (qs i) 60 (by omega) (by omega)).mp c_7
            refine lv_iload_n hx hb dX12_qTold_85 rfl (lv_at hl 0 rfl) ?_
            refine lv_bipush (v := 40) hx hb dX12_qTold_86 (by decide) ?_
            refine lv_icmp_lt (tgt := 110) hx hb dX12_qTold_88 (by decide) (fun c_8 => ?_) (fun c_8 => ?_)
            · have c_8 : qs i < 40 := (nlt (qs i) 40 (by omega) (by omega)).mp c_8
              refine lv_iload_n hx hb dX12_qTold_110 rfl (lv_at hl 0 rfl) ?_
              refine lv_bipush (v := 13) hx hb dX12_qTold_111 (by decide) ?_
              refine lv_icmp_ne (tgt := 124) hx hb dX12_qTold_113 (by decide) (fun c_9 => ?_) (fun c_9 => ?_)
              · have c_9 : ¬ (qs i = 13) := fun h => c_9 ((neq (qs i) 13 (by omega) (by omega)).mpr h)
                refine lv_iload_n hx hb dX12_qTold_124 rfl (lv_at hl 0 rfl) ?_
                refine lv_bipush (v := 12) hx hb dX12_qTold_125 (by decide) ?_
                refine lv_icmp_ne (tgt := 157) hx hb dX12_qTold_127 (by decide) (fun c_10 => ?_) (fun c_10 => ?_)
                · have c_10 : ¬ (qs i = 12) := fun h => c_10 ((neq (qs i) 12 (by omega) (by omega)).mpr h)
                  refine lv_aload_n hx hb dX12_qTold_157 rfl (lv_at hl 2 rfl) ?_
                  refine lv_iload_n hx hb dX12_qTold_158 rfl (lv_at hl 0 rfl) ?_
                  refine sk_Vv (q0 := 0) (n := 1) (rest := []) (wr := fmR om_7_50 _) ⟨hx, hb, hml, hown, hts⟩ hl.1 (c_m_qJoins l D cI cJ cC cZ cS mm g ta pa pe pd pb pp pf pg pn rt rn cd sn il tk am at_ aa 0 0 (-1) wt wy 0 rm ud nu sd qn qw qo qb zq qa qi oc (nI (qs i)) zl (by omega) (by omega)) w_7_156 w_7_158 w_0_80 w_1_14 w_7_159 hd_X12_qJoins_1 ⟨⟨(Nat.le_of_ble_eq_true rfl), (Nat.le_of_ble_eq_true rfl)⟩, (Nat.le_of_ble_eq_true rfl), (Nat.le_of_ble_eq_true rfl)⟩ hK hP hD hS hA (fmT om_7_50 0) (fmF om_7_50 0) (fm_C1 rfl rfl) (fm_R rfl rfl) (fm_nT om_7_50 0) (fm_nF om_7_50 0) (fm_di om_7_50 0) rfl rfl rfl rfl (Nat.le_of_ble_eq_true rfl) dX12_qTold_159 (fun u H locs hw hP hD hS => ?_)
                  refine exE hw (fun ql2_11 eu_12 => ?_)
                  clear hw
                  refine o_mgE (ws' := [(mm, .inr (12, mo g (nI ta) (nI pa) (nI pe) pd (nI pb) pp pf pg pn rt rn (nI cd) sn (nI il) tk am at_ aa 0 0 (-1) wt wy 0 (nI rm) (nI ud) (nI nu) sd (nI qn) (nI qw) qo (nI qb) (nI (zq - 2 + 1)) qa (nI qi) (nI oc))), (g 80, .inl (cI, 1700, .inl (fun j => nI (qs j)))), (g 86, .inl (cJ, 1700, .inr (.inl ql2_11))), (g 31, .inl (cI, 120, .inl nw)), (g 46, .inl (cI, 9, .inl (fun j => nI (pt j)))), (g 44, .inl (cJ, 90, .inr (.inl bf))), (g 43, .inl (cJ, 90, .inr (.inl be)))]) eu_12 hP hD rfl (fun hP hD => ?_)
                  refine lv_iinc (v := nI (i + 1)) (lv' := [(2, .int (nI (i + 1))), (3, .int (nI (qs i))), (0, .ref mm), (1, .int (nI d))]) hx hb dX12_qTold_162 hl (k := 1) rfl (ninc i 1 (by decide)) (by decide) rfl (fun ls hl => ?_)
                  refine lv_goto (tgt := 7) hx hb dX12_qTold_165 (by decide) ?_
                  exact ih_lp_1 (i + 1) (zq - 2 + 1) ql2_11 _ _ _ (by omega) (by omega) (by omega) (dq hzq (by omega)) hP hD hS (lv_sub hl [0, 2, 3] rfl)
                · have c_10 : qs i = 12 := (neq (qs i) 12 (by omega) (by omega)).mp c_10
                  refine lv_aload_n hx hb dX12_qTold_130 rfl (lv_at hl 2 rfl) ?_
                  refine sk_get (v := .ref (g 86)) (C := RX12) (T := TX12) (N := 92) hx hb hts inlX12 hown hK hP 0 rfl rfl 86 (by decide) w_6_1 rfl dX12_qTold_131 ?_
                  refine lv_aload_n hx hb dX12_qTold_134 rfl (lv_at hl 2 rfl) ?_
                  refine sk_get (v := .int (nI zq)) (C := RX12) (T := TX12) (N := 92) hx hb hts inlX12 hown hK hP 0 rfl rfl 87 (by decide) w_6_2 rfl dX12_qTold_135 ?_
                  refine lv_iconst (v := 1) hx hb dX12_qTold_138 (by decide) ?_
                  refine lv_isub hx hb dX12_qTold_139 ?_
                  refine sk_top (nI (zq - 1)) (nsub zq 1 (by omega)) ?_
                  refine lv_lconst (v := 1) hx hb dX12_qTold_140 (by decide) ?_
                  refine lv_aload_n hx hb dX12_qTold_141 rfl (lv_at hl 2 rfl) ?_
                  refine sk_get (v := .ref (g 86)) (C := RX12) (T := TX12) (N := 92) hx hb hts inlX12 hown hK hP 0 rfl rfl 86 (by decide) w_6_1 rfl dX12_qTold_142 ?_
                  refine lv_aload_n hx hb dX12_qTold_145 rfl (lv_at hl 2 rfl) ?_
                  refine sk_get (v := .int (nI zq)) (C := RX12) (T := TX12) (N := 92) hx hb hts inlX12 hown hK hP 0 rfl rfl 87 (by decide) w_6_2 rfl dX12_qTold_146 ?_
                  refine lv_iconst (v := 1) hx hb dX12_qTold_149 (by decide) ?_
                  refine lv_isub hx hb dX12_qTold_150 ?_
                  refine sk_top (nI (zq - 1)) (nsub zq 1 (by omega)) ?_
                  refine va_lald hx hb hK.1 hP 2 1 rfl rfl (vin (zq - 1) 1700 (by omega) (by omega)) dX12_qTold_151 ?_
                  refine lv_topl (fun v_13 ev_13 => ?_)
                  refine lv_lsub hx hb dX12_qTold_152 ?_
                  refine lv_topl (fun v_14 ev_14 => ?_)
                  refine sk_lastO (ws' := fun f_15 => [(mm, .inr (12, mo g (nI ta) (nI pa) (nI pe) pd (nI pb) pp pf pg pn rt rn (nI cd) sn (nI il) tk am at_ aa 0 0 (-1) wt wy 0 (nI rm) (nI ud) (nI nu) sd (nI qn) (nI qw) qo (nI qb) (nI zq) qa (nI qi) (nI oc))), (g 80, .inl (cI, 1700, .inl (fun j => nI (qs j)))), (g 86, .inl (cJ, 1700, .inr (.inl f_15))), (g 31, .inl (cI, 120, .inl nw)), (g 46, .inl (cI, 9, .inl (fun j => nI (pt j)))), (g 44, .inl (cJ, 90, .inr (.inl bf))), (g 43, .inl (cJ, 90, .inr (.inl be)))]) hx hb hK hP hD hS 2 1 rfl rfl (vin (zq - 1) 1700 (by omega) (by omega)) (fun _ => rfl) dX12_qTold_153 (fun f_15 H locs hP hD hS => ?_)
                  refine lv_goto (tgt := 162) hx hb dX12_qTold_154 (by decide) ?_
                  refine lv_iinc (v := nI (i + 1)) (lv' := [(2, .int (nI (i + 1))), (3, .int (nI (qs i))), (0, .ref mm), (1, .int (nI d))]) hx hb dX12_qTold_162 hl (k := 1) rfl (ninc i 1 (by decide)) (by decide) rfl (fun ls hl => ?_)
                  refine lv_goto (tgt := 7) hx hb dX12_qTold_165 (by decide) ?_
                  exact ih_lp_1 (i + 1) zq f_15 _ _ _ (by omega) (by omega) (by omega) (dq hzq (by omega)) hP hD hS (lv_sub hl [0, 2, 3] rfl)
              · have c_9 : qs i = 13 := (neq (qs i) 13 (by omega) (by omega)).mp c_9
                refine lv_aload_n hx hb dX12_qTold_116 rfl (lv_at hl 2 rfl) ?_
                refine lv_lconst (v := 1) hx hb dX12_qTold_117 (by decide) ?_
                refine sk_Vv (q0 := 0) (n := 1) (rest := []) (wr := fmR om_7_50 _) ⟨hx, hb, hml, hown, hts⟩ hl.1 (c_m_qPuts l D cI cJ cC cZ cS mm g ta pa pe pd pb pp pf pg pn rt rn cd sn il tk am at_ aa 0 0 (-1) wt wy 0 rm ud nu sd qn qw qo qb zq qa qi oc 1 zl (by omega)) w_7_139 w_7_141 w_0_76 w_1_14 w_7_142 hd_X12_qPuts_1 ⟨⟨(Nat.le_of_ble_eq_true rfl), (Nat.le_of_ble_eq_true rfl)⟩, (Nat.le_of_ble_eq_true rfl), (Nat.le_of_ble_eq_true rfl)⟩ hK hP hD hS hA (fmT om_7_50 0) (fmF om_7_50 0) (fm_C1 rfl rfl) (fm_R rfl rfl) (fm_nT om_7_50 0) (fm_nF om_7_50 0) (fm_di om_7_50 0) rfl rfl rfl rfl (Nat.le_of_ble_eq_true rfl) dX12_qTold_118 (fun u H locs hw hP hD hS => ?_)
                refine exE hw (fun ql2_16 eu_17 => ?_)
                clear hw
                refine o_mgE (ws' := [(mm, .inr (12, mo g (nI ta) (nI pa) (nI pe) pd (nI pb) pp pf pg pn rt rn (nI cd) sn (nI il) tk am at_ aa 0 0 (-1) wt wy 0 (nI rm) (nI ud) (nI nu) sd (nI qn) (nI qw) qo (nI qb) (nI (zq + 1)) qa (nI qi) (nI oc))), (g 80, .inl (cI, 1700, .inl (fun j => nI (qs j)))), (g 86, .inl (cJ, 1700, .inr (.inl ql2_16))), (g 31, .inl (cI, 120, .inl nw)), (g 46, .inl (cI, 9, .inl (fun j => nI (pt j)))), (g 44, .inl (cJ, 90, .inr (.inl bf))), (g 43, .inl (cJ, 90, .inr (.inl be)))]) eu_17 hP hD rfl (fun hP hD => ?_)
                refine lv_goto (tgt := 162) hx hb dX12_qTold_121 (by decide) ?_
                refine lv_iinc (v := nI (i + 1)) (lv' := [(2, .int (nI (i + 1))), (3, .int (nI (qs i))), (0, .ref mm), (1, .int (nI d))]) hx hb dX12_qTold_162 hl (k := 1) rfl (ninc i 1 (by decide)) (by decide) rfl (fun ls hl => ?_)
                refine lv_goto (tgt := 7) hx hb dX12_qTold_165 (by decide) ?_
                exact ih_lp_1 (i + 1) (zq + 1) ql2_16 _ _ _ (by omega) (by omega) (by omega) (dq hzq (by omega)) hP hD hS (lv_sub hl [0, 2, 3] rfl)
            · have c_8 : ¬ (qs i < 40) := fun h => c_8 ((nlt (qs i) 40 (by omega) (by omega)).mpr h)
              refine lv_aload_n hx hb dX12_qTold_91 rfl (lv_at hl 2 rfl) ?_
              refine lv_aload_n hx hb dX12_qTold_92 rfl (lv_at hl 2 rfl) ?_
              refine lv_iload_n hx hb dX12_qTold_93 rfl (lv_at hl 0 rfl) ?_
              refine lv_bipush (v := 40) hx hb dX12_qTold_94 (by decide) ?_
              refine lv_isub hx hb dX12_qTold_96 ?_
              refine sk_top (nI (qs i - 40)) (nsub (qs i) 40 (by omega)) ?_
              refine lv_iload_n hx hb dX12_qTold_97 rfl (lv_at hl 3 rfl) ?_
              refine sk_Vl (q0 := 0) (n := 2) (rest := [.ref mm]) (wr := fmR om_7_4c _) ⟨hx, hb, hml, hown, hts⟩ hl.1 (c_m_qPartOf l D cI cJ cC cZ cS mm g ta pa pe pd pb pp pf pg pn rt rn cd sn il tk am at_ aa 0 0 (-1) wt wy 0 rm ud nu sd qn qw qo qb zq qa qi oc (nI (qs i - 40)) d nw pt (by omega) hnw hpt) w_7_143 w_7_145 w_0_77 w_1_14 w_7_146 hd_X12_qPartOf_2 ⟨⟨(Nat.le_of_ble_eq_true rfl), (Nat.le_of_ble_eq_true rfl)⟩, (Nat.le_of_ble_eq_true rfl), (Nat.le_of_ble_eq_true rfl)⟩ hK hP hD hS hA (fmT om_7_4c 0) (fmF om_7_4c 0) (fm_C1 rfl rfl) (fm_R rfl rfl) (fm_nT om_7_4c 0) (fm_nF om_7_4c 0) (fm_di om_7_4c 0) rfl rfl rfl rfl (Nat.le_of_ble_eq_true rfl) dX12_qTold_98 (fun r_18 u H locs hw hP hD hS => ?_)
              refine o_mgE (ws' := [(mm, .inr (12, mo g (nI ta) (nI pa) (nI pe) pd (nI pb) pp pf pg pn rt rn (nI cd) sn (nI il) tk am at_ aa 0 0 (-1) wt wy 0 (nI rm) (nI ud) (nI nu) sd (nI qn) (nI qw) qo (nI qb) (nI zq) qa (nI qi) (nI oc))), (g 80, .inl (cI, 1700, .inl (fun j => nI (qs j)))), (g 86, .inl (cJ, 1700, .inr (.inl zl))), (g 31, .inl (cI, 120, .inl nw)), (g 46, .inl (cI, 9, .inl (fun j => nI (pt j)))), (g 44, .inl (cJ, 90, .inr (.inl bf))), (g 43, .inl (cJ, 90, .inr (.inl be)))]) hw hP hD rfl (fun hP hD => ?_)
              refine sk_Sl (n := 1) (rest := [.ref mm]) (wr := [(mm, .inr (12, mo g (nI ta) (nI pa) (nI pe) pd (nI pb) pp pf pg pn rt rn (nI cd) sn (nI il) tk am at_ aa 0 0 (-1) wt wy 0 (nI rm) (nI ud) (nI nu) sd (nI qn) (nI qw) qo (nI qb) (nI zq) qa (nI qi) (nI oc))), (g 80, .inl (cI, 1700, .inl (fun j => nI (qs j)))), (g 86, .inl (cJ, 1700, .inr (.inl zl))), (g 31, .inl (cI, 120, .inl nw)), (g 46, .inl (cI, 9, .inl (fun j => nI (pt j)))), (g 44, .inl (cJ, 90, .inr (.inl bf))), (g 43, .inl (cJ, 90, .inr (.inl be)))]) ⟨hx, hb, hml, hown, hts⟩ hl.1 (c_m_qClip l D cI cJ cC cZ cS r_18) w_7_160 w_7_161 w_1_14 w_7_162 hd_X12_qClip_1 ⟨⟨(Nat.le_of_ble_eq_true rfl), (Nat.le_of_ble_eq_true rfl)⟩, (Nat.le_of_ble_eq_true rfl), (Nat.le_of_ble_eq_true rfl)⟩ hK hP hD hS hA [] [0, 1, 2, 3, 4, 5, 6] rfl rfl (by decide +kernel) (by decide +kernel) (by decide +kernel) rfl rfl (Nat.le_of_ble_eq_true rfl) dX12_qTold_101 (fun r_19 u H locs hw hP hD hS => ?_)
              obtain rfl := hw
              refine o_re (ws' := [(mm, .inr (12, mo g (nI ta) (nI pa) (nI pe) pd (nI pb) pp pf pg pn rt rn (nI cd) sn (nI il) tk am at_ aa 0 0 (-1) wt wy 0 (nI rm) (nI ud) (nI nu) sd (nI qn) (nI qw) qo (nI qb) (nI zq) qa (nI qi) (nI oc))), (g 80, .inl (cI, 1700, .inl (fun j => nI (qs j)))), (g 86, .inl (cJ, 1700, .inr (.inl zl))), (g 31, .inl (cI, 120, .inl nw)), (g 46, .inl (cI, 9, .inl (fun j => nI (pt j)))), (g 44, .inl (cJ, 90, .inr (.inl bf))), (g 43, .inl (cJ, 90, .inr (.inl be)))]) hP hD rfl (fun hP hD => ?_)
              refine sk_Vv (q0 := 0) (n := 1) (rest := []) (wr := fmR om_7_50 _) ⟨hx, hb, hml, hown, hts⟩ hl.1 (c_m_qPuts l D cI cJ cC cZ cS mm g ta pa pe pd pb pp pf pg pn rt rn cd sn il tk am at_ aa 0 0 (-1) wt wy 0 rm ud nu sd qn qw qo qb zq qa qi oc r_19 zl (by omega)) w_7_139 w_7_141 w_0_76 w_1_14 w_7_142 hd_X12_qPuts_1 ⟨⟨(Nat.le_of_ble_eq_true rfl), (Nat.le_of_ble_eq_true rfl)⟩, (Nat.le_of_ble_eq_true rfl), (Nat.le_of_ble_eq_true rfl)⟩ hK hP hD hS hA (fmT om_7_50 0) (fmF om_7_50 0) (fm_C1 rfl rfl) (fm_R rfl rfl) (fm_nT om_7_50 0) (fm_nF om_7_50 0) (fm_di om_7_50 0) rfl rfl rfl rfl (Nat.le_of_ble_eq_true rfl) dX12_qTold_104 (fun u H locs hw hP hD hS => ?_)
              refine exE hw (fun ql2_20 eu_21 => ?_)
              clear hw
              refine o_mgE (ws' := [(mm, .inr (12, mo g (nI ta) (nI pa) (nI pe) pd (nI pb) pp pf pg pn rt rn (nI cd) sn (nI il) tk am at_ aa 0 0 (-1) wt wy 0 (nI rm) (nI ud) (nI nu) sd (nI qn) (nI qw) qo (nI qb) (nI (zq + 1)) qa (nI qi) (nI oc))), (g 80, .inl (cI, 1700, .inl (fun j => nI (qs j)))), (g 86, .inl (cJ, 1700, .inr (.inl ql2_20))), (g 31, .inl (cI, 120, .inl nw)), (g 46, .inl (cI, 9, .inl (fun j => nI (pt j)))), (g 44, .inl (cJ, 90, .inr (.inl bf))), (g 43, .inl (cJ, 90, .inr (.inl be)))]) eu_21 hP hD rfl (fun hP hD => ?_)
              refine lv_goto (tgt := 162) hx hb dX12_qTold_107 (by decide) ?_
              refine lv_iinc (v := nI (i + 1)) (lv' := [(2, .int (nI (i + 1))), (3, .int (nI (qs i))), (0, .ref mm), (1, .int (nI d))]) hx hb dX12_qTold_162 hl (k := 1) rfl (ninc i 1 (by decide)) (by decide) rfl (fun ls hl => ?_)
              refine lv_goto (tgt := 7) hx hb dX12_qTold_165 (by decide) ?_
              exact ih_lp_1 (i + 1) (zq + 1) ql2_20 _ _ _ (by omega) (by omega) (by omega) (dq hzq (by omega)) hP hD hS (lv_sub hl [0, 2, 3] rfl)
          · have c_7 : ¬ (qs i < 60) := fun h => c_7 ((nlt (qs i) 60 (by omega) (by omega)).mpr h)
            refine lv_aload_n hx hb dX12_qTold_48 rfl (lv_at hl 2 rfl) ?_
            refine sk_get (v := .ref (g 86)) (C := RX12) (T := TX12) (N := 92) hx hb hts inlX12 hown hK hP 0 rfl rfl 86 (by decide) w_6_1 rfl dX12_qTold_49 ?_
            refine lv_aload_n hx hb dX12_qTold_52 rfl (lv_at hl 2 rfl) ?_
            refine sk_get (v := .int (nI zq)) (C := RX12) (T := TX12) (N := 92) hx hb hts inlX12 hown hK hP 0 rfl rfl 87 (by decide) w_6_2 rfl dX12_qTold_53 ?_
            refine lv_iconst (v := 1) hx hb dX12_qTold_56 (by decide) ?_
            refine lv_isub hx hb dX12_qTold_57 ?_
            refine sk_top (nI (zq - 1)) (nsub zq 1 (by omega)) ?_
            refine lv_aload_n hx hb dX12_qTold_58 rfl (lv_at hl 2 rfl) ?_
            refine lv_iload_n hx hb dX12_qTold_59 rfl (lv_at hl 0 rfl) ?_
            refine lv_bipush (v := 60) hx hb dX12_qTold_60 (by decide) ?_
            refine lv_isub hx hb dX12_qTold_62 ?_
            refine sk_top (nI (qs i - 60)) (nsub (qs i) 60 (by omega)) ?_
            refine lv_aload_n hx hb dX12_qTold_63 rfl (lv_at hl 2 rfl) ?_
            refine sk_get (v := .ref (g 86)) (C := RX12) (T := TX12) (N := 92) hx hb hts inlX12 hown hK hP 0 rfl rfl 86 (by decide) w_6_1 rfl dX12_qTold_64 ?_
            refine lv_aload_n hx hb dX12_qTold_67 rfl (lv_at hl 2 rfl) ?_
            refine sk_get (v := .int (nI zq)) (C := RX12) (T := TX12) (N := 92) hx hb hts inlX12 hown hK hP 0 rfl rfl 87 (by decide) w_6_2 rfl dX12_qTold_68 ?_
            refine lv_iconst (v := 1) hx hb dX12_qTold_71 (by decide) ?_
            refine lv_isub hx hb dX12_qTold_72 ?_
            refine sk_top (nI (zq - 1)) (nsub zq 1 (by omega)) ?_
            refine va_lald hx hb hK.1 hP 2 1 rfl rfl (vin (zq - 1) 1700 (by omega) (by omega)) dX12_qTold_73 ?_
            refine lv_topl (fun v_22 ev_22 => ?_)
            refine lv_iload_n hx hb dX12_qTold_74 rfl (lv_at hl 3 rfl) ?_
            refine sk_Vl (q0 := 0) (n := 3) (rest := [.int (nI (zq - 1)), .ref (g 86)]) (wr := fmR om_7_43 _) ⟨hx, hb, hml, hown, hts⟩ hl.1 (c_m_qOf l D cI cJ cC cZ cS mm g ta pa pe pd pb pp pf pg pn rt rn cd sn il tk am at_ aa wt wy rm ud nu sd qn qw qo qb zq qa qi oc (nI (qs i - 60)) v_22 d bf be (by omega)) w_8_195 w_8_197 w_0_117 w_1_14 w_8_198 hd_X12_qOf_3 ⟨⟨(Nat.le_of_ble_eq_true rfl), (Nat.le_of_ble_eq_true rfl)⟩, (Nat.le_of_ble_eq_true rfl), (Nat.le_of_ble_eq_true rfl)⟩ hK hP hD hS hA (fmT om_7_43 0) (fmF om_7_43 0) (fm_C1 rfl rfl) (fm_R rfl rfl) (fm_nT om_7_43 0) (fm_nF om_7_43 0) (fm_di om_7_43 0) rfl rfl rfl rfl (Nat.le_of_ble_eq_true rfl) dX12_qTold_75 (fun r_23 u H locs hw hP hD hS => ?_)
            refine o_mgE (ws' := [(mm, .inr (12, mo g (nI ta) (nI pa) (nI pe) pd (nI pb) pp pf pg pn rt rn (nI cd) sn (nI il) tk am at_ aa 0 0 (-1) wt wy 0 (nI rm) (nI ud) (nI nu) sd (nI qn) (nI qw) qo (nI qb) (nI zq) qa (nI qi) (nI oc))), (g 80, .inl (cI, 1700, .inl (fun j => nI (qs j)))), (g 86, .inl (cJ, 1700, .inr (.inl zl))), (g 31, .inl (cI, 120, .inl nw)), (g 46, .inl (cI, 9, .inl (fun j => nI (pt j)))), (g 44, .inl (cJ, 90, .inr (.inl bf))), (g 43, .inl (cJ, 90, .inr (.inl be)))]) hw hP hD rfl (fun hP hD => ?_)
            refine sk_Sl (n := 1) (rest := [.int (nI (zq - 1)), .ref (g 86)]) (wr := [(mm, .inr (12, mo g (nI ta) (nI pa) (nI pe) pd (nI pb) pp pf pg pn rt rn (nI cd) sn (nI il) tk am at_ aa 0 0 (-1) wt wy 0 (nI rm) (nI ud) (nI nu) sd (nI qn) (nI qw) qo (nI qb) (nI zq) qa (nI qi) (nI oc))), (g 80, .inl (cI, 1700, .inl (fun j => nI (qs j)))), (g 86, .inl (cJ, 1700, .inr (.inl zl))), (g 31, .inl (cI, 120, .inl nw)), (g 46, .inl (cI, 9, .inl (fun j => nI (pt j)))), (g 44, .inl (cJ, 90, .inr (.inl bf))), (g 43, .inl (cJ, 90, .inr (.inl be)))]) ⟨hx, hb, hml, hown, hts⟩ hl.1 (c_m_qClip l D cI cJ cC cZ cS r_23) w_7_160 w_7_161 w_1_14 w_7_162 hd_X12_qClip_1 ⟨⟨(Nat.le_of_ble_eq_true rfl), (Nat.le_of_ble_eq_true rfl)⟩, (Nat.le_of_ble_eq_true rfl), (Nat.le_of_ble_eq_true rfl)⟩ hK hP hD hS hA [] [0, 1, 2, 3, 4, 5, 6] rfl rfl (by decide +kernel) (by decide +kernel) (by decide +kernel) rfl rfl (Nat.le_of_ble_eq_true rfl) dX12_qTold_78 (fun r_24 u H locs hw hP hD hS => ?_)
            obtain rfl := hw
            refine o_re (ws' := [(mm, .inr (12, mo g (nI ta) (nI pa) (nI pe) pd (nI pb) pp pf pg pn rt rn (nI cd) sn (nI il) tk am at_ aa 0 0 (-1) wt wy 0 (nI rm) (nI ud) (nI nu) sd (nI qn) (nI qw) qo (nI qb) (nI zq) qa (nI qi) (nI oc))), (g 80, .inl (cI, 1700, .inl (fun j => nI (qs j)))), (g 86, .inl (cJ, 1700, .inr (.inl zl))), (g 31, .inl (cI, 120, .inl nw)), (g 46, .inl (cI, 9, .inl (fun j => nI (pt j)))), (g 44, .inl (cJ, 90, .inr (.inl bf))), (g 43, .inl (cJ, 90, .inr (.inl be)))]) hP hD rfl (fun hP hD => ?_)
            refine sk_lastO (ws' := fun f_25 => [(mm, .inr (12, mo g (nI ta) (nI pa) (nI pe) pd (nI pb) pp pf pg pn rt rn (nI cd) sn (nI il) tk am at_ aa 0 0 (-1) wt wy 0 (nI rm) (nI ud) (nI nu) sd (nI qn) (nI qw) qo (nI qb) (nI zq) qa (nI qi) (nI oc))), (g 80, .inl (cI, 1700, .inl (fun j => nI (qs j)))), (g 86, .inl (cJ, 1700, .inr (.inl f_25))), (g 31, .inl (cI, 120, .inl nw)), (g 46, .inl (cI, 9, .inl (fun j => nI (pt j)))), (g 44, .inl (cJ, 90, .inr (.inl bf))), (g 43, .inl (cJ, 90, .inr (.inl be)))]) hx hb hK hP hD hS 2 1 rfl rfl (vin (zq - 1) 1700 (by omega) (by omega)) (fun _ => rfl) dX12_qTold_81 (fun f_25 H locs hP hD hS => ?_)
            refine lv_goto (tgt := 162) hx hb dX12_qTold_82 (by decide) ?_
            refine lv_iinc (v := nI (i + 1)) (lv' := [(2, .int (nI (i + 1))), (3, .int (nI (qs i))), (0, .ref mm), (1, .int (nI d))]) hx hb dX12_qTold_162 hl (k := 1) rfl (ninc i 1 (by decide)) (by decide) rfl (fun ls hl => ?_)
            refine lv_goto (tgt := 7) hx hb dX12_qTold_165 (by decide) ?_
            exact ih_lp_1 (i + 1) zq f_25 _ _ _ (by omega) (by omega) (by omega) (dq hzq (by omega)) hP hD hS (lv_sub hl [0, 2, 3] rfl)
        · have c_6 : ¬ (qs i < 1000) := fun h => c_6 ((nlt (qs i) 1000 (by omega) (by omega)).mpr h)
          refine lv_aload_n hx hb dX12_qTold_29 rfl (lv_at hl 2 rfl) ?_
          refine lv_iload_n hx hb dX12_qTold_30 rfl (lv_at hl 0 rfl) ?_
          refine lv_sipush (v := 1000) hx hb dX12_qTold_31 (by decide) ?_
          refine lv_isub hx hb dX12_qTold_34 ?_
          refine sk_top (nI (qs i - 1000)) (nsub (qs i) 1000 (by omega)) ?_
          refine lv_i2l hx hb dX12_qTold_35 rfl ?_
          refine sk_Vv (q0 := 0) (n := 1) (rest := []) (wr := fmR om_7_50 _) ⟨hx, hb, hml, hown, hts⟩ hl.1 (c_m_qPuts l D cI cJ cC cZ cS mm g ta pa pe pd pb pp pf pg pn rt rn cd sn il tk am at_ aa 0 0 (-1) wt wy 0 rm ud nu sd qn qw qo qb zq qa qi oc (Int32.toInt64 (nI (qs i - 1000))) zl (by omega)) w_7_139 w_7_141 w_0_76 w_1_14 w_7_142 hd_X12_qPuts_1 ⟨⟨(Nat.le_of_ble_eq_true rfl), (Nat.le_of_ble_eq_true rfl)⟩, (Nat.le_of_ble_eq_true rfl), (Nat.le_of_ble_eq_true rfl)⟩ hK hP hD hS hA (fmT om_7_50 0) (fmF om_7_50 0) (fm_C1 rfl rfl) (fm_R rfl rfl) (fm_nT om_7_50 0) (fm_nF om_7_50 0) (fm_di om_7_50 0) rfl rfl rfl rfl (Nat.le_of_ble_eq_true rfl) dX12_qTold_36 (fun u H locs hw hP hD hS => ?_)
          refine exE hw (fun ql2_26 eu_27 => ?_)
          clear hw
          refine o_mgE (ws' := [(mm, .inr (12, mo g (nI ta) (nI pa) (nI pe) pd (nI pb) pp pf pg pn rt rn (nI cd) sn (nI il) tk am at_ aa 0 0 (-1) wt wy 0 (nI rm) (nI ud) (nI nu) sd (nI qn) (nI qw) qo (nI qb) (nI (zq + 1)) qa (nI qi) (nI oc))), (g 80, .inl (cI, 1700, .inl (fun j => nI (qs j)))), (g 86, .inl (cJ, 1700, .inr (.inl ql2_26))), (g 31, .inl (cI, 120, .inl nw)), (g 46, .inl (cI, 9, .inl (fun j => nI (pt j)))), (g 44, .inl (cJ, 90, .inr (.inl bf))), (g 43, .inl (cJ, 90, .inr (.inl be)))]) eu_27 hP hD rfl (fun hP hD => ?_)
          refine lv_goto (tgt := 162) hx hb dX12_qTold_39 (by decide) ?_
          refine lv_iinc (v := nI (i + 1)) (lv' := [(2, .int (nI (i + 1))), (3, .int (nI (qs i))), (0, .ref mm), (1, .int (nI d))]) hx hb dX12_qTold_162 hl (k := 1) rfl (ninc i 1 (by decide)) (by decide) rfl (fun ls hl => ?_)
          refine lv_goto (tgt := 7) hx hb dX12_qTold_165 (by decide) ?_
          exact ih_lp_1 (i + 1) (zq + 1) ql2_26 _ _ _ (by omega) (by omega) (by omega) (dq hzq (by omega)) hP hD hS (lv_sub hl [0, 2, 3] rfl)
  exact lp_1 (qn - 0 + 1) 0 0 ql _ _ _ (Nat.lt_succ_self _) (by omega) (by omega) rfl hP hD hS (lv_sub hl [0, 1, 2] rfl)
