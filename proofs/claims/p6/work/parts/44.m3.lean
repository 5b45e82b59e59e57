theorem dX12_isMuteNow_0 : decode cX12_isMuteNow 0 = .ok (.aload_n 0, 1) := by decide +kernel
theorem dX12_isMuteNow_1 : decode cX12_isMuteNow 1 = .ok (.iload_n 1, 1) := by decide +kernel
theorem dX12_isMuteNow_2 : decode cX12_isMuteNow 2 = .ok (.invokevirtual 359, 3) := by decide +kernel
theorem dX12_isMuteNow_5 : decode cX12_isMuteNow 5 = .ok (.ifCond .ne 15, 3) := by decide +kernel
theorem dX12_isMuteNow_20 : decode cX12_isMuteNow 20 = .ok (.iconst 1, 1) := by decide +kernel
theorem dX12_isMuteNow_21 : decode cX12_isMuteNow 21 = .ok (.goto 4, 3) := by decide +kernel
theorem dX12_isMuteNow_25 : decode cX12_isMuteNow 25 = .ok (.ireturn, 1) := by decide +kernel
theorem dX12_isMuteNow_8 : decode cX12_isMuteNow 8 = .ok (.aload_n 0, 1) := by decide +kernel
theorem dX12_isMuteNow_9 : decode cX12_isMuteNow 9 = .ok (.getfield 362, 3) := by decide +kernel
theorem dX12_isMuteNow_12 : decode cX12_isMuteNow 12 = .ok (.iload_n 1, 1) := by decide +kernel
theorem dX12_isMuteNow_13 : decode cX12_isMuteNow 13 = .ok (.ishr, 1) := by decide +kernel
theorem dX12_isMuteNow_14 : decode cX12_isMuteNow 14 = .ok (.iconst 1, 1) := by decide +kernel
theorem dX12_isMuteNow_15 : decode cX12_isMuteNow 15 = .ok (.iand, 1) := by decide +kernel
theorem dX12_isMuteNow_16 : decode cX12_isMuteNow 16 = .ok (.iconst 1, 1) := by decide +kernel
theorem dX12_isMuteNow_17 : decode cX12_isMuteNow 17 = .ok (.if_icmp .ne 7, 3) := by decide +kernel
theorem dX12_isMuteNow_24 : decode cX12_isMuteNow 24 = .ok (.iconst 0, 1) := by decide +kernel
theorem w_5_194 : (Cond.fieldLink RX12 362 "SameKeeperModel" "muteToo" "I") ∈ wsL_law := sk_mem (ck_5 _ (List.mem_of_getElem? (i := 194) rfl)) rfl
theorem w_7_208 : (Cond.code yX12_isMuteNow cX12_isMuteNow 2 (some .boolean)) ∈ wsL_law := sk_mem (ck_7 _ (List.mem_of_getElem? (i := 208) rfl)) rfl
set_option maxHeartbeats 4000000 in
set_option maxRecDepth 100000 in
theorem c_m_isMuteNow (l : Launch) (D : va_G) (cI cJ cC cZ cS : ClassId) (mm : Nat) (g : Nat → Nat) (ta : Nat) (pa : Nat) (pe : Nat) (pd : Int32) (pb : Nat) (pp : Int32) (pf : Int32) (pg : Int32) (pn : Int32) (rt : Int32) (rn : Int32) (cd : Nat) (sn : Int32) (il : Nat) (tk : Int32) (am : Int32) (at_ : Int32) (aa : Int32) (mt_ : Int32) (bh : Nat) (wd : Int32) (wt : Int32) (wy : Int64) (it_ : Nat) (rm : Nat) (ud : Nat) (nu : Nat) (sd : Int64) (qn : Nat) (qw : Nat) (qo : Int32) (qb : Nat) (qp : Nat) (qa : Int64) (qi : Nat) (oc : Nat) (d : Nat) (nw : Nat → Int32) (hd : d < 9) (hnw : nowOk nw) : skM l yX12_isMuteNow cX12_isMuteNow 2 (some .boolean) 1 21 0 0 D (skT cI cJ cC cZ cS) [.ref mm, .int (nI d)] [(mm, .inr (12, mo g (nI ta) (nI pa) (nI pe) pd (nI pb) pp pf pg pn rt rn (nI cd) sn (nI il) tk am at_ aa mt_ (nI bh) wd wt wy (nI it_) (nI rm) (nI ud) (nI nu) sd (nI qn) (nI qw) qo (nI qb) (nI qp) qa (nI qi) (nI oc))), (g 31, .inl (cI, 120, .inl nw))] (skI D (skT cI cJ cC cZ cS) (fun (r : Int32) (u : va_W) => ∃ (b : Nat), ((b = 0 ∧ mtN nw mt_ d = false) ∨ (b = 1 ∧ mtN nw mt_ d = true)) ∧ b ≤ 1 ∧ r = nI b ∧ u = [(mm, .inr (12, mo g (nI ta) (nI pa) (nI pe) pd (nI pb) pp pf pg pn rt rn (nI cd) sn (nI il) tk am at_ aa mt_ (nI bh) wd wt wy (nI it_) (nI rm) (nI ud) (nI nu) sd (nI qn) (nI qw) qo (nI qb) (nI qp) qa (nI qi) (nI oc))), (g 31, .inl (cI, 120, .inl nw))])) := by
  refine skM_of (by decide +kernel) (Nat.le_of_ble_eq_true rfl) ?_
  intro p e s m below meth c A ls E hP hD hl
  obtain ⟨hx, hb, hr, hml, hlocks, hin, hown, hts, hK, hA⟩ := E
  have hown : s.vm.findClass RX12 = some m.cls := hown
  have hS : va_S A s.heap s.heap [] := va_S.rf
  have hl : lv_has ls 2 [(0, .ref mm), (1, .int (nI d))] := hl
  refine lv_aload_n hx hb dX12_isMuteNow_0 rfl (lv_at hl 0 rfl) ?_
  refine lv_iload_n hx hb dX12_isMuteNow_1 rfl (lv_at hl 1 rfl) ?_
  refine sk_Vi (q0 := 0) (n := 1) (rest := []) (wr := []) ⟨hx, hb, hml, hown, hts⟩ hl.1 (c_m_isMute l D cI cJ cC cZ cS mm g ta pa pe pd pb pp pf pg pn rt rn cd sn il tk am at_ aa mt_ bh wd wt wy it_ rm ud nu sd qn qw qo qb qp qa qi oc d nw (by omega) hnw) w_7_106 w_7_108 w_0_71 w_1_14 w_7_109 (by decide +kernel) ⟨⟨(Nat.le_of_ble_eq_true rfl), (Nat.le_of_ble_eq_true rfl)⟩, (Nat.le_of_ble_eq_true rfl), (Nat.le_of_ble_eq_true rfl)⟩ hK hP hD hS hA [0, 1] [] rfl rfl (by decide +kernel) (by decide +kernel) (by decide +kernel) rfl rfl rfl rfl (Nat.le_of_ble_eq_true rfl) dX12_isMuteNow_2 (fun r_2 u H locs hw hP hD hS => ?_)
  obtain ⟨b_1, hb1_3, hb2_4, rfl, rfl⟩ := hw
  have hP : va_P D vwCl [(mm, .inr (12, mo g (nI ta) (nI pa) (nI pe) pd (nI pb) pp pf pg pn rt rn (nI cd) sn (nI il) tk am at_ aa mt_ (nI bh) wd wt wy (nI it_) (nI rm) (nI ud) (nI nu) sd (nI qn) (nI qw) qo (nI qb) (nI qp) qa (nI qi) (nI oc))), (g 31, .inl (cI, 120, .inl nw))] H := hP
  have hD : va_D A [(mm, .inr (12, mo g (nI ta) (nI pa) (nI pe) pd (nI pb) pp pf pg pn rt rn (nI cd) sn (nI il) tk am at_ aa mt_ (nI bh) wd wt wy (nI it_) (nI rm) (nI ud) (nI nu) sd (nI qn) (nI qw) qo (nI qb) (nI qp) qa (nI qi) (nI oc))), (g 31, .inl (cI, 120, .inl nw))] := hD
  refine lv_if_ne (tgt := 20) hx hb dX12_isMuteNow_5 (by decide) (fun c_5 => ?_) (fun c_5 => ?_)
  · have c_5 : ¬ (b_1 = 0) := fun h => c_5 ((neq b_1 0 (by omega) (by omega)).mpr h)
    refine lv_iconst (v := 1) hx hb dX12_isMuteNow_20 (by decide) ?_
    refine lv_goto (tgt := 25) hx hb dX12_isMuteNow_21 (by decide) ?_
    exact sk_iret hx hb hr rfl hlocks hK hP hD hS (⟨1, Or.inr ⟨rfl, mt_1 (or_1 hb1_3 (by omega))⟩, by omega, rfl, rfl⟩) (Nat.le_of_ble_eq_true rfl) (Nat.le_of_ble_eq_true rfl) dX12_isMuteNow_25
  · have c_5 : b_1 = 0 := (neq b_1 0 (by omega) (by omega)).mp c_5
    refine lv_aload_n hx hb dX12_isMuteNow_8 rfl (lv_at hl 0 rfl) ?_
    refine sk_get (v := .int mt_) (C := RX12) (T := TX12) (N := 92) hx hb hts inlX12 hown hK hP 0 rfl rfl 39 (by decide) w_5_194 rfl dX12_isMuteNow_9 ?_
    refine lv_iload_n hx hb dX12_isMuteNow_12 rfl (lv_at hl 1 rfl) ?_
    refine lv_ishr hx hb dX12_isMuteNow_13 ?_
    refine lv_topi (fun v_6 ev_6 => ?_)
    refine lv_iconst (v := 1) hx hb dX12_isMuteNow_14 (by decide) ?_
    refine lv_iand hx hb dX12_isMuteNow_15 ?_
    refine lv_topi (fun v_7 ev_7 => ?_)
    refine lv_iconst (v := 1) hx hb dX12_isMuteNow_16 (by decide) ?_
    refine lv_icmp_ne (tgt := 24) hx hb dX12_isMuteNow_17 (by decide) (fun c_8 => ?_) (fun c_8 => ?_)
    · skip
      refine lv_iconst (v := 0) hx hb dX12_isMuteNow_24 (by decide) ?_
      exact sk_iret hx hb hr rfl hlocks hK hP hD hS (⟨0, Or.inl ⟨rfl, mt_0 (or_0 hb1_3 (by omega)) (by rw [← ev_6, ← ev_7]; exact c_8)⟩, by omega, rfl, rfl⟩) (Nat.le_of_ble_eq_true rfl) (Nat.le_of_ble_eq_true rfl) dX12_isMuteNow_25
    · skip
      refine lv_iconst (v := 1) hx hb dX12_isMuteNow_20 (by decide) ?_
      refine lv_goto (tgt := 25) hx hb dX12_isMuteNow_21 (by decide) ?_
      exact sk_iret hx hb hr rfl hlocks hK hP hD hS (⟨1, Or.inr ⟨rfl, mt_2 (by rw [← ev_6, ← ev_7]; exact c_8)⟩, by omega, rfl, rfl⟩) (Nat.le_of_ble_eq_true rfl) (Nat.le_of_ble_eq_true rfl) dX12_isMuteNow_25
theorem dX12_isLeft_0 : decode cX12_isLeft 0 = .ok (.aload_n 0, 1) := by decide +kernel
theorem dX12_isLeft_1 : decode cX12_isLeft 1 = .ok (.getfield 79, 3) := by decide +kernel
theorem dX12_isLeft_4 : decode cX12_isLeft 4 = .ok (.iload_n 1, 1) := by decide +kernel
theorem dX12_isLeft_5 : decode cX12_isLeft 5 = .ok (.if_icmp .ne 23, 3) := by decide +kernel
theorem dX12_isLeft_28 : decode cX12_isLeft 28 = .ok (.aload_n 0, 1) := by decide +kernel
theorem dX12_isLeft_29 : decode cX12_isLeft 29 = .ok (.getfield 368, 3) := by decide +kernel
theorem dX12_isLeft_32 : decode cX12_isLeft 32 = .ok (.ifCond .ne 5, 3) := by decide +kernel
theorem dX12_isLeft_37 : decode cX12_isLeft 37 = .ok (.iconst 0, 1) := by decide +kernel
theorem dX12_isLeft_38 : decode cX12_isLeft 38 = .ok (.istore_n 3, 1) := by decide +kernel
theorem dX12_isLeft_39 : decode cX12_isLeft 39 = .ok (.iload_n 3, 1) := by decide +kernel
theorem dX12_isLeft_40 : decode cX12_isLeft 40 = .ok (.aload_n 0, 1) := by decide +kernel
theorem dX12_isLeft_41 : decode cX12_isLeft 41 = .ok (.getfield 312, 3) := by decide +kernel
theorem dX12_isLeft_44 : decode cX12_isLeft 44 = .ok (.if_icmp .ge 55, 3) := by decide +kernel
theorem dX12_isLeft_99 : decode cX12_isLeft 99 = .ok (.iconst 1, 1) := by decide +kernel
theorem dX12_isLeft_100 : decode cX12_isLeft 100 = .ok (.ireturn, 1) := by decide +kernel
theorem dX12_isLeft_47 : decode cX12_isLeft 47 = .ok (.aload_n 0, 1) := by decide +kernel
theorem dX12_isLeft_48 : decode cX12_isLeft 48 = .ok (.getfield 104, 3) := by decide +kernel
theorem dX12_isLeft_51 : decode cX12_isLeft 51 = .ok (.iconst 2, 1) := by decide +kernel
theorem dX12_isLeft_52 : decode cX12_isLeft 52 = .ok (.iload_n 3, 1) := by decide +kernel
theorem dX12_isLeft_53 : decode cX12_isLeft 53 = .ok (.imul, 1) := by decide +kernel
theorem dX12_isLeft_54 : decode cX12_isLeft 54 = .ok (.iaload, 1) := by decide +kernel
theorem dX12_isLeft_55 : decode cX12_isLeft 55 = .ok (.iload_n 1, 1) := by decide +kernel
theorem dX12_isLeft_56 : decode cX12_isLeft 56 = .ok (.if_icmp .ne 37, 3) := by decide +kernel
theorem dX12_isLeft_93 : decode cX12_isLeft 93 = .ok (.iinc 3 1, 3) := by decide +kernel
theorem dX12_isLeft_96 : decode cX12_isLeft 96 = .ok (.goto (-57), 3) := by decide +kernel
theorem dX12_isLeft_59 : decode cX12_isLeft 59 = .ok (.aload_n 0, 1) := by decide +kernel
theorem dX12_isLeft_60 : decode cX12_isLeft 60 = .ok (.iload_n 1, 1) := by decide +kernel
theorem dX12_isLeft_61 : decode cX12_isLeft 61 = .ok (.invokevirtual 359, 3) := by decide +kernel
theorem dX12_isLeft_64 : decode cX12_isLeft 64 = .ok (.ifCond .ne 27, 3) := by decide +kernel
theorem dX12_isLeft_91 : decode cX12_isLeft 91 = .ok (.iconst 0, 1) := by decide +kernel
theorem dX12_isLeft_92 : decode cX12_isLeft 92 = .ok (.ireturn, 1) := by decide +kernel
theorem dX12_isLeft_67 : decode cX12_isLeft 67 = .ok (.aload_n 0, 1) := by decide +kernel
theorem dX12_isLeft_68 : decode cX12_isLeft 68 = .ok (.getfield 76, 3) := by decide +kernel
theorem dX12_isLeft_71 : decode cX12_isLeft 71 = .ok (.bipush 10, 2) := by decide +kernel
theorem dX12_isLeft_73 : decode cX12_isLeft 73 = .ok (.iload_n 1, 1) := by decide +kernel
theorem dX12_isLeft_74 : decode cX12_isLeft 74 = .ok (.imul, 1) := by decide +kernel
theorem dX12_isLeft_75 : decode cX12_isLeft 75 = .ok (.iload_n 2, 1) := by decide +kernel
theorem dX12_isLeft_76 : decode cX12_isLeft 76 = .ok (.iadd, 1) := by decide +kernel
theorem dX12_isLeft_77 : decode cX12_isLeft 77 = .ok (.iaload, 1) := by decide +kernel
theorem dX12_isLeft_78 : decode cX12_isLeft 78 = .ok (.aload_n 0, 1) := by decide +kernel
theorem dX12_isLeft_79 : decode cX12_isLeft 79 = .ok (.getfield 104, 3) := by decide +kernel
theorem dX12_isLeft_82 : decode cX12_isLeft 82 = .ok (.iconst 2, 1) := by decide +kernel
theorem dX12_isLeft_83 : decode cX12_isLeft 83 = .ok (.iload_n 3, 1) := by decide +kernel
theorem dX12_isLeft_84 : decode cX12_isLeft 84 = .ok (.imul, 1) := by decide +kernel
theorem dX12_isLeft_85 : decode cX12_isLeft 85 = .ok (.iconst 1, 1) := by decide +kernel
theorem dX12_isLeft_86 : decode cX12_isLeft 86 = .ok (.iadd, 1) := by decide +kernel
theorem dX12_isLeft_87 : decode cX12_isLeft 87 = .ok (.iaload, 1) := by decide +kernel
theorem dX12_isLeft_88 : decode cX12_isLeft 88 = .ok (.if_icmp .eq 5, 3) := by decide +kernel
theorem dX12_isLeft_35 : decode cX12_isLeft 35 = .ok (.iconst 1, 1) := by decide +kernel
theorem dX12_isLeft_36 : decode cX12_isLeft 36 = .ok (.ireturn, 1) := by decide +kernel
theorem dX12_isLeft_8 : decode cX12_isLeft 8 = .ok (.aload_n 0, 1) := by decide +kernel
theorem dX12_isLeft_9 : decode cX12_isLeft 9 = .ok (.getfield 76, 3) := by decide +kernel
theorem dX12_isLeft_12 : decode cX12_isLeft 12 = .ok (.bipush 10, 2) := by decide +kernel
theorem dX12_isLeft_14 : decode cX12_isLeft 14 = .ok (.iload_n 1, 1) := by decide +kernel
theorem dX12_isLeft_15 : decode cX12_isLeft 15 = .ok (.imul, 1) := by decide +kernel
theorem dX12_isLeft_16 : decode cX12_isLeft 16 = .ok (.iload_n 2, 1) := by decide +kernel
theorem dX12_isLeft_17 : decode cX12_isLeft 17 = .ok (.iadd, 1) := by decide +kernel
theorem dX12_isLeft_18 : decode cX12_isLeft 18 = .ok (.iaload, 1) := by decide +kernel
theorem dX12_isLeft_19 : decode cX12_isLeft 19 = .ok (.aload_n 0, 1) := by decide +kernel
theorem dX12_isLeft_20 : decode cX12_isLeft 20 = .ok (.getfield 365, 3) := by decide +kernel
theorem dX12_isLeft_23 : decode cX12_isLeft 23 = .ok (.if_icmp .eq 5, 3) := by decide +kernel
theorem dX12_isLeft_26 : decode cX12_isLeft 26 = .ok (.iconst 0, 1) := by decide +kernel
theorem dX12_isLeft_27 : decode cX12_isLeft 27 = .ok (.ireturn, 1) := by decide +kernel
theorem w_5_196 : (Cond.fieldLink RX12 79 "SameKeeperModel" "wordDay" "I") ∈ wsL_law := sk_mem (ck_5 _ (List.mem_of_getElem? (i := 196) rfl)) rfl
theorem w_5_195 : (Cond.fieldLink RX12 368 "SameKeeperModel" "byHeard" "Z") ∈ wsL_law := sk_mem (ck_5 _ (List.mem_of_getElem? (i := 195) rfl)) rfl
theorem w_5_207 : (Cond.fieldLink RX12 312 "SameKeeperModel" "rowMany" "I") ∈ wsL_law := sk_mem (ck_5 _ (List.mem_of_getElem? (i := 207) rfl)) rfl
theorem w_5_208 : (Cond.fieldLink RX12 104 "SameKeeperModel" "rows" "[I") ∈ wsL_law := sk_mem (ck_5 _ (List.mem_of_getElem? (i := 208) rfl)) rfl
theorem w_5_197 : (Cond.fieldLink RX12 365 "SameKeeperModel" "wordTold" "I") ∈ wsL_law := sk_mem (ck_5 _ (List.mem_of_getElem? (i := 197) rfl)) rfl
theorem w_7_212 : (Cond.code yX12_isLeft cX12_isLeft 4 (some .boolean)) ∈ wsL_law := sk_mem (ck_7 _ (List.mem_of_getElem? (i := 212) rfl)) rfl
set_option maxHeartbeats 4000000 in
set_option maxRecDepth 100000 in
theorem c_m_isLeft (l : Launch) (D : va_G) (cI cJ cC cZ cS : ClassId) (mm : Nat) (g : Nat → Nat) (ta : Nat) (pa : Nat) (pe : Nat) (pd : Int32) (pb : Nat) (pp : Int32) (pf : Int32) (pg : Int32) (pn : Int32) (rt : Int32) (rn : Int32) (cd : Nat) (sn : Int32) (il : Nat) (tk : Int32) (am : Int32) (at_ : Int32) (aa : Int32) (mt_ : Int32) (bh : Nat) (wd : Int32) (wt : Int32) (wy : Int64) (it_ : Nat) (rm : Nat) (ud : Nat) (nu : Nat) (sd : Int64) (qn : Nat) (qw : Nat) (qo : Int32) (qb : Nat) (qp : Nat) (qa : Int64) (qi : Nat) (oc : Nat) (d : Nat) (o : Nat) (nw : Nat → Int32) (ws_ : Nat → Int32) (rw_ : Nat → Int32) (hd : d < 9) (ho : o < 10) (hrm : rm ≤ 16) (hbh : bh ≤ 1) (hnw : nowOk nw) : skM l yX12_isLeft cX12_isLeft 4 (some .boolean) 1 21 0 0 D (skT cI cJ cC cZ cS) [.ref mm, .int (nI d), .int (nI o)] [(mm, .inr (12, mo g (nI ta) (nI pa) (nI pe) pd (nI pb) pp pf pg pn rt rn (nI cd) sn (nI il) tk am at_ aa mt_ (nI bh) wd wt wy (nI it_) (nI rm) (nI ud) (nI nu) sd (nI qn) (nI qw) qo (nI qb) (nI qp) qa (nI qi) (nI oc))), (g 31, .inl (cI, 120, .inl nw)), (g 38, .inl (cI, 90, .inl ws_)), (g 53, .inl (cI, 32, .inl rw_))] (skI D (skT cI cJ cC cZ cS) (fun (r : Int32) (u : va_W) => ∃ (b : Nat), b ≤ 1 ∧ r = nI b ∧ u = [(mm, .inr (12, mo g (nI ta) (nI pa) (nI pe) pd (nI pb) pp pf pg pn rt rn (nI cd) sn (nI il) tk am at_ aa mt_ (nI bh) wd wt wy (nI it_) (nI rm) (nI ud) (nI nu) sd (nI qn) (nI qw) qo (nI qb) (nI qp) qa (nI qi) (nI oc))), (g 31, .inl (cI, 120, .inl nw)), (g 38, .inl (cI, 90, .inl ws_)), (g 53, .inl (cI, 32, .inl rw_))])) := by
  refine skM_of (by decide +kernel) (Nat.le_of_ble_eq_true rfl) ?_
  intro p e s m below meth c A ls E hP hD hl
  obtain ⟨hx, hb, hr, hml, hlocks, hin, hown, hts, hK, hA⟩ := E
  have hown : s.vm.findClass RX12 = some m.cls := hown
  have hS : va_S A s.heap s.heap [] := va_S.rf
  have hl : lv_has ls 4 [(0, .ref mm), (1, .int (nI d)), (2, .int (nI o))] := hl
  refine lv_aload_n hx hb dX12_isLeft_0 rfl (lv_at hl 0 rfl) ?_
  refine sk_get (v := .int wd) (C := RX12) (T := TX12) (N := 92) hx hb hts inlX12 hown hK hP 0 rfl rfl 41 (by decide) w_5_196 rfl dX12_isLeft_1 ?_
  refine lv_iload_n hx hb dX12_isLeft_4 rfl (lv_at hl 1 rfl) ?_
  refine lv_icmp_ne (tgt := 28) hx hb dX12_isLeft_5 (by decide) (fun c_1 => ?_) (fun c_1 => ?_)
  · skip
    refine lv_aload_n hx hb dX12_isLeft_28 rfl (lv_at hl 0 rfl) ?_
    refine sk_get (v := .int (nI bh)) (C := RX12) (T := TX12) (N := 92) hx hb hts inlX12 hown hK hP 0 rfl rfl 40 (by decide) w_5_195 rfl dX12_isLeft_29 ?_
    refine lv_if_ne (tgt := 37) hx hb dX12_isLeft_32 (by decide) (fun c_2 => ?_) (fun c_2 => ?_)
    · have c_2 : ¬ (bh = 0) := fun h => c_2 ((neq bh 0 (by omega) (by omega)).mpr h)
      refine lv_iconst (v := 0) hx hb dX12_isLeft_37 (by decide) ?_
      refine lv_istore_n (lv' := [(3, .int 0), (0, .ref mm), (1, .int (nI d)), (2, .int (nI o))]) hx hb dX12_isLeft_38 rfl hl (by decide) rfl (fun ls hl => ?_)
      have lp_3 : ∀ (n_4 : Nat) (i : Nat) (H : Heap) (locs : List Loc) (ls : Array Slot), 17 - i < n_4 → (i ≤ 16) → va_P D vwCl [(mm, .inr (12, mo g (nI ta) (nI pa) (nI pe) pd (nI pb) pp pf pg pn rt rn (nI cd) sn (nI il) tk am at_ aa mt_ (nI bh) wd wt wy (nI it_) (nI rm) (nI ud) (nI nu) sd (nI qn) (nI qw) qo (nI qb) (nI qp) qa (nI qi) (nI oc))), (g 31, .inl (cI, 120, .inl nw)), (g 38, .inl (cI, 90, .inl ws_)), (g 53, .inl (cI, 32, .inl rw_))] H → va_D A [(mm, .inr (12, mo g (nI ta) (nI pa) (nI pe) pd (nI pb) pp pf pg pn rt rn (nI cd) sn (nI il) tk am at_ aa mt_ (nI bh) wd wt wy (nI it_) (nI rm) (nI ud) (nI nu) sd (nI qn) (nI qw) qo (nI qb) (nI qp) qa (nI qi) (nI oc))), (g 31, .inl (cI, 120, .inl nw)), (g 38, .inl (cI, 90, .inl ws_)), (g 53, .inl (cI, 32, .inl rw_))] → va_S A s.heap H locs → lv_has ls 4 [(3, .int (nI i)), (0, .ref mm), (1, .int (nI d)), (2, .int (nI o))] → W p l e { frames := 1, cells := 0, slots := 0, locals := 21 } s m ([.ref mm, .int (nI d), .int (nI o)] : List Value).toArray below meth c H locs 0 0 (MQ below (skI D (skT cI cJ cC cZ cS) (fun (r : Int32) (u : va_W) => ∃ (b : Nat), b ≤ 1 ∧ r = nI b ∧ u = [(mm, .inr (12, mo g (nI ta) (nI pa) (nI pe) pd (nI pb) pp pf pg pn rt rn (nI cd) sn (nI il) tk am at_ aa mt_ (nI bh) wd wt wy (nI it_) (nI rm) (nI ud) (nI nu) sd (nI qn) (nI qw) qo (nI qb) (nI qp) qa (nI qi) (nI oc))), (g 31, .inl (cI, 120, .inl nw)), (g 38, .inl (cI, 90, .inl ws_)), (g 53, .inl (cI, 32, .inl rw_))]) A) ([.ref mm, .int (nI d), .int (nI o)] : List Value).toArray s 0 0 A) (F0 m 39 ls []) := by
        intro n_4
        induction n_4 with
        | zero => intro i H locs ls hm; exact absurd hm (Nat.not_lt_zero _)
        | succ n_4 ih_lp_3 =>
          intro i H locs ls hm hi hP hD hS hl
          refine lv_iload_n hx hb dX12_isLeft_39 rfl (lv_at hl 0 rfl) ?_
          refine lv_aload_n hx hb dX12_isLeft_40 rfl (lv_at hl 1 rfl) ?_
          refine sk_get (v := .int (nI rm)) (C := RX12) (T := TX12) (N := 92) hx hb hts inlX12 hown hK hP 0 rfl rfl 52 (by decide) w_5_207 rfl dX12_isLeft_41 ?_
          refine lv_icmp_ge (tgt := 99) hx hb dX12_isLeft_44 (by decide) (fun c_5 => ?_) (fun c_5 => ?_)
          · have c_5 : rm ≤ i := (nle rm i (by omega) (by omega)).mp c_5
            refine lv_iconst (v := 1) hx hb dX12_isLeft_99 (by decide) ?_
            exact sk_iret hx hb hr rfl hlocks hK hP hD hS (⟨1, by omega, rfl, rfl⟩) (Nat.le_of_ble_eq_true rfl) (Nat.le_of_ble_eq_true rfl) dX12_isLeft_100
          · have c_5 : ¬ (rm ≤ i) := fun h => c_5 ((nle rm i (by omega) (by omega)).mpr h)
            refine lv_aload_n hx hb dX12_isLeft_47 rfl (lv_at hl 1 rfl) ?_
            refine sk_get (v := .ref (g 53)) (C := RX12) (T := TX12) (N := 92) hx hb hts inlX12 hown hK hP 0 rfl rfl 53 (by decide) w_5_208 rfl dX12_isLeft_48 ?_
            refine lv_iconst (v := 2) hx hb dX12_isLeft_51 (by decide) ?_
            refine lv_iload_n hx hb dX12_isLeft_52 rfl (lv_at hl 0 rfl) ?_
            refine lv_imul hx hb dX12_isLeft_53 ?_
            refine sk_top (nI (2 * i)) (nmul 2 i) ?_
            refine va_iald hx hb hK.1 hP 3 0 rfl rfl (vin (2 * i) 32 (by omega) (by omega)) dX12_isLeft_54 ?_
            refine lv_topi (fun v_6 ev_6 => ?_)
            refine lv_iload_n hx hb dX12_isLeft_55 rfl (lv_at hl 2 rfl) ?_
            refine lv_icmp_ne (tgt := 93) hx hb dX12_isLeft_56 (by decide) (fun c_7 => ?_) (fun c_7 => ?_)
            · skip
              refine lv_iinc (v := nI (i + 1)) (lv' := [(3, .int (nI (i + 1))), (0, .ref mm), (1, .int (nI d)), (2, .int (nI o))]) hx hb dX12_isLeft_93 hl (k := 0) rfl (ninc i 1 (by decide)) (by decide) rfl (fun ls hl => ?_)
              refine lv_goto (tgt := 39) hx hb dX12_isLeft_96 (by decide) ?_
              exact ih_lp_3 (i + 1) _ _ _ (by omega) (by omega) hP hD hS (lv_sub hl [0, 1, 2, 3] rfl)
            · skip
              refine lv_aload_n hx hb dX12_isLeft_59 rfl (lv_at hl 1 rfl) ?_
              refine lv_iload_n hx hb dX12_isLeft_60 rfl (lv_at hl 2 rfl) ?_
              refine sk_Vi (q0 := 0) (n := 1) (rest := []) (wr := [(g 38, .inl (cI, 90, .inl ws_)), (g 53, .inl (cI, 32, .inl rw_))]) ⟨hx, hb, hml, hown, hts⟩ hl.1 (c_m_isMute l D cI cJ cC cZ cS mm g ta pa pe pd pb pp pf pg pn rt rn cd sn il tk am at_ aa mt_ bh wd wt wy it_ rm ud nu sd qn qw qo qb qp qa qi oc d nw (by omega) hnw) w_7_106 w_7_108 w_0_71 w_1_14 w_7_109 (by decide +kernel) ⟨⟨(Nat.le_of_ble_eq_true rfl), (Nat.le_of_ble_eq_true rfl)⟩, (Nat.le_of_ble_eq_true rfl), (Nat.le_of_ble_eq_true rfl)⟩ hK hP hD hS hA [0, 1] [2, 3] rfl rfl (by decide +kernel) (by decide +kernel) (by decide +kernel) rfl rfl rfl rfl (Nat.le_of_ble_eq_true rfl) dX12_isLeft_61 (fun r_9 u H locs hw hP hD hS => ?_)
              obtain ⟨b_8, hb1_10, hb2_11, rfl, rfl⟩ := hw
              have hP : va_P D vwCl [(g 38, .inl (cI, 90, .inl ws_)), (g 53, .inl (cI, 32, .inl rw_)), (mm, .inr (12, mo g (nI ta) (nI pa) (nI pe) pd (nI pb) pp pf pg pn rt rn (nI cd) sn (nI il) tk am at_ aa mt_ (nI bh) wd wt wy (nI it_) (nI rm) (nI ud) (nI nu) sd (nI qn) (nI qw) qo (nI qb) (nI qp) qa (nI qi) (nI oc))), (g 31, .inl (cI, 120, .inl nw))] H := hP
              have hD : va_D A [(g 38, .inl (cI, 90, .inl ws_)), (g 53, .inl (cI, 32, .inl rw_)), (mm, .inr (12, mo g (nI ta) (nI pa) (nI pe) pd (nI pb) pp pf pg pn rt rn (nI cd) sn (nI il) tk am at_ aa mt_ (nI bh) wd wt wy (nI it_) (nI rm) (nI ud) (nI nu) sd (nI qn) (nI qw) qo (nI qb) (nI qp) qa (nI qi) (nI oc))), (g 31, .inl (cI, 120, .inl nw))] := hD
              refine lv_if_ne (tgt := 91) hx hb dX12_isLeft_64 (by decide) (fun c_12 => ?_) (fun c_12 => ?_)
              · have c_12 : ¬ (b_8 = 0) := fun h => c_12 ((neq b_8 0 (by omega) (by omega)).mpr h)
                refine lv_iconst (v := 0) hx hb dX12_isLeft_91 (by decide) ?_
                have hP := hP.sub (ws' := [(mm, .inr (12, mo g (nI ta) (nI pa) (nI pe) pd (nI pb) pp pf pg pn rt rn (nI cd) sn (nI il) tk am at_ aa mt_ (nI bh) wd wt wy (nI it_) (nI rm) (nI ud) (nI nu) sd (nI qn) (nI qw) qo (nI qb) (nI qp) qa (nI qi) (nI oc))), (g 31, .inl (cI, 120, .inl nw)), (g 38, .inl (cI, 90, .inl ws_)), (g 53, .inl (cI, 32, .inl rw_))]) [2, 3, 0, 1] rfl
                have hD := hD.sub (ws' := [(mm, .inr (12, mo g (nI ta) (nI pa) (nI pe) pd (nI pb) pp pf pg pn rt rn (nI cd) sn (nI il) tk am at_ aa mt_ (nI bh) wd wt wy (nI it_) (nI rm) (nI ud) (nI nu) sd (nI qn) (nI qw) qo (nI qb) (nI qp) qa (nI qi) (nI oc))), (g 31, .inl (cI, 120, .inl nw)), (g 38, .inl (cI, 90, .inl ws_)), (g 53, .inl (cI, 32, .inl rw_))]) [2, 3, 0, 1] (by decide +kernel) rfl
                exact sk_iret hx hb hr rfl hlocks hK hP hD hS (⟨0, by omega, rfl, rfl⟩) (Nat.le_of_ble_eq_true rfl) (Nat.le_of_ble_eq_true rfl) dX12_isLeft_92
              · have c_12 : b_8 = 0 := (neq b_8 0 (by omega) (by omega)).mp c_12
                refine lv_aload_n hx hb dX12_isLeft_67 rfl (lv_at hl 1 rfl) ?_
                refine sk_get (v := .ref (g 38)) (C := RX12) (T := TX12) (N := 92) hx hb hts inlX12 hown hK hP 2 rfl rfl 38 (by decide) w_5_193 rfl dX12_isLeft_68 ?_
                refine lv_bipush (v := 10) hx hb dX12_isLeft_71 (by decide) ?_
                refine lv_iload_n hx hb dX12_isLeft_73 rfl (lv_at hl 2 rfl) ?_
                refine lv_imul hx hb dX12_isLeft_74 ?_
                refine sk_top (nI (10 * d)) (nmul 10 d) ?_
                refine lv_iload_n hx hb dX12_isLeft_75 rfl (lv_at hl 3 rfl) ?_
                refine lv_iadd hx hb dX12_isLeft_76 ?_
                refine sk_top (nI (10 * d + o)) (nI_add (10 * d) o) ?_
                refine va_iald hx hb hK.1 hP 0 0 rfl rfl (vin (10 * d + o) 90 (by omega) (by omega)) dX12_isLeft_77 ?_
                refine lv_topi (fun v_13 ev_13 => ?_)
                refine lv_aload_n hx hb dX12_isLeft_78 rfl (lv_at hl 1 rfl) ?_
                refine sk_get (v := .ref (g 53)) (C := RX12) (T := TX12) (N := 92) hx hb hts inlX12 hown hK hP 2 rfl rfl 53 (by decide) w_5_208 rfl dX12_isLeft_79 ?_
                refine lv_iconst (v := 2) hx hb dX12_isLeft_82 (by decide) ?_
                refine lv_iload_n hx hb dX12_isLeft_83 rfl (lv_at hl 0 rfl) ?_
                refine lv_imul hx hb dX12_isLeft_84 ?_
                refine sk_top (nI (2 * i)) (nmul 2 i) ?_
                refine lv_iconst (v := 1) hx hb dX12_isLeft_85 (by decide) ?_
                refine lv_iadd hx hb dX12_isLeft_86 ?_
                refine sk_top (nI (2 * i + 1)) (nI_add (2 * i) 1) ?_
                refine va_iald hx hb hK.1 hP 1 0 rfl rfl (vin (2 * i + 1) 32 (by omega) (by omega)) dX12_isLeft_87 ?_
                refine lv_topi (fun v_14 ev_14 => ?_)
                refine lv_icmp_eq (tgt := 93) hx hb dX12_isLeft_88 (by decide) (fun c_15 => ?_) (fun c_15 => ?_)
                · skip
                  refine lv_iinc (v := nI (i + 1)) (lv' := [(3, .int (nI (i + 1))), (0, .ref mm), (1, .int (nI d)), (2, .int (nI o))]) hx hb dX12_isLeft_93 hl (k := 0) rfl (ninc i 1 (by decide)) (by decide) rfl (fun ls hl => ?_)
                  refine lv_goto (tgt := 39) hx hb dX12_isLeft_96 (by decide) ?_
                  have hP := hP.sub (ws' := [(mm, .inr (12, mo g (nI ta) (nI pa) (nI pe) pd (nI pb) pp pf pg pn rt rn (nI cd) sn (nI il) tk am at_ aa mt_ (nI bh) wd wt wy (nI it_) (nI rm) (nI ud) (nI nu) sd (nI qn) (nI qw) qo (nI qb) (nI qp) qa (nI qi) (nI oc))), (g 31, .inl (cI, 120, .inl nw)), (g 38, .inl (cI, 90, .inl ws_)), (g 53, .inl (cI, 32, .inl rw_))]) [2, 3, 0, 1] rfl
                  have hD := hD.sub (ws' := [(mm, .inr (12, mo g (nI ta) (nI pa) (nI pe) pd (nI pb) pp pf pg pn rt rn (nI cd) sn (nI il) tk am at_ aa mt_ (nI bh) wd wt wy (nI it_) (nI rm) (nI ud) (nI nu) sd (nI qn) (nI qw) qo (nI qb) (nI qp) qa (nI qi) (nI oc))), (g 31, .inl (cI, 120, .inl nw)), (g 38, .inl (cI, 90, .inl ws_)), (g 53, .inl (cI, 32, .inl rw_))]) [2, 3, 0, 1] (by decide +kernel) rfl
                  exact ih_lp_3 (i + 1) _ _ _ (by omega) (by omega) hP hD hS (lv_sub hl [0, 1, 2, 3] rfl)
                · skip
                  refine lv_iconst (v := 0) hx hb dX12_isLeft_91 (by decide) ?_
                  have hP := hP.sub (ws' := [(mm, .inr (12, mo g (nI ta) (nI pa) (nI pe) pd (nI pb) pp pf pg pn rt rn (nI cd) sn (nI il) tk am at_ aa mt_ (nI bh) wd wt wy (nI it_) (nI rm) (nI ud) (nI nu) sd (nI qn) (nI qw) qo (nI qb) (nI qp) qa (nI qi) (nI oc))), (g 31, .inl (cI, 120, .inl nw)), (g 38, .inl (cI, 90, .inl ws_)), (g 53, .inl (cI, 32, .inl rw_))]) [2, 3, 0, 1] rfl
                  have hD := hD.sub (ws' := [(mm, .inr (12, mo g (nI ta) (nI pa) (nI pe) pd (nI pb) pp pf pg pn rt rn (nI cd) sn (nI il) tk am at_ aa mt_ (nI bh) wd wt wy (nI it_) (nI rm) (nI ud) (nI nu) sd (nI qn) (nI qw) qo (nI qb) (nI qp) qa (nI qi) (nI oc))), (g 31, .inl (cI, 120, .inl nw)), (g 38, .inl (cI, 90, .inl ws_)), (g 53, .inl (cI, 32, .inl rw_))]) [2, 3, 0, 1] (by decide +kernel) rfl
                  exact sk_iret hx hb hr rfl hlocks hK hP hD hS (⟨0, by omega, rfl, rfl⟩) (Nat.le_of_ble_eq_true rfl) (Nat.le_of_ble_eq_true rfl) dX12_isLeft_92
      exact lp_3 (17 - 0 + 1) 0 _ _ _ (Nat.lt_succ_self _) (by omega) hP hD hS (lv_sub hl [0, 1, 2, 3] rfl)
    · have c_2 : bh = 0 := (neq bh 0 (by omega) (by omega)).mp c_2
      refine lv_iconst (v := 1) hx hb dX12_isLeft_35 (by decide) ?_
      exact sk_iret hx hb hr rfl hlocks hK hP hD hS (⟨1, by omega, rfl, rfl⟩) (Nat.le_of_ble_eq_true rfl) (Nat.le_of_ble_eq_true rfl) dX12_isLeft_36
  · skip
    refine lv_aload_n hx hb dX12_isLeft_8 rfl (lv_at hl 0 rfl) ?_
    refine sk_get (v := .ref (g 38)) (C := RX12) (T := TX12) (N := 92) hx hb hts inlX12 hown hK hP 0 rfl rfl 38 (by decide) w_5_193 rfl dX12_isLeft_9 ?_
    refine lv_bipush (v := 10) hx hb dX12_isLeft_12 (by decide) ?_
    refine lv_iload_n hx hb dX12_isLeft_14 rfl (lv_at hl 1 rfl) ?_
    refine lv_imul hx hb dX12_isLeft_15 ?_
    refine sk_top (nI (10 * d)) (nmul 10 d) ?_
    refine lv_iload_n hx hb dX12_isLeft_16 rfl (lv_at hl 2 rfl) ?_
    refine lv_iadd hx hb dX12_isLeft_17 ?_
    refine sk_top (nI (10 * d + o)) (nI_add (10 * d) o) ?_
    refine va_iald hx hb hK.1 hP 2 0 rfl rfl (vin (10 * d + o) 90 (by omega) (by omega)) dX12_isLeft_18 ?_
    refine lv_topi (fun v_16 ev_16 => ?_)
    refine lv_aload_n hx hb dX12_isLeft_19 rfl (lv_at hl 0 rfl) ?_
    refine sk_get (v := .int wt) (C := RX12) (T := TX12) (N := 92) hx hb hts inlX12 hown hK hP 0 rfl rfl 42 (by decide) w_5_197 rfl dX12_isLeft_20 ?_
    refine lv_icmp_eq (tgt := 28) hx hb dX12_isLeft_23 (by decide) (fun c_17 => ?_) (fun c_17 => ?_)
    · skip
      refine lv_aload_n hx hb dX12_isLeft_28 rfl (lv_at hl 0 rfl) ?_
      refine sk_get (v := .int (nI bh)) (C := RX12) (T := TX12) (N := 92) hx hb hts inlX12 hown hK hP 0 rfl rfl 40 (by decide) w_5_195 rfl dX12_isLeft_29 ?_
      refine lv_if_ne (tgt := 37) hx hb dX12_isLeft_32 (by decide) (fun c_18 => ?_) (fun c_18 => ?_)
      · have c_18 : ¬ (bh = 0) := fun h => c_18 ((neq bh 0 (by omega) (by omega)).mpr h)
        refine lv_iconst (v := 0) hx hb dX12_isLeft_37 (by decide) ?_
        refine lv_istore_n (lv' := [(3, .int 0), (0, .ref mm), (1, .int (nI d)), (2, .int (nI o))]) hx hb dX12_isLeft_38 rfl hl (by decide) rfl (fun ls hl => ?_)
        have lp_19 : ∀ (n_20 : Nat) (i : Nat) (H : Heap) (locs : List Loc) (ls : Array Slot), 17 - i < n_20 → (i ≤ 16) → va_P D vwCl [(mm, .inr (12, mo g (nI ta) (nI pa) (nI pe) pd (nI pb) pp pf pg pn rt rn (nI cd) sn (nI il) tk am at_ aa mt_ (nI bh) wd wt wy (nI it_) (nI rm) (nI ud) (nI nu) sd (nI qn) (nI qw) qo (nI qb) (nI qp) qa (nI qi) (nI oc))), (g 31, .inl (cI, 120, .inl nw)), (g 38, .inl (cI, 90, .inl ws_)), (g 53, .inl (cI, 32, .inl rw_))] H → va_D A [(mm, .inr (12, mo g (nI ta) (nI pa) (nI pe) pd (nI pb) pp pf pg pn rt rn (nI cd) sn (nI il) tk am at_ aa mt_ (nI bh) wd wt wy (nI it_) (nI rm) (nI ud) (nI nu) sd (nI qn) (nI qw) qo (nI qb) (nI qp) qa (nI qi) (nI oc))), (g 31, .inl (cI, 120, .inl nw)), (g 38, .inl (cI, 90, .inl ws_)), (g 53, .inl (cI, 32, .inl rw_))] → va_S A s.heap H locs → lv_has ls 4 [(3, .int (nI i)), (0, .ref mm), (1, .int (nI d)), (2, .int (nI o))] → W p l e { frames := 1, cells := 0, slots := 0, locals := 21 } s m ([.ref mm, .int (nI d), .int (nI o)] : List Value).toArray below meth c H locs 0 0 (MQ below (skI D (skT cI cJ cC cZ cS) (fun (r : Int32) (u : va_W) => ∃ (b : Nat), b ≤ 1 ∧ r = nI b ∧ u = [(mm, .inr (12, mo g (nI ta) (nI pa) (nI pe) pd (nI pb) pp pf pg pn rt rn (nI cd) sn (nI il) tk am at_ aa mt_ (nI bh) wd wt wy (nI it_) (nI rm) (nI ud) (nI nu) sd (nI qn) (nI qw) qo (nI qb) (nI qp) qa (nI qi) (nI oc))), (g 31, .inl (cI, 120, .inl nw)), (g 38, .inl (cI, 90, .inl ws_)), (g 53, .inl (cI, 32, .inl rw_))]) A) ([.ref mm, .int (nI d), .int (nI o)] : List Value).toArray s 0 0 A) (F0 m 39 ls []) := by
          intro n_20
          induction n_20 with
          | zero => intro i H locs ls hm; exact absurd hm (Nat.not_lt_zero _)
          | succ n_20 ih_lp_19 =>
            intro i H locs ls hm hi hP hD hS hl
            refine lv_iload_n hx hb dX12_isLeft_39 rfl (lv_at hl 0 rfl) ?_
            refine lv_aload_n hx hb dX12_isLeft_40 rfl (lv_at hl 1 rfl) ?_
            refine sk_get (v := .int (nI rm)) (C := RX12) (T := TX12) (N := 92) hx hb hts inlX12 hown hK hP 0 rfl rfl 52 (by decide) w_5_207 rfl dX12_isLeft_41 ?_
            refine lv_icmp_ge (tgt := 99) hx hb dX12_isLeft_44 (by decide) (fun c_21 => ?_) (fun c_21 => ?_)
            · have c_21 : rm ≤ i := (nle rm i (by omega) (by omega)).mp c_21
              refine lv_iconst (v := 1) hx hb dX12_isLeft_99 (by decide) ?_
              exact sk_iret hx hb hr rfl hlocks hK hP hD hS (⟨1, by omega, rfl, rfl⟩) (Nat.le_of_ble_eq_true rfl) (Nat.le_of_ble_eq_true rfl) dX12_isLeft_100
            · have c_21 : ¬ (rm ≤ i) := fun h => c_21 ((nle rm i (by omega) (by omega)).mpr h)
              refine lv_aload_n hx hb dX12_isLeft_47 rfl (lv_at hl 1 rfl) ?_
              refine sk_get (v := .ref (g 53)) (C := RX12) (T := TX12) (N := 92) hx hb hts inlX12 hown hK hP 0 rfl rfl 53 (by decide) w_5_208 rfl dX12_isLeft_48 ?_
              refine lv_iconst (v := 2) hx hb dX12_isLeft_51 (by decide) ?_
              refine lv_iload_n hx hb dX12_isLeft_52 rfl (lv_at hl 0 rfl) ?_
              refine lv_imul hx hb dX12_isLeft_53 ?_
              refine sk_top (nI (2 * i)) (nmul 2 i) ?_
              refine va_iald hx hb hK.1 hP 3 0 rfl rfl (vin (2 * i) 32 (by omega) (by omega)) dX12_isLeft_54 ?_
              refine lv_topi (fun v_22 ev_22 => ?_)
              refine lv_iload_n hx hb dX12_isLeft_55 rfl (lv_at hl 2 rfl) ?_
              refine lv_icmp_ne (tgt := 93) hx hb dX12_isLeft_56 (by decide) (fun c_23 => ?_) (fun c_23 => ?_)
              · skip
                refine lv_iinc (v := nI (i + 1)) (lv' := [(3, .int (nI (i + 1))), (0, .ref mm), (1, .int (nI d)), (2, .int (nI o))]) hx hb dX12_isLeft_93 hl (k := 0) rfl (ninc i 1 (by decide)) (by decide) rfl (fun ls hl => ?_)
                refine lv_goto (tgt := 39) hx hb dX12_isLeft_96 (by decide) ?_
                exact ih_lp_19 (i + 1) _ _ _ (by omega) (by omega) hP hD hS (lv_sub hl [0, 1, 2, 3] rfl)
              · skip
                refine lv_aload_n hx hb dX12_isLeft_59 rfl (lv_at hl 1 rfl) ?_
                refine lv_iload_n hx hb dX12_isLeft_60 rfl (lv_at hl 2 rfl) ?_
                refine sk_Vi (q0 := 0) (n := 1) (rest := []) (wr := [(g 38, .inl (cI, 90, .inl ws_)), (g 53, .inl (cI, 32, .inl rw_))]) ⟨hx, hb, hml, hown, hts⟩ hl.1 (c_m_isMute l D cI cJ cC cZ cS mm g ta pa pe pd pb pp pf pg pn rt rn cd sn il tk am at_ aa mt_ bh wd wt wy it_ rm ud nu sd qn qw qo qb qp qa qi oc d nw (by omega) hnw) w_7_106 w_7_108 w_0_71 w_1_14 w_7_109 (by decide +kernel) ⟨⟨(Nat.le_of_ble_eq_true rfl), (Nat.le_of_ble_eq_true rfl)⟩, (Nat.le_of_ble_eq_true rfl), (Nat.le_of_ble_eq_true rfl)⟩ hK hP hD hS hA [0, 1] [2, 3] rfl rfl (by decide +kernel) (by decide +kernel) (by decide +kernel) rfl rfl rfl rfl (Nat.le_of_ble_eq_true rfl) dX12_isLeft_61 (fun r_25 u H locs hw hP hD hS => ?_)
                obtain ⟨b_24, hb1_26, hb2_27, rfl, rfl⟩ := hw
                have hP : va_P D vwCl [(g 38, .inl (cI, 90, .inl ws_)), (g 53, .inl (cI, 32, .inl rw_)), (mm, .inr (12, mo g (nI ta) (nI pa) (nI pe) pd (nI pb) pp pf pg pn rt rn (nI cd) sn (nI il) tk am at_ aa mt_ (nI bh) wd wt wy (nI it_) (nI rm) (nI ud) (nI nu) sd (nI qn) (nI qw) qo (nI qb) (nI qp) qa (nI qi) (nI oc))), (g 31, .inl (cI, 120, .inl nw))] H := hP
                have hD : va_D A [(g 38, .inl (cI, 90, .inl ws_)), (g 53, .inl (cI, 32, .inl rw_)), (mm, .inr (12, mo g (nI ta) (nI pa) (nI pe) pd (nI pb) pp pf pg pn rt rn (nI cd) sn (nI il) tk am at_ aa mt_ (nI bh) wd wt wy (nI it_) (nI rm) (nI ud) (nI nu) sd (nI qn) (nI qw) qo (nI qb) (nI qp) qa (nI qi) (nI oc))), (g 31, .inl (cI, 120, .inl nw))] := hD
                refine lv_if_ne (tgt := 91) hx hb dX12_isLeft_64 (by decide) (fun c_28 => ?_) (fun c_28 => ?_)
                · have c_28 : ¬ (b_24 = 0) := fun h => c_28 ((neq b_24 0 (by omega) (by omega)).mpr h)
                  refine lv_iconst (v := 0) hx hb dX12_isLeft_91 (by decide) ?_
                  have hP := hP.sub (ws' := [(mm, .inr (12, mo g (nI ta) (nI pa) (nI pe) pd (nI pb) pp pf pg pn rt rn (nI cd) sn (nI il) tk am at_ aa mt_ (nI bh) wd wt wy (nI it_) (nI rm) (nI ud) (nI nu) sd (nI qn) (nI qw) qo (nI qb) (nI qp) qa (nI qi) (nI oc))), (g 31, .inl (cI, 120, .inl nw)), (g 38, .inl (cI, 90, .inl ws_)), (g 53, .inl (cI, 32, .inl rw_))]) [2, 3, 0, 1] rfl
                  have hD := hD.sub (ws' := [(mm, .inr (12, mo g (nI ta) (nI pa) (nI pe) pd (nI pb) pp pf pg pn rt rn (nI cd) sn (nI il) tk am at_ aa mt_ (nI bh) wd wt wy (nI it_) (nI rm) (nI ud) (nI nu) sd (nI qn) (nI qw) qo (nI qb) (nI qp) qa (nI qi) (nI oc))), (g 31, .inl (cI, 120, .inl nw)), (g 38, .inl (cI, 90, .inl ws_)), (g 53, .inl (cI, 32, .inl rw_))]) [2, 3, 0, 1] (by decide +kernel) rfl
                  exact sk_iret hx hb hr rfl hlocks hK hP hD hS (⟨0, by omega, rfl, rfl⟩) (Nat.le_of_ble_eq_true rfl) (Nat.le_of_ble_eq_true rfl) dX12_isLeft_92
                · have c_28 : b_24 = 0 := (neq b_24 0 (by omega) (by omega)).mp c_28
                  refine lv_aload_n hx hb dX12_isLeft_67 rfl (lv_at hl 1 rfl) ?_
                  refine sk_get (v := .ref (g 38)) (C := RX12) (T := TX12) (N := 92) hx hb hts inlX12 hown hK hP 2 rfl rfl 38 (by decide) w_5_193 rfl dX12_isLeft_68 ?_
                  refine lv_bipush (v := 10) hx hb dX12_isLeft_71 (by decide) ?_
                  refine lv_iload_n hx hb dX12_isLeft_73 rfl (lv_at hl 2 rfl) ?_
                  refine lv_imul hx hb dX12_isLeft_74 ?_
                  refine sk_top (nI (10 * d)) (nmul 10 d) ?_
                  refine lv_iload_n hx hb dX12_isLeft_75 rfl (lv_at hl 3 rfl) ?_
                  refine lv_iadd hx hb dX12_isLeft_76 ?_
                  refine sk_top (nI (10 * d + o)) (nI_add (10 * d) o) ?_
                  refine va_iald hx hb hK.1 hP 0 0 rfl rfl (vin (10 * d + o) 90 (by omega) (by omega)) dX12_isLeft_77 ?_
                  refine lv_topi (fun v_29 ev_29 => ?_)
                  refine lv_aload_n hx hb dX12_isLeft_78 rfl (lv_at hl 1 rfl) ?_
                  refine sk_get (v := .ref (g 53)) (C := RX12) (T := TX12) (N := 92) hx hb hts inlX12 hown hK hP 2 rfl rfl 53 (by decide) w_5_208 rfl dX12_isLeft_79 ?_
                  refine lv_iconst (v := 2) hx hb dX12_isLeft_82 (by decide) ?_
                  refine lv_iload_n hx hb dX12_isLeft_83 rfl (lv_at hl 0 rfl) ?_
                  refine lv_imul hx hb dX12_isLeft_84 ?_
                  refine sk_top (nI (2 * i)) (nmul 2 i) ?_
                  refine lv_iconst (v := 1) hx hb dX12_isLeft_85 (by decide) ?_
                  refine lv_iadd hx hb dX12_isLeft_86 ?_
                  refine sk_top (nI (2 * i + 1)) (nI_add (2 * i) 1) ?_
                  refine va_iald hx hb hK.1 hP 1 0 rfl rfl (vin (2 * i + 1) 32 (by omega) (by omega)) dX12_isLeft_87 ?_
                  refine lv_topi (fun v_30 ev_30 => ?_)
                  refine lv_icmp_eq (tgt := 93) hx hb dX12_isLeft_88 (by decide) (fun c_31 => ?_) (fun c_31 => ?_)
                  · skip
                    refine lv_iinc (v := nI (i + 1)) (lv' := [(3, .int (nI (i + 1))), (0, .ref mm), (1, .int (nI d)), (2, .int (nI o))]) hx hb dX12_isLeft_93 hl (k := 0) rfl (ninc i 1 (by decide)) (by decide) rfl (fun ls hl => ?_)
                    refine lv_goto (tgt := 39) hx hb dX12_isLeft_96 (by decide) ?_
                    have hP := hP.sub (ws' := [(mm, .inr (12, mo g (nI ta) (nI pa) (nI pe) pd (nI pb) pp pf pg pn rt rn (nI cd) sn (nI il) tk am at_ aa mt_ (nI bh) wd wt wy (nI it_) (nI rm) (nI ud) (nI nu) sd (nI qn) (nI qw) qo (nI qb) (nI qp) qa (nI qi) (nI oc))), (g 31, .inl (cI, 120, .inl nw)), (g 38, .inl (cI, 90, .inl ws_)), (g 53, .inl (cI, 32, .inl rw_))]) [2, 3, 0, 1] rfl
                    have hD := hD.sub (ws' := [(mm, .inr (12, mo g (nI ta) (nI pa) (nI pe) pd (nI pb) pp pf pg pn rt rn (nI cd) sn (nI il) tk am at_ aa mt_ (nI bh) wd wt wy (nI it_) (nI rm) (nI ud) (nI nu) sd (nI qn) (nI qw) qo (nI qb) (nI qp) qa (nI qi) (nI oc))), (g 31, .inl (cI, 120, .inl nw)), (g 38, .inl (cI, 90, .inl ws_)), (g 53, .inl (cI, 32, .inl rw_))]) [2, 3, 0, 1] (by decide +kernel) rfl
                    exact ih_lp_19 (i + 1) _ _ _ (by omega) (by omega) hP hD hS (lv_sub hl [0, 1, 2, 3] rfl)
                  · skip
                    refine lv_iconst (v := 0) hx hb dX12_isLeft_91 (by decide) ?_
                    have hP := hP.sub (ws' := [(mm, .inr (12, mo g (nI ta) (nI pa) (nI pe) pd (nI pb) pp pf pg pn rt rn (nI cd) sn (nI il) tk am at_ aa mt_ (nI bh) wd wt wy (nI it_) (nI rm) (nI ud) (nI nu) sd (nI qn) (nI qw) qo (nI qb) (nI qp) qa (nI qi) (nI oc))), (g 31, .inl (cI, 120, .inl nw)), (g 38, .inl (cI, 90, .inl ws_)), (g 53, .inl (cI, 32, .inl rw_))]) [2, 3, 0, 1] rfl
                    have hD := hD.sub (ws' := [(mm, .inr (12, mo g (nI ta) (nI pa) (nI pe) pd (nI pb) pp pf pg pn rt rn (nI cd) sn (nI il) tk am at_ aa mt_ (nI bh) wd wt wy (nI it_) (nI rm) (nI ud) (nI nu) sd (nI qn) (nI qw) qo (nI qb) (nI qp) qa (nI qi) (nI oc))), (g 31, .inl (cI, 120, .inl nw)), (g 38, .inl (cI, 90, .inl ws_)), (g 53, .inl (cI, 32, .inl rw_))]) [2, 3, 0, 1] (by decide +kernel) rfl
                    exact sk_iret hx hb hr rfl hlocks hK hP hD hS (⟨0, by omega, rfl, rfl⟩) (Nat.le_of_ble_eq_true rfl) (Nat.le_of_ble_eq_true rfl) dX12_isLeft_92
        exact lp_19 (17 - 0 + 1) 0 _ _ _ (Nat.lt_succ_self _) (by omega) hP hD hS (lv_sub hl [0, 1, 2, 3] rfl)
      · have c_18 : bh = 0 := (neq bh 0 (by omega) (by omega)).mp c_18
        refine lv_iconst (v := 1) hx hb dX12_isLeft_35 (by decide) ?_
        exact sk_iret hx hb hr rfl hlocks hK hP hD hS (⟨1, by omega, rfl, rfl⟩) (Nat.le_of_ble_eq_true rfl) (Nat.le_of_ble_eq_true rfl) dX12_isLeft_36
    · skip
      refine lv_iconst (v := 0) hx hb dX12_isLeft_26 (by decide) ?_
      exact sk_iret hx hb hr rfl hlocks hK hP hD hS (⟨0, by omega, rfl, rfl⟩) (Nat.le_of_ble_eq_true rfl) (Nat.le_of_ble_eq_true rfl) dX12_isLeft_27
theorem dX12_canFollow_0 : decode cX12_canFollow 0 = .ok (.bipush 100, 2) := by decide +kernel
theorem dX12_canFollow_2 : decode cX12_canFollow 2 = .ok (.iload_n 1, 1) := by decide +kernel
theorem dX12_canFollow_3 : decode cX12_canFollow 3 = .ok (.imul, 1) := by decide +kernel
theorem dX12_canFollow_4 : decode cX12_canFollow 4 = .ok (.bipush 10, 2) := by decide +kernel
theorem dX12_canFollow_6 : decode cX12_canFollow 6 = .ok (.iload_n 2, 1) := by decide +kernel
theorem dX12_canFollow_7 : decode cX12_canFollow 7 = .ok (.imul, 1) := by decide +kernel
theorem dX12_canFollow_8 : decode cX12_canFollow 8 = .ok (.iadd, 1) := by decide +kernel
theorem dX12_canFollow_9 : decode cX12_canFollow 9 = .ok (.iload_n 3, 1) := by decide +kernel
theorem dX12_canFollow_10 : decode cX12_canFollow 10 = .ok (.iadd, 1) := by decide +kernel
theorem dX12_canFollow_11 : decode cX12_canFollow 11 = .ok (.istore 4, 2) := by decide +kernel
theorem dX12_canFollow_13 : decode cX12_canFollow 13 = .ok (.aload_n 0, 1) := by decide +kernel
theorem dX12_canFollow_14 : decode cX12_canFollow 14 = .ok (.iload_n 1, 1) := by decide +kernel
theorem dX12_canFollow_15 : decode cX12_canFollow 15 = .ok (.invokevirtual 371, 3) := by decide +kernel
theorem dX12_canFollow_18 : decode cX12_canFollow 18 = .ok (.ifCond .eq 16, 3) := by decide +kernel
theorem dX12_canFollow_34 : decode cX12_canFollow 34 = .ok (.aload_n 0, 1) := by decide +kernel
theorem dX12_canFollow_35 : decode cX12_canFollow 35 = .ok (.getfield 69, 3) := by decide +kernel
theorem dX12_canFollow_38 : decode cX12_canFollow 38 = .ok (.iload 4, 2) := by decide +kernel
theorem dX12_canFollow_40 : decode cX12_canFollow 40 = .ok (.baload, 1) := by decide +kernel
theorem dX12_canFollow_41 : decode cX12_canFollow 41 = .ok (.ifCond .eq 16, 3) := by decide +kernel
theorem dX12_canFollow_57 : decode cX12_canFollow 57 = .ok (.iconst 0, 1) := by decide +kernel
theorem dX12_canFollow_58 : decode cX12_canFollow 58 = .ok (.ireturn, 1) := by decide +kernel
theorem dX12_canFollow_44 : decode cX12_canFollow 44 = .ok (.aload_n 0, 1) := by decide +kernel
theorem dX12_canFollow_45 : decode cX12_canFollow 45 = .ok (.iload_n 1, 1) := by decide +kernel
theorem dX12_canFollow_46 : decode cX12_canFollow 46 = .ok (.iload_n 3, 1) := by decide +kernel
theorem dX12_canFollow_47 : decode cX12_canFollow 47 = .ok (.invokevirtual 374, 3) := by decide +kernel
theorem dX12_canFollow_50 : decode cX12_canFollow 50 = .ok (.ifCond .eq 7, 3) := by decide +kernel
theorem dX12_canFollow_53 : decode cX12_canFollow 53 = .ok (.iconst 1, 1) := by decide +kernel
theorem dX12_canFollow_54 : decode cX12_canFollow 54 = .ok (.goto 4, 3) := by decide +kernel
theorem dX12_canFollow_21 : decode cX12_canFollow 21 = .ok (.aload_n 0, 1) := by decide +kernel
theorem dX12_canFollow_22 : decode cX12_canFollow 22 = .ok (.getfield 73, 3) := by decide +kernel
theorem dX12_canFollow_25 : decode cX12_canFollow 25 = .ok (.iload 4, 2) := by decide +kernel
theorem dX12_canFollow_27 : decode cX12_canFollow 27 = .ok (.baload, 1) := by decide +kernel
theorem dX12_canFollow_28 : decode cX12_canFollow 28 = .ok (.ifCond .eq 29, 3) := by decide +kernel
theorem dX12_canFollow_31 : decode cX12_canFollow 31 = .ok (.goto 13, 3) := by decide +kernel
theorem w_7_205 : (Cond.methodLink RX12 371 yX12_isMuteNow) ∈ wsL_law := sk_mem (ck_7 _ (List.mem_of_getElem? (i := 205) rfl)) rfl
theorem w_7_207 : (Cond.instanceMethod yX12_isMuteNow) ∈ wsL_law := sk_mem (ck_7 _ (List.mem_of_getElem? (i := 207) rfl)) rfl
theorem w_0_86 : (Cond.selects RX12 yX12_isMuteNow yX12_isMuteNow) ∈ wsL_law := sk_mem (ck_0 _ (List.mem_of_getElem? (i := 86) rfl)) rfl
theorem w_7_209 : (Cond.methodLink RX12 374 yX12_isLeft) ∈ wsL_law := sk_mem (ck_7 _ (List.mem_of_getElem? (i := 209) rfl)) rfl
theorem w_7_211 : (Cond.instanceMethod yX12_isLeft) ∈ wsL_law := sk_mem (ck_7 _ (List.mem_of_getElem? (i := 211) rfl)) rfl
theorem w_0_87 : (Cond.selects RX12 yX12_isLeft yX12_isLeft) ∈ wsL_law := sk_mem (ck_0 _ (List.mem_of_getElem? (i := 87) rfl)) rfl
theorem w_7_204 : (Cond.code yX12_canFollow cX12_canFollow 5 (some .boolean)) ∈ wsL_law := sk_mem (ck_7 _ (List.mem_of_getElem? (i := 204) rfl)) rfl
set_option maxHeartbeats 4000000 in
set_option maxRecDepth 100000 in
theorem c_m_canFollowS (l : Launch) (D : va_G) (cI cJ cC cZ cS : ClassId) (mm : Nat) (g : Nat → Nat) (ta : Nat) (pa : Nat) (pe : Nat) (pd : Int32) (pb : Nat) (pp : Int32) (pf : Int32) (pg : Int32) (pn : Int32) (rt : Int32) (rn : Int32) (cd : Nat) (sn : Int32) (il : Nat) (tk : Int32) (am : Int32) (at_ : Int32) (aa : Int32) (mt_ : Int32) (bh : Nat) (wd : Int32) (wt : Int32) (wy : Int64) (it_ : Nat) (rm : Nat) (ud : Nat) (nu : Nat) (sd : Int64) (qn : Nat) (qw : Nat) (qo : Int32) (qb : Nat) (qp : Nat) (qa : Int64) (qi : Nat) (oc : Nat) (d : Nat) (aa_ : Nat) (o : Nat) (nw : Nat → Int32) (ws_ : Nat → Int32) (rw_ : Nat → Int32) (yo : Nat → Int32) (yw : Nat → Int32) (hd : d < 9) (ho : o < 10) (ha_ : aa_ < 10) (hrm : rm ≤ 16) (hbh : bh ≤ 1) (hnw : nowOk nw) : skM l yX12_canFollow cX12_canFollow 5 (some .boolean) 2 44 0 0 D (skT cI cJ cC cZ cS) [.ref mm, .int (nI d), .int (nI aa_), .int (nI o)] [(mm, .inr (12, mo g (nI ta) (nI pa) (nI pe) pd (nI pb) pp pf pg pn rt rn (nI cd) sn (nI il) tk am at_ aa mt_ (nI bh) wd wt wy (nI it_) (nI rm) (nI ud) (nI nu) sd (nI qn) (nI qw) qo (nI qb) (nI qp) qa (nI qi) (nI oc))), (g 31, .inl (cI, 120, .inl nw)), (g 38, .inl (cI, 90, .inl ws_)), (g 53, .inl (cI, 32, .inl rw_)), (g 37, .inl (cZ, 900, .inl yo)), (g 36, .inl (cZ, 900, .inl yw))] (skI D (skT cI cJ cC cZ cS) (fun (r : Int32) (u : va_W) => ∃ (b : Nat), b ≤ 1 ∧ r = nI b ∧ u = [(mm, .inr (12, mo g (nI ta) (nI pa) (nI pe) pd (nI pb) pp pf pg pn rt rn (nI cd) sn (nI il) tk am at_ aa mt_ (nI bh) wd wt wy (nI it_) (nI rm) (nI ud) (nI nu) sd (nI qn) (nI qw) qo (nI qb) (nI qp) qa (nI qi) (nI oc))), (g 31, .inl (cI, 120, .inl nw)), (g 38, .inl (cI, 90, .inl ws_)), (g 53, .inl (cI, 32, .inl rw_)), (g 37, .inl (cZ, 900, .inl yo)), (g 36, .inl (cZ, 900, .inl yw))])) := by
  refine skM_of (by decide +kernel) (Nat.le_of_ble_eq_true rfl) ?_
  intro p e s m below meth c A ls E hP hD hl
  obtain ⟨hx, hb, hr, hml, hlocks, hin, hown, hts, hK, hA⟩ := E
  have hown : s.vm.findClass RX12 = some m.cls := hown
  have hS : va_S A s.heap s.heap [] := va_S.rf
  have hl : lv_has ls 5 [(0, .ref mm), (1, .int (nI d)), (2, .int (nI aa_)), (3, .int (nI o))] := hl
  refine lv_bipush (v := 100) hx hb dX12_canFollow_0 (by decide) ?_
  refine lv_iload_n hx hb dX12_canFollow_2 rfl (lv_at hl 1 rfl) ?_
  refine lv_imul hx hb dX12_canFollow_3 ?_
  refine sk_top (nI (100 * d)) (nmul 100 d) ?_
  refine lv_bipush (v := 10) hx hb dX12_canFollow_4 (by decide) ?_
  refine lv_iload_n hx hb dX12_canFollow_6 rfl (lv_at hl 2 rfl) ?_
  refine lv_imul hx hb dX12_canFollow_7 ?_
  refine sk_top (nI (10 * aa_)) (nmul 10 aa_) ?_
  refine lv_iadd hx hb dX12_canFollow_8 ?_
  refine sk_top (nI (100 * d + (10 * aa_))) (nI_add (100 * d) (10 * aa_)) ?_
  refine lv_iload_n hx hb dX12_canFollow_9 rfl (lv_at hl 3 rfl) ?_
  refine lv_iadd hx hb dX12_canFollow_10 ?_
  refine sk_top (nI (100 * d + (10 * aa_) + o)) (nI_add (100 * d + (10 * aa_)) o) ?_
  refine lv_istore (lv' := [(4, .int (nI (100 * d + (10 * aa_) + o))), (0, .ref mm), (1, .int (nI d)), (2, .int (nI aa_)), (3, .int (nI o))]) hx hb dX12_canFollow_11 hl (by decide) rfl (fun ls hl => ?_)
  refine lv_aload_n hx hb dX12_canFollow_13 rfl (lv_at hl 1 rfl) ?_
  refine lv_iload_n hx hb dX12_canFollow_14 rfl (lv_at hl 2 rfl) ?_
  refine sk_Vi (q0 := 0) (n := 1) (rest := []) (wr := [(g 38, .inl (cI, 90, .inl ws_)), (g 53, .inl (cI, 32, .inl rw_)), (g 37, .inl (cZ, 900, .inl yo)), (g 36, .inl (cZ, 900, .inl yw))]) ⟨hx, hb, hml, hown, hts⟩ hl.1 (c_m_isMuteNow l D cI cJ cC cZ cS mm g ta pa pe pd pb pp pf pg pn rt rn cd sn il tk am at_ aa mt_ bh wd wt wy it_ rm ud nu sd qn qw qo qb qp qa qi oc d nw (by omega) hnw) w_7_205 w_7_207 w_0_86 w_1_14 w_7_208 (by decide +kernel) ⟨⟨(Nat.le_of_ble_eq_true rfl), (Nat.le_of_ble_eq_true rfl)⟩, (Nat.le_of_ble_eq_true rfl), (Nat.le_of_ble_eq_true rfl)⟩ hK hP hD hS hA [0, 1] [2, 3, 4, 5] rfl rfl (by decide +kernel) (by decide +kernel) (by decide +kernel) rfl rfl rfl rfl (Nat.le_of_ble_eq_true rfl) dX12_canFollow_15 (fun r_2 u H locs hw hP hD hS => ?_)
  obtain ⟨b_1, hb1_3, hb2_4, rfl, rfl⟩ := hw
  have hP : va_P D vwCl [(g 38, .inl (cI, 90, .inl ws_)), (g 53, .inl (cI, 32, .inl rw_)), (g 37, .inl (cZ, 900, .inl yo)), (g 36, .inl (cZ, 900, .inl yw)), (mm, .inr (12, mo g (nI ta) (nI pa) (nI pe) pd (nI pb) pp pf pg pn rt rn (nI cd) sn (nI il) tk am at_ aa mt_ (nI bh) wd wt wy (nI it_) (nI rm) (nI ud) (nI nu) sd (nI qn) (nI qw) qo (nI qb) (nI qp) qa (nI qi) (nI oc))), (g 31, .inl (cI, 120, .inl nw))] H := hP
  have hD : va_D A [(g 38, .inl (cI, 90, .inl ws_)), (g 53, .inl (cI, 32, .inl rw_)), (g 37, .inl (cZ, 900, .inl yo)), (g 36, .inl (cZ, 900, .inl yw)), (mm, .inr (12, mo g (nI ta) (nI pa) (nI pe) pd (nI pb) pp pf pg pn rt rn (nI cd) sn (nI il) tk am at_ aa mt_ (nI bh) wd wt wy (nI it_) (nI rm) (nI ud) (nI nu) sd (nI qn) (nI qw) qo (nI qb) (nI qp) qa (nI qi) (nI oc))), (g 31, .inl (cI, 120, .inl nw))] := hD
  refine lv_if_eq (tgt := 34) hx hb dX12_canFollow_18 (by decide) (fun c_5 => ?_) (fun c_5 => ?_)
  · have c_5 : b_1 = 0 := (neq b_1 0 (by omega) (by omega)).mp c_5
    refine lv_aload_n hx hb dX12_canFollow_34 rfl (lv_at hl 1 rfl) ?_
    refine sk_get (v := .ref (g 36)) (C := RX12) (T := TX12) (N := 92) hx hb hts inlX12 hown hK hP 4 rfl rfl 36 (by decide) w_5_191 rfl dX12_canFollow_35 ?_
    refine lv_iload hx hb dX12_canFollow_38 (lv_at hl 0 rfl) ?_
    refine va_zald hx hb hK.1 hP 3 3 rfl rfl (vin (100 * d + (10 * aa_) + o) 900 (by omega) (by omega)) dX12_canFollow_40 ?_
    refine lv_topi (fun v_6 ev_6 => ?_)
    refine lv_if_eq (tgt := 57) hx hb dX12_canFollow_41 (by decide) (fun c_7 => ?_) (fun c_7 => ?_)
    · skip
      refine lv_iconst (v := 0) hx hb dX12_canFollow_57 (by decide) ?_
      have hP := hP.sub (ws' := [(mm, .inr (12, mo g (nI ta) (nI pa) (nI pe) pd (nI pb) pp pf pg pn rt rn (nI cd) sn (nI il) tk am at_ aa mt_ (nI bh) wd wt wy (nI it_) (nI rm) (nI ud) (nI nu) sd (nI qn) (nI qw) qo (nI qb) (nI qp) qa (nI qi) (nI oc))), (g 31, .inl (cI, 120, .inl nw)), (g 38, .inl (cI, 90, .inl ws_)), (g 53, .inl (cI, 32, .inl rw_)), (g 37, .inl (cZ, 900, .inl yo)), (g 36, .inl (cZ, 900, .inl yw))]) [4, 5, 0, 1, 2, 3] rfl
      have hD := hD.sub (ws' := [(mm, .inr (12, mo g (nI ta) (nI pa) (nI pe) pd (nI pb) pp pf pg pn rt rn (nI cd) sn (nI il) tk am at_ aa mt_ (nI bh) wd wt wy (nI it_) (nI rm) (nI ud) (nI nu) sd (nI qn) (nI qw) qo (nI qb) (nI qp) qa (nI qi) (nI oc))), (g 31, .inl (cI, 120, .inl nw)), (g 38, .inl (cI, 90, .inl ws_)), (g 53, .inl (cI, 32, .inl rw_)), (g 37, .inl (cZ, 900, .inl yo)), (g 36, .inl (cZ, 900, .inl yw))]) [4, 5, 0, 1, 2, 3] (by decide +kernel) rfl
      exact sk_iret hx hb hr rfl hlocks hK hP hD hS (⟨0, by omega, rfl, rfl⟩) (Nat.le_of_ble_eq_true rfl) (Nat.le_of_ble_eq_true rfl) dX12_canFollow_58
    · skip
      refine lv_aload_n hx hb dX12_canFollow_44 rfl (lv_at hl 1 rfl) ?_
      refine lv_iload_n hx hb dX12_canFollow_45 rfl (lv_at hl 2 rfl) ?_
      refine lv_iload_n hx hb dX12_canFollow_46 rfl (lv_at hl 4 rfl) ?_
      refine sk_Vi (q0 := 0) (n := 2) (rest := []) (wr := [(g 37, .inl (cZ, 900, .inl yo)), (g 36, .inl (cZ, 900, .inl yw))]) ⟨hx, hb, hml, hown, hts⟩ hl.1 (c_m_isLeft l D cI cJ cC cZ cS mm g ta pa pe pd pb pp pf pg pn rt rn cd sn il tk am at_ aa mt_ bh wd wt wy it_ rm ud nu sd qn qw qo qb qp qa qi oc d o nw ws_ rw_ (by omega) (by omega) (by omega) (by omega) hnw) w_7_209 w_7_211 w_0_87 w_1_14 w_7_212 (by decide +kernel) ⟨⟨(Nat.le_of_ble_eq_true rfl), (Nat.le_of_ble_eq_true rfl)⟩, (Nat.le_of_ble_eq_true rfl), (Nat.le_of_ble_eq_true rfl)⟩ hK hP hD hS hA [4, 5, 0, 1] [2, 3] rfl rfl (by decide +kernel) (by decide +kernel) (by decide +kernel) rfl rfl rfl rfl (Nat.le_of_ble_eq_true rfl) dX12_canFollow_47 (fun r_9 u H locs hw hP hD hS => ?_)
      obtain ⟨b_8, hb1_10, rfl, rfl⟩ := hw
      have hP : va_P D vwCl [(g 37, .inl (cZ, 900, .inl yo)), (g 36, .inl (cZ, 900, .inl yw)), (mm, .inr (12, mo g (nI ta) (nI pa) (nI pe) pd (nI pb) pp pf pg pn rt rn (nI cd) sn (nI il) tk am at_ aa mt_ (nI bh) wd wt wy (nI it_) (nI rm) (nI ud) (nI nu) sd (nI qn) (nI qw) qo (nI qb) (nI qp) qa (nI qi) (nI oc))), (g 31, .inl (cI, 120, .inl nw)), (g 38, .inl (cI, 90, .inl ws_)), (g 53, .inl (cI, 32, .inl rw_))] H := hP
      have hD : va_D A [(g 37, .inl (cZ, 900, .inl yo)), (g 36, .inl (cZ, 900, .inl yw)), (mm, .inr (12, mo g (nI ta) (nI pa) (nI pe) pd (nI pb) pp pf pg pn rt rn (nI cd) sn (nI il) tk am at_ aa mt_ (nI bh) wd wt wy (nI it_) (nI rm) (nI ud) (nI nu) sd (nI qn) (nI qw) qo (nI qb) (nI qp) qa (nI qi) (nI oc))), (g 31, .inl (cI, 120, .inl nw)), (g 38, .inl (cI, 90, .inl ws_)), (g 53, .inl (cI, 32, .inl rw_))] := hD
      refine lv_if_eq (tgt := 57) hx hb dX12_canFollow_50 (by decide) (fun c_11 => ?_) (fun c_11 => ?_)
      · have c_11 : b_8 = 0 := (neq b_8 0 (by omega) (by omega)).mp c_11
        refine lv_iconst (v := 0) hx hb dX12_canFollow_57 (by decide) ?_
        have hP := hP.sub (ws' := [(mm, .inr (12, mo g (nI ta) (nI pa) (nI pe) pd (nI pb) pp pf pg pn rt rn (nI cd) sn (nI il) tk am at_ aa mt_ (nI bh) wd wt wy (nI it_) (nI rm) (nI ud) (nI nu) sd (nI qn) (nI qw) qo (nI qb) (nI qp) qa (nI qi) (nI oc))), (g 31, .inl (cI, 120, .inl nw)), (g 38, .inl (cI, 90, .inl ws_)), (g 53, .inl (cI, 32, .inl rw_)), (g 37, .inl (cZ, 900, .inl yo)), (g 36, .inl (cZ, 900, .inl yw))]) [2, 3, 4, 5, 0, 1] rfl
        have hD := hD.sub (ws' := [(mm, .inr (12, mo g (nI ta) (nI pa) (nI pe) pd (nI pb) pp pf pg pn rt rn (nI cd) sn (nI il) tk am at_ aa mt_ (nI bh) wd wt wy (nI it_) (nI rm) (nI ud) (nI nu) sd (nI qn) (nI qw) qo (nI qb) (nI qp) qa (nI qi) (nI oc))), (g 31, .inl (cI, 120, .inl nw)), (g 38, .inl (cI, 90, .inl ws_)), (g 53, .inl (cI, 32, .inl rw_)), (g 37, .inl (cZ, 900, .inl yo)), (g 36, .inl (cZ, 900, .inl yw))]) [2, 3, 4, 5, 0, 1] (by decide +kernel) rfl
        exact sk_iret hx hb hr rfl hlocks hK hP hD hS (⟨0, by omega, rfl, rfl⟩) (Nat.le_of_ble_eq_true rfl) (Nat.le_of_ble_eq_true rfl) dX12_canFollow_58
      · have c_11 : ¬ (b_8 = 0) := fun h => c_11 ((neq b_8 0 (by omega) (by omega)).mpr h)
        refine lv_iconst (v := 1) hx hb dX12_canFollow_53 (by decide) ?_
        refine lv_goto (tgt := 58) hx hb dX12_canFollow_54 (by decide) ?_
        have hP := hP.sub (ws' := [(mm, .inr (12, mo g (nI ta) (nI pa) (nI pe) pd (nI pb) pp pf pg pn rt rn (nI cd) sn (nI il) tk am at_ aa mt_ (nI bh) wd wt wy (nI it_) (nI rm) (nI ud) (nI nu) sd (nI qn) (nI qw) qo (nI qb) (nI qp) qa (nI qi) (nI oc))), (g 31, .inl (cI, 120, .inl nw)), (g 38, .inl (cI, 90, .inl ws_)), (g 53, .inl (cI, 32, .inl rw_)), (g 37, .inl (cZ, 900, .inl yo)), (g 36, .inl (cZ, 900, .inl yw))]) [2, 3, 4, 5, 0, 1] rfl
        have hD := hD.sub (ws' := [(mm, .inr (12, mo g (nI ta) (nI pa) (nI pe) pd (nI pb) pp pf pg pn rt rn (nI cd) sn (nI il) tk am at_ aa mt_ (nI bh) wd wt wy (nI it_) (nI rm) (nI ud) (nI nu) sd (nI qn) (nI qw) qo (nI qb) (nI qp) qa (nI qi) (nI oc))), (g 31, .inl (cI, 120, .inl nw)), (g 38, .inl (cI, 90, .inl ws_)), (g 53, .inl (cI, 32, .inl rw_)), (g 37, .inl (cZ, 900, .inl yo)), (g 36, .inl (cZ, 900, .inl yw))]) [2, 3, 4, 5, 0, 1] (by decide +kernel) rfl
        exact sk_iret hx hb hr rfl hlocks hK hP hD hS (⟨1, by omega, rfl, rfl⟩) (Nat.le_of_ble_eq_true rfl) (Nat.le_of_ble_eq_true rfl) dX12_canFollow_58
  · have c_5 : ¬ (b_1 = 0) := fun h => c_5 ((neq b_1 0 (by omega) (by omega)).mpr h)
    refine lv_aload_n hx hb dX12_canFollow_21 rfl (lv_at hl 1 rfl) ?_
    refine sk_get (v := .ref (g 37)) (C := RX12) (T := TX12) (N := 92) hx hb hts inlX12 hown hK hP 4 rfl rfl 37 (by decide) w_5_192 rfl dX12_canFollow_22 ?_
    refine lv_iload hx hb dX12_canFollow_25 (lv_at hl 0 rfl) ?_
    refine va_zald hx hb hK.1 hP 2 3 rfl rfl (vin (100 * d + (10 * aa_) + o) 900 (by omega) (by omega)) dX12_canFollow_27 ?_
    refine lv_topi (fun v_12 ev_12 => ?_)
    refine lv_if_eq (tgt := 57) hx hb dX12_canFollow_28 (by decide) (fun c_13 => ?_) (fun c_13 => ?_)
    · skip
      refine lv_iconst (v := 0) hx hb dX12_canFollow_57 (by decide) ?_
      have hP := hP.sub (ws' := [(mm, .inr (12, mo g (nI ta) (nI pa) (nI pe) pd (nI pb) pp pf pg pn rt rn (nI cd) sn (nI il) tk am at_ aa mt_ (nI bh) wd wt wy (nI it_) (nI rm) (nI ud) (nI nu) sd (nI qn) (nI qw) qo (nI qb) (nI qp) qa (nI qi) (nI oc))), (g 31, .inl (cI, 120, .inl nw)), (g 38, .inl (cI, 90, .inl ws_)), (g 53, .inl (cI, 32, .inl rw_)), (g 37, .inl (cZ, 900, .inl yo)), (g 36, .inl (cZ, 900, .inl yw))]) [4, 5, 0, 1, 2, 3] rfl
      have hD := hD.sub (ws' := [(mm, .inr (12, mo g (nI ta) (nI pa) (nI pe) pd (nI pb) pp pf pg pn rt rn (nI cd) sn (nI il) tk am at_ aa mt_ (nI bh) wd wt wy (nI it_) (nI rm) (nI ud) (nI nu) sd (nI qn) (nI qw) qo (nI qb) (nI qp) qa (nI qi) (nI oc))), (g 31, .inl (cI, 120, .inl nw)), (g 38, .inl (cI, 90, .inl ws_)), (g 53, .inl (cI, 32, .inl rw_)), (g 37, .inl (cZ, 900, .inl yo)), (g 36, .inl (cZ, 900, .inl yw))]) [4, 5, 0, 1, 2, 3] (by decide +kernel) rfl
      exact sk_iret hx hb hr rfl hlocks hK hP hD hS (⟨0, by omega, rfl, rfl⟩) (Nat.le_of_ble_eq_true rfl) (Nat.le_of_ble_eq_true rfl) dX12_canFollow_58
    · skip
      refine lv_goto (tgt := 44) hx hb dX12_canFollow_31 (by decide) ?_
      refine lv_aload_n hx hb dX12_canFollow_44 rfl (lv_at hl 1 rfl) ?_
      refine lv_iload_n hx hb dX12_canFollow_45 rfl (lv_at hl 2 rfl) ?_
      refine lv_iload_n hx hb dX12_canFollow_46 rfl (lv_at hl 4 rfl) ?_
      refine sk_Vi (q0 := 0) (n := 2) (rest := []) (wr := [(g 37, .inl (cZ, 900, .inl yo)), (g 36, .inl (cZ, 900, .inl yw))]) ⟨hx, hb, hml, hown, hts⟩ hl.1 (c_m_isLeft l D cI cJ cC cZ cS mm g ta pa pe pd pb pp pf pg pn rt rn cd sn il tk am at_ aa mt_ bh wd wt wy it_ rm ud nu sd qn qw qo qb qp qa qi oc d o nw ws_ rw_ (by omega) (by omega) (by omega) (by omega) hnw) w_7_209 w_7_211 w_0_87 w_1_14 w_7_212 (by decide +kernel) ⟨⟨(Nat.le_of_ble_eq_true rfl), (Nat.le_of_ble_eq_true rfl)⟩, (Nat.le_of_ble_eq_true rfl), (Nat.le_of_ble_eq_true rfl)⟩ hK hP hD hS hA [4, 5, 0, 1] [2, 3] rfl rfl (by decide +kernel) (by decide +kernel) (by decide +kernel) rfl rfl rfl rfl (Nat.le_of_ble_eq_true rfl) dX12_canFollow_47 (fun r_15 u H locs hw hP hD hS => ?_)
      obtain ⟨b_14, hb1_16, rfl, rfl⟩ := hw
      have hP : va_P D vwCl [(g 37, .inl (cZ, 900, .inl yo)), (g 36, .inl (cZ, 900, .inl yw)), (mm, .inr (12, mo g (nI ta) (nI pa) (nI pe) pd (nI pb) pp pf pg pn rt rn (nI cd) sn (nI il) tk am at_ aa mt_ (nI bh) wd wt wy (nI it_) (nI rm) (nI ud) (nI nu) sd (nI qn) (nI qw) qo (nI qb) (nI qp) qa (nI qi) (nI oc))), (g 31, .inl (cI, 120, .inl nw)), (g 38, .inl (cI, 90, .inl ws_)), (g 53, .inl (cI, 32, .inl rw_))] H := hP
      have hD : va_D A [(g 37, .inl (cZ, 900, .inl yo)), (g 36, .inl (cZ, 900, .inl yw)), (mm, .inr (12, mo g (nI ta) (nI pa) (nI pe) pd (nI pb) pp pf pg pn rt rn (nI cd) sn (nI il) tk am at_ aa mt_ (nI bh) wd wt wy (nI it_) (nI rm) (nI ud) (nI nu) sd (nI qn) (nI qw) qo (nI qb) (nI qp) qa (nI qi) (nI oc))), (g 31, .inl (cI, 120, .inl nw)), (g 38, .inl (cI, 90, .inl ws_)), (g 53, .inl (cI, 32, .inl rw_))] := hD
      refine lv_if_eq (tgt := 57) hx hb dX12_canFollow_50 (by decide) (fun c_17 => ?_) (fun c_17 => ?_)
      · have c_17 : b_14 = 0 := (neq b_14 0 (by omega) (by omega)).mp c_17
        refine lv_iconst (v := 0) hx hb dX12_canFollow_57 (by decide) ?_
        have hP := hP.sub (ws' := [(mm, .inr (12, mo g (nI ta) (nI pa) (nI pe) pd (nI pb) pp pf pg pn rt rn (nI cd) sn (nI il) tk am at_ aa mt_ (nI bh) wd wt wy (nI it_) (nI rm) (nI ud) (nI nu) sd (nI qn) (nI qw) qo (nI qb) (nI qp) qa (nI qi) (nI oc))), (g 31, .inl (cI, 120, .inl nw)), (g 38, .inl (cI, 90, .inl ws_)), (g 53, .inl (cI, 32, .inl rw_)), (g 37, .inl (cZ, 900, .inl yo)), (g 36, .inl (cZ, 900, .inl yw))]) [2, 3, 4, 5, 0, 1] rfl
        have hD := hD.sub (ws' := [(mm, .inr (12, mo g (nI ta) (nI pa) (nI pe) pd (nI pb) pp pf pg pn rt rn (nI cd) sn (nI il) tk am at_ aa mt_ (nI bh) wd wt wy (nI it_) (nI rm) (nI ud) (nI nu) sd (nI qn) (nI qw) qo (nI qb) (nI qp) qa (nI qi) (nI oc))), (g 31, .inl (cI, 120, .inl nw)), (g 38, .inl (cI, 90, .inl ws_)), (g 53, .inl (cI, 32, .inl rw_)), (g 37, .inl (cZ, 900, .inl yo)), (g 36, .inl (cZ, 900, .inl yw))]) [2, 3, 4, 5, 0, 1] (by decide +kernel) rfl
        exact sk_iret hx hb hr rfl hlocks hK hP hD hS (⟨0, by omega, rfl, rfl⟩) (Nat.le_of_ble_eq_true rfl) (Nat.le_of_ble_eq_true rfl) dX12_canFollow_58
      · have c_17 : ¬ (b_14 = 0) := fun h => c_17 ((neq b_14 0 (by omega) (by omega)).mpr h)
        refine lv_iconst (v := 1) hx hb dX12_canFollow_53 (by decide) ?_
        refine lv_goto (tgt := 58) hx hb dX12_canFollow_54 (by decide) ?_
        have hP := hP.sub (ws' := [(mm, .inr (12, mo g (nI ta) (nI pa) (nI pe) pd (nI pb) pp pf pg pn rt rn (nI cd) sn (nI il) tk am at_ aa mt_ (nI bh) wd wt wy (nI it_) (nI rm) (nI ud) (nI nu) sd (nI qn) (nI qw) qo (nI qb) (nI qp) qa (nI qi) (nI oc))), (g 31, .inl (cI, 120, .inl nw)), (g 38, .inl (cI, 90, .inl ws_)), (g 53, .inl (cI, 32, .inl rw_)), (g 37, .inl (cZ, 900, .inl yo)), (g 36, .inl (cZ, 900, .inl yw))]) [2, 3, 4, 5, 0, 1] rfl
        have hD := hD.sub (ws' := [(mm, .inr (12, mo g (nI ta) (nI pa) (nI pe) pd (nI pb) pp pf pg pn rt rn (nI cd) sn (nI il) tk am at_ aa mt_ (nI bh) wd wt wy (nI it_) (nI rm) (nI ud) (nI nu) sd (nI qn) (nI qw) qo (nI qb) (nI qp) qa (nI qi) (nI oc))), (g 31, .inl (cI, 120, .inl nw)), (g 38, .inl (cI, 90, .inl ws_)), (g 53, .inl (cI, 32, .inl rw_)), (g 37, .inl (cZ, 900, .inl yo)), (g 36, .inl (cZ, 900, .inl yw))]) [2, 3, 4, 5, 0, 1] (by decide +kernel) rfl
        exact sk_iret hx hb hr rfl hlocks hK hP hD hS (⟨1, by omega, rfl, rfl⟩) (Nat.le_of_ble_eq_true rfl) (Nat.le_of_ble_eq_true rfl) dX12_canFollow_58
set_option maxHeartbeats 4000000 in
set_option maxRecDepth 100000 in
theorem c_m_isLeft0 (l : Launch) (D : va_G) (cI cJ cC cZ cS : ClassId) (mm : Nat) (g : Nat → Nat) (ta : Nat) (pa : Nat) (pe : Nat) (pd : Int32) (pb : Nat) (pp : Int32) (pf : Int32) (pg : Int32) (pn : Int32) (rt : Int32) (rn : Int32) (cd : Nat) (sn : Int32) (il : Nat) (tk : Int32) (am : Int32) (at_ : Int32) (aa : Int32) (mt_ : Int32) (wt : Int32) (wy : Int64) (it_ : Nat) (rm : Nat) (ud : Nat) (nu : Nat) (sd : Int64) (qn : Nat) (qw : Nat) (qo : Int32) (qb : Nat) (qp : Nat) (qa : Int64) (qi : Nat) (oc : Nat) (d : Nat) (o : Nat) (hd : d < 9) (ho : o < 10) : skM l yX12_isLeft cX12_isLeft 4 (some .boolean) 0 0 0 0 D (skT cI cJ cC cZ cS) [.ref mm, .int (nI d), .int (nI o)] [(mm, .inr (12, mo g (nI ta) (nI pa) (nI pe) pd (nI pb) pp pf pg pn rt rn (nI cd) sn (nI il) tk am at_ aa mt_ 0 (-1) wt wy (nI it_) (nI rm) (nI ud) (nI nu) sd (nI qn) (nI qw) qo (nI qb) (nI qp) qa (nI qi) (nI oc)))] (skI D (skT cI cJ cC cZ cS) (fun (r : Int32) (u : va_W) => r = 1 ∧ u = [(mm, .inr (12, mo g (nI ta) (nI pa) (nI pe) pd (nI pb) pp pf pg pn rt rn (nI cd) sn (nI il) tk am at_ aa mt_ 0 (-1) wt wy (nI it_) (nI rm) (nI ud) (nI nu) sd (nI qn) (nI qw) qo (nI qb) (nI qp) qa (nI qi) (nI oc)))])) := by
  refine skM_of (by decide +kernel) (Nat.le_of_ble_eq_true rfl) ?_
  intro p e s m below meth c A ls E hP hD hl
  obtain ⟨hx, hb, hr, hml, hlocks, hin, hown, hts, hK, hA⟩ := E
  have hown : s.vm.findClass RX12 = some m.cls := hown
  have hS : va_S A s.heap s.heap [] := va_S.rf
  have hl : lv_has ls 4 [(0, .ref mm), (1, .int (nI d)), (2, .int (nI o))] := hl
  refine lv_aload_n hx hb dX12_isLeft_0 rfl (lv_at hl 0 rfl) ?_
  refine sk_get (v := .int (-1)) (C := RX12) (T := TX12) (N := 92) hx hb hts inlX12 hown hK hP 0 rfl rfl 41 (by decide) w_5_196 rfl dX12_isLeft_1 ?_
  refine lv_iload_n hx hb dX12_isLeft_4 rfl (lv_at hl 1 rfl) ?_
  refine lv_icmp_ne (tgt := 28) hx hb dX12_isLeft_5 (by decide) (fun c_1 => ?_) (fun c => absurd ((ieq (show (-1 : Int32).toInt = -1 by decide) (ivn d (by omega))).mp c) (by omega))
  refine lv_aload_n hx hb dX12_isLeft_28 rfl (lv_at hl 0 rfl) ?_
  refine sk_get (v := .int 0) (C := RX12) (T := TX12) (N := 92) hx hb hts inlX12 hown hK hP 0 rfl rfl 40 (by decide) w_5_195 rfl dX12_isLeft_29 ?_
  refine lv_if_ne (tgt := 37) hx hb dX12_isLeft_32 (by decide) (fun c => absurd c (by decide)) (fun c_2 => ?_)
  refine lv_iconst (v := 1) hx hb dX12_isLeft_35 (by decide) ?_
  exact sk_iret hx hb hr rfl hlocks hK hP hD hS (⟨rfl, rfl⟩) (Nat.le_of_ble_eq_true rfl) (Nat.le_of_ble_eq_true rfl) dX12_isLeft_36
set_option maxHeartbeats 4000000 in
set_option maxRecDepth 100000 in
theorem c_m_canFollow0 (l : Launch) (D : va_G) (cI cJ cC cZ cS : ClassId) (mm : Nat) (g : Nat → Nat) (ta : Nat) (pa : Nat) (pe : Nat) (pd : Int32) (pb : Nat) (pp : Int32) (pf : Int32) (pg : Int32) (pn : Int32) (rt : Int32) (rn : Int32) (cd : Nat) (sn : Int32) (il : Nat) (tk : Int32) (am : Int32) (at_ : Int32) (aa : Int32) (mt_ : Int32) (wt : Int32) (wy : Int64) (it_ : Nat) (rm : Nat) (ud : Nat) (nu : Nat) (sd : Int64) (qn : Nat) (qw : Nat) (qo : Int32) (qb : Nat) (qp : Nat) (qa : Int64) (qi : Nat) (oc : Nat) (d : Nat) (aa_ : Nat) (o : Nat) (nw : Nat → Int32) (yo : Nat → Int32) (yw : Nat → Int32) (hd : d < 9) (ho : o < 10) (ha_ : aa_ < 10) (hnw : nowOk nw) : skM l yX12_canFollow cX12_canFollow 5 (some .boolean) 2 42 0 0 D (skT cI cJ cC cZ cS) [.ref mm, .int (nI d), .int (nI aa_), .int (nI o)] [(mm, .inr (12, mo g (nI ta) (nI pa) (nI pe) pd (nI pb) pp pf pg pn rt rn (nI cd) sn (nI il) tk am at_ aa mt_ 0 (-1) wt wy (nI it_) (nI rm) (nI ud) (nI nu) sd (nI qn) (nI qw) qo (nI qb) (nI qp) qa (nI qi) (nI oc))), (g 31, .inl (cI, 120, .inl nw)), (g 37, .inl (cZ, 900, .inl yo)), (g 36, .inl (cZ, 900, .inl yw))] (skI D (skT cI cJ cC cZ cS) (fun (r : Int32) (u : va_W) => ∃ (b : Nat), ((b = 0 ∧ cfN nw yw yo mt_ d aa_ o = false) ∨ (b = 1 ∧ cfN nw yw yo mt_ d aa_ o = true)) ∧ b ≤ 1 ∧ r = nI b ∧ u = [(mm, .inr (12, mo g (nI ta) (nI pa) (nI pe) pd (nI pb) pp pf pg pn rt rn (nI cd) sn (nI il) tk am at_ aa mt_ 0 (-1) wt wy (nI it_) (nI rm) (nI ud) (nI nu) sd (nI qn) (nI qw) qo (nI qb) (nI qp) qa (nI qi) (nI oc))), (g 31, .inl (cI, 120, .inl nw)), (g 37, .inl (cZ, 900, .inl yo)), (g 36, .inl (cZ, 900, .inl yw))])) := by
  refine skM_of (by decide +kernel) (Nat.le_of_ble_eq_true rfl) ?_
  intro p e s m below meth c A ls E hP hD hl
  obtain ⟨hx, hb, hr, hml, hlocks, hin, hown, hts, hK, hA⟩ := E
  have hown : s.vm.findClass RX12 = some m.cls := hown
  have hS : va_S A s.heap s.heap [] := va_S.rf
  have hl : lv_has ls 5 [(0, .ref mm), (1, .int (nI d)), (2, .int (nI aa_)), (3, .int (nI o))] := hl
  refine lv_bipush (v := 100) hx hb dX12_canFollow_0 (by decide) ?_
  refine lv_iload_n hx hb dX12_canFollow_2 rfl (lv_at hl 1 rfl) ?_
  refine lv_imul hx hb dX12_canFollow_3 ?_
  refine sk_top (nI (100 * d)) (nmul 100 d) ?_
  refine lv_bipush (v := 10) hx hb dX12_canFollow_4 (by decide) ?_
  refine lv_iload_n hx hb dX12_canFollow_6 rfl (lv_at hl 2 rfl) ?_
  refine lv_imul hx hb dX12_canFollow_7 ?_
  refine sk_top (nI (10 * aa_)) (nmul 10 aa_) ?_
  refine lv_iadd hx hb dX12_canFollow_8 ?_
  refine sk_top (nI (100 * d + (10 * aa_))) (nI_add (100 * d) (10 * aa_)) ?_
  refine lv_iload_n hx hb dX12_canFollow_9 rfl (lv_at hl 3 rfl) ?_
  refine lv_iadd hx hb dX12_canFollow_10 ?_
  refine sk_top (nI (100 * d + (10 * aa_) + o)) (nI_add (100 * d + (10 * aa_)) o) ?_
  refine lv_istore (lv' := [(4, .int (nI (100 * d + (10 * aa_) + o))), (0, .ref mm), (1, .int (nI d)), (2, .int (nI aa_)), (3, .int (nI o))]) hx hb dX12_canFollow_11 hl (by decide) rfl (fun ls hl => ?_)
  refine lv_aload_n hx hb dX12_canFollow_13 rfl (lv_at hl 1 rfl) ?_
  refine lv_iload_n hx hb dX12_canFollow_14 rfl (lv_at hl 2 rfl) ?_
  refine sk_Vi (q0 := 0) (n := 1) (rest := []) (wr := [(g 37, .inl (cZ, 900, .inl yo)), (g 36, .inl (cZ, 900, .inl yw))]) ⟨hx, hb, hml, hown, hts⟩ hl.1 (c_m_isMuteNow l D cI cJ cC cZ cS mm g ta pa pe pd pb pp pf pg pn rt rn cd sn il tk am at_ aa mt_ 0 (-1) wt wy it_ rm ud nu sd qn qw qo qb qp qa qi oc d nw (by omega) hnw) w_7_205 w_7_207 w_0_86 w_1_14 w_7_208 (by decide +kernel) ⟨⟨(Nat.le_of_ble_eq_true rfl), (Nat.le_of_ble_eq_true rfl)⟩, (Nat.le_of_ble_eq_true rfl), (Nat.le_of_ble_eq_true rfl)⟩ hK hP hD hS hA [0, 1] [2, 3] rfl rfl (by decide +kernel) (by decide +kernel) (by decide +kernel) rfl rfl rfl rfl (Nat.le_of_ble_eq_true rfl) dX12_canFollow_15 (fun r_2 u H locs hw hP hD hS => ?_)
  obtain ⟨b_1, hb1_3, hb2_4, rfl, rfl⟩ := hw
  have hP : va_P D vwCl [(g 37, .inl (cZ, 900, .inl yo)), (g 36, .inl (cZ, 900, .inl yw)), (mm, .inr (12, mo g (nI ta) (nI pa) (nI pe) pd (nI pb) pp pf pg pn rt rn (nI cd) sn (nI il) tk am at_ aa mt_ 0 (-1) wt wy (nI it_) (nI rm) (nI ud) (nI nu) sd (nI qn) (nI qw) qo (nI qb) (nI qp) qa (nI qi) (nI oc))), (g 31, .inl (cI, 120, .inl nw))] H := hP
  have hD : va_D A [(g 37, .inl (cZ, 900, .inl yo)), (g 36, .inl (cZ, 900, .inl yw)), (mm, .inr (12, mo g (nI ta) (nI pa) (nI pe) pd (nI pb) pp pf pg pn rt rn (nI cd) sn (nI il) tk am at_ aa mt_ 0 (-1) wt wy (nI it_) (nI rm) (nI ud) (nI nu) sd (nI qn) (nI qw) qo (nI qb) (nI qp) qa (nI qi) (nI oc))), (g 31, .inl (cI, 120, .inl nw))] := hD
  refine lv_if_eq (tgt := 34) hx hb dX12_canFollow_18 (by decide) (fun c_5 => ?_) (fun c_5 => ?_)
  · have c_5 : b_1 = 0 := (neq b_1 0 (by omega) (by omega)).mp c_5
    refine lv_aload_n hx hb dX12_canFollow_34 rfl (lv_at hl 1 rfl) ?_
    refine sk_get (v := .ref (g 36)) (C := RX12) (T := TX12) (N := 92) hx hb hts inlX12 hown hK hP 2 rfl rfl 36 (by decide) w_5_191 rfl dX12_canFollow_35 ?_
    refine lv_iload hx hb dX12_canFollow_38 (lv_at hl 0 rfl) ?_
    refine va_zald hx hb hK.1 hP 1 3 rfl rfl (vin (100 * d + (10 * aa_) + o) 900 (by omega) (by omega)) dX12_canFollow_40 ?_
    refine lv_topi (fun v_6 ev_6 => ?_)
    refine lv_if_eq (tgt := 57) hx hb dX12_canFollow_41 (by decide) (fun c_7 => ?_) (fun c_7 => ?_)
    · skip
      refine lv_iconst (v := 0) hx hb dX12_canFollow_57 (by decide) ?_
      have hP := hP.sub (ws' := [(mm, .inr (12, mo g (nI ta) (nI pa) (nI pe) pd (nI pb) pp pf pg pn rt rn (nI cd) sn (nI il) tk am at_ aa mt_ 0 (-1) wt wy (nI it_) (nI rm) (nI ud) (nI nu) sd (nI qn) (nI qw) qo (nI qb) (nI qp) qa (nI qi) (nI oc))), (g 31, .inl (cI, 120, .inl nw)), (g 37, .inl (cZ, 900, .inl yo)), (g 36, .inl (cZ, 900, .inl yw))]) [2, 3, 0, 1] rfl
      have hD := hD.sub (ws' := [(mm, .inr (12, mo g (nI ta) (nI pa) (nI pe) pd (nI pb) pp pf pg pn rt rn (nI cd) sn (nI il) tk am at_ aa mt_ 0 (-1) wt wy (nI it_) (nI rm) (nI ud) (nI nu) sd (nI qn) (nI qw) qo (nI qb) (nI qp) qa (nI qi) (nI oc))), (g 31, .inl (cI, 120, .inl nw)), (g 37, .inl (cZ, 900, .inl yo)), (g 36, .inl (cZ, 900, .inl yw))]) [2, 3, 0, 1] (by decide +kernel) rfl
      exact sk_iret hx hb hr rfl hlocks hK hP hD hS (⟨0, Or.inl ⟨rfl, cf_wf (or_0 hb1_3 (by omega)) ev_6 c_7⟩, by omega, rfl, rfl⟩) (Nat.le_of_ble_eq_true rfl) (Nat.le_of_ble_eq_true rfl) dX12_canFollow_58
    · skip
      refine lv_aload_n hx hb dX12_canFollow_44 rfl (lv_at hl 1 rfl) ?_
      refine lv_iload_n hx hb dX12_canFollow_45 rfl (lv_at hl 2 rfl) ?_
      refine lv_iload_n hx hb dX12_canFollow_46 rfl (lv_at hl 4 rfl) ?_
      refine sk_Vi (q0 := 0) (n := 2) (rest := []) (wr := [(g 37, .inl (cZ, 900, .inl yo)), (g 36, .inl (cZ, 900, .inl yw)), (g 31, .inl (cI, 120, .inl nw))]) ⟨hx, hb, hml, hown, hts⟩ hl.1 (c_m_isLeft0 l D cI cJ cC cZ cS mm g ta pa pe pd pb pp pf pg pn rt rn cd sn il tk am at_ aa mt_ wt wy it_ rm ud nu sd qn qw qo qb qp qa qi oc d o (by omega) (by omega)) w_7_209 w_7_211 w_0_87 w_1_14 w_7_212 (by decide +kernel) ⟨⟨(Nat.le_of_ble_eq_true rfl), (Nat.le_of_ble_eq_true rfl)⟩, (Nat.le_of_ble_eq_true rfl), (Nat.le_of_ble_eq_true rfl)⟩ hK hP hD hS hA [2] [0, 1, 3] rfl rfl (by decide +kernel) (by decide +kernel) (by decide +kernel) rfl rfl rfl rfl (Nat.le_of_ble_eq_true rfl) dX12_canFollow_47 (fun r_8 u H locs hw hP hD hS => ?_)
      obtain ⟨rfl, rfl⟩ := hw
      have hP : va_P D vwCl [(g 37, .inl (cZ, 900, .inl yo)), (g 36, .inl (cZ, 900, .inl yw)), (g 31, .inl (cI, 120, .inl nw)), (mm, .inr (12, mo g (nI ta) (nI pa) (nI pe) pd (nI pb) pp pf pg pn rt rn (nI cd) sn (nI il) tk am at_ aa mt_ 0 (-1) wt wy (nI it_) (nI rm) (nI ud) (nI nu) sd (nI qn) (nI qw) qo (nI qb) (nI qp) qa (nI qi) (nI oc)))] H := hP
      have hD : va_D A [(g 37, .inl (cZ, 900, .inl yo)), (g 36, .inl (cZ, 900, .inl yw)), (g 31, .inl (cI, 120, .inl nw)), (mm, .inr (12, mo g (nI ta) (nI pa) (nI pe) pd (nI pb) pp pf pg pn rt rn (nI cd) sn (nI il) tk am at_ aa mt_ 0 (-1) wt wy (nI it_) (nI rm) (nI ud) (nI nu) sd (nI qn) (nI qw) qo (nI qb) (nI qp) qa (nI qi) (nI oc)))] := hD
      refine lv_if_eq (tgt := 57) hx hb dX12_canFollow_50 (by decide) (fun c => absurd c (by decide)) (fun c_9 => ?_)
      refine lv_iconst (v := 1) hx hb dX12_canFollow_53 (by decide) ?_
      refine lv_goto (tgt := 58) hx hb dX12_canFollow_54 (by decide) ?_
      have hP := hP.sub (ws' := [(mm, .inr (12, mo g (nI ta) (nI pa) (nI pe) pd (nI pb) pp pf pg pn rt rn (nI cd) sn (nI il) tk am at_ aa mt_ 0 (-1) wt wy (nI it_) (nI rm) (nI ud) (nI nu) sd (nI qn) (nI qw) qo (nI qb) (nI qp) qa (nI qi) (nI oc))), (g 31, .inl (cI, 120, .inl nw)), (g 37, .inl (cZ, 900, .inl yo)), (g 36, .inl (cZ, 900, .inl yw))]) [3, 2, 0, 1] rfl
      have hD := hD.sub (ws' := [(mm, .inr (12, mo g (nI ta) (nI pa) (nI pe) pd (nI pb) pp pf pg pn rt rn (nI cd) sn (nI il) tk am at_ aa mt_ 0 (-1) wt wy (nI it_) (nI rm) (nI ud) (nI nu) sd (nI qn) (nI qw) qo (nI qb) (nI qp) qa (nI qi) (nI oc))), (g 31, .inl (cI, 120, .inl nw)), (g 37, .inl (cZ, 900, .inl yo)), (g 36, .inl (cZ, 900, .inl yw))]) [3, 2, 0, 1] (by decide +kernel) rfl
      exact sk_iret hx hb hr rfl hlocks hK hP hD hS (⟨1, Or.inr ⟨rfl, cf_wt (or_0 hb1_3 (by omega)) ev_6 c_7⟩, by omega, rfl, rfl⟩) (Nat.le_of_ble_eq_true rfl) (Nat.le_of_ble_eq_true rfl) dX12_canFollow_58
  · have c_5 : ¬ (b_1 = 0) := fun h => c_5 ((neq b_1 0 (by omega) (by omega)).mpr h)
    refine lv_aload_n hx hb dX12_canFollow_21 rfl (lv_at hl 1 rfl) ?_
    refine sk_get (v := .ref (g 37)) (C := RX12) (T := TX12) (N := 92) hx hb hts inlX12 hown hK hP 2 rfl rfl 37 (by decide) w_5_192 rfl dX12_canFollow_22 ?_
    refine lv_iload hx hb dX12_canFollow_25 (lv_at hl 0 rfl) ?_
    refine va_zald hx hb hK.1 hP 0 3 rfl rfl (vin (100 * d + (10 * aa_) + o) 900 (by omega) (by omega)) dX12_canFollow_27 ?_
    refine lv_topi (fun v_10 ev_10 => ?_)
    refine lv_if_eq (tgt := 57) hx hb dX12_canFollow_28 (by decide) (fun c_11 => ?_) (fun c_11 => ?_)
    · skip
      refine lv_iconst (v := 0) hx hb dX12_canFollow_57 (by decide) ?_
      have hP := hP.sub (ws' := [(mm, .inr (12, mo g (nI ta) (nI pa) (nI pe) pd (nI pb) pp pf pg pn rt rn (nI cd) sn (nI il) tk am at_ aa mt_ 0 (-1) wt wy (nI it_) (nI rm) (nI ud) (nI nu) sd (nI qn) (nI qw) qo (nI qb) (nI qp) qa (nI qi) (nI oc))), (g 31, .inl (cI, 120, .inl nw)), (g 37, .inl (cZ, 900, .inl yo)), (g 36, .inl (cZ, 900, .inl yw))]) [2, 3, 0, 1] rfl
      have hD := hD.sub (ws' := [(mm, .inr (12, mo g (nI ta) (nI pa) (nI pe) pd (nI pb) pp pf pg pn rt rn (nI cd) sn (nI il) tk am at_ aa mt_ 0 (-1) wt wy (nI it_) (nI rm) (nI ud) (nI nu) sd (nI qn) (nI qw) qo (nI qb) (nI qp) qa (nI qi) (nI oc))), (g 31, .inl (cI, 120, .inl nw)), (g 37, .inl (cZ, 900, .inl yo)), (g 36, .inl (cZ, 900, .inl yw))]) [2, 3, 0, 1] (by decide +kernel) rfl
      exact sk_iret hx hb hr rfl hlocks hK hP hD hS (⟨0, Or.inl ⟨rfl, cf_mf (or_1 hb1_3 (by omega)) ev_10 c_11⟩, by omega, rfl, rfl⟩) (Nat.le_of_ble_eq_true rfl) (Nat.le_of_ble_eq_true rfl) dX12_canFollow_58
    · skip
      refine lv_goto (tgt := 44) hx hb dX12_canFollow_31 (by decide) ?_
      refine lv_aload_n hx hb dX12_canFollow_44 rfl (lv_at hl 1 rfl) ?_
      refine lv_iload_n hx hb dX12_canFollow_45 rfl (lv_at hl 2 rfl) ?_
      refine lv_iload_n hx hb dX12_canFollow_46 rfl (lv_at hl 4 rfl) ?_
      refine sk_Vi (q0 := 0) (n := 2) (rest := []) (wr := [(g 37, .inl (cZ, 900, .inl yo)), (g 36, .inl (cZ, 900, .inl yw)), (g 31, .inl (cI, 120, .inl nw))]) ⟨hx, hb, hml, hown, hts⟩ hl.1 (c_m_isLeft0 l D cI cJ cC cZ cS mm g ta pa pe pd pb pp pf pg pn rt rn cd sn il tk am at_ aa mt_ wt wy it_ rm ud nu sd qn qw qo qb qp qa qi oc d o (by omega) (by omega)) w_7_209 w_7_211 w_0_87 w_1_14 w_7_212 (by decide +kernel) ⟨⟨(Nat.le_of_ble_eq_true rfl), (Nat.le_of_ble_eq_true rfl)⟩, (Nat.le_of_ble_eq_true rfl), (Nat.le_of_ble_eq_true rfl)⟩ hK hP hD hS hA [2] [0, 1, 3] rfl rfl (by decide +kernel) (by decide +kernel) (by decide +kernel) rfl rfl rfl rfl (Nat.le_of_ble_eq_true rfl) dX12_canFollow_47 (fun r_12 u H locs hw hP hD hS => ?_)
      obtain ⟨rfl, rfl⟩ := hw
      have hP : va_P D vwCl [(g 37, .inl (cZ, 900, .inl yo)), (g 36, .inl (cZ, 900, .inl yw)), (g 31, .inl (cI, 120, .inl nw)), (mm, .inr (12, mo g (nI ta) (nI pa) (nI pe) pd (nI pb) pp pf pg pn rt rn (nI cd) sn (nI il) tk am at_ aa mt_ 0 (-1) wt wy (nI it_) (nI rm) (nI ud) (nI nu) sd (nI qn) (nI qw) qo (nI qb) (nI qp) qa (nI qi) (nI oc)))] H := hP
      have hD : va_D A [(g 37, .inl (cZ, 900, .inl yo)), (g 36, .inl (cZ, 900, .inl yw)), (g 31, .inl (cI, 120, .inl nw)), (mm, .inr (12, mo g (nI ta) (nI pa) (nI pe) pd (nI pb) pp pf pg pn rt rn (nI cd) sn (nI il) tk am at_ aa mt_ 0 (-1) wt wy (nI it_) (nI rm) (nI ud) (nI nu) sd (nI qn) (nI qw) qo (nI qb) (nI qp) qa (nI qi) (nI oc)))] := hD
      refine lv_if_eq (tgt := 57) hx hb dX12_canFollow_50 (by decide) (fun c => absurd c (by decide)) (fun c_13 => ?_)
      refine lv_iconst (v := 1) hx hb dX12_canFollow_53 (by decide) ?_
      refine lv_goto (tgt := 58) hx hb dX12_canFollow_54 (by decide) ?_
      have hP := hP.sub (ws' := [(mm, .inr (12, mo g (nI ta) (nI pa) (nI pe) pd (nI pb) pp pf pg pn rt rn (nI cd) sn (nI il) tk am at_ aa mt_ 0 (-1) wt wy (nI it_) (nI rm) (nI ud) (nI nu) sd (nI qn) (nI qw) qo (nI qb) (nI qp) qa (nI qi) (nI oc))), (g 31, .inl (cI, 120, .inl nw)), (g 37, .inl (cZ, 900, .inl yo)), (g 36, .inl (cZ, 900, .inl yw))]) [3, 2, 0, 1] rfl
      have hD := hD.sub (ws' := [(mm, .inr (12, mo g (nI ta) (nI pa) (nI pe) pd (nI pb) pp pf pg pn rt rn (nI cd) sn (nI il) tk am at_ aa mt_ 0 (-1) wt wy (nI it_) (nI rm) (nI ud) (nI nu) sd (nI qn) (nI qw) qo (nI qb) (nI qp) qa (nI qi) (nI oc))), (g 31, .inl (cI, 120, .inl nw)), (g 37, .inl (cZ, 900, .inl yo)), (g 36, .inl (cZ, 900, .inl yw))]) [3, 2, 0, 1] (by decide +kernel) rfl
      exact sk_iret hx hb hr rfl hlocks hK hP hD hS (⟨1, Or.inr ⟨rfl, cf_mt (or_1 hb1_3 (by omega)) ev_10 c_11⟩, by omega, rfl, rfl⟩) (Nat.le_of_ble_eq_true rfl) (Nat.le_of_ble_eq_true rfl) dX12_canFollow_58
set_option maxHeartbeats 4000000 in
set_option maxRecDepth 100000 in
theorem c_m_canFollowP (l : Launch) (D : va_G) (cI cJ cC cZ cS : ClassId) (mm : Nat) (g : Nat → Nat) (ta : Nat) (pa : Nat) (pe : Nat) (pd : Int32) (pb : Nat) (pp : Int32) (pf : Int32) (pg : Int32) (pn : Int32) (rt : Int32) (rn : Int32) (cd : Nat) (sn : Int32) (il : Nat) (tk : Int32) (am : Int32) (at_ : Int32) (aa : Int32) (mt_ : Int32) (wt : Int32) (wy : Int64) (it_ : Nat) (rm : Nat) (ud : Nat) (nu : Nat) (sd : Int64) (qn : Nat) (qw : Nat) (qo : Int32) (qb : Nat) (qp : Nat) (qa : Int64) (qi : Nat) (oc : Nat) (d : Nat) (o : Nat) (nw : Nat → Int32) (yo : Nat → Int32) (yw : Nat → Int32) (ap : Nat) (hd : d < 9) (ho : o < 10) (hap : ap ≤ 10) (hap1 : 10 ≤ 100 * d + 10 * ap) (hnw : nowOk nw) : skM l yX12_canFollow cX12_canFollow 5 (some .boolean) 2 42 0 0 D (skT cI cJ cC cZ cS) [.ref mm, .int (nI d), .int (nI ap - 1), .int (nI o)] [(mm, .inr (12, mo g (nI ta) (nI pa) (nI pe) pd (nI pb) pp pf pg pn rt rn (nI cd) sn (nI il) tk am at_ aa mt_ 0 (-1) wt wy (nI it_) (nI rm) (nI ud) (nI nu) sd (nI qn) (nI qw) qo (nI qb) (nI qp) qa (nI qi) (nI oc))), (g 31, .inl (cI, 120, .inl nw)), (g 37, .inl (cZ, 900, .inl yo)), (g 36, .inl (cZ, 900, .inl yw))] (skI D (skT cI cJ cC cZ cS) (fun (r : Int32) (u : va_W) => ∃ (b : Nat), b ≤ 1 ∧ r = nI b ∧ u = [(mm, .inr (12, mo g (nI ta) (nI pa) (nI pe) pd (nI pb) pp pf pg pn rt rn (nI cd) sn (nI il) tk am at_ aa mt_ 0 (-1) wt wy (nI it_) (nI rm) (nI ud) (nI nu) sd (nI qn) (nI qw) qo (nI qb) (nI qp) qa (nI qi) (nI oc))), (g 31, .inl (cI, 120, .inl nw)), (g 37, .inl (cZ, 900, .inl yo)), (g 36, .inl (cZ, 900, .inl yw))])) := by
  refine skM_of (by decide +kernel) (Nat.le_of_ble_eq_true rfl) ?_
  intro p e s m below meth c A ls E hP hD hl
  obtain ⟨hx, hb, hr, hml, hlocks, hin, hown, hts, hK, hA⟩ := E
  have hown : s.vm.findClass RX12 = some m.cls := hown
  have hS : va_S A s.heap s.heap [] := va_S.rf
  have hl : lv_has ls 5 [(0, .ref mm), (1, .int (nI d)), (2, .int (nI ap - 1)), (3, .int (nI o))] := hl
  refine lv_bipush (v := 100) hx hb dX12_canFollow_0 (by decide) ?_
  refine lv_iload_n hx hb dX12_canFollow_2 rfl (lv_at hl 1 rfl) ?_
  refine lv_imul hx hb dX12_canFollow_3 ?_
  refine sk_top (nI (100 * d)) (nmul 100 d) ?_
  refine lv_bipush (v := 10) hx hb dX12_canFollow_4 (by decide) ?_
  refine lv_iload_n hx hb dX12_canFollow_6 rfl (lv_at hl 2 rfl) ?_
  refine lv_imul hx hb dX12_canFollow_7 ?_
  refine lv_iadd hx hb dX12_canFollow_8 ?_
  refine sk_top (nI (100 * d + 10 * ap - 10)) (nP10 d ap (by omega)) ?_
  refine lv_iload_n hx hb dX12_canFollow_9 rfl (lv_at hl 3 rfl) ?_
  refine lv_iadd hx hb dX12_canFollow_10 ?_
  refine sk_top (nI (100 * d + 10 * ap - 10 + o)) (nI_add (100 * d + 10 * ap - 10) o) ?_
  refine lv_istore (lv' := [(4, .int (nI (100 * d + 10 * ap - 10 + o))), (0, .ref mm), (1, .int (nI d)), (2, .int (nI ap - 1)), (3, .int (nI o))]) hx hb dX12_canFollow_11 hl (by decide) rfl (fun ls hl => ?_)
  refine lv_aload_n hx hb dX12_canFollow_13 rfl (lv_at hl 1 rfl) ?_
  refine lv_iload_n hx hb dX12_canFollow_14 rfl (lv_at hl 2 rfl) ?_
  refine sk_Vi (q0 := 0) (n := 1) (rest := []) (wr := [(g 37, .inl (cZ, 900, .inl yo)), (g 36, .inl (cZ, 900, .inl yw))]) ⟨hx, hb, hml, hown, hts⟩ hl.1 (c_m_isMuteNow l D cI cJ cC cZ cS mm g ta pa pe pd pb pp pf pg pn rt rn cd sn il tk am at_ aa mt_ 0 (-1) wt wy it_ rm ud nu sd qn qw qo qb qp qa qi oc d nw (by omega) hnw) w_7_205 w_7_207 w_0_86 w_1_14 w_7_208 (by decide +kernel) ⟨⟨(Nat.le_of_ble_eq_true rfl), (Nat.le_of_ble_eq_true rfl)⟩, (Nat.le_of_ble_eq_true rfl), (Nat.le_of_ble_eq_true rfl)⟩ hK hP hD hS hA [0, 1] [2, 3] rfl rfl (by decide +kernel) (by decide +kernel) (by decide +kernel) rfl rfl rfl rfl (Nat.le_of_ble_eq_true rfl) dX12_canFollow_15 (fun r_2 u H locs hw hP hD hS => ?_)
  obtain ⟨b_1, hb1_3, hb2_4, rfl, rfl⟩ := hw
  have hP : va_P D vwCl [(g 37, .inl (cZ, 900, .inl yo)), (g 36, .inl (cZ, 900, .inl yw)), (mm, .inr (12, mo g (nI ta) (nI pa) (nI pe) pd (nI pb) pp pf pg pn rt rn (nI cd) sn (nI il) tk am at_ aa mt_ 0 (-1) wt wy (nI it_) (nI rm) (nI ud) (nI nu) sd (nI qn) (nI qw) qo (nI qb) (nI qp) qa (nI qi) (nI oc))), (g 31, .inl (cI, 120, .inl nw))] H := hP
  have hD : va_D A [(g 37, .inl (cZ, 900, .inl yo)), (g 36, .inl (cZ, 900, .inl yw)), (mm, .inr (12, mo g (nI ta) (nI pa) (nI pe) pd (nI pb) pp pf pg pn rt rn (nI cd) sn (nI il) tk am at_ aa mt_ 0 (-1) wt wy (nI it_) (nI rm) (nI ud) (nI nu) sd (nI qn) (nI qw) qo (nI qb) (nI qp) qa (nI qi) (nI oc))), (g 31, .inl (cI, 120, .inl nw))] := hD
  refine lv_if_eq (tgt := 34) hx hb dX12_canFollow_18 (by decide) (fun c_5 => ?_) (fun c_5 => ?_)
  · have c_5 : b_1 = 0 := (neq b_1 0 (by omega) (by omega)).mp c_5
    refine lv_aload_n hx hb dX12_canFollow_34 rfl (lv_at hl 1 rfl) ?_
    refine sk_get (v := .ref (g 36)) (C := RX12) (T := TX12) (N := 92) hx hb hts inlX12 hown hK hP 2 rfl rfl 36 (by decide) w_5_191 rfl dX12_canFollow_35 ?_
    refine lv_iload hx hb dX12_canFollow_38 (lv_at hl 0 rfl) ?_
    refine va_zald hx hb hK.1 hP 1 3 rfl rfl (vin (100 * d + 10 * ap - 10 + o) 900 (by omega) (by omega)) dX12_canFollow_40 ?_
    refine lv_topi (fun v_6 ev_6 => ?_)
    refine lv_if_eq (tgt := 57) hx hb dX12_canFollow_41 (by decide) (fun c_7 => ?_) (fun c_7 => ?_)
    · skip
      refine lv_iconst (v := 0) hx hb dX12_canFollow_57 (by decide) ?_
      have hP := hP.sub (ws' := [(mm, .inr (12, mo g (nI ta) (nI pa) (nI pe) pd (nI pb) pp pf pg pn rt rn (nI cd) sn (nI il) tk am at_ aa mt_ 0 (-1) wt wy (nI it_) (nI rm) (nI ud) (nI nu) sd (nI qn) (nI qw) qo (nI qb) (nI qp) qa (nI qi) (nI oc))), (g 31, .inl (cI, 120, .inl nw)), (g 37, .inl (cZ, 900, .inl yo)), (g 36, .inl (cZ, 900, .inl yw))]) [2, 3, 0, 1] rfl
      have hD := hD.sub (ws' := [(mm, .inr (12, mo g (nI ta) (nI pa) (nI pe) pd (nI pb) pp pf pg pn rt rn (nI cd) sn (nI il) tk am at_ aa mt_ 0 (-1) wt wy (nI it_) (nI rm) (nI ud) (nI nu) sd (nI qn) (nI qw) qo (nI qb) (nI qp) qa (nI qi) (nI oc))), (g 31, .inl (cI, 120, .inl nw)), (g 37, .inl (cZ, 900, .inl yo)), (g 36, .inl (cZ, 900, .inl yw))]) [2, 3, 0, 1] (by decide +kernel) rfl
      exact sk_iret hx hb hr rfl hlocks hK hP hD hS (⟨0, by omega, rfl, rfl⟩) (Nat.le_of_ble_eq_true rfl) (Nat.le_of_ble_eq_true rfl) dX12_canFollow_58
    · skip
      refine lv_aload_n hx hb dX12_canFollow_44 rfl (lv_at hl 1 rfl) ?_
      refine lv_iload_n hx hb dX12_canFollow_45 rfl (lv_at hl 2 rfl) ?_
      refine lv_iload_n hx hb dX12_canFollow_46 rfl (lv_at hl 4 rfl) ?_
      refine sk_Vi (q0 := 0) (n := 2) (rest := []) (wr := [(g 37, .inl (cZ, 900, .inl yo)), (g 36, .inl (cZ, 900, .inl yw)), (g 31, .inl (cI, 120, .inl nw))]) ⟨hx, hb, hml, hown, hts⟩ hl.1 (c_m_isLeft0 l D cI cJ cC cZ cS mm g ta pa pe pd pb pp pf pg pn rt rn cd sn il tk am at_ aa mt_ wt wy it_ rm ud nu sd qn qw qo qb qp qa qi oc d o (by omega) (by omega)) w_7_209 w_7_211 w_0_87 w_1_14 w_7_212 (by decide +kernel) ⟨⟨(Nat.le_of_ble_eq_true rfl), (Nat.le_of_ble_eq_true rfl)⟩, (Nat.le_of_ble_eq_true rfl), (Nat.le_of_ble_eq_true rfl)⟩ hK hP hD hS hA [2] [0, 1, 3] rfl rfl (by decide +kernel) (by decide +kernel) (by decide +kernel) rfl rfl rfl rfl (Nat.le_of_ble_eq_true rfl) dX12_canFollow_47 (fun r_8 u H locs hw hP hD hS => ?_)
      obtain ⟨rfl, rfl⟩ := hw
      have hP : va_P D vwCl [(g 37, .inl (cZ, 900, .inl yo)), (g 36, .inl (cZ, 900, .inl yw)), (g 31, .inl (cI, 120, .inl nw)), (mm, .inr (12, mo g (nI ta) (nI pa) (nI pe) pd (nI pb) pp pf pg pn rt rn (nI cd) sn (nI il) tk am at_ aa mt_ 0 (-1) wt wy (nI it_) (nI rm) (nI ud) (nI nu) sd (nI qn) (nI qw) qo (nI qb) (nI qp) qa (nI qi) (nI oc)))] H := hP
      have hD : va_D A [(g 37, .inl (cZ, 900, .inl yo)), (g 36, .inl (cZ, 900, .inl yw)), (g 31, .inl (cI, 120, .inl nw)), (mm, .inr (12, mo g (nI ta) (nI pa) (nI pe) pd (nI pb) pp pf pg pn rt rn (nI cd) sn (nI il) tk am at_ aa mt_ 0 (-1) wt wy (nI it_) (nI rm) (nI ud) (nI nu) sd (nI qn) (nI qw) qo (nI qb) (nI qp) qa (nI qi) (nI oc)))] := hD
      refine lv_if_eq (tgt := 57) hx hb dX12_canFollow_50 (by decide) (fun c => absurd c (by decide)) (fun c_9 => ?_)
      refine lv_iconst (v := 1) hx hb dX12_canFollow_53 (by decide) ?_
      refine lv_goto (tgt := 58) hx hb dX12_canFollow_54 (by decide) ?_
      have hP := hP.sub (ws' := [(mm, .inr (12, mo g (nI ta) (nI pa) (nI pe) pd (nI pb) pp pf pg pn rt rn (nI cd) sn (nI il) tk am at_ aa mt_ 0 (-1) wt wy (nI it_) (nI rm) (nI ud) (nI nu) sd (nI qn) (nI qw) qo (nI qb) (nI qp) qa (nI qi) (nI oc))), (g 31, .inl (cI, 120, .inl nw)), (g 37, .inl (cZ, 900, .inl yo)), (g 36, .inl (cZ, 900, .inl yw))]) [3, 2, 0, 1] rfl
      have hD := hD.sub (ws' := [(mm, .inr (12, mo g (nI ta) (nI pa) (nI pe) pd (nI pb) pp pf pg pn rt rn (nI cd) sn (nI il) tk am at_ aa mt_ 0 (-1) wt wy (nI it_) (nI rm) (nI ud) (nI nu) sd (nI qn) (nI qw) qo (nI qb) (nI qp) qa (nI qi) (nI oc))), (g 31, .inl (cI, 120, .inl nw)), (g 37, .inl (cZ, 900, .inl yo)), (g 36, .inl (cZ, 900, .inl yw))]) [3, 2, 0, 1] (by decide +kernel) rfl
      exact sk_iret hx hb hr rfl hlocks hK hP hD hS (⟨1, by omega, rfl, rfl⟩) (Nat.le_of_ble_eq_true rfl) (Nat.le_of_ble_eq_true rfl) dX12_canFollow_58
  · have c_5 : ¬ (b_1 = 0) := fun h => c_5 ((neq b_1 0 (by omega) (by omega)).mpr h)
    refine lv_aload_n hx hb dX12_canFollow_21 rfl (lv_at hl 1 rfl) ?_
    refine sk_get (v := .ref (g 37)) (C := RX12) (T := TX12) (N := 92) hx hb hts inlX12 hown hK hP 2 rfl rfl 37 (by decide) w_5_192 rfl dX12_canFollow_22 ?_
    refine lv_iload hx hb dX12_canFollow_25 (lv_at hl 0 rfl) ?_
    refine va_zald hx hb hK.1 hP 0 3 rfl rfl (vin (100 * d + 10 * ap - 10 + o) 900 (by omega) (by omega)) dX12_canFollow_27 ?_
    refine lv_topi (fun v_10 ev_10 => ?_)
    refine lv_if_eq (tgt := 57) hx hb dX12_canFollow_28 (by decide) (fun c_11 => ?_) (fun c_11 => ?_)
    · skip
      refine lv_iconst (v := 0) hx hb dX12_canFollow_57 (by decide) ?_
      have hP := hP.sub (ws' := [(mm, .inr (12, mo g (nI ta) (nI pa) (nI pe) pd (nI pb) pp pf pg pn rt rn (nI cd) sn (nI il) tk am at_ aa mt_ 0 (-1) wt wy (nI it_) (nI rm) (nI ud) (nI nu) sd (nI qn) (nI qw) qo (nI qb) (nI qp) qa (nI qi) (nI oc))), (g 31, .inl (cI, 120, .inl nw)), (g 37, .inl (cZ, 900, .inl yo)), (g 36, .inl (cZ, 900, .inl yw))]) [2, 3, 0, 1] rfl
      have hD := hD.sub (ws' := [(mm, .inr (12, mo g (nI ta) (nI pa) (nI pe) pd (nI pb) pp pf pg pn rt rn (nI cd) sn (nI il) tk am at_ aa mt_ 0 (-1) wt wy (nI it_) (nI rm) (nI ud) (nI nu) sd (nI qn) (nI qw) qo (nI qb) (nI qp) qa (nI qi) (nI oc))), (g 31, .inl (cI, 120, .inl nw)), (g 37, .inl (cZ, 900, .inl yo)), (g 36, .inl (cZ, 900, .inl yw))]) [2, 3, 0, 1] (by decide +kernel) rfl
      exact sk_iret hx hb hr rfl hlocks hK hP hD hS (⟨0, by omega, rfl, rfl⟩) (Nat.le_of_ble_eq_true rfl) (Nat.le_of_ble_eq_true rfl) dX12_canFollow_58
    · skip
      refine lv_goto (tgt := 44) hx hb dX12_canFollow_31 (by decide) ?_
      refine lv_aload_n hx hb dX12_canFollow_44 rfl (lv_at hl 1 rfl) ?_
      refine lv_iload_n hx hb dX12_canFollow_45 rfl (lv_at hl 2 rfl) ?_
      refine lv_iload_n hx hb dX12_canFollow_46 rfl (lv_at hl 4 rfl) ?_
      refine sk_Vi (q0 := 0) (n := 2) (rest := []) (wr := [(g 37, .inl (cZ, 900, .inl yo)), (g 36, .inl (cZ, 900, .inl yw)), (g 31, .inl (cI, 120, .inl nw))]) ⟨hx, hb, hml, hown, hts⟩ hl.1 (c_m_isLeft0 l D cI cJ cC cZ cS mm g ta pa pe pd pb pp pf pg pn rt rn cd sn il tk am at_ aa mt_ wt wy it_ rm ud nu sd qn qw qo qb qp qa qi oc d o (by omega) (by omega)) w_7_209 w_7_211 w_0_87 w_1_14 w_7_212 (by decide +kernel) ⟨⟨(Nat.le_of_ble_eq_true rfl), (Nat.le_of_ble_eq_true rfl)⟩, (Nat.le_of_ble_eq_true rfl), (Nat.le_of_ble_eq_true rfl)⟩ hK hP hD hS hA [2] [0, 1, 3] rfl rfl (by decide +kernel) (by decide +kernel) (by decide +kernel) rfl rfl rfl rfl (Nat.le_of_ble_eq_true rfl) dX12_canFollow_47 (fun r_12 u H locs hw hP hD hS => ?_)
      obtain ⟨rfl, rfl⟩ := hw
      have hP : va_P D vwCl [(g 37, .inl (cZ, 900, .inl yo)), (g 36, .inl (cZ, 900, .inl yw)), (g 31, .inl (cI, 120, .inl nw)), (mm, .inr (12, mo g (nI ta) (nI pa) (nI pe) pd (nI pb) pp pf pg pn rt rn (nI cd) sn (nI il) tk am at_ aa mt_ 0 (-1) wt wy (nI it_) (nI rm) (nI ud) (nI nu) sd (nI qn) (nI qw) qo (nI qb) (nI qp) qa (nI qi) (nI oc)))] H := hP
      have hD : va_D A [(g 37, .inl (cZ, 900, .inl yo)), (g 36, .inl (cZ, 900, .inl yw)), (g 31, .inl (cI, 120, .inl nw)), (mm, .inr (12, mo g (nI ta) (nI pa) (nI pe) pd (nI pb) pp pf pg pn rt rn (nI cd) sn (nI il) tk am at_ aa mt_ 0 (-1) wt wy (nI it_) (nI rm) (nI ud) (nI nu) sd (nI qn) (nI qw) qo (nI qb) (nI qp) qa (nI qi) (nI oc)))] := hD
      refine lv_if_eq (tgt := 57) hx hb dX12_canFollow_50 (by decide) (fun c => absurd c (by decide)) (fun c_13 => ?_)
      refine lv_iconst (v := 1) hx hb dX12_canFollow_53 (by decide) ?_
      refine lv_goto (tgt := 58) hx hb dX12_canFollow_54 (by decide) ?_
      have hP := hP.sub (ws' := [(mm, .inr (12, mo g (nI ta) (nI pa) (nI pe) pd (nI pb) pp pf pg pn rt rn (nI cd) sn (nI il) tk am at_ aa mt_ 0 (-1) wt wy (nI it_) (nI rm) (nI ud) (nI nu) sd (nI qn) (nI qw) qo (nI qb) (nI qp) qa (nI qi) (nI oc))), (g 31, .inl (cI, 120, .inl nw)), (g 37, .inl (cZ, 900, .inl yo)), (g 36, .inl (cZ, 900, .inl yw))]) [3, 2, 0, 1] rfl
      have hD := hD.sub (ws' := [(mm, .inr (12, mo g (nI ta) (nI pa) (nI pe) pd (nI pb) pp pf pg pn rt rn (nI cd) sn (nI il) tk am at_ aa mt_ 0 (-1) wt wy (nI it_) (nI rm) (nI ud) (nI nu) sd (nI qn) (nI qw) qo (nI qb) (nI qp) qa (nI qi) (nI oc))), (g 31, .inl (cI, 120, .inl nw)), (g 37, .inl (cZ, 900, .inl yo)), (g 36, .inl (cZ, 900, .inl yw))]) [3, 2, 0, 1] (by decide +kernel) rfl
      exact sk_iret hx hb hr rfl hlocks hK hP hD hS (⟨1, by omega, rfl, rfl⟩) (Nat.le_of_ble_eq_true rfl) (Nat.le_of_ble_eq_true rfl) dX12_canFollow_58
